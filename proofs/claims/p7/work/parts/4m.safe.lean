theorem dX7_meet_62 : decode cX7_meet 62 = .ok (.aload_n 0, 1) := by decide +kernel
theorem dX7_meet_63 : decode cX7_meet 63 = .ok (.getfield 69, 3) := by decide +kernel
theorem mw_156 : Cond.fieldLink RX7 69 "AskBack$Search" "past" "LAskBack$Past;" ∈ wsL_law := inr_7 _ (List.mem_of_getElem? (i := 12) rfl)
section
variable {p : Program} {l : Launch} {e : Env} {R0 : Room} {s : State} {m : MethodId} {args : Array Value} {below : List Frame} {meth : Method} {c : Code} {H H0 : Heap} {locs : List Loc} {cells slots : Nat} {Q : State → Prop} {cc : ByteArray} {nL : Nat} {D : va_G} {cy : Nat → ClassId} {A : Nat → Prop} {L : List Nat} {R : Nat → Nat} {f : Nat → va_E} {pc : Nat} {ls : Array Slot} {rest : List Value} {a : Nat}
theorem g_7_69 (F : CallFix p m c cc nL s args wsL_law RX7) (h : tS D cy A H0 L R (TT cy L R) f s H locs) (ha : a ∈ L) (hr : R a = 7) (hdg : decode cc pc = .ok (.getfield 69, 3)) (k0 : fld f a 16 = .null → W p l e R0 s m args below meth c H locs cells slots Q (F0 m (pc + 3) ls (.null :: rest))) (kk : ∀ b : Nat, b ∈ L → R b = 2 → fld f a 16 = .ref b → W p l e R0 s m args below meth c H locs cells slots Q (F0 m (pc + 3) ls (.ref b :: rest))) : W p l e R0 s m args below meth c H locs cells slots Q (F0 m pc ls (.ref a :: rest)) := tu_getn F h ha hr (fun e q => (T_7 e).mp q) rfl inlX7 rfl (Nat.le_of_ble_eq_true rfl) mw_156 hdg k0 kk
end
theorem dX7_meet_66 : decode cX7_meet 66 = .ok (.invokevirtual 133, 3) := by decide +kernel
theorem mw_1263 : Cond.methodLink RX7 133 yX2_clear ∈ wsL_law := inr_53 _ (List.mem_of_getElem? (i := 15) rfl)
theorem mw_1266 : Cond.code yX2_clear cX2_clear 1 none ∈ wsL_law := inr_53 _ (List.mem_of_getElem? (i := 18) rfl)
theorem yk_X2_clear : xY yX2_clear RX2 cX2_clear 1 none 0 := ⟨⟨rfl, by decide +kernel, by decide +kernel, by decide +kernel⟩, mw_1254, mw_1266⟩
theorem mw_1264 : Cond.instanceMethod yX2_clear ∈ wsL_law := inr_53 _ (List.mem_of_getElem? (i := 16) rfl)
theorem mw_1265 : Cond.selects RX2 yX2_clear yX2_clear ∈ wsL_law := inr_53 _ (List.mem_of_getElem? (i := 17) rfl)
theorem dX7_meet_69 : decode cX7_meet 69 = .ok (.aload_n 0, 1) := by decide +kernel
theorem dX7_meet_70 : decode cX7_meet 70 = .ok (.getfield 65, 3) := by decide +kernel
theorem mw_155 : Cond.fieldLink RX7 65 "AskBack$Search" "heardLast" "LAskBack$Row;" ∈ wsL_law := inr_7 _ (List.mem_of_getElem? (i := 11) rfl)
section
variable {p : Program} {l : Launch} {e : Env} {R0 : Room} {s : State} {m : MethodId} {args : Array Value} {below : List Frame} {meth : Method} {c : Code} {H H0 : Heap} {locs : List Loc} {cells slots : Nat} {Q : State → Prop} {cc : ByteArray} {nL : Nat} {D : va_G} {cy : Nat → ClassId} {A : Nat → Prop} {L : List Nat} {R : Nat → Nat} {f : Nat → va_E} {pc : Nat} {ls : Array Slot} {rest : List Value} {a : Nat}
theorem g_7_65 (F : CallFix p m c cc nL s args wsL_law RX7) (h : tS D cy A H0 L R (TT cy L R) f s H locs) (ha : a ∈ L) (hr : R a = 7) (hdg : decode cc pc = .ok (.getfield 65, 3)) (kk : ∀ b : Nat, b ∈ L → R b = 4 → fld f a 15 = .ref b → W p l e R0 s m args below meth c H locs cells slots Q (F0 m (pc + 3) ls (.ref b :: rest))) : W p l e R0 s m args below meth c H locs cells slots Q (F0 m pc ls (.ref a :: rest)) := tu_getr F h ha hr (fun e q => (T_7 e).mp q) rfl inlX7 rfl (Nat.le_of_ble_eq_true rfl) mw_155 hdg kk
end
theorem dX7_meet_73 : decode cX7_meet 73 = .ok (.aload_n 3, 1) := by decide +kernel
theorem dX7_meet_74 : decode cX7_meet 74 = .ok (.invokevirtual 134, 3) := by decide +kernel
theorem dX7_meet_77 : decode cX7_meet 77 = .ok (.aload_n 0, 1) := by decide +kernel
theorem dX7_meet_78 : decode cX7_meet 78 = .ok (.getfield 69, 3) := by decide +kernel
theorem dX7_meet_81 : decode cX7_meet 81 = .ok (.aload_n 0, 1) := by decide +kernel
theorem dX7_meet_82 : decode cX7_meet 82 = .ok (.getfield 65, 3) := by decide +kernel
theorem dX7_meet_85 : decode cX7_meet 85 = .ok (.aload 5, 2) := by decide +kernel
theorem dX7_meet_87 : decode cX7_meet 87 = .ok (.aload 6, 2) := by decide +kernel
theorem dX7_meet_89 : decode cX7_meet 89 = .ok (.invokevirtual 137, 3) := by decide +kernel
theorem mw_1268 : Cond.methodLink RX7 137 yX2_add ∈ wsL_law := inr_53 _ (List.mem_of_getElem? (i := 20) rfl)
theorem mw_1271 : Cond.code yX2_add cX2_add 4 none ∈ wsL_law := inr_53 _ (List.mem_of_getElem? (i := 23) rfl)
theorem yk_X2_add : xY yX2_add RX2 cX2_add 4 none 3 := ⟨⟨rfl, by decide +kernel, by decide +kernel, by decide +kernel⟩, mw_1254, mw_1271⟩
theorem mw_1269 : Cond.instanceMethod yX2_add ∈ wsL_law := inr_53 _ (List.mem_of_getElem? (i := 21) rfl)
theorem mw_1270 : Cond.selects RX2 yX2_add yX2_add ∈ wsL_law := inr_53 _ (List.mem_of_getElem? (i := 22) rfl)
theorem dX7_meet_92 : decode cX7_meet 92 = .ok (.iconst 1, 1) := by decide +kernel
theorem dX7_meet_93 : decode cX7_meet 93 = .ok (.istore 8, 2) := by decide +kernel
theorem dX7_meet_95 : decode cX7_meet 95 = .ok (.iload 8, 2) := by decide +kernel
theorem dX7_meet_97 : decode cX7_meet 97 = .ok (.iload 4, 2) := by decide +kernel
theorem dX7_meet_222 : decode cX7_meet 222 = .ok (.aload_n 0, 1) := by decide +kernel
theorem dX7_meet_223 : decode cX7_meet 223 = .ok (.getfield 31, 3) := by decide +kernel
section
variable {p : Program} {l : Launch} {e : Env} {R0 : Room} {s : State} {m : MethodId} {args : Array Value} {below : List Frame} {meth : Method} {c : Code} {H H0 : Heap} {locs : List Loc} {cells slots : Nat} {Q : State → Prop} {cc : ByteArray} {nL : Nat} {D : va_G} {cy : Nat → ClassId} {A : Nat → Prop} {L : List Nat} {R : Nat → Nat} {f : Nat → va_E} {pc : Nat} {ls : Array Slot} {rest : List Value} {a : Nat}
theorem g_7_31 (F : CallFix p m c cc nL s args wsL_law RX7) (h : tS D cy A H0 L R (TT cy L R) f s H locs) (ha : a ∈ L) (hr : R a = 7) (hdg : decode cc pc = .ok (.getfield 31, 3)) (kk : ∀ x : Int32, x.toInt = fi f a 6 → W p l e R0 s m args below meth c H locs cells slots Q (F0 m (pc + 3) ls (.int x :: rest))) : W p l e R0 s m args below meth c H locs cells slots Q (F0 m pc ls (.ref a :: rest)) := tu_geti F h ha hr (fun e q => (T_7 e).mp q) rfl inlX7 rfl (Nat.le_of_ble_eq_true rfl) mw_144 hdg (fun x h1 h2 h3 => kk x h1)
end
theorem dX7_meet_226 : decode cX7_meet 226 = .ok (.iconst (-1), 1) := by decide +kernel
theorem dX7_meet_227 : decode cX7_meet 227 = .ok (.if_icmp .ne 8, 3) := by decide +kernel
theorem dX7_meet_235 : decode cX7_meet 235 = .ok (.aload_n 0, 1) := by decide +kernel
theorem dX7_meet_236 : decode cX7_meet 236 = .ok (.getfield 28, 3) := by decide +kernel
section
variable {p : Program} {l : Launch} {e : Env} {R0 : Room} {s : State} {m : MethodId} {args : Array Value} {below : List Frame} {meth : Method} {c : Code} {H H0 : Heap} {locs : List Loc} {cells slots : Nat} {Q : State → Prop} {cc : ByteArray} {nL : Nat} {D : va_G} {cy : Nat → ClassId} {A : Nat → Prop} {L : List Nat} {R : Nat → Nat} {f : Nat → va_E} {pc : Nat} {ls : Array Slot} {rest : List Value} {a : Nat}
theorem g_7_28 (F : CallFix p m c cc nL s args wsL_law RX7) (h : tS D cy A H0 L R (TT cy L R) f s H locs) (ha : a ∈ L) (hr : R a = 7) (hdg : decode cc pc = .ok (.getfield 28, 3)) (kk : ∀ x : Int32, x.toInt = fi f a 5 → W p l e R0 s m args below meth c H locs cells slots Q (F0 m (pc + 3) ls (.int x :: rest))) : W p l e R0 s m args below meth c H locs cells slots Q (F0 m pc ls (.ref a :: rest)) := tu_geti F h ha hr (fun e q => (T_7 e).mp q) rfl inlX7 rfl (Nat.le_of_ble_eq_true rfl) mw_143 hdg (fun x h1 h2 h3 => kk x h1)
end
theorem dX7_meet_239 : decode cX7_meet 239 = .ok (.aload_n 0, 1) := by decide +kernel
theorem dX7_meet_240 : decode cX7_meet 240 = .ok (.getfield 31, 3) := by decide +kernel
theorem dX7_meet_243 : decode cX7_meet 243 = .ok (.iadd, 1) := by decide +kernel
theorem dX7_meet_244 : decode cX7_meet 244 = .ok (.ireturn, 1) := by decide +kernel
theorem dX7_meet_230 : decode cX7_meet 230 = .ok (.iload 4, 2) := by decide +kernel
theorem dX7_meet_232 : decode cX7_meet 232 = .ok (.goto 12, 3) := by decide +kernel
theorem dX7_meet_99 : decode cX7_meet 99 = .ok (.if_icmp .gt 123, 3) := by decide +kernel
theorem dX7_meet_102 : decode cX7_meet 102 = .ok (.aload_n 0, 1) := by decide +kernel
theorem dX7_meet_103 : decode cX7_meet 103 = .ok (.getfield 31, 3) := by decide +kernel
theorem dX7_meet_106 : decode cX7_meet 106 = .ok (.iconst (-1), 1) := by decide +kernel
theorem dX7_meet_107 : decode cX7_meet 107 = .ok (.if_icmp .ne 115, 3) := by decide +kernel
theorem dX7_meet_110 : decode cX7_meet 110 = .ok (.iload 8, 2) := by decide +kernel
theorem dX7_meet_112 : decode cX7_meet 112 = .ok (.iconst 2, 1) := by decide +kernel
theorem dX7_meet_113 : decode cX7_meet 113 = .ok (.irem, 1) := by decide +kernel
theorem dX7_meet_114 : decode cX7_meet 114 = .ok (.ifCond .ne 7, 3) := by decide +kernel
theorem dX7_meet_121 : decode cX7_meet 121 = .ok (.iconst 0, 1) := by decide +kernel
theorem dX7_meet_122 : decode cX7_meet 122 = .ok (.istore 9, 2) := by decide +kernel
theorem dX7_meet_124 : decode cX7_meet 124 = .ok (.aload 7, 2) := by decide +kernel
theorem dX7_meet_126 : decode cX7_meet 126 = .ok (.iload 9, 2) := by decide +kernel
theorem dX7_meet_128 : decode cX7_meet 128 = .ok (.ifCond .eq 7, 3) := by decide +kernel
theorem dX7_meet_135 : decode cX7_meet 135 = .ok (.aload_n 1, 1) := by decide +kernel
theorem dX7_meet_136 : decode cX7_meet 136 = .ok (.aload_n 0, 1) := by decide +kernel
theorem dX7_meet_137 : decode cX7_meet 137 = .ok (.getfield 65, 3) := by decide +kernel
theorem dX7_meet_140 : decode cX7_meet 140 = .ok (.invokevirtual 140, 3) := by decide +kernel
theorem mw_1289 : Cond.methodLink RX7 140 yX1_listen ∈ wsL_law := inr_54 _ (List.mem_of_getElem? (i := 17) rfl)
theorem dX7_meet_143 : decode cX7_meet 143 = .ok (.aload_n 0, 1) := by decide +kernel
theorem dX7_meet_144 : decode cX7_meet 144 = .ok (.getfield 85, 3) := by decide +kernel
theorem dX7_meet_147 : decode cX7_meet 147 = .ok (.aload 7, 2) := by decide +kernel
theorem dX7_meet_149 : decode cX7_meet 149 = .ok (.iload 9, 2) := by decide +kernel
theorem dX7_meet_151 : decode cX7_meet 151 = .ok (.ifCond .eq 8, 3) := by decide +kernel
theorem dX7_meet_159 : decode cX7_meet 159 = .ok (.aload 5, 2) := by decide +kernel
theorem dX7_meet_161 : decode cX7_meet 161 = .ok (.aload 7, 2) := by decide +kernel
theorem dX7_meet_163 : decode cX7_meet 163 = .ok (.getfield 97, 3) := by decide +kernel
theorem dX7_meet_166 : decode cX7_meet 166 = .ok (.aload 7, 2) := by decide +kernel
theorem dX7_meet_168 : decode cX7_meet 168 = .ok (.getfield 98, 3) := by decide +kernel
theorem dX7_meet_171 : decode cX7_meet 171 = .ok (.invokevirtual 101, 3) := by decide +kernel
theorem dX7_meet_174 : decode cX7_meet 174 = .ok (.aload_n 0, 1) := by decide +kernel
theorem dX7_meet_175 : decode cX7_meet 175 = .ok (.getfield 65, 3) := by decide +kernel
theorem dX7_meet_178 : decode cX7_meet 178 = .ok (.aload_n 0, 1) := by decide +kernel
theorem dX7_meet_179 : decode cX7_meet 179 = .ok (.getfield 85, 3) := by decide +kernel
theorem dX7_meet_182 : decode cX7_meet 182 = .ok (.getfield 108, 3) := by decide +kernel
theorem dX7_meet_185 : decode cX7_meet 185 = .ok (.invokevirtual 134, 3) := by decide +kernel
theorem dX7_meet_188 : decode cX7_meet 188 = .ok (.aload_n 0, 1) := by decide +kernel
theorem dX7_meet_189 : decode cX7_meet 189 = .ok (.getfield 69, 3) := by decide +kernel
theorem dX7_meet_192 : decode cX7_meet 192 = .ok (.aload_n 0, 1) := by decide +kernel
theorem dX7_meet_193 : decode cX7_meet 193 = .ok (.getfield 65, 3) := by decide +kernel
theorem dX7_meet_196 : decode cX7_meet 196 = .ok (.aload 5, 2) := by decide +kernel
theorem dX7_meet_198 : decode cX7_meet 198 = .ok (.aload 6, 2) := by decide +kernel
theorem dX7_meet_200 : decode cX7_meet 200 = .ok (.invokevirtual 137, 3) := by decide +kernel
theorem dX7_meet_203 : decode cX7_meet 203 = .ok (.aload_n 0, 1) := by decide +kernel
theorem dX7_meet_204 : decode cX7_meet 204 = .ok (.aload_n 0, 1) := by decide +kernel
theorem dX7_meet_205 : decode cX7_meet 205 = .ok (.getfield 69, 3) := by decide +kernel
theorem dX7_meet_208 : decode cX7_meet 208 = .ok (.invokevirtual 143, 3) := by decide +kernel
theorem mw_1290 : Cond.methodLink RX7 143 yX2_likeLatest ∈ wsL_law := inr_54 _ (List.mem_of_getElem? (i := 18) rfl)
theorem mw_1293 : Cond.code yX2_likeLatest cX2_likeLatest 2 (some .int) ∈ wsL_law := inr_54 _ (List.mem_of_getElem? (i := 21) rfl)
theorem yk_X2_likeLatest : xY yX2_likeLatest RX2 cX2_likeLatest 2 (some .int) 0 := ⟨⟨rfl, by decide +kernel, by decide +kernel, by decide +kernel⟩, mw_1254, mw_1293⟩
theorem mw_1291 : Cond.instanceMethod yX2_likeLatest ∈ wsL_law := inr_54 _ (List.mem_of_getElem? (i := 19) rfl)
theorem mw_1292 : Cond.selects RX2 yX2_likeLatest yX2_likeLatest ∈ wsL_law := inr_54 _ (List.mem_of_getElem? (i := 20) rfl)
theorem dX7_meet_211 : decode cX7_meet 211 = .ok (.iload 8, 2) := by decide +kernel
theorem dX7_meet_213 : decode cX7_meet 213 = .ok (.invokevirtual 147, 3) := by decide +kernel
theorem mw_1298 : Cond.methodLink RX7 147 yX7_closeRing ∈ wsL_law := inr_55 _ (List.mem_of_getElem? (i := 2) rfl)
theorem mw_1301 : Cond.code yX7_closeRing cX7_closeRing 3 none ∈ wsL_law := inr_55 _ (List.mem_of_getElem? (i := 5) rfl)
theorem yk_X7_closeRing : xY yX7_closeRing RX7 cX7_closeRing 3 none 2 := ⟨⟨rfl, by decide +kernel, by decide +kernel, by decide +kernel⟩, mw_32, mw_1301⟩
theorem mw_1299 : Cond.instanceMethod yX7_closeRing ∈ wsL_law := inr_55 _ (List.mem_of_getElem? (i := 3) rfl)
theorem mw_1300 : Cond.selects RX7 yX7_closeRing yX7_closeRing ∈ wsL_law := inr_55 _ (List.mem_of_getElem? (i := 4) rfl)
theorem dX7_meet_216 : decode cX7_meet 216 = .ok (.iinc 8 1, 3) := by decide +kernel
theorem dX7_meet_219 : decode cX7_meet 219 = .ok (.goto (-124), 3) := by decide +kernel
theorem dX7_meet_117 : decode cX7_meet 117 = .ok (.iconst 1, 1) := by decide +kernel
theorem dX7_meet_118 : decode cX7_meet 118 = .ok (.goto 4, 3) := by decide +kernel
theorem dX7_meet_131 : decode cX7_meet 131 = .ok (.aload_n 2, 1) := by decide +kernel
theorem dX7_meet_132 : decode cX7_meet 132 = .ok (.goto 4, 3) := by decide +kernel
theorem dX7_meet_154 : decode cX7_meet 154 = .ok (.aload 6, 2) := by decide +kernel
theorem dX7_meet_156 : decode cX7_meet 156 = .ok (.goto 5, 3) := by decide +kernel
def rmM_X7_meet (cs sl : Nat) : Room := { frames := 5, cells := cs, slots := sl, locals := 128 }
set_option maxHeartbeats 4000000 in
set_option maxRecDepth 100000 in
theorem t_X7_meet {p : Program} {l : Launch} {e : Env} {s : State} {m : MethodId} {args : Array Value} {below : List Frame} {meth : Method} {c : Code} {H : Heap} {locs : List Loc} {Q : State → Prop} {D : va_G} {cy : Nat → ClassId} {A : Nat → Prop} {L : List Nat} {R O : Nat → Nat} {f0 : Nat → va_E} {ls : Array Slot} (cs sl : Nat) (F : CallFix p m c cX7_meet 10 s args wsL_law RX7) (hZ : tZ A s s.heap) (hG : GG L R O f0) {a0 : Nat} (m_a0 : a0 ∈ L) (r_a0 : R a0 = 7) {a1 : Nat} (m_a1 : a1 ∈ L) (r_a1 : R a1 = 6) {a2 : Nat} (m_a2 : a2 ∈ L) (r_a2 : R a2 = 6) {a3 : Nat} (m_a3 : a3 ∈ L) (r_a3 : R a3 = 4) {x4 : Int32} (b4 : 1 ≤ x4.toInt ∧ x4.toInt ≤ 200) {a5 : Nat} (m_a5 : a5 ∈ L) (r_a5 : R a5 = 8) {a6 : Nat} (m_a6 : a6 ∈ L) (r_a6 : R a6 = 8) {a7 : Nat} (m_a7 : a7 ∈ L) (r_a7 : R a7 = 1) {A0 pst : Nat} (hO5 : O a5 = A0) (hO6 : O a6 = A0) (hne : a5 ≠ a6) (acc1 : ACC f0 a1) (acc2 : ACC f0 a2) (hD1 : DIG f0 a5 a1) (hD2 : DIG f0 a6 a2) (m_pst : pst ∈ L) (r_pst : R pst = 2) (t_pst : fld f0 a0 16 = .ref pst) (h : tS D cy A s.heap L R (TT cy L R) f0 s H locs) (hl : lv_has ls 10 [(0, .ref a0), (1, .ref a1), (2, .ref a2), (3, .ref a3), (4, .int x4), (5, .ref a5), (6, .ref a6), (7, .ref a7)]) (hret : ∀ (f1 : Nat → va_E) (H : Heap) (locs : List Loc) (pc : Nat) (ls : Array Slot) (r : Int32), decode cX7_meet pc = .ok (.ireturn, 1) → narrow .int (.int r) = .int r → (fr L R [(1, 0), (1, 1), (1, 2), (1, 3), (1, 5), (2, 2), (2, 3), (4, 1), (5, 4), (5, 5), (5, 6), (5, 7), (7, 5), (7, 6), (8, 1), (8, 2)] [1, 2, 4, 5, 7, 8, 23, 24, 25, 26, 27, 28, 29, 34, 51] f0 f1 ∧ KO L R O A0 f0 f1 ∧ fld f1 a0 16 = fld f0 a0 16) → tS D cy A s.heap L R (TT cy L R) f1 s H locs → W p l e (rmM_X7_meet cs sl) s m args below meth c H locs cs sl Q (F0 m pc ls [.int r])) : W p l e (rmM_X7_meet cs sl) s m args below meth c H locs cs sl Q (F0 m 62 ls []) := by
  have hk : fr L R [(1, 0), (1, 1), (1, 2), (1, 3), (1, 5), (2, 2), (2, 3), (4, 1), (5, 4), (5, 5), (5, 6), (5, 7), (7, 5), (7, 6), (8, 1), (8, 2)] [1, 2, 4, 5, 7, 8, 23, 24, 25, 26, 27, 28, 29, 34, 51] f0 f0 := fr.rf
  have hO : KO L R O A0 f0 f0 := KO.rf
  refine lv_aload_n F.1 F.2.1 dX7_meet_62 rfl (lv_at hl 0 rfl) ?_
  refine g_7_69 F h m_a0 r_a0 dX7_meet_63 (fun ho1 => absurd (ho1.symm.trans t_pst) (fun q => nomatch q)) (fun o1 m_o1 r_o1 ho1 => ?_)
  obtain rfl := (fld_inj t_pst ho1).symm
  refine tw_Vv (As := []) F hZ h yk_X2_clear mw_1263 mw_1264 mw_1265 (s_X2_clear l D cy L R O f0 pst m_pst r_pst) rfl rfl m_pst r_pst (fun e q => (T_2 e).mp q) rfl hl.1 rfl (Nat.le_of_ble_eq_true rfl) ⟨Nat.le_of_ble_eq_true rfl, Nat.le_of_ble_eq_true rfl⟩ ⟨Nat.le_refl _, Nat.le_refl _⟩ dX7_meet_66 (fun f2 H locs hp2 h => ?_)
  have hf2 := hp2
  have hD1 : DIG f2 a5 a1 := hD1.fr hG.1 hf2 (by decide +kernel) (by decide +kernel) (by decide +kernel) m_a1 r_a1 m_a5 r_a5
  have hD2 : DIG f2 a6 a2 := hD2.fr hG.1 hf2 (by decide +kernel) (by decide +kernel) (by decide +kernel) m_a2 r_a2 m_a6 r_a6
  have hO : KO L R O A0 f0 f2 := KO_fr hO hf2 (by decide +kernel)
  have hk : fr L R [(1, 0), (1, 1), (1, 2), (1, 3), (1, 5), (2, 2), (2, 3), (4, 1), (5, 4), (5, 5), (5, 6), (5, 7), (7, 5), (7, 6), (8, 1), (8, 2)] [1, 2, 4, 5, 7, 8, 23, 24, 25, 26, 27, 28, 29, 34, 51] f0 f2 := hk.tr hf2 rfl rfl
  have e4 : fld f2 a0 16 = .ref pst := (hf2.efl m_a0 r_a0 rfl).trans t_pst
  refine lv_aload_n F.1 F.2.1 dX7_meet_69 rfl (lv_at hl 0 rfl) ?_
  refine g_7_65 F h m_a0 r_a0 dX7_meet_70 (fun o5 m_o5 r_o5 ho5 => ?_)
  refine lv_aload_n F.1 F.2.1 dX7_meet_73 rfl (lv_at hl 3 rfl) ?_
  refine tw_Vv (As := [.ref a3]) F hZ h yk_X4_copy mw_1267 mw_438 mw_439 (s_X4_copy l D cy L R O f2 o5 m_o5 r_o5 a3 m_a3 r_a3) rfl rfl m_o5 r_o5 (fun e q => (T_4 e).mp q) rfl hl.1 rfl (Nat.le_of_ble_eq_true rfl) ⟨Nat.le_of_ble_eq_true rfl, Nat.le_of_ble_eq_true rfl⟩ ⟨Nat.le_refl _, Nat.le_refl _⟩ dX7_meet_74 (fun f6 H locs hp6 h => ?_)
  have hf6 := hp6
  have hD1 : DIG f6 a5 a1 := hD1.fr (hG.1.fr hk (by decide +kernel)) hf6 (by decide +kernel) (by decide +kernel) (by decide +kernel) m_a1 r_a1 m_a5 r_a5
  have hD2 : DIG f6 a6 a2 := hD2.fr (hG.1.fr hk (by decide +kernel)) hf6 (by decide +kernel) (by decide +kernel) (by decide +kernel) m_a2 r_a2 m_a6 r_a6
  have hO : KO L R O A0 f0 f6 := KO_fr hO hf6 (by decide +kernel)
  have hk : fr L R [(1, 0), (1, 1), (1, 2), (1, 3), (1, 5), (2, 2), (2, 3), (4, 1), (5, 4), (5, 5), (5, 6), (5, 7), (7, 5), (7, 6), (8, 1), (8, 2)] [1, 2, 4, 5, 7, 8, 23, 24, 25, 26, 27, 28, 29, 34, 51] f0 f6 := hk.tr hf6 rfl rfl
  have e8 : fld f6 a0 16 = .ref pst := (hf6.efl m_a0 r_a0 rfl).trans e4
  have e9 : fld f6 a0 15 = .ref o5 := (hf6.efl m_a0 r_a0 rfl).trans ho5
  refine lv_aload_n F.1 F.2.1 dX7_meet_77 rfl (lv_at hl 0 rfl) ?_
  refine g_7_69 F h m_a0 r_a0 dX7_meet_78 (fun ho10 => absurd (ho10.symm.trans e8) (fun q => nomatch q)) (fun o10 m_o10 r_o10 ho10 => ?_)
  obtain rfl := (fld_inj e8 ho10).symm
  refine lv_aload_n F.1 F.2.1 dX7_meet_81 rfl (lv_at hl 0 rfl) ?_
  refine g_7_65 F h m_a0 r_a0 dX7_meet_82 (fun o11 m_o11 r_o11 ho11 => ?_)
  obtain rfl := (fld_inj e9 ho11).symm
  refine lv_aload F.1 F.2.1 dX7_meet_85 (lv_at hl 5 rfl) ?_
  refine lv_aload F.1 F.2.1 dX7_meet_87 (lv_at hl 6 rfl) ?_
  refine tw_Vv (As := [.ref o5, .ref a5, .ref a6]) F hZ h yk_X2_add mw_1268 mw_1269 mw_1270 (s_X2_add l D cy L R O f6 pst m_pst r_pst o5 m_o5 r_o5 a5 m_a5 r_a5 a6 m_a6 r_a6) rfl rfl m_pst r_pst (fun e q => (T_2 e).mp q) rfl hl.1 rfl (Nat.le_of_ble_eq_true rfl) ⟨Nat.le_of_ble_eq_true rfl, Nat.le_of_ble_eq_true rfl⟩ ⟨Nat.le_refl _, Nat.le_refl _⟩ dX7_meet_89 (fun f12 H locs hp12 h => ?_)
  have hf12 := hp12
  have hD1 : DIG f12 a5 a1 := hD1.fr (hG.1.fr hk (by decide +kernel)) hf12 (by decide +kernel) (by decide +kernel) (by decide +kernel) m_a1 r_a1 m_a5 r_a5
  have hD2 : DIG f12 a6 a2 := hD2.fr (hG.1.fr hk (by decide +kernel)) hf12 (by decide +kernel) (by decide +kernel) (by decide +kernel) m_a2 r_a2 m_a6 r_a6
  have hO : KO L R O A0 f0 f12 := KO_fr hO hf12 (by decide +kernel)
  have hk : fr L R [(1, 0), (1, 1), (1, 2), (1, 3), (1, 5), (2, 2), (2, 3), (4, 1), (5, 4), (5, 5), (5, 6), (5, 7), (7, 5), (7, 6), (8, 1), (8, 2)] [1, 2, 4, 5, 7, 8, 23, 24, 25, 26, 27, 28, 29, 34, 51] f0 f12 := hk.tr hf12 (by decide +kernel) (by decide +kernel)
  have e14 : fld f12 a0 16 = .ref pst := (hf12.efl m_a0 r_a0 rfl).trans e8
  have e15 : fld f12 a0 15 = .ref o5 := (hf12.efl m_a0 r_a0 rfl).trans e9
  refine tw_iconst F dX7_meet_92 ki_1 (fun z16 hz16 => ?_)
  refine lv_istore (lv' := [(8, .int z16), (0, .ref a0), (1, .ref a1), (2, .ref a2), (3, .ref a3), (4, .int x4), (5, .ref a5), (6, .ref a6), (7, .ref a7)]) F.1 F.2.1 dX7_meet_93 hl (by decide) rfl (fun ls hl => ?_)
  have j_95 : ∀ (n95 : Nat) (f17 : Nat → va_E) (H : Heap) (locs : List Loc) (ls : Array Slot) (x8_95 : Int32), 1 ≤ x8_95.toInt → x8_95.toInt ≤ 201 → ((201 - x8_95.toInt)).toNat < n95 → tS D cy A s.heap L R (TT cy L R) f17 s H locs → DIG f17 a5 a1 → DIG f17 a6 a2 → KO L R O A0 f0 f17 → fr L R [(1, 0), (1, 1), (1, 2), (1, 3), (1, 5), (2, 2), (2, 3), (4, 1), (5, 4), (5, 5), (5, 6), (5, 7), (7, 5), (7, 6), (8, 1), (8, 2)] [1, 2, 4, 5, 7, 8, 23, 24, 25, 26, 27, 28, 29, 34, 51] f0 f17 → fr L R [(1, 0), (1, 1), (1, 2), (1, 3), (1, 5), (2, 2), (2, 3), (4, 1), (5, 4), (5, 5), (5, 6), (5, 7), (7, 5), (7, 6), (8, 1), (8, 2)] [1, 2, 4, 5, 7, 8, 23, 24, 25, 26, 27, 28, 29, 34, 51] f12 f17 → lv_has ls 10 [(0, .ref a0), (1, .ref a1), (2, .ref a2), (4, .int x4), (5, .ref a5), (6, .ref a6), (7, .ref a7), (8, .int x8_95)] → W p l e (rmM_X7_meet cs sl) s m args below meth c H locs cs sl Q (F0 m 95 ls []) := by
    intro n95
    induction n95 with
    | zero =>
      intro f17 H locs ls x8_95 b18 b19 b20 h hD1 hD2 hO hk hb95 hl
      exfalso
      omega
    | succ n95 ih95 =>
      intro f17 H locs ls x8_95 b18 b19 b20 h hD1 hD2 hO hk hb95 hl
      have e21 : fld f17 a0 16 = .ref pst := (hb95.efl m_a0 r_a0 rfl).trans e14
      have e22 : fld f17 a0 15 = .ref o5 := (hb95.efl m_a0 r_a0 rfl).trans e15
      refine lv_iload F.1 F.2.1 dX7_meet_95 (lv_at hl 7 rfl) ?_
      refine lv_iload F.1 F.2.1 dX7_meet_97 (lv_at hl 3 rfl) ?_
      have j_222 : ∀ (ls : Array Slot), lv_has ls 10 [(0, .ref a0), (4, .int x4)] → W p l e (rmM_X7_meet cs sl) s m args below meth c H locs cs sl Q (F0 m 222 ls []) := by
        intro ls hl
        refine lv_aload_n F.1 F.2.1 dX7_meet_222 rfl (lv_at hl 0 rfl) ?_
        refine g_7_31 F h m_a0 r_a0 dX7_meet_223 (fun v23 hv23 => ?_)
        refine tw_iconst F dX7_meet_226 ki_m1 (fun z24 hz24 => ?_)
        refine tw_icmp_ne (tgt := 235) F dX7_meet_227 (by decide) (fun b25 => ?_) (fun b25 => ?_)
        · refine lv_aload_n F.1 F.2.1 dX7_meet_235 rfl (lv_at hl 0 rfl) ?_
          refine g_7_28 F h m_a0 r_a0 dX7_meet_236 (fun v26 hv26 => ?_)
          refine lv_aload_n F.1 F.2.1 dX7_meet_239 rfl (lv_at hl 0 rfl) ?_
          refine g_7_31 F h m_a0 r_a0 dX7_meet_240 (fun v27 hv27 => ?_)
          refine lv_iadd F.1 F.2.1 dX7_meet_243 ?_
          refine lv_topi (fun z28 _ => ?_)
          exact hret f17 _ _ _ _ z28 dX7_meet_244 rfl ⟨hk, hO, e21.trans t_pst.symm⟩ h
        · refine lv_iload F.1 F.2.1 dX7_meet_230 (lv_at hl 1 rfl) ?_
          refine lv_goto (tgt := 244) F.1 F.2.1 dX7_meet_232 (by decide) ?_
          exact hret f17 _ _ _ _ x4 dX7_meet_244 rfl ⟨hk, hO, e21.trans t_pst.symm⟩ h
      refine tw_icmp_gt (tgt := 222) F dX7_meet_99 (by decide) (fun b29 => ?_) (fun b29 => ?_)
      · exact j_222 _ (lv_sub hl [0, 3] rfl)
      · refine lv_aload_n F.1 F.2.1 dX7_meet_102 rfl (lv_at hl 0 rfl) ?_
        refine g_7_31 F h m_a0 r_a0 dX7_meet_103 (fun v30 hv30 => ?_)
        refine tw_iconst F dX7_meet_106 ki_m1 (fun z31 hz31 => ?_)
        refine tw_icmp_ne (tgt := 222) F dX7_meet_107 (by decide) (fun b32 => ?_) (fun b32 => ?_)
        · exact j_222 _ (lv_sub hl [0, 3] rfl)
        · refine lv_iload F.1 F.2.1 dX7_meet_110 (lv_at hl 7 rfl) ?_
          refine tw_iconst F dX7_meet_112 ki_2 (fun z33 hz33 => ?_)
          refine lv_irem F.1 F.2.1 dX7_meet_113 (tw_ne0i (by omega)) ?_
          refine lv_topi (fun z34 _ => ?_)
          refine tw_if_ne (tgt := 121) F dX7_meet_114 (by decide) (fun b35 => ?_) (fun b35 => ?_)
          · refine tw_iconst F dX7_meet_121 ki_0 (fun z36 hz36 => ?_)
            refine lv_istore (lv' := [(9, .int z36), (0, .ref a0), (1, .ref a1), (2, .ref a2), (4, .int x4), (5, .ref a5), (6, .ref a6), (7, .ref a7), (8, .int x8_95)]) F.1 F.2.1 dX7_meet_122 hl (by decide) rfl (fun ls hl => ?_)
            refine lv_aload F.1 F.2.1 dX7_meet_124 (lv_at hl 7 rfl) ?_
            refine lv_iload F.1 F.2.1 dX7_meet_126 (lv_at hl 0 rfl) ?_
            refine tw_if_eq (tgt := 135) F dX7_meet_128 (by decide) (fun b37 => ?_) (fun b37 => ?_)
            · refine lv_aload_n F.1 F.2.1 dX7_meet_135 rfl (lv_at hl 2 rfl) ?_
              refine lv_aload_n F.1 F.2.1 dX7_meet_136 rfl (lv_at hl 1 rfl) ?_
              refine g_7_65 F h m_a0 r_a0 dX7_meet_137 (fun o38 m_o38 r_o38 ho38 => ?_)
              obtain rfl := (fld_inj e22 ho38).symm
              refine tw_Vv (As := [.ref a1, .ref o5]) F hZ h yk_X1_listen mw_1289 mw_844 mw_845 (s_X1_listen l D cy L R O f17 (hG.fr hk (by decide +kernel) (by decide +kernel)) a7 m_a7 r_a7 a1 m_a1 r_a1 o5 m_o5 r_o5) rfl rfl m_a7 r_a7 (fun e q => (T_1 e).mp q) rfl hl.1 rfl (Nat.le_of_ble_eq_true rfl) ⟨Nat.le_of_ble_eq_true rfl, Nat.le_of_ble_eq_true rfl⟩ ⟨Nat.le_refl _, Nat.le_refl _⟩ dX7_meet_140 (fun f39 H locs hp39 h => ?_)
              obtain ⟨hf39, hv40p0, hv40p1, hv40p2⟩ := hp39
              have hD1 : DIG f39 a5 a1 := hD1.fr (hG.1.fr hk (by decide +kernel)) hf39 (by decide +kernel) (by decide +kernel) (by decide +kernel) m_a1 r_a1 m_a5 r_a5
              have hD2 : DIG f39 a6 a2 := hD2.fr (hG.1.fr hk (by decide +kernel)) hf39 (by decide +kernel) (by decide +kernel) (by decide +kernel) m_a2 r_a2 m_a6 r_a6
              have hO : KO L R O A0 f0 f39 := KO_fr hO hf39 (by decide +kernel)
              have hk : fr L R [(1, 0), (1, 1), (1, 2), (1, 3), (1, 5), (2, 2), (2, 3), (4, 1), (5, 4), (5, 5), (5, 6), (5, 7), (7, 5), (7, 6), (8, 1), (8, 2)] [1, 2, 4, 5, 7, 8, 23, 24, 25, 26, 27, 28, 29, 34, 51] f0 f39 := hk.tr hf39 (by decide +kernel) (by decide +kernel)
              have hb95 : fr L R [(1, 0), (1, 1), (1, 2), (1, 3), (1, 5), (2, 2), (2, 3), (4, 1), (5, 4), (5, 5), (5, 6), (5, 7), (7, 5), (7, 6), (8, 1), (8, 2)] [1, 2, 4, 5, 7, 8, 23, 24, 25, 26, 27, 28, 29, 34, 51] f12 f39 := hb95.tr hf39 (by decide +kernel) (by decide +kernel)
              have e41 : fld f39 a0 16 = .ref pst := (hf39.efl m_a0 r_a0 rfl).trans e21
              have e42 : fld f39 a0 15 = .ref o5 := (hf39.efl m_a0 r_a0 rfl).trans e22
              have e43 : fi f39 a0 6 = fi f17 a0 6 := hf39.efi m_a0 r_a0 rfl
              refine lv_aload_n F.1 F.2.1 dX7_meet_143 rfl (lv_at hl 1 rfl) ?_
              refine g_7_85 F h m_a0 r_a0 dX7_meet_144 (fun o44 m_o44 r_o44 ho44 => ?_)
              refine lv_aload F.1 F.2.1 dX7_meet_147 (lv_at hl 7 rfl) ?_
              refine lv_iload F.1 F.2.1 dX7_meet_149 (lv_at hl 0 rfl) ?_
              refine tw_if_eq (tgt := 159) F dX7_meet_151 (by decide) (fun b45 => ?_) (fun b45 => ?_)
              · refine lv_aload F.1 F.2.1 dX7_meet_159 (lv_at hl 5 rfl) ?_
                refine lv_aload F.1 F.2.1 dX7_meet_161 (lv_at hl 7 rfl) ?_
                refine g_7_97 F h m_a7 r_a7 dX7_meet_163 (fun o46 m_o46 r_o46 ho46 => ?_)
                refine lv_aload F.1 F.2.1 dX7_meet_166 (lv_at hl 7 rfl) ?_
                refine g_7_98 F h m_a7 r_a7 dX7_meet_168 (fun v47 hv47 hv47a hv47b => ?_)
                have hk171 := hk
                refine tw_Vv (As := [.ref a7, .ref a5, .ref o46, .int v47]) F hZ h yk_X5_answer mw_1169 mw_959 mw_960 (s_X5_answer_a l D cy L R O f39 (hG.fr hk (by decide +kernel) (by decide +kernel)) o44 m_o44 r_o44 a7 m_a7 r_a7 a5 m_a5 r_a5 o46 m_o46 r_o46 v47 ⟨by omega, by omega⟩ (by rw [rfa_of hv40p0]; have q := hv40p1; rw [hk.efi m_a1 r_a1 (by decide +kernel)] at q; exact q.imp id (fun q => (acc1 q).fr hG.1 hk (by decide +kernel) (by decide +kernel) m_a1 r_a1)) (by rw [rfa_of hv40p0]; exact hD1)) rfl rfl m_o44 r_o44 (fun e q => (T_5 e).mp q) rfl hl.1 rfl (Nat.le_of_ble_eq_true rfl) ⟨Nat.le_of_ble_eq_true rfl, Nat.le_of_ble_eq_true rfl⟩ ⟨Nat.le_refl _, Nat.le_refl _⟩ dX7_meet_171 (fun f48 H locs hp48 h => ?_)
                obtain ⟨hf48, hv49p0, hv49p1⟩ := hp48
                have hk : fr L R [(1, 0), (1, 1), (1, 2), (1, 3), (1, 5), (2, 2), (2, 3), (4, 1), (5, 4), (5, 5), (5, 6), (5, 7), (7, 5), (7, 6), (8, 1), (8, 2)] [1, 2, 4, 5, 7, 8, 23, 24, 25, 26, 27, 28, 29, 34, 51] f0 f48 := hk.tr hf48 (by decide +kernel) (by decide +kernel)
                have hb95 : fr L R [(1, 0), (1, 1), (1, 2), (1, 3), (1, 5), (2, 2), (2, 3), (4, 1), (5, 4), (5, 5), (5, 6), (5, 7), (7, 5), (7, 6), (8, 1), (8, 2)] [1, 2, 4, 5, 7, 8, 23, 24, 25, 26, 27, 28, 29, 34, 51] f12 f48 := hb95.tr hf48 (by decide +kernel) (by decide +kernel)
                have e50 : fld f48 a0 16 = .ref pst := (hf48.efl m_a0 r_a0 rfl).trans e41
                have e51 : fld f48 a0 15 = .ref o5 := (hf48.efl m_a0 r_a0 rfl).trans e42
                have e52 : fi f48 a0 6 = fi f39 a0 6 := hf48.efi m_a0 r_a0 rfl
                have e53 : fld f48 a0 0 = .ref o44 := (hf48.efl m_a0 r_a0 rfl).trans ho44
                have hD1 : DIG f48 a5 a1 := by have q := hv49p0; rw [rfa_of hv40p0] at q; exact q
                have hD2 : DIG f48 a6 a2 := DIG_ks hD2 (hG.1.fr hk171 (by decide +kernel)) hf48 (by decide +kernel) (by decide +kernel) hv49p1 m_a2 r_a2 m_a6 r_a6 hne.symm
                have hO : KO L R O A0 f0 f48 := KO_ks hO hv49p1 hO5
                refine lv_aload_n F.1 F.2.1 dX7_meet_174 rfl (lv_at hl 1 rfl) ?_
                refine g_7_65 F h m_a0 r_a0 dX7_meet_175 (fun o54 m_o54 r_o54 ho54 => ?_)
                obtain rfl := (fld_inj e51 ho54).symm
                refine lv_aload_n F.1 F.2.1 dX7_meet_178 rfl (lv_at hl 1 rfl) ?_
                refine g_7_85 F h m_a0 r_a0 dX7_meet_179 (fun o55 m_o55 r_o55 ho55 => ?_)
                obtain rfl := (fld_inj e53 ho55).symm
                refine g_7_108 F h m_o44 r_o44 dX7_meet_182 (fun o56 m_o56 r_o56 ho56 => ?_)
                refine tw_Vv (As := [.ref o56]) F hZ h yk_X4_copy mw_1267 mw_438 mw_439 (s_X4_copy l D cy L R O f48 o5 m_o5 r_o5 o56 m_o56 r_o56) rfl rfl m_o5 r_o5 (fun e q => (T_4 e).mp q) rfl hl.1 rfl (Nat.le_of_ble_eq_true rfl) ⟨Nat.le_of_ble_eq_true rfl, Nat.le_of_ble_eq_true rfl⟩ ⟨Nat.le_refl _, Nat.le_refl _⟩ dX7_meet_185 (fun f57 H locs hp57 h => ?_)
                have hf57 := hp57
                have hD1 : DIG f57 a5 a1 := hD1.fr (hG.1.fr hk (by decide +kernel)) hf57 (by decide +kernel) (by decide +kernel) (by decide +kernel) m_a1 r_a1 m_a5 r_a5
                have hD2 : DIG f57 a6 a2 := hD2.fr (hG.1.fr hk (by decide +kernel)) hf57 (by decide +kernel) (by decide +kernel) (by decide +kernel) m_a2 r_a2 m_a6 r_a6
                have hO : KO L R O A0 f0 f57 := KO_fr hO hf57 (by decide +kernel)
                have hk : fr L R [(1, 0), (1, 1), (1, 2), (1, 3), (1, 5), (2, 2), (2, 3), (4, 1), (5, 4), (5, 5), (5, 6), (5, 7), (7, 5), (7, 6), (8, 1), (8, 2)] [1, 2, 4, 5, 7, 8, 23, 24, 25, 26, 27, 28, 29, 34, 51] f0 f57 := hk.tr hf57 rfl rfl
                have hb95 : fr L R [(1, 0), (1, 1), (1, 2), (1, 3), (1, 5), (2, 2), (2, 3), (4, 1), (5, 4), (5, 5), (5, 6), (5, 7), (7, 5), (7, 6), (8, 1), (8, 2)] [1, 2, 4, 5, 7, 8, 23, 24, 25, 26, 27, 28, 29, 34, 51] f12 f57 := hb95.tr hf57 rfl rfl
                have e59 : fld f57 a0 16 = .ref pst := (hf57.efl m_a0 r_a0 rfl).trans e50
                have e60 : fld f57 a0 15 = .ref o5 := (hf57.efl m_a0 r_a0 rfl).trans e51
                have e61 : fi f57 a0 6 = fi f48 a0 6 := hf57.efi m_a0 r_a0 rfl
                have e62 : fld f57 a0 0 = .ref o44 := (hf57.efl m_a0 r_a0 rfl).trans e53
                refine lv_aload_n F.1 F.2.1 dX7_meet_188 rfl (lv_at hl 1 rfl) ?_
                refine g_7_69 F h m_a0 r_a0 dX7_meet_189 (fun ho63 => absurd (ho63.symm.trans e59) (fun q => nomatch q)) (fun o63 m_o63 r_o63 ho63 => ?_)
                obtain rfl := (fld_inj e59 ho63).symm
                refine lv_aload_n F.1 F.2.1 dX7_meet_192 rfl (lv_at hl 1 rfl) ?_
                refine g_7_65 F h m_a0 r_a0 dX7_meet_193 (fun o64 m_o64 r_o64 ho64 => ?_)
                obtain rfl := (fld_inj e60 ho64).symm
                refine lv_aload F.1 F.2.1 dX7_meet_196 (lv_at hl 5 rfl) ?_
                refine lv_aload F.1 F.2.1 dX7_meet_198 (lv_at hl 6 rfl) ?_
                refine tw_Vv (As := [.ref o5, .ref a5, .ref a6]) F hZ h yk_X2_add mw_1268 mw_1269 mw_1270 (s_X2_add l D cy L R O f57 pst m_pst r_pst o5 m_o5 r_o5 a5 m_a5 r_a5 a6 m_a6 r_a6) rfl rfl m_pst r_pst (fun e q => (T_2 e).mp q) rfl hl.1 rfl (Nat.le_of_ble_eq_true rfl) ⟨Nat.le_of_ble_eq_true rfl, Nat.le_of_ble_eq_true rfl⟩ ⟨Nat.le_refl _, Nat.le_refl _⟩ dX7_meet_200 (fun f65 H locs hp65 h => ?_)
                have hf65 := hp65
                have hD1 : DIG f65 a5 a1 := hD1.fr (hG.1.fr hk (by decide +kernel)) hf65 (by decide +kernel) (by decide +kernel) (by decide +kernel) m_a1 r_a1 m_a5 r_a5
                have hD2 : DIG f65 a6 a2 := hD2.fr (hG.1.fr hk (by decide +kernel)) hf65 (by decide +kernel) (by decide +kernel) (by decide +kernel) m_a2 r_a2 m_a6 r_a6
                have hO : KO L R O A0 f0 f65 := KO_fr hO hf65 (by decide +kernel)
                have hk : fr L R [(1, 0), (1, 1), (1, 2), (1, 3), (1, 5), (2, 2), (2, 3), (4, 1), (5, 4), (5, 5), (5, 6), (5, 7), (7, 5), (7, 6), (8, 1), (8, 2)] [1, 2, 4, 5, 7, 8, 23, 24, 25, 26, 27, 28, 29, 34, 51] f0 f65 := hk.tr hf65 (by decide +kernel) (by decide +kernel)
                have hb95 : fr L R [(1, 0), (1, 1), (1, 2), (1, 3), (1, 5), (2, 2), (2, 3), (4, 1), (5, 4), (5, 5), (5, 6), (5, 7), (7, 5), (7, 6), (8, 1), (8, 2)] [1, 2, 4, 5, 7, 8, 23, 24, 25, 26, 27, 28, 29, 34, 51] f12 f65 := hb95.tr hf65 rfl (by decide +kernel)
                have e67 : fld f65 a0 16 = .ref pst := (hf65.efl m_a0 r_a0 rfl).trans e59
                have e68 : fld f65 a0 15 = .ref o5 := (hf65.efl m_a0 r_a0 rfl).trans e60
                have e69 : fi f65 a0 6 = fi f57 a0 6 := hf65.efi m_a0 r_a0 rfl
                have e70 : fld f65 a0 0 = .ref o44 := (hf65.efl m_a0 r_a0 rfl).trans e62
                refine lv_aload_n F.1 F.2.1 dX7_meet_203 rfl (lv_at hl 1 rfl) ?_
                refine lv_aload_n F.1 F.2.1 dX7_meet_204 rfl (lv_at hl 1 rfl) ?_
                refine g_7_69 F h m_a0 r_a0 dX7_meet_205 (fun ho71 => absurd (ho71.symm.trans e67) (fun q => nomatch q)) (fun o71 m_o71 r_o71 ho71 => ?_)
                obtain rfl := (fld_inj e67 ho71).symm
                refine tw_Vi (As := []) F hZ h yk_X2_likeLatest mw_1290 mw_1291 mw_1292 (s_X2_likeLatest l D cy L R O f65 pst m_pst r_pst) rfl rfl m_pst r_pst (fun e q => (T_2 e).mp q) rfl hl.1 rfl (Nat.le_of_ble_eq_true rfl) ⟨Nat.le_of_ble_eq_true rfl, Nat.le_of_ble_eq_true rfl⟩ ⟨Nat.le_refl _, Nat.le_refl _⟩ dX7_meet_208 (fun v73 f72 H locs hp72 h => ?_)
                obtain ⟨rfl, hv73a, hv73b⟩ := hp72
                refine lv_iload F.1 F.2.1 dX7_meet_211 (lv_at hl 8 rfl) ?_
                refine tw_Vv (As := [.int v73, .int x8_95]) F hZ h yk_X7_closeRing mw_1298 mw_1299 mw_1300 (s_X7_closeRing l D cy L R O f65 a0 m_a0 r_a0 v73 ⟨by omega, by omega⟩ x8_95 ⟨by omega, by omega⟩) rfl rfl m_a0 r_a0 (fun e q => (T_7 e).mp q) rfl hl.1 rfl (Nat.le_of_ble_eq_true rfl) ⟨Nat.le_of_ble_eq_true rfl, Nat.le_of_ble_eq_true rfl⟩ ⟨Nat.le_refl _, Nat.le_refl _⟩ dX7_meet_213 (fun f74 H locs hp74 h => ?_)
                have hf74 := hp74
                have hD1 : DIG f74 a5 a1 := hD1.fr (hG.1.fr hk (by decide +kernel)) hf74 (by decide +kernel) (by decide +kernel) (by decide +kernel) m_a1 r_a1 m_a5 r_a5
                have hD2 : DIG f74 a6 a2 := hD2.fr (hG.1.fr hk (by decide +kernel)) hf74 (by decide +kernel) (by decide +kernel) (by decide +kernel) m_a2 r_a2 m_a6 r_a6
                have hO : KO L R O A0 f0 f74 := KO_fr hO hf74 (by decide +kernel)
                have hk : fr L R [(1, 0), (1, 1), (1, 2), (1, 3), (1, 5), (2, 2), (2, 3), (4, 1), (5, 4), (5, 5), (5, 6), (5, 7), (7, 5), (7, 6), (8, 1), (8, 2)] [1, 2, 4, 5, 7, 8, 23, 24, 25, 26, 27, 28, 29, 34, 51] f0 f74 := hk.tr hf74 rfl rfl
                have hb95 : fr L R [(1, 0), (1, 1), (1, 2), (1, 3), (1, 5), (2, 2), (2, 3), (4, 1), (5, 4), (5, 5), (5, 6), (5, 7), (7, 5), (7, 6), (8, 1), (8, 2)] [1, 2, 4, 5, 7, 8, 23, 24, 25, 26, 27, 28, 29, 34, 51] f12 f74 := hb95.tr hf74 rfl rfl
                have e76 : fld f74 a0 16 = .ref pst := (hf74.efl m_a0 r_a0 rfl).trans e67
                have e77 : fld f74 a0 15 = .ref o5 := (hf74.efl m_a0 r_a0 rfl).trans e68
                have e78 : fld f74 a0 0 = .ref o44 := (hf74.efl m_a0 r_a0 rfl).trans e70
                refine tu_iinc F dX7_meet_216 hl (k := 8) rfl (by decide) ki_1 (by omega) (fun z79 ls hz79 hl => ?_)
                have hl : lv_has ls 10 [(8, .int z79), (9, .int z36), (0, .ref a0), (1, .ref a1), (2, .ref a2), (4, .int x4), (5, .ref a5), (6, .ref a6), (7, .ref a7)] := hl
                refine lv_goto (tgt := 95) F.1 F.2.1 dX7_meet_219 (by decide) ?_
                exact ih95 f74 _ _ _ z79 (by omega) (by omega) (by omega) h hD1 hD2 hO hk hb95 (lv_sub hl [2, 3, 4, 5, 6, 7, 8, 0] rfl)
              · exfalso
                omega
            · exfalso
              omega
          · refine tw_iconst F dX7_meet_117 ki_1 (fun z80 hz80 => ?_)
            refine lv_goto (tgt := 122) F.1 F.2.1 dX7_meet_118 (by decide) ?_
            refine lv_istore (lv' := [(9, .int z80), (0, .ref a0), (1, .ref a1), (2, .ref a2), (4, .int x4), (5, .ref a5), (6, .ref a6), (7, .ref a7), (8, .int x8_95)]) F.1 F.2.1 dX7_meet_122 hl (by decide) rfl (fun ls hl => ?_)
            refine lv_aload F.1 F.2.1 dX7_meet_124 (lv_at hl 7 rfl) ?_
            refine lv_iload F.1 F.2.1 dX7_meet_126 (lv_at hl 0 rfl) ?_
            refine tw_if_eq (tgt := 135) F dX7_meet_128 (by decide) (fun b81 => ?_) (fun b81 => ?_)
            · exfalso
              omega
            · refine lv_aload_n F.1 F.2.1 dX7_meet_131 rfl (lv_at hl 3 rfl) ?_
              refine lv_goto (tgt := 136) F.1 F.2.1 dX7_meet_132 (by decide) ?_
              refine lv_aload_n F.1 F.2.1 dX7_meet_136 rfl (lv_at hl 1 rfl) ?_
              refine g_7_65 F h m_a0 r_a0 dX7_meet_137 (fun o82 m_o82 r_o82 ho82 => ?_)
              obtain rfl := (fld_inj e22 ho82).symm
              refine tw_Vv (As := [.ref a2, .ref o5]) F hZ h yk_X1_listen mw_1289 mw_844 mw_845 (s_X1_listen l D cy L R O f17 (hG.fr hk (by decide +kernel) (by decide +kernel)) a7 m_a7 r_a7 a2 m_a2 r_a2 o5 m_o5 r_o5) rfl rfl m_a7 r_a7 (fun e q => (T_1 e).mp q) rfl hl.1 rfl (Nat.le_of_ble_eq_true rfl) ⟨Nat.le_of_ble_eq_true rfl, Nat.le_of_ble_eq_true rfl⟩ ⟨Nat.le_refl _, Nat.le_refl _⟩ dX7_meet_140 (fun f83 H locs hp83 h => ?_)
              obtain ⟨hf83, hv84p0, hv84p1, hv84p2⟩ := hp83
              have hD1 : DIG f83 a5 a1 := hD1.fr (hG.1.fr hk (by decide +kernel)) hf83 (by decide +kernel) (by decide +kernel) (by decide +kernel) m_a1 r_a1 m_a5 r_a5
              have hD2 : DIG f83 a6 a2 := hD2.fr (hG.1.fr hk (by decide +kernel)) hf83 (by decide +kernel) (by decide +kernel) (by decide +kernel) m_a2 r_a2 m_a6 r_a6
              have hO : KO L R O A0 f0 f83 := KO_fr hO hf83 (by decide +kernel)
              have hk : fr L R [(1, 0), (1, 1), (1, 2), (1, 3), (1, 5), (2, 2), (2, 3), (4, 1), (5, 4), (5, 5), (5, 6), (5, 7), (7, 5), (7, 6), (8, 1), (8, 2)] [1, 2, 4, 5, 7, 8, 23, 24, 25, 26, 27, 28, 29, 34, 51] f0 f83 := hk.tr hf83 (by decide +kernel) (by decide +kernel)
              have hb95 : fr L R [(1, 0), (1, 1), (1, 2), (1, 3), (1, 5), (2, 2), (2, 3), (4, 1), (5, 4), (5, 5), (5, 6), (5, 7), (7, 5), (7, 6), (8, 1), (8, 2)] [1, 2, 4, 5, 7, 8, 23, 24, 25, 26, 27, 28, 29, 34, 51] f12 f83 := hb95.tr hf83 (by decide +kernel) (by decide +kernel)
              have e85 : fld f83 a0 16 = .ref pst := (hf83.efl m_a0 r_a0 rfl).trans e21
              have e86 : fld f83 a0 15 = .ref o5 := (hf83.efl m_a0 r_a0 rfl).trans e22
              have e87 : fi f83 a0 6 = fi f17 a0 6 := hf83.efi m_a0 r_a0 rfl
              refine lv_aload_n F.1 F.2.1 dX7_meet_143 rfl (lv_at hl 1 rfl) ?_
              refine g_7_85 F h m_a0 r_a0 dX7_meet_144 (fun o88 m_o88 r_o88 ho88 => ?_)
              refine lv_aload F.1 F.2.1 dX7_meet_147 (lv_at hl 7 rfl) ?_
              refine lv_iload F.1 F.2.1 dX7_meet_149 (lv_at hl 0 rfl) ?_
              refine tw_if_eq (tgt := 159) F dX7_meet_151 (by decide) (fun b89 => ?_) (fun b89 => ?_)
              · exfalso
                omega
              · refine lv_aload F.1 F.2.1 dX7_meet_154 (lv_at hl 6 rfl) ?_
                refine lv_goto (tgt := 161) F.1 F.2.1 dX7_meet_156 (by decide) ?_
                refine lv_aload F.1 F.2.1 dX7_meet_161 (lv_at hl 7 rfl) ?_
                refine g_7_97 F h m_a7 r_a7 dX7_meet_163 (fun o90 m_o90 r_o90 ho90 => ?_)
                refine lv_aload F.1 F.2.1 dX7_meet_166 (lv_at hl 7 rfl) ?_
                refine g_7_98 F h m_a7 r_a7 dX7_meet_168 (fun v91 hv91 hv91a hv91b => ?_)
                have hk171 := hk
                refine tw_Vv (As := [.ref a7, .ref a6, .ref o90, .int v91]) F hZ h yk_X5_answer mw_1169 mw_959 mw_960 (s_X5_answer_a l D cy L R O f83 (hG.fr hk (by decide +kernel) (by decide +kernel)) o88 m_o88 r_o88 a7 m_a7 r_a7 a6 m_a6 r_a6 o90 m_o90 r_o90 v91 ⟨by omega, by omega⟩ (by rw [rfa_of hv84p0]; have q := hv84p1; rw [hk.efi m_a2 r_a2 (by decide +kernel)] at q; exact q.imp id (fun q => (acc2 q).fr hG.1 hk (by decide +kernel) (by decide +kernel) m_a2 r_a2)) (by rw [rfa_of hv84p0]; exact hD2)) rfl rfl m_o88 r_o88 (fun e q => (T_5 e).mp q) rfl hl.1 rfl (Nat.le_of_ble_eq_true rfl) ⟨Nat.le_of_ble_eq_true rfl, Nat.le_of_ble_eq_true rfl⟩ ⟨Nat.le_refl _, Nat.le_refl _⟩ dX7_meet_171 (fun f92 H locs hp92 h => ?_)
                obtain ⟨hf92, hv93p0, hv93p1⟩ := hp92
                have hk : fr L R [(1, 0), (1, 1), (1, 2), (1, 3), (1, 5), (2, 2), (2, 3), (4, 1), (5, 4), (5, 5), (5, 6), (5, 7), (7, 5), (7, 6), (8, 1), (8, 2)] [1, 2, 4, 5, 7, 8, 23, 24, 25, 26, 27, 28, 29, 34, 51] f0 f92 := hk.tr hf92 (by decide +kernel) (by decide +kernel)
                have hb95 : fr L R [(1, 0), (1, 1), (1, 2), (1, 3), (1, 5), (2, 2), (2, 3), (4, 1), (5, 4), (5, 5), (5, 6), (5, 7), (7, 5), (7, 6), (8, 1), (8, 2)] [1, 2, 4, 5, 7, 8, 23, 24, 25, 26, 27, 28, 29, 34, 51] f12 f92 := hb95.tr hf92 (by decide +kernel) (by decide +kernel)
                have e94 : fld f92 a0 16 = .ref pst := (hf92.efl m_a0 r_a0 rfl).trans e85
                have e95 : fld f92 a0 15 = .ref o5 := (hf92.efl m_a0 r_a0 rfl).trans e86
                have e96 : fi f92 a0 6 = fi f83 a0 6 := hf92.efi m_a0 r_a0 rfl
                have e97 : fld f92 a0 0 = .ref o88 := (hf92.efl m_a0 r_a0 rfl).trans ho88
                have hD2 : DIG f92 a6 a2 := by have q := hv93p0; rw [rfa_of hv84p0] at q; exact q
                have hD1 : DIG f92 a5 a1 := DIG_ks hD1 (hG.1.fr hk171 (by decide +kernel)) hf92 (by decide +kernel) (by decide +kernel) hv93p1 m_a1 r_a1 m_a5 r_a5 hne
                have hO : KO L R O A0 f0 f92 := KO_ks hO hv93p1 hO6
                refine lv_aload_n F.1 F.2.1 dX7_meet_174 rfl (lv_at hl 1 rfl) ?_
                refine g_7_65 F h m_a0 r_a0 dX7_meet_175 (fun o98 m_o98 r_o98 ho98 => ?_)
                obtain rfl := (fld_inj e95 ho98).symm
                refine lv_aload_n F.1 F.2.1 dX7_meet_178 rfl (lv_at hl 1 rfl) ?_
                refine g_7_85 F h m_a0 r_a0 dX7_meet_179 (fun o99 m_o99 r_o99 ho99 => ?_)
                obtain rfl := (fld_inj e97 ho99).symm
                refine g_7_108 F h m_o88 r_o88 dX7_meet_182 (fun o100 m_o100 r_o100 ho100 => ?_)
                refine tw_Vv (As := [.ref o100]) F hZ h yk_X4_copy mw_1267 mw_438 mw_439 (s_X4_copy l D cy L R O f92 o5 m_o5 r_o5 o100 m_o100 r_o100) rfl rfl m_o5 r_o5 (fun e q => (T_4 e).mp q) rfl hl.1 rfl (Nat.le_of_ble_eq_true rfl) ⟨Nat.le_of_ble_eq_true rfl, Nat.le_of_ble_eq_true rfl⟩ ⟨Nat.le_refl _, Nat.le_refl _⟩ dX7_meet_185 (fun f101 H locs hp101 h => ?_)
                have hf101 := hp101
                have hD1 : DIG f101 a5 a1 := hD1.fr (hG.1.fr hk (by decide +kernel)) hf101 (by decide +kernel) (by decide +kernel) (by decide +kernel) m_a1 r_a1 m_a5 r_a5
                have hD2 : DIG f101 a6 a2 := hD2.fr (hG.1.fr hk (by decide +kernel)) hf101 (by decide +kernel) (by decide +kernel) (by decide +kernel) m_a2 r_a2 m_a6 r_a6
                have hO : KO L R O A0 f0 f101 := KO_fr hO hf101 (by decide +kernel)
                have hk : fr L R [(1, 0), (1, 1), (1, 2), (1, 3), (1, 5), (2, 2), (2, 3), (4, 1), (5, 4), (5, 5), (5, 6), (5, 7), (7, 5), (7, 6), (8, 1), (8, 2)] [1, 2, 4, 5, 7, 8, 23, 24, 25, 26, 27, 28, 29, 34, 51] f0 f101 := hk.tr hf101 rfl rfl
                have hb95 : fr L R [(1, 0), (1, 1), (1, 2), (1, 3), (1, 5), (2, 2), (2, 3), (4, 1), (5, 4), (5, 5), (5, 6), (5, 7), (7, 5), (7, 6), (8, 1), (8, 2)] [1, 2, 4, 5, 7, 8, 23, 24, 25, 26, 27, 28, 29, 34, 51] f12 f101 := hb95.tr hf101 rfl rfl
                have e103 : fld f101 a0 16 = .ref pst := (hf101.efl m_a0 r_a0 rfl).trans e94
                have e104 : fld f101 a0 15 = .ref o5 := (hf101.efl m_a0 r_a0 rfl).trans e95
                have e105 : fi f101 a0 6 = fi f92 a0 6 := hf101.efi m_a0 r_a0 rfl
                have e106 : fld f101 a0 0 = .ref o88 := (hf101.efl m_a0 r_a0 rfl).trans e97
                refine lv_aload_n F.1 F.2.1 dX7_meet_188 rfl (lv_at hl 1 rfl) ?_
                refine g_7_69 F h m_a0 r_a0 dX7_meet_189 (fun ho107 => absurd (ho107.symm.trans e103) (fun q => nomatch q)) (fun o107 m_o107 r_o107 ho107 => ?_)
                obtain rfl := (fld_inj e103 ho107).symm
                refine lv_aload_n F.1 F.2.1 dX7_meet_192 rfl (lv_at hl 1 rfl) ?_
                refine g_7_65 F h m_a0 r_a0 dX7_meet_193 (fun o108 m_o108 r_o108 ho108 => ?_)
                obtain rfl := (fld_inj e104 ho108).symm
                refine lv_aload F.1 F.2.1 dX7_meet_196 (lv_at hl 5 rfl) ?_
                refine lv_aload F.1 F.2.1 dX7_meet_198 (lv_at hl 6 rfl) ?_
                refine tw_Vv (As := [.ref o5, .ref a5, .ref a6]) F hZ h yk_X2_add mw_1268 mw_1269 mw_1270 (s_X2_add l D cy L R O f101 pst m_pst r_pst o5 m_o5 r_o5 a5 m_a5 r_a5 a6 m_a6 r_a6) rfl rfl m_pst r_pst (fun e q => (T_2 e).mp q) rfl hl.1 rfl (Nat.le_of_ble_eq_true rfl) ⟨Nat.le_of_ble_eq_true rfl, Nat.le_of_ble_eq_true rfl⟩ ⟨Nat.le_refl _, Nat.le_refl _⟩ dX7_meet_200 (fun f109 H locs hp109 h => ?_)
                have hf109 := hp109
                have hD1 : DIG f109 a5 a1 := hD1.fr (hG.1.fr hk (by decide +kernel)) hf109 (by decide +kernel) (by decide +kernel) (by decide +kernel) m_a1 r_a1 m_a5 r_a5
                have hD2 : DIG f109 a6 a2 := hD2.fr (hG.1.fr hk (by decide +kernel)) hf109 (by decide +kernel) (by decide +kernel) (by decide +kernel) m_a2 r_a2 m_a6 r_a6
                have hO : KO L R O A0 f0 f109 := KO_fr hO hf109 (by decide +kernel)
                have hk : fr L R [(1, 0), (1, 1), (1, 2), (1, 3), (1, 5), (2, 2), (2, 3), (4, 1), (5, 4), (5, 5), (5, 6), (5, 7), (7, 5), (7, 6), (8, 1), (8, 2)] [1, 2, 4, 5, 7, 8, 23, 24, 25, 26, 27, 28, 29, 34, 51] f0 f109 := hk.tr hf109 (by decide +kernel) (by decide +kernel)
                have hb95 : fr L R [(1, 0), (1, 1), (1, 2), (1, 3), (1, 5), (2, 2), (2, 3), (4, 1), (5, 4), (5, 5), (5, 6), (5, 7), (7, 5), (7, 6), (8, 1), (8, 2)] [1, 2, 4, 5, 7, 8, 23, 24, 25, 26, 27, 28, 29, 34, 51] f12 f109 := hb95.tr hf109 rfl (by decide +kernel)
                have e111 : fld f109 a0 16 = .ref pst := (hf109.efl m_a0 r_a0 rfl).trans e103
                have e112 : fld f109 a0 15 = .ref o5 := (hf109.efl m_a0 r_a0 rfl).trans e104
                have e113 : fi f109 a0 6 = fi f101 a0 6 := hf109.efi m_a0 r_a0 rfl
                have e114 : fld f109 a0 0 = .ref o88 := (hf109.efl m_a0 r_a0 rfl).trans e106
                refine lv_aload_n F.1 F.2.1 dX7_meet_203 rfl (lv_at hl 1 rfl) ?_
                refine lv_aload_n F.1 F.2.1 dX7_meet_204 rfl (lv_at hl 1 rfl) ?_
                refine g_7_69 F h m_a0 r_a0 dX7_meet_205 (fun ho115 => absurd (ho115.symm.trans e111) (fun q => nomatch q)) (fun o115 m_o115 r_o115 ho115 => ?_)
                obtain rfl := (fld_inj e111 ho115).symm
                refine tw_Vi (As := []) F hZ h yk_X2_likeLatest mw_1290 mw_1291 mw_1292 (s_X2_likeLatest l D cy L R O f109 pst m_pst r_pst) rfl rfl m_pst r_pst (fun e q => (T_2 e).mp q) rfl hl.1 rfl (Nat.le_of_ble_eq_true rfl) ⟨Nat.le_of_ble_eq_true rfl, Nat.le_of_ble_eq_true rfl⟩ ⟨Nat.le_refl _, Nat.le_refl _⟩ dX7_meet_208 (fun v117 f116 H locs hp116 h => ?_)
                obtain ⟨rfl, hv117a, hv117b⟩ := hp116
                refine lv_iload F.1 F.2.1 dX7_meet_211 (lv_at hl 8 rfl) ?_
                refine tw_Vv (As := [.int v117, .int x8_95]) F hZ h yk_X7_closeRing mw_1298 mw_1299 mw_1300 (s_X7_closeRing l D cy L R O f109 a0 m_a0 r_a0 v117 ⟨by omega, by omega⟩ x8_95 ⟨by omega, by omega⟩) rfl rfl m_a0 r_a0 (fun e q => (T_7 e).mp q) rfl hl.1 rfl (Nat.le_of_ble_eq_true rfl) ⟨Nat.le_of_ble_eq_true rfl, Nat.le_of_ble_eq_true rfl⟩ ⟨Nat.le_refl _, Nat.le_refl _⟩ dX7_meet_213 (fun f118 H locs hp118 h => ?_)
                have hf118 := hp118
                have hD1 : DIG f118 a5 a1 := hD1.fr (hG.1.fr hk (by decide +kernel)) hf118 (by decide +kernel) (by decide +kernel) (by decide +kernel) m_a1 r_a1 m_a5 r_a5
                have hD2 : DIG f118 a6 a2 := hD2.fr (hG.1.fr hk (by decide +kernel)) hf118 (by decide +kernel) (by decide +kernel) (by decide +kernel) m_a2 r_a2 m_a6 r_a6
                have hO : KO L R O A0 f0 f118 := KO_fr hO hf118 (by decide +kernel)
                have hk : fr L R [(1, 0), (1, 1), (1, 2), (1, 3), (1, 5), (2, 2), (2, 3), (4, 1), (5, 4), (5, 5), (5, 6), (5, 7), (7, 5), (7, 6), (8, 1), (8, 2)] [1, 2, 4, 5, 7, 8, 23, 24, 25, 26, 27, 28, 29, 34, 51] f0 f118 := hk.tr hf118 rfl rfl
                have hb95 : fr L R [(1, 0), (1, 1), (1, 2), (1, 3), (1, 5), (2, 2), (2, 3), (4, 1), (5, 4), (5, 5), (5, 6), (5, 7), (7, 5), (7, 6), (8, 1), (8, 2)] [1, 2, 4, 5, 7, 8, 23, 24, 25, 26, 27, 28, 29, 34, 51] f12 f118 := hb95.tr hf118 rfl rfl
                have e120 : fld f118 a0 16 = .ref pst := (hf118.efl m_a0 r_a0 rfl).trans e111
                have e121 : fld f118 a0 15 = .ref o5 := (hf118.efl m_a0 r_a0 rfl).trans e112
                have e122 : fld f118 a0 0 = .ref o88 := (hf118.efl m_a0 r_a0 rfl).trans e114
                refine tu_iinc F dX7_meet_216 hl (k := 8) rfl (by decide) ki_1 (by omega) (fun z123 ls hz123 hl => ?_)
                have hl : lv_has ls 10 [(8, .int z123), (9, .int z80), (0, .ref a0), (1, .ref a1), (2, .ref a2), (4, .int x4), (5, .ref a5), (6, .ref a6), (7, .ref a7)] := hl
                refine lv_goto (tgt := 95) F.1 F.2.1 dX7_meet_219 (by decide) ?_
                exact ih95 f118 _ _ _ z123 (by omega) (by omega) (by omega) h hD1 hD2 hO hk hb95 (lv_sub hl [2, 3, 4, 5, 6, 7, 8, 0] rfl)
  have hb95 : fr L R [(1, 0), (1, 1), (1, 2), (1, 3), (1, 5), (2, 2), (2, 3), (4, 1), (5, 4), (5, 5), (5, 6), (5, 7), (7, 5), (7, 6), (8, 1), (8, 2)] [1, 2, 4, 5, 7, 8, 23, 24, 25, 26, 27, 28, 29, 34, 51] f12 f12 := fr.rf
  exact j_95 (((201 - z16.toInt)).toNat + 1) f12 _ _ _ z16 (by omega) (by omega) (by omega) h hD1 hD2 hO hk hb95 (lv_sub hl [1, 2, 3, 5, 6, 7, 8, 0] rfl)
theorem dX7_meet_0 : decode cX7_meet 0 = .ok (.aload_n 0, 1) := by decide +kernel
theorem dX7_meet_1 : decode cX7_meet 1 = .ok (.getfield 51, 3) := by decide +kernel
theorem dX7_meet_4 : decode cX7_meet 4 = .ok (.iconst 0, 1) := by decide +kernel
theorem dX7_meet_5 : decode cX7_meet 5 = .ok (.aaload, 1) := by decide +kernel
theorem dX7_meet_6 : decode cX7_meet 6 = .ok (.astore 5, 2) := by decide +kernel
theorem dX7_meet_8 : decode cX7_meet 8 = .ok (.aload_n 0, 1) := by decide +kernel
theorem dX7_meet_9 : decode cX7_meet 9 = .ok (.getfield 51, 3) := by decide +kernel
theorem dX7_meet_12 : decode cX7_meet 12 = .ok (.iconst 1, 1) := by decide +kernel
theorem dX7_meet_13 : decode cX7_meet 13 = .ok (.aaload, 1) := by decide +kernel
theorem dX7_meet_14 : decode cX7_meet 14 = .ok (.astore 6, 2) := by decide +kernel
theorem dX7_meet_16 : decode cX7_meet 16 = .ok (.aload_n 0, 1) := by decide +kernel
theorem dX7_meet_17 : decode cX7_meet 17 = .ok (.getfield 11, 3) := by decide +kernel
theorem dX7_meet_20 : decode cX7_meet 20 = .ok (.iconst 0, 1) := by decide +kernel
theorem dX7_meet_21 : decode cX7_meet 21 = .ok (.aaload, 1) := by decide +kernel
theorem dX7_meet_22 : decode cX7_meet 22 = .ok (.astore 7, 2) := by decide +kernel
theorem dX7_meet_24 : decode cX7_meet 24 = .ok (.aload 5, 2) := by decide +kernel
theorem dX7_meet_26 : decode cX7_meet 26 = .ok (.invokevirtual 94, 3) := by decide +kernel
theorem dX7_meet_29 : decode cX7_meet 29 = .ok (.aload 6, 2) := by decide +kernel
theorem dX7_meet_31 : decode cX7_meet 31 = .ok (.invokevirtual 94, 3) := by decide +kernel
theorem dX7_meet_34 : decode cX7_meet 34 = .ok (.aload_n 0, 1) := by decide +kernel
theorem dX7_meet_35 : decode cX7_meet 35 = .ok (.iconst (-1), 1) := by decide +kernel
theorem dX7_meet_36 : decode cX7_meet 36 = .ok (.putfield 28, 3) := by decide +kernel
theorem dX7_meet_39 : decode cX7_meet 39 = .ok (.aload_n 0, 1) := by decide +kernel
theorem dX7_meet_40 : decode cX7_meet 40 = .ok (.iconst (-1), 1) := by decide +kernel
theorem dX7_meet_41 : decode cX7_meet 41 = .ok (.putfield 31, 3) := by decide +kernel
theorem dX7_meet_44 : decode cX7_meet 44 = .ok (.aload_n 0, 1) := by decide +kernel
theorem dX7_meet_45 : decode cX7_meet 45 = .ok (.getfield 69, 3) := by decide +kernel
theorem dX7_meet_48 : decode cX7_meet 48 = .ok (.ifnonnull 14, 3) := by decide +kernel
set_option maxHeartbeats 4000000 in
set_option maxRecDepth 100000 in
theorem s_X7_meetN (l : Launch) (D : va_G) (cy : Nat → ClassId) (L : List Nat) (R O : Nat → Nat) (f0 : Nat → va_E) (hG : GG L R O f0) (a0 : Nat) (m_a0 : a0 ∈ L) (r_a0 : R a0 = 7) (a1 : Nat) (m_a1 : a1 ∈ L) (r_a1 : R a1 = 6) (a2 : Nat) (m_a2 : a2 ∈ L) (r_a2 : R a2 = 6) (a3 : Nat) (m_a3 : a3 ∈ L) (r_a3 : R a3 = 4) (x4 : Int32) (b4 : 1 ≤ x4.toInt ∧ x4.toInt ≤ 200) (P : Nat → Nat) (pst : Nat) (m_pst : pst ∈ L) (r_pst : R pst = 2) (pre0 : SO L R O f0 a0) (pre1 : (∀ j st, elq f0 (rfa f0 a0 12) j = some st → j < 6 → P st = j)) (pre2 : ACC f0 a1) (pre3 : ACC f0 a2) (pre4 : fld f0 a0 16 = .ref pst) : ∀ sz, Met l yX7_meet (Cond.code yX7_meet cX7_meet 10 (some .int) :: wsL_law) (rmM_X7_meet 0 0) (va_Pc [.ref a0, .ref a1, .ref a2, .ref a3, .int x4] (tPZ D cy L R (TT cy L R) f0 sz)) (va_Qi (fun (r : Int32) f1 => fr L R [(1, 0), (1, 1), (1, 2), (1, 3), (1, 5), (2, 2), (2, 3), (4, 1), (5, 4), (5, 5), (5, 6), (5, 7), (7, 5), (7, 6), (8, 1), (8, 2)] [1, 2, 4, 5, 7, 8, 23, 24, 25, 26, 27, 28, 29, 34, 51] f0 f1 ∧ KO L R O (rfa f0 a0 12) f0 f1 ∧ fld f1 a0 16 = fld f0 a0 16) (tB D (tA L sz) L R (TT cy L R)) (tA L sz)) 0 0 (tA L sz) := by
  refine tw_enteri (by decide +kernel) rfl (Nat.le_of_ble_eq_true rfl) ?_
  intro p e s m below meth c A ls args Q F hZ h hl hret
  have hl : lv_has ls 10 [(0, .ref a0), (1, .ref a1), (2, .ref a2), (3, .ref a3), (4, .int x4)] := hl
  have hk : fr L R [(1, 0), (1, 1), (1, 2), (1, 3), (1, 5), (2, 2), (2, 3), (4, 1), (5, 4), (5, 5), (5, 6), (5, 7), (7, 5), (7, 6), (8, 1), (8, 2)] [1, 2, 4, 5, 7, 8, 23, 24, 25, 26, 27, 28, 29, 34, 51] f0 f0 := fr.rf
  refine lv_aload_n F.1 F.2.1 dX7_meet_0 rfl (lv_at hl 0 rfl) ?_
  refine g_7_51 F h m_a0 r_a0 dX7_meet_1 (fun o1 m_o1 r_o1 ho1 => ?_)
  refine tw_iconst F dX7_meet_4 ki_0 (fun z2 hz2 => ?_)
  refine le_48 F h m_o1 r_o1 (by omega) dX7_meet_5 (fun o3 m_o3 r_o3 eo3 => ?_)
  have so0 := pre0.2.2 0 o3 (by rw [rfa_of ho1, show (0 : Nat) = z2.toInt.toNat by omega]; exact eo3) (by decide)
  have sp0 := pre1 0 o3 (by rw [rfa_of ho1, show (0 : Nat) = z2.toInt.toNat by omega]; exact eo3) (by decide)
  refine lv_astore (lv' := [(5, .ref o3), (0, .ref a0), (1, .ref a1), (2, .ref a2), (3, .ref a3), (4, .int x4)]) F.1 F.2.1 dX7_meet_6 hl (by decide) rfl (fun ls hl => ?_)
  refine lv_aload_n F.1 F.2.1 dX7_meet_8 rfl (lv_at hl 1 rfl) ?_
  refine g_7_51 F h m_a0 r_a0 dX7_meet_9 (fun o4 m_o4 r_o4 ho4 => ?_)
  refine tw_iconst F dX7_meet_12 ki_1 (fun z5 hz5 => ?_)
  refine le_48 F h m_o4 r_o4 (by omega) dX7_meet_13 (fun o6 m_o6 r_o6 eo6 => ?_)
  have so1 := pre0.2.2 1 o6 (by rw [rfa_of ho4, show (1 : Nat) = z5.toInt.toNat by omega]; exact eo6) (by decide)
  have sp1 := pre1 1 o6 (by rw [rfa_of ho4, show (1 : Nat) = z5.toInt.toNat by omega]; exact eo6) (by decide)
  have hne : o3 ≠ o6 := fun e => by rw [e, sp1] at sp0; exact absurd sp0 (by decide)
  refine lv_astore (lv' := [(6, .ref o6), (5, .ref o3), (0, .ref a0), (1, .ref a1), (2, .ref a2), (3, .ref a3), (4, .int x4)]) F.1 F.2.1 dX7_meet_14 hl (by decide) rfl (fun ls hl => ?_)
  refine lv_aload_n F.1 F.2.1 dX7_meet_16 rfl (lv_at hl 2 rfl) ?_
  refine g_7_11 F h m_a0 r_a0 dX7_meet_17 (fun o7 m_o7 r_o7 ho7 => ?_)
  refine tw_iconst F dX7_meet_20 ki_0 (fun z8 hz8 => ?_)
  refine ld_45 F h m_o7 r_o7 (by omega) dX7_meet_21 (fun o9 m_o9 r_o9 => ?_)
  refine lv_astore (lv' := [(7, .ref o9), (6, .ref o6), (5, .ref o3), (0, .ref a0), (1, .ref a1), (2, .ref a2), (3, .ref a3), (4, .int x4)]) F.1 F.2.1 dX7_meet_22 hl (by decide) rfl (fun ls hl => ?_)
  refine lv_aload F.1 F.2.1 dX7_meet_24 (lv_at hl 2 rfl) ?_
  refine tw_Vv (As := []) F hZ h yk_X8_refresh mw_1168 mw_627 mw_628 (s_X8_refresh l D cy L R O f0 o3 m_o3 r_o3) rfl rfl m_o3 r_o3 (fun e q => (T_8 e).mp q) rfl hl.1 rfl (Nat.le_of_ble_eq_true rfl) ⟨Nat.le_of_ble_eq_true rfl, Nat.le_of_ble_eq_true rfl⟩ ⟨Nat.le_of_ble_eq_true rfl, Nat.le_of_ble_eq_true rfl⟩ dX7_meet_26 (fun f10 H locs hp10 h => ?_)
  obtain ⟨hf10, hv11p0, hv11p1⟩ := hp10
  have hk : fr L R [(1, 0), (1, 1), (1, 2), (1, 3), (1, 5), (2, 2), (2, 3), (4, 1), (5, 4), (5, 5), (5, 6), (5, 7), (7, 5), (7, 6), (8, 1), (8, 2)] [1, 2, 4, 5, 7, 8, 23, 24, 25, 26, 27, 28, 29, 34, 51] f0 f10 := hk.tr hf10 rfl rfl
  have e12 : fld f10 a0 16 = .ref pst := (hf10.efl m_a0 r_a0 rfl).trans pre4
  have hz5 := hv11p0
  have hO : KO L R O (rfa f0 a0 12) f0 f10 := KO_ks KO.rf hv11p1 so0.2.2
  refine lv_aload F.1 F.2.1 dX7_meet_29 (lv_at hl 1 rfl) ?_
  refine tw_Vv (As := []) F hZ h yk_X8_refresh mw_1168 mw_627 mw_628 (s_X8_refresh l D cy L R O f10 o6 m_o6 r_o6) rfl rfl m_o6 r_o6 (fun e q => (T_8 e).mp q) rfl hl.1 rfl (Nat.le_of_ble_eq_true rfl) ⟨Nat.le_of_ble_eq_true rfl, Nat.le_of_ble_eq_true rfl⟩ ⟨Nat.le_of_ble_eq_true rfl, Nat.le_of_ble_eq_true rfl⟩ dX7_meet_31 (fun f13 H locs hp13 h => ?_)
  obtain ⟨hf13, hv14p0, hv14p1⟩ := hp13
  have hk : fr L R [(1, 0), (1, 1), (1, 2), (1, 3), (1, 5), (2, 2), (2, 3), (4, 1), (5, 4), (5, 5), (5, 6), (5, 7), (7, 5), (7, 6), (8, 1), (8, 2)] [1, 2, 4, 5, 7, 8, 23, 24, 25, 26, 27, 28, 29, 34, 51] f0 f13 := hk.tr hf13 rfl rfl
  have e15 : fld f13 a0 16 = .ref pst := (hf13.efl m_a0 r_a0 rfl).trans e12
  have hz5 : dg f13 o3 = 0 := by unfold dg; rw [hv14p1 o3 m_o3 r_o3 hne]; exact hz5
  have hz6 := hv14p0
  have hO : KO L R O (rfa f0 a0 12) f0 f13 := KO_ks hO hv14p1 so1.2.2
  refine lv_aload_n F.1 F.2.1 dX7_meet_34 rfl (lv_at hl 3 rfl) ?_
  refine tw_iconst F dX7_meet_35 ki_m1 (fun z16 hz16 => ?_)
  refine p_7_28 F h m_a0 r_a0 dX7_meet_36 (fun f17 H locs e17p hf17 h => ?_)
  have hz5 : dg f17 o3 = 0 := (by unfold dg; rw [hf17.efl m_o3 r_o3 (by decide +kernel)]; exact hz5)
  have hz6 : dg f17 o6 = 0 := (by unfold dg; rw [hf17.efl m_o6 r_o6 (by decide +kernel)]; exact hz6)
  have hO : KO L R O (rfa f0 a0 12) f0 f17 := KO_fr hO hf17 (by decide +kernel)
  have hk : fr L R [(1, 0), (1, 1), (1, 2), (1, 3), (1, 5), (2, 2), (2, 3), (4, 1), (5, 4), (5, 5), (5, 6), (5, 7), (7, 5), (7, 6), (8, 1), (8, 2)] [1, 2, 4, 5, 7, 8, 23, 24, 25, 26, 27, 28, 29, 34, 51] f0 f17 := hk.tr hf17 rfl rfl
  have e18 : fld f17 a0 16 = .ref pst := (hf17.efl m_a0 r_a0 rfl).trans e15
  refine lv_aload_n F.1 F.2.1 dX7_meet_39 rfl (lv_at hl 3 rfl) ?_
  refine tw_iconst F dX7_meet_40 ki_m1 (fun z19 hz19 => ?_)
  refine p_7_31 F h m_a0 r_a0 dX7_meet_41 (fun f20 H locs e20p hf20 h => ?_)
  have hz5 : dg f20 o3 = 0 := (by unfold dg; rw [hf20.efl m_o3 r_o3 (by decide +kernel)]; exact hz5)
  have hz6 : dg f20 o6 = 0 := (by unfold dg; rw [hf20.efl m_o6 r_o6 (by decide +kernel)]; exact hz6)
  have hO : KO L R O (rfa f0 a0 12) f0 f20 := KO_fr hO hf20 (by decide +kernel)
  have hk : fr L R [(1, 0), (1, 1), (1, 2), (1, 3), (1, 5), (2, 2), (2, 3), (4, 1), (5, 4), (5, 5), (5, 6), (5, 7), (7, 5), (7, 6), (8, 1), (8, 2)] [1, 2, 4, 5, 7, 8, 23, 24, 25, 26, 27, 28, 29, 34, 51] f0 f20 := hk.tr hf20 rfl rfl
  have e21 : fld f20 a0 16 = .ref pst := (hf20.efl m_a0 r_a0 rfl).trans e18
  refine lv_aload_n F.1 F.2.1 dX7_meet_44 rfl (lv_at hl 3 rfl) ?_
  refine g_7_69 F h m_a0 r_a0 dX7_meet_45 (fun ho22 => absurd (ho22.symm.trans e21) (fun q => nomatch q)) (fun o22 m_o22 r_o22 ho22 => ?_)
  obtain rfl := (fld_inj e21 ho22).symm
  refine lv_ifnonnull (tgt := 62) F.1 F.2.1 dX7_meet_48 (by decide) ?_
  exact t_X7_meet (A0 := rfa f0 a0 12) (pst := pst) 0 0 F hZ (hG.fr hk (by decide +kernel) (by decide +kernel)) m_a0 r_a0 m_a1 r_a1 m_a2 r_a2 m_a3 r_a3 b4 m_o3 r_o3 m_o6 r_o6 m_o9 r_o9 so0.2.2 so1.2.2 hne (fun q => (pre2 (by rw [hk.efi m_a1 r_a1 (by decide +kernel)] at q; exact q)).fr hG.1 hk (by decide +kernel) (by decide +kernel) m_a1 r_a1) (fun q => (pre3 (by rw [hk.efi m_a2 r_a2 (by decide +kernel)] at q; exact q)).fr hG.1 hk (by decide +kernel) (by decide +kernel) m_a2 r_a2) (Or.inl hz5) (Or.inl hz6) m_pst r_pst e21 h (lv_sub hl [3, 4, 5, 6, 7, 2, 1, 0] rfl) (fun f1 H locs pc ls r q1 q2 q3 q4 => hret f1 H locs pc ls r q1 q2 ⟨hk.tr q3.1 (by decide +kernel) (by decide +kernel), hO.tr q3.2.1, q3.2.2.trans (e21.trans pre4.symm)⟩ q4)
