theorem dX6_copy_0 : decode cX6_copy 0 = .ok (.aload_n 0, 1) := by decide +kernel
theorem dX6_copy_1 : decode cX6_copy 1 = .ok (.aload_n 1, 1) := by decide +kernel
theorem dX6_copy_2 : decode cX6_copy 2 = .ok (.getfield 55, 3) := by decide +kernel
theorem dX6_copy_5 : decode cX6_copy 5 = .ok (.putfield 55, 3) := by decide +kernel
theorem dX6_copy_8 : decode cX6_copy 8 = .ok (.aload_n 0, 1) := by decide +kernel
theorem dX6_copy_9 : decode cX6_copy 9 = .ok (.aload_n 1, 1) := by decide +kernel
theorem dX6_copy_10 : decode cX6_copy 10 = .ok (.getfield 59, 3) := by decide +kernel
theorem dX6_copy_13 : decode cX6_copy 13 = .ok (.putfield 59, 3) := by decide +kernel
theorem dX6_copy_16 : decode cX6_copy 16 = .ok (.aload_n 0, 1) := by decide +kernel
theorem dX6_copy_17 : decode cX6_copy 17 = .ok (.aload_n 1, 1) := by decide +kernel
theorem dX6_copy_18 : decode cX6_copy 18 = .ok (.getfield 62, 3) := by decide +kernel
theorem dX6_copy_21 : decode cX6_copy 21 = .ok (.putfield 62, 3) := by decide +kernel
theorem dX6_copy_24 : decode cX6_copy 24 = .ok (.aload_n 0, 1) := by decide +kernel
theorem dX6_copy_25 : decode cX6_copy 25 = .ok (.aload_n 1, 1) := by decide +kernel
theorem dX6_copy_26 : decode cX6_copy 26 = .ok (.getfield 65, 3) := by decide +kernel
theorem dX6_copy_29 : decode cX6_copy 29 = .ok (.putfield 65, 3) := by decide +kernel
theorem dX6_copy_32 : decode cX6_copy 32 = .ok (.aload_n 0, 1) := by decide +kernel
theorem dX6_copy_33 : decode cX6_copy 33 = .ok (.aload_n 1, 1) := by decide +kernel
theorem dX6_copy_34 : decode cX6_copy 34 = .ok (.getfield 68, 3) := by decide +kernel
theorem dX6_copy_37 : decode cX6_copy 37 = .ok (.putfield 68, 3) := by decide +kernel
theorem dX6_copy_40 : decode cX6_copy 40 = .ok (.aload_n 1, 1) := by decide +kernel
theorem dX6_copy_41 : decode cX6_copy 41 = .ok (.getfield 9, 3) := by decide +kernel
theorem dX6_copy_44 : decode cX6_copy 44 = .ok (.iconst 0, 1) := by decide +kernel
theorem dX6_copy_45 : decode cX6_copy 45 = .ok (.aload_n 0, 1) := by decide +kernel
theorem dX6_copy_46 : decode cX6_copy 46 = .ok (.getfield 9, 3) := by decide +kernel
theorem dX6_copy_49 : decode cX6_copy 49 = .ok (.iconst 0, 1) := by decide +kernel
theorem dX6_copy_50 : decode cX6_copy 50 = .ok (.aload_n 0, 1) := by decide +kernel
theorem dX6_copy_51 : decode cX6_copy 51 = .ok (.getfield 55, 3) := by decide +kernel
theorem dX6_copy_54 : decode cX6_copy 54 = .ok (.invokestatic 71, 3) := by decide +kernel
section
variable {p : Program} {l : Launch} {e : Env} {R0 : Room} {s : State} {m : MethodId} {args : Array Value} {below : List Frame} {meth : Method} {c : Code} {H H0 : Heap} {locs : List Loc} {cells slots : Nat} {Q : State → Prop} {cc : ByteArray} {nL : Nat} {D : va_G} {cy : Nat → ClassId} {A : Nat → Prop} {L : List Nat} {R : Nat → Nat} {f : Nat → va_E} {pc : Nat} {ls : Array Slot} {rest : List Value} {a : Nat}
theorem cpe_35_35 {own : String} (F : CallFix p m c cc nL s args wsL_law own) (h : tS D cy A H0 L R (TT cy L R) f s H locs) (hsz : ls.size = nL) {index a0 : Nat} (m1 : Cond.methodLink own index arraycopyName ∈ wsL_law) (ha0 : a0 ∈ L) (hr0 : R a0 = 35) (ha : a ∈ L) (hr : R a = 35) {sp dp n : Int32} (hb : 0 ≤ sp.toInt ∧ 0 ≤ dp.toInt ∧ 0 ≤ n.toInt ∧ sp.toInt + n.toInt ≤ 600 ∧ dp.toInt + n.toInt ≤ 600) (hfr : 1 ≤ R0.frames) (hlo : (rest.map fun v => v.category).sum + (nativeFrameWords "java/lang/System" "arraycopy" 5 + 11) ≤ R0.locals) (hdg : decode cc pc = .ok (.invokestatic index, 3)) (kk : ∀ (f1 : Nat → va_E) (H1 : Heap) (locs1 : List Loc), (∀ j, elj f1 a j = if dp.toInt.toNat ≤ j ∧ j < dp.toInt.toNat + n.toInt.toNat then elj f a0 (sp.toInt.toNat + (j - dp.toInt.toNat)) else elj f a j) → (∀ a', a' ≠ a → f1 a' = f a') → fr L R [] [35] f f1 → tS D cy A H0 L R (TT cy L R) f1 s H1 locs1 → W p l e R0 s m args below meth c H1 locs1 cells slots Q (F0 m (pc + 3) ls (rest))) : W p l e R0 s m args below meth c H locs cells slots Q (F0 m pc ls (.int n :: .int dp :: .ref a :: .int sp :: .ref a0 :: rest)) := tu_cpyl F h hsz m1 mw_348 mw_349 mw_350 ha0 hr0 (fun e q => (T_35 e).mp q) ha hr T_35 (fun _ _ _ q => q) hb hfr hlo hdg (fun f1 H1 locs1 h1 h2 h3 h4 => kk f1 H1 locs1 h1 h2 h3 h4)
end
theorem mw_1570 : Cond.methodLink RX6 71 arraycopyName ∈ wsL_law := inr_66 _ (List.mem_of_getElem? (i := 10) rfl)
theorem dX6_copy_57 : decode cX6_copy 57 = .ok (.aload_n 1, 1) := by decide +kernel
theorem dX6_copy_58 : decode cX6_copy 58 = .ok (.getfield 15, 3) := by decide +kernel
theorem dX6_copy_61 : decode cX6_copy 61 = .ok (.iconst 0, 1) := by decide +kernel
theorem dX6_copy_62 : decode cX6_copy 62 = .ok (.aload_n 0, 1) := by decide +kernel
theorem dX6_copy_63 : decode cX6_copy 63 = .ok (.getfield 15, 3) := by decide +kernel
theorem dX6_copy_66 : decode cX6_copy 66 = .ok (.iconst 0, 1) := by decide +kernel
theorem dX6_copy_67 : decode cX6_copy 67 = .ok (.aload_n 0, 1) := by decide +kernel
theorem dX6_copy_68 : decode cX6_copy 68 = .ok (.getfield 59, 3) := by decide +kernel
theorem dX6_copy_71 : decode cX6_copy 71 = .ok (.invokestatic 71, 3) := by decide +kernel
theorem dX6_copy_74 : decode cX6_copy 74 = .ok (.aload_n 1, 1) := by decide +kernel
theorem dX6_copy_75 : decode cX6_copy 75 = .ok (.getfield 18, 3) := by decide +kernel
theorem dX6_copy_78 : decode cX6_copy 78 = .ok (.iconst 0, 1) := by decide +kernel
theorem dX6_copy_79 : decode cX6_copy 79 = .ok (.aload_n 0, 1) := by decide +kernel
theorem dX6_copy_80 : decode cX6_copy 80 = .ok (.getfield 18, 3) := by decide +kernel
theorem dX6_copy_83 : decode cX6_copy 83 = .ok (.iconst 0, 1) := by decide +kernel
theorem dX6_copy_84 : decode cX6_copy 84 = .ok (.aload_n 0, 1) := by decide +kernel
theorem dX6_copy_85 : decode cX6_copy 85 = .ok (.getfield 59, 3) := by decide +kernel
theorem dX6_copy_88 : decode cX6_copy 88 = .ok (.invokestatic 71, 3) := by decide +kernel
section
variable {p : Program} {l : Launch} {e : Env} {R0 : Room} {s : State} {m : MethodId} {args : Array Value} {below : List Frame} {meth : Method} {c : Code} {H H0 : Heap} {locs : List Loc} {cells slots : Nat} {Q : State → Prop} {cc : ByteArray} {nL : Nat} {D : va_G} {cy : Nat → ClassId} {A : Nat → Prop} {L : List Nat} {R : Nat → Nat} {f : Nat → va_E} {pc : Nat} {ls : Array Slot} {rest : List Value} {a : Nat}
theorem cp_36_36 {own : String} (F : CallFix p m c cc nL s args wsL_law own) (h : tS D cy A H0 L R (TT cy L R) f s H locs) (hsz : ls.size = nL) {index a0 : Nat} (m1 : Cond.methodLink own index arraycopyName ∈ wsL_law) (ha0 : a0 ∈ L) (hr0 : R a0 = 36) (ha : a ∈ L) (hr : R a = 36) {sp dp n : Int32} (hb : 0 ≤ sp.toInt ∧ 0 ≤ dp.toInt ∧ 0 ≤ n.toInt ∧ sp.toInt + n.toInt ≤ 12 ∧ dp.toInt + n.toInt ≤ 12) (hfr : 1 ≤ R0.frames) (hlo : (rest.map fun v => v.category).sum + (nativeFrameWords "java/lang/System" "arraycopy" 5 + 11) ≤ R0.locals) (hdg : decode cc pc = .ok (.invokestatic index, 3)) (kk : ∀ (f1 : Nat → va_E) (H1 : Heap) (locs1 : List Loc), fr L R [] [36] f f1 → tS D cy A H0 L R (TT cy L R) f1 s H1 locs1 → W p l e R0 s m args below meth c H1 locs1 cells slots Q (F0 m (pc + 3) ls (rest))) : W p l e R0 s m args below meth c H locs cells slots Q (F0 m pc ls (.int n :: .int dp :: .ref a :: .int sp :: .ref a0 :: rest)) := tu_cpyi F h hsz m1 mw_348 mw_349 mw_350 ha0 hr0 (fun e q => (T_36 e).mp q) ha hr T_36 (fun _ _ _ q => q) hb hfr hlo hdg (fun f1 H1 locs1 h1 h2 h3 h4 => kk f1 H1 locs1 h3 h4)
end
theorem dX6_copy_91 : decode cX6_copy 91 = .ok (.aload_n 1, 1) := by decide +kernel
theorem dX6_copy_92 : decode cX6_copy 92 = .ok (.getfield 22, 3) := by decide +kernel
theorem dX6_copy_95 : decode cX6_copy 95 = .ok (.iconst 0, 1) := by decide +kernel
theorem dX6_copy_96 : decode cX6_copy 96 = .ok (.aload_n 0, 1) := by decide +kernel
theorem dX6_copy_97 : decode cX6_copy 97 = .ok (.getfield 22, 3) := by decide +kernel
theorem dX6_copy_100 : decode cX6_copy 100 = .ok (.iconst 0, 1) := by decide +kernel
theorem dX6_copy_101 : decode cX6_copy 101 = .ok (.aload_n 0, 1) := by decide +kernel
theorem dX6_copy_102 : decode cX6_copy 102 = .ok (.getfield 59, 3) := by decide +kernel
theorem dX6_copy_105 : decode cX6_copy 105 = .ok (.invokestatic 71, 3) := by decide +kernel
section
variable {p : Program} {l : Launch} {e : Env} {R0 : Room} {s : State} {m : MethodId} {args : Array Value} {below : List Frame} {meth : Method} {c : Code} {H H0 : Heap} {locs : List Loc} {cells slots : Nat} {Q : State → Prop} {cc : ByteArray} {nL : Nat} {D : va_G} {cy : Nat → ClassId} {A : Nat → Prop} {L : List Nat} {R : Nat → Nat} {f : Nat → va_E} {pc : Nat} {ls : Array Slot} {rest : List Value} {a : Nat}
theorem cp_37_37 {own : String} (F : CallFix p m c cc nL s args wsL_law own) (h : tS D cy A H0 L R (TT cy L R) f s H locs) (hsz : ls.size = nL) {index a0 : Nat} (m1 : Cond.methodLink own index arraycopyName ∈ wsL_law) (ha0 : a0 ∈ L) (hr0 : R a0 = 37) (ha : a ∈ L) (hr : R a = 37) {sp dp n : Int32} (hb : 0 ≤ sp.toInt ∧ 0 ≤ dp.toInt ∧ 0 ≤ n.toInt ∧ sp.toInt + n.toInt ≤ 12 ∧ dp.toInt + n.toInt ≤ 12) (hfr : 1 ≤ R0.frames) (hlo : (rest.map fun v => v.category).sum + (nativeFrameWords "java/lang/System" "arraycopy" 5 + 11) ≤ R0.locals) (hdg : decode cc pc = .ok (.invokestatic index, 3)) (kk : ∀ (f1 : Nat → va_E) (H1 : Heap) (locs1 : List Loc), fr L R [] [37] f f1 → tS D cy A H0 L R (TT cy L R) f1 s H1 locs1 → W p l e R0 s m args below meth c H1 locs1 cells slots Q (F0 m (pc + 3) ls (rest))) : W p l e R0 s m args below meth c H locs cells slots Q (F0 m pc ls (.int n :: .int dp :: .ref a :: .int sp :: .ref a0 :: rest)) := tu_cpyi F h hsz m1 mw_348 mw_349 mw_350 ha0 hr0 (fun e q => (T_37 e).mp q) ha hr T_37 (fun _ _ _ q => q) hb hfr hlo hdg (fun f1 H1 locs1 h1 h2 h3 h4 => kk f1 H1 locs1 h3 h4)
end
theorem dX6_copy_108 : decode cX6_copy 108 = .ok (.aload_n 1, 1) := by decide +kernel
theorem dX6_copy_109 : decode cX6_copy 109 = .ok (.getfield 25, 3) := by decide +kernel
theorem dX6_copy_112 : decode cX6_copy 112 = .ok (.iconst 0, 1) := by decide +kernel
theorem dX6_copy_113 : decode cX6_copy 113 = .ok (.aload_n 0, 1) := by decide +kernel
theorem dX6_copy_114 : decode cX6_copy 114 = .ok (.getfield 25, 3) := by decide +kernel
theorem dX6_copy_117 : decode cX6_copy 117 = .ok (.iconst 0, 1) := by decide +kernel
theorem dX6_copy_118 : decode cX6_copy 118 = .ok (.aload_n 0, 1) := by decide +kernel
theorem dX6_copy_119 : decode cX6_copy 119 = .ok (.getfield 59, 3) := by decide +kernel
theorem dX6_copy_122 : decode cX6_copy 122 = .ok (.invokestatic 71, 3) := by decide +kernel
theorem dX6_copy_125 : decode cX6_copy 125 = .ok (.aload_n 1, 1) := by decide +kernel
theorem dX6_copy_126 : decode cX6_copy 126 = .ok (.getfield 28, 3) := by decide +kernel
theorem dX6_copy_129 : decode cX6_copy 129 = .ok (.iconst 0, 1) := by decide +kernel
theorem dX6_copy_130 : decode cX6_copy 130 = .ok (.aload_n 0, 1) := by decide +kernel
theorem dX6_copy_131 : decode cX6_copy 131 = .ok (.getfield 28, 3) := by decide +kernel
theorem dX6_copy_134 : decode cX6_copy 134 = .ok (.iconst 0, 1) := by decide +kernel
theorem dX6_copy_135 : decode cX6_copy 135 = .ok (.aload_n 0, 1) := by decide +kernel
theorem dX6_copy_136 : decode cX6_copy 136 = .ok (.getfield 62, 3) := by decide +kernel
theorem dX6_copy_139 : decode cX6_copy 139 = .ok (.invokestatic 71, 3) := by decide +kernel
theorem dX6_copy_142 : decode cX6_copy 142 = .ok (.aload_n 1, 1) := by decide +kernel
theorem dX6_copy_143 : decode cX6_copy 143 = .ok (.getfield 31, 3) := by decide +kernel
theorem dX6_copy_146 : decode cX6_copy 146 = .ok (.iconst 0, 1) := by decide +kernel
theorem dX6_copy_147 : decode cX6_copy 147 = .ok (.aload_n 0, 1) := by decide +kernel
theorem dX6_copy_148 : decode cX6_copy 148 = .ok (.getfield 31, 3) := by decide +kernel
theorem dX6_copy_151 : decode cX6_copy 151 = .ok (.iconst 0, 1) := by decide +kernel
theorem dX6_copy_152 : decode cX6_copy 152 = .ok (.aload_n 0, 1) := by decide +kernel
theorem dX6_copy_153 : decode cX6_copy 153 = .ok (.getfield 62, 3) := by decide +kernel
theorem dX6_copy_156 : decode cX6_copy 156 = .ok (.invokestatic 71, 3) := by decide +kernel
theorem dX6_copy_159 : decode cX6_copy 159 = .ok (.aload_n 1, 1) := by decide +kernel
theorem dX6_copy_160 : decode cX6_copy 160 = .ok (.getfield 34, 3) := by decide +kernel
theorem dX6_copy_163 : decode cX6_copy 163 = .ok (.iconst 0, 1) := by decide +kernel
theorem dX6_copy_164 : decode cX6_copy 164 = .ok (.aload_n 0, 1) := by decide +kernel
theorem dX6_copy_165 : decode cX6_copy 165 = .ok (.getfield 34, 3) := by decide +kernel
theorem dX6_copy_168 : decode cX6_copy 168 = .ok (.iconst 0, 1) := by decide +kernel
theorem dX6_copy_169 : decode cX6_copy 169 = .ok (.aload_n 0, 1) := by decide +kernel
theorem dX6_copy_170 : decode cX6_copy 170 = .ok (.getfield 65, 3) := by decide +kernel
theorem dX6_copy_173 : decode cX6_copy 173 = .ok (.invokestatic 71, 3) := by decide +kernel
section
variable {p : Program} {l : Launch} {e : Env} {R0 : Room} {s : State} {m : MethodId} {args : Array Value} {below : List Frame} {meth : Method} {c : Code} {H H0 : Heap} {locs : List Loc} {cells slots : Nat} {Q : State → Prop} {cc : ByteArray} {nL : Nat} {D : va_G} {cy : Nat → ClassId} {A : Nat → Prop} {L : List Nat} {R : Nat → Nat} {f : Nat → va_E} {pc : Nat} {ls : Array Slot} {rest : List Value} {a : Nat}
theorem cp_38_38 {own : String} (F : CallFix p m c cc nL s args wsL_law own) (h : tS D cy A H0 L R (TT cy L R) f s H locs) (hsz : ls.size = nL) {index a0 : Nat} (m1 : Cond.methodLink own index arraycopyName ∈ wsL_law) (ha0 : a0 ∈ L) (hr0 : R a0 = 38) (ha : a ∈ L) (hr : R a = 38) {sp dp n : Int32} (hb : 0 ≤ sp.toInt ∧ 0 ≤ dp.toInt ∧ 0 ≤ n.toInt ∧ sp.toInt + n.toInt ≤ 24 ∧ dp.toInt + n.toInt ≤ 24) (hfr : 1 ≤ R0.frames) (hlo : (rest.map fun v => v.category).sum + (nativeFrameWords "java/lang/System" "arraycopy" 5 + 11) ≤ R0.locals) (hdg : decode cc pc = .ok (.invokestatic index, 3)) (kk : ∀ (f1 : Nat → va_E) (H1 : Heap) (locs1 : List Loc), fr L R [] [38] f f1 → tS D cy A H0 L R (TT cy L R) f1 s H1 locs1 → W p l e R0 s m args below meth c H1 locs1 cells slots Q (F0 m (pc + 3) ls (rest))) : W p l e R0 s m args below meth c H locs cells slots Q (F0 m pc ls (.int n :: .int dp :: .ref a :: .int sp :: .ref a0 :: rest)) := tu_cpyi F h hsz m1 mw_348 mw_349 mw_350 ha0 hr0 (fun e q => (T_38 e).mp q) ha hr T_38 (fun _ _ _ q => q) hb hfr hlo hdg (fun f1 H1 locs1 h1 h2 h3 h4 => kk f1 H1 locs1 h3 h4)
end
theorem dX6_copy_176 : decode cX6_copy 176 = .ok (.aload_n 1, 1) := by decide +kernel
theorem dX6_copy_177 : decode cX6_copy 177 = .ok (.getfield 37, 3) := by decide +kernel
theorem dX6_copy_180 : decode cX6_copy 180 = .ok (.iconst 0, 1) := by decide +kernel
theorem dX6_copy_181 : decode cX6_copy 181 = .ok (.aload_n 0, 1) := by decide +kernel
theorem dX6_copy_182 : decode cX6_copy 182 = .ok (.getfield 37, 3) := by decide +kernel
theorem dX6_copy_185 : decode cX6_copy 185 = .ok (.iconst 0, 1) := by decide +kernel
theorem dX6_copy_186 : decode cX6_copy 186 = .ok (.aload_n 0, 1) := by decide +kernel
theorem dX6_copy_187 : decode cX6_copy 187 = .ok (.getfield 65, 3) := by decide +kernel
theorem dX6_copy_190 : decode cX6_copy 190 = .ok (.invokestatic 71, 3) := by decide +kernel
section
variable {p : Program} {l : Launch} {e : Env} {R0 : Room} {s : State} {m : MethodId} {args : Array Value} {below : List Frame} {meth : Method} {c : Code} {H H0 : Heap} {locs : List Loc} {cells slots : Nat} {Q : State → Prop} {cc : ByteArray} {nL : Nat} {D : va_G} {cy : Nat → ClassId} {A : Nat → Prop} {L : List Nat} {R : Nat → Nat} {f : Nat → va_E} {pc : Nat} {ls : Array Slot} {rest : List Value} {a : Nat}
theorem cpe_39_39 {own : String} (F : CallFix p m c cc nL s args wsL_law own) (h : tS D cy A H0 L R (TT cy L R) f s H locs) (hsz : ls.size = nL) {index a0 : Nat} (m1 : Cond.methodLink own index arraycopyName ∈ wsL_law) (ha0 : a0 ∈ L) (hr0 : R a0 = 39) (ha : a ∈ L) (hr : R a = 39) {sp dp n : Int32} (hb : 0 ≤ sp.toInt ∧ 0 ≤ dp.toInt ∧ 0 ≤ n.toInt ∧ sp.toInt + n.toInt ≤ 24 ∧ dp.toInt + n.toInt ≤ 24) (hfr : 1 ≤ R0.frames) (hlo : (rest.map fun v => v.category).sum + (nativeFrameWords "java/lang/System" "arraycopy" 5 + 11) ≤ R0.locals) (hdg : decode cc pc = .ok (.invokestatic index, 3)) (kk : ∀ (f1 : Nat → va_E) (H1 : Heap) (locs1 : List Loc), (∀ j, eli f1 a j = if dp.toInt.toNat ≤ j ∧ j < dp.toInt.toNat + n.toInt.toNat then eli f a0 (sp.toInt.toNat + (j - dp.toInt.toNat)) else eli f a j) → (∀ a', a' ≠ a → f1 a' = f a') → fr L R [] [39] f f1 → tS D cy A H0 L R (TT cy L R) f1 s H1 locs1 → W p l e R0 s m args below meth c H1 locs1 cells slots Q (F0 m (pc + 3) ls (rest))) : W p l e R0 s m args below meth c H locs cells slots Q (F0 m pc ls (.int n :: .int dp :: .ref a :: .int sp :: .ref a0 :: rest)) := tu_cpyi F h hsz m1 mw_348 mw_349 mw_350 ha0 hr0 (fun e q => (T_39 e).mp q) ha hr T_39 (fun _ _ _ q => q) hb hfr hlo hdg (fun f1 H1 locs1 h1 h2 h3 h4 => kk f1 H1 locs1 h1 h2 h3 h4)
end
theorem dX6_copy_193 : decode cX6_copy 193 = .ok (.aload_n 1, 1) := by decide +kernel
theorem dX6_copy_194 : decode cX6_copy 194 = .ok (.getfield 40, 3) := by decide +kernel
theorem dX6_copy_197 : decode cX6_copy 197 = .ok (.iconst 0, 1) := by decide +kernel
theorem dX6_copy_198 : decode cX6_copy 198 = .ok (.aload_n 0, 1) := by decide +kernel
theorem dX6_copy_199 : decode cX6_copy 199 = .ok (.getfield 40, 3) := by decide +kernel
theorem dX6_copy_202 : decode cX6_copy 202 = .ok (.iconst 0, 1) := by decide +kernel
theorem dX6_copy_203 : decode cX6_copy 203 = .ok (.aload_n 0, 1) := by decide +kernel
theorem dX6_copy_204 : decode cX6_copy 204 = .ok (.getfield 65, 3) := by decide +kernel
theorem dX6_copy_207 : decode cX6_copy 207 = .ok (.invokestatic 71, 3) := by decide +kernel
section
variable {p : Program} {l : Launch} {e : Env} {R0 : Room} {s : State} {m : MethodId} {args : Array Value} {below : List Frame} {meth : Method} {c : Code} {H H0 : Heap} {locs : List Loc} {cells slots : Nat} {Q : State → Prop} {cc : ByteArray} {nL : Nat} {D : va_G} {cy : Nat → ClassId} {A : Nat → Prop} {L : List Nat} {R : Nat → Nat} {f : Nat → va_E} {pc : Nat} {ls : Array Slot} {rest : List Value} {a : Nat}
theorem cpe_40_40 {own : String} (F : CallFix p m c cc nL s args wsL_law own) (h : tS D cy A H0 L R (TT cy L R) f s H locs) (hsz : ls.size = nL) {index a0 : Nat} (m1 : Cond.methodLink own index arraycopyName ∈ wsL_law) (ha0 : a0 ∈ L) (hr0 : R a0 = 40) (ha : a ∈ L) (hr : R a = 40) {sp dp n : Int32} (hb : 0 ≤ sp.toInt ∧ 0 ≤ dp.toInt ∧ 0 ≤ n.toInt ∧ sp.toInt + n.toInt ≤ 24 ∧ dp.toInt + n.toInt ≤ 24) (hfr : 1 ≤ R0.frames) (hlo : (rest.map fun v => v.category).sum + (nativeFrameWords "java/lang/System" "arraycopy" 5 + 11) ≤ R0.locals) (hdg : decode cc pc = .ok (.invokestatic index, 3)) (kk : ∀ (f1 : Nat → va_E) (H1 : Heap) (locs1 : List Loc), (∀ j, eli f1 a j = if dp.toInt.toNat ≤ j ∧ j < dp.toInt.toNat + n.toInt.toNat then eli f a0 (sp.toInt.toNat + (j - dp.toInt.toNat)) else eli f a j) → (∀ a', a' ≠ a → f1 a' = f a') → fr L R [] [40] f f1 → tS D cy A H0 L R (TT cy L R) f1 s H1 locs1 → W p l e R0 s m args below meth c H1 locs1 cells slots Q (F0 m (pc + 3) ls (rest))) : W p l e R0 s m args below meth c H locs cells slots Q (F0 m pc ls (.int n :: .int dp :: .ref a :: .int sp :: .ref a0 :: rest)) := tu_cpyi F h hsz m1 mw_348 mw_349 mw_350 ha0 hr0 (fun e q => (T_40 e).mp q) ha hr T_40 (fun _ _ _ q => q) hb hfr hlo hdg (fun f1 H1 locs1 h1 h2 h3 h4 => kk f1 H1 locs1 h1 h2 h3 h4)
end
theorem dX6_copy_210 : decode cX6_copy 210 = .ok (.aload_n 1, 1) := by decide +kernel
theorem dX6_copy_211 : decode cX6_copy 211 = .ok (.getfield 43, 3) := by decide +kernel
theorem dX6_copy_214 : decode cX6_copy 214 = .ok (.iconst 0, 1) := by decide +kernel
theorem dX6_copy_215 : decode cX6_copy 215 = .ok (.aload_n 0, 1) := by decide +kernel
theorem dX6_copy_216 : decode cX6_copy 216 = .ok (.getfield 43, 3) := by decide +kernel
theorem dX6_copy_219 : decode cX6_copy 219 = .ok (.iconst 0, 1) := by decide +kernel
theorem dX6_copy_220 : decode cX6_copy 220 = .ok (.aload_n 0, 1) := by decide +kernel
theorem dX6_copy_221 : decode cX6_copy 221 = .ok (.getfield 43, 3) := by decide +kernel
theorem dX6_copy_224 : decode cX6_copy 224 = .ok (.arraylength, 1) := by decide +kernel
theorem dX6_copy_225 : decode cX6_copy 225 = .ok (.invokestatic 71, 3) := by decide +kernel
section
variable {p : Program} {l : Launch} {e : Env} {R0 : Room} {s : State} {m : MethodId} {args : Array Value} {below : List Frame} {meth : Method} {c : Code} {H H0 : Heap} {locs : List Loc} {cells slots : Nat} {Q : State → Prop} {cc : ByteArray} {nL : Nat} {D : va_G} {cy : Nat → ClassId} {A : Nat → Prop} {L : List Nat} {R : Nat → Nat} {f : Nat → va_E} {pc : Nat} {ls : Array Slot} {rest : List Value} {a : Nat}
theorem cpe_41_41 {own : String} (F : CallFix p m c cc nL s args wsL_law own) (h : tS D cy A H0 L R (TT cy L R) f s H locs) (hsz : ls.size = nL) {index a0 : Nat} (m1 : Cond.methodLink own index arraycopyName ∈ wsL_law) (ha0 : a0 ∈ L) (hr0 : R a0 = 41) (ha : a ∈ L) (hr : R a = 41) {sp dp n : Int32} (hb : 0 ≤ sp.toInt ∧ 0 ≤ dp.toInt ∧ 0 ≤ n.toInt ∧ sp.toInt + n.toInt ≤ 25 ∧ dp.toInt + n.toInt ≤ 25) (hfr : 1 ≤ R0.frames) (hlo : (rest.map fun v => v.category).sum + (nativeFrameWords "java/lang/System" "arraycopy" 5 + 11) ≤ R0.locals) (hdg : decode cc pc = .ok (.invokestatic index, 3)) (kk : ∀ (f1 : Nat → va_E) (H1 : Heap) (locs1 : List Loc), (∀ j, eli f1 a j = if dp.toInt.toNat ≤ j ∧ j < dp.toInt.toNat + n.toInt.toNat then eli f a0 (sp.toInt.toNat + (j - dp.toInt.toNat)) else eli f a j) → (∀ a', a' ≠ a → f1 a' = f a') → fr L R [] [41] f f1 → tS D cy A H0 L R (TT cy L R) f1 s H1 locs1 → W p l e R0 s m args below meth c H1 locs1 cells slots Q (F0 m (pc + 3) ls (rest))) : W p l e R0 s m args below meth c H locs cells slots Q (F0 m pc ls (.int n :: .int dp :: .ref a :: .int sp :: .ref a0 :: rest)) := tu_cpyi F h hsz m1 mw_348 mw_349 mw_350 ha0 hr0 (fun e q => (T_41 e).mp q) ha hr T_41 (fun _ _ _ q => q) hb hfr hlo hdg (fun f1 H1 locs1 h1 h2 h3 h4 => kk f1 H1 locs1 h1 h2 h3 h4)
end
theorem dX6_copy_228 : decode cX6_copy 228 = .ok (.aload_n 1, 1) := by decide +kernel
theorem dX6_copy_229 : decode cX6_copy 229 = .ok (.getfield 46, 3) := by decide +kernel
theorem dX6_copy_232 : decode cX6_copy 232 = .ok (.iconst 0, 1) := by decide +kernel
theorem dX6_copy_233 : decode cX6_copy 233 = .ok (.aload_n 0, 1) := by decide +kernel
theorem dX6_copy_234 : decode cX6_copy 234 = .ok (.getfield 46, 3) := by decide +kernel
theorem dX6_copy_237 : decode cX6_copy 237 = .ok (.iconst 0, 1) := by decide +kernel
theorem dX6_copy_238 : decode cX6_copy 238 = .ok (.bipush 100, 2) := by decide +kernel
theorem dX6_copy_240 : decode cX6_copy 240 = .ok (.invokestatic 71, 3) := by decide +kernel
section
variable {p : Program} {l : Launch} {e : Env} {R0 : Room} {s : State} {m : MethodId} {args : Array Value} {below : List Frame} {meth : Method} {c : Code} {H H0 : Heap} {locs : List Loc} {cells slots : Nat} {Q : State → Prop} {cc : ByteArray} {nL : Nat} {D : va_G} {cy : Nat → ClassId} {A : Nat → Prop} {L : List Nat} {R : Nat → Nat} {f : Nat → va_E} {pc : Nat} {ls : Array Slot} {rest : List Value} {a : Nat}
theorem cpe_42_42 {own : String} (F : CallFix p m c cc nL s args wsL_law own) (h : tS D cy A H0 L R (TT cy L R) f s H locs) (hsz : ls.size = nL) {index a0 : Nat} (m1 : Cond.methodLink own index arraycopyName ∈ wsL_law) (ha0 : a0 ∈ L) (hr0 : R a0 = 42) (ha : a ∈ L) (hr : R a = 42) {sp dp n : Int32} (hb : 0 ≤ sp.toInt ∧ 0 ≤ dp.toInt ∧ 0 ≤ n.toInt ∧ sp.toInt + n.toInt ≤ 100 ∧ dp.toInt + n.toInt ≤ 100) (hfr : 1 ≤ R0.frames) (hlo : (rest.map fun v => v.category).sum + (nativeFrameWords "java/lang/System" "arraycopy" 5 + 11) ≤ R0.locals) (hdg : decode cc pc = .ok (.invokestatic index, 3)) (kk : ∀ (f1 : Nat → va_E) (H1 : Heap) (locs1 : List Loc), (∀ j, eli f1 a j = if dp.toInt.toNat ≤ j ∧ j < dp.toInt.toNat + n.toInt.toNat then eli f a0 (sp.toInt.toNat + (j - dp.toInt.toNat)) else eli f a j) → (∀ a', a' ≠ a → f1 a' = f a') → fr L R [] [42] f f1 → tS D cy A H0 L R (TT cy L R) f1 s H1 locs1 → W p l e R0 s m args below meth c H1 locs1 cells slots Q (F0 m (pc + 3) ls (rest))) : W p l e R0 s m args below meth c H locs cells slots Q (F0 m pc ls (.int n :: .int dp :: .ref a :: .int sp :: .ref a0 :: rest)) := tu_cpyi F h hsz m1 mw_348 mw_349 mw_350 ha0 hr0 (fun e q => (T_42 e).mp q) ha hr T_42 (fun _ _ _ q => q) hb hfr hlo hdg (fun f1 H1 locs1 h1 h2 h3 h4 => kk f1 H1 locs1 h1 h2 h3 h4)
end
theorem dX6_copy_243 : decode cX6_copy 243 = .ok (.aload_n 1, 1) := by decide +kernel
theorem dX6_copy_244 : decode cX6_copy 244 = .ok (.getfield 49, 3) := by decide +kernel
theorem dX6_copy_247 : decode cX6_copy 247 = .ok (.iconst 0, 1) := by decide +kernel
theorem dX6_copy_248 : decode cX6_copy 248 = .ok (.aload_n 0, 1) := by decide +kernel
theorem dX6_copy_249 : decode cX6_copy 249 = .ok (.getfield 49, 3) := by decide +kernel
theorem dX6_copy_252 : decode cX6_copy 252 = .ok (.iconst 0, 1) := by decide +kernel
theorem dX6_copy_253 : decode cX6_copy 253 = .ok (.bipush 100, 2) := by decide +kernel
theorem dX6_copy_255 : decode cX6_copy 255 = .ok (.invokestatic 71, 3) := by decide +kernel
section
variable {p : Program} {l : Launch} {e : Env} {R0 : Room} {s : State} {m : MethodId} {args : Array Value} {below : List Frame} {meth : Method} {c : Code} {H H0 : Heap} {locs : List Loc} {cells slots : Nat} {Q : State → Prop} {cc : ByteArray} {nL : Nat} {D : va_G} {cy : Nat → ClassId} {A : Nat → Prop} {L : List Nat} {R : Nat → Nat} {f : Nat → va_E} {pc : Nat} {ls : Array Slot} {rest : List Value} {a : Nat}
theorem cpe_43_43 {own : String} (F : CallFix p m c cc nL s args wsL_law own) (h : tS D cy A H0 L R (TT cy L R) f s H locs) (hsz : ls.size = nL) {index a0 : Nat} (m1 : Cond.methodLink own index arraycopyName ∈ wsL_law) (ha0 : a0 ∈ L) (hr0 : R a0 = 43) (ha : a ∈ L) (hr : R a = 43) {sp dp n : Int32} (hb : 0 ≤ sp.toInt ∧ 0 ≤ dp.toInt ∧ 0 ≤ n.toInt ∧ sp.toInt + n.toInt ≤ 100 ∧ dp.toInt + n.toInt ≤ 100) (hfr : 1 ≤ R0.frames) (hlo : (rest.map fun v => v.category).sum + (nativeFrameWords "java/lang/System" "arraycopy" 5 + 11) ≤ R0.locals) (hdg : decode cc pc = .ok (.invokestatic index, 3)) (kk : ∀ (f1 : Nat → va_E) (H1 : Heap) (locs1 : List Loc), (∀ j, eli f1 a j = if dp.toInt.toNat ≤ j ∧ j < dp.toInt.toNat + n.toInt.toNat then eli f a0 (sp.toInt.toNat + (j - dp.toInt.toNat)) else eli f a j) → (∀ a', a' ≠ a → f1 a' = f a') → fr L R [] [43] f f1 → tS D cy A H0 L R (TT cy L R) f1 s H1 locs1 → W p l e R0 s m args below meth c H1 locs1 cells slots Q (F0 m (pc + 3) ls (rest))) : W p l e R0 s m args below meth c H locs cells slots Q (F0 m pc ls (.int n :: .int dp :: .ref a :: .int sp :: .ref a0 :: rest)) := tu_cpyi F h hsz m1 mw_348 mw_349 mw_350 ha0 hr0 (fun e q => (T_43 e).mp q) ha hr T_43 (fun _ _ _ q => q) hb hfr hlo hdg (fun f1 H1 locs1 h1 h2 h3 h4 => kk f1 H1 locs1 h1 h2 h3 h4)
end
theorem dX6_copy_258 : decode cX6_copy 258 = .ok (.aload_n 1, 1) := by decide +kernel
theorem dX6_copy_259 : decode cX6_copy 259 = .ok (.getfield 52, 3) := by decide +kernel
theorem dX6_copy_262 : decode cX6_copy 262 = .ok (.iconst 0, 1) := by decide +kernel
theorem dX6_copy_263 : decode cX6_copy 263 = .ok (.aload_n 0, 1) := by decide +kernel
theorem dX6_copy_264 : decode cX6_copy 264 = .ok (.getfield 52, 3) := by decide +kernel
theorem dX6_copy_267 : decode cX6_copy 267 = .ok (.iconst 0, 1) := by decide +kernel
theorem dX6_copy_268 : decode cX6_copy 268 = .ok (.bipush 100, 2) := by decide +kernel
theorem dX6_copy_270 : decode cX6_copy 270 = .ok (.invokestatic 71, 3) := by decide +kernel
section
variable {p : Program} {l : Launch} {e : Env} {R0 : Room} {s : State} {m : MethodId} {args : Array Value} {below : List Frame} {meth : Method} {c : Code} {H H0 : Heap} {locs : List Loc} {cells slots : Nat} {Q : State → Prop} {cc : ByteArray} {nL : Nat} {D : va_G} {cy : Nat → ClassId} {A : Nat → Prop} {L : List Nat} {R : Nat → Nat} {f : Nat → va_E} {pc : Nat} {ls : Array Slot} {rest : List Value} {a : Nat}
theorem cpe_44_44 {own : String} (F : CallFix p m c cc nL s args wsL_law own) (h : tS D cy A H0 L R (TT cy L R) f s H locs) (hsz : ls.size = nL) {index a0 : Nat} (m1 : Cond.methodLink own index arraycopyName ∈ wsL_law) (ha0 : a0 ∈ L) (hr0 : R a0 = 44) (ha : a ∈ L) (hr : R a = 44) {sp dp n : Int32} (hb : 0 ≤ sp.toInt ∧ 0 ≤ dp.toInt ∧ 0 ≤ n.toInt ∧ sp.toInt + n.toInt ≤ 100 ∧ dp.toInt + n.toInt ≤ 100) (hfr : 1 ≤ R0.frames) (hlo : (rest.map fun v => v.category).sum + (nativeFrameWords "java/lang/System" "arraycopy" 5 + 11) ≤ R0.locals) (hdg : decode cc pc = .ok (.invokestatic index, 3)) (kk : ∀ (f1 : Nat → va_E) (H1 : Heap) (locs1 : List Loc), (∀ j, eli f1 a j = if dp.toInt.toNat ≤ j ∧ j < dp.toInt.toNat + n.toInt.toNat then eli f a0 (sp.toInt.toNat + (j - dp.toInt.toNat)) else eli f a j) → (∀ a', a' ≠ a → f1 a' = f a') → fr L R [] [44] f f1 → tS D cy A H0 L R (TT cy L R) f1 s H1 locs1 → W p l e R0 s m args below meth c H1 locs1 cells slots Q (F0 m (pc + 3) ls (rest))) : W p l e R0 s m args below meth c H locs cells slots Q (F0 m pc ls (.int n :: .int dp :: .ref a :: .int sp :: .ref a0 :: rest)) := tu_cpyi F h hsz m1 mw_348 mw_349 mw_350 ha0 hr0 (fun e q => (T_44 e).mp q) ha hr T_44 (fun _ _ _ q => q) hb hfr hlo hdg (fun f1 H1 locs1 h1 h2 h3 h4 => kk f1 H1 locs1 h1 h2 h3 h4)
end
theorem dX6_copy_273 : decode cX6_copy 273 = .ok (.return_, 1) := by decide +kernel
def rm_X6_copy : Room := { frames := 1, cells := 0, slots := 0, locals := 40 }
set_option maxHeartbeats 4000000 in
set_option maxRecDepth 100000 in
theorem s_X6_copy (l : Launch) (D : va_G) (cy : Nat → ClassId) (L : List Nat) (R O : Nat → Nat) (f0 : Nat → va_E) (hG : GG L R O f0) (a0 : Nat) (m_a0 : a0 ∈ L) (r_a0 : R a0 = 6) (a1 : Nat) (m_a1 : a1 ∈ L) (r_a1 : R a1 = 6) : ∀ sz, Met l yX6_copy (Cond.code yX6_copy cX6_copy 2 none :: wsL_law) rm_X6_copy (va_Pc [.ref a0, .ref a1] (tPZ D cy L R (TT cy L R) f0 sz)) (va_Qv (fun f1 => fr L R [(6, 14), (6, 15), (6, 16), (6, 17), (6, 18)] [6, 23, 35, 36, 37, 38, 39, 40, 41, 42, 43, 44] f0 f1 ∧ GG L R O f1 ∧ OB L R O a0 f0 f1 ∧ (AC2 f0 a1 → AC2 f1 a0) ∧ AC0 f1 a0 = AC0 f0 a1) (tB D (tA L sz) L R (TT cy L R)) (tA L sz)) 0 0 (tA L sz) := by
  refine tw_enterv (by decide +kernel) rfl (Nat.le_of_ble_eq_true rfl) ?_
  intro p e s m below meth c A ls args Q F hZ h hl hret
  have hl : lv_has ls 2 [(0, .ref a0), (1, .ref a1)] := hl
  have hk : fr L R [(6, 14), (6, 15), (6, 16), (6, 17), (6, 18)] [6, 23, 35, 36, 37, 38, 39, 40, 41, 42, 43, 44] f0 f0 := fr.rf
  have t_a0_partCount := h.bfi m_a0 r_a0 (fun e q => (T_6 e).mp q) (k := 14) rfl
  have t_a0_ruleCount := h.bfi m_a0 r_a0 (fun e q => (T_6 e).mp q) (k := 17) rfl
  have t_a1_partCount := h.bfi m_a1 r_a1 (fun e q => (T_6 e).mp q) (k := 14) rfl
  have t_a1_ruleCount := h.bfi m_a1 r_a1 (fun e q => (T_6 e).mp q) (k := 17) rfl
  have hG0 := hG
  have hC : CI L R O a0 a1 f0 f0 (fun _ => 0) := CI_rf hG.1
  have k10 := (hG.1 a1 m_a1 r_a1).2 10 sk10
  have a4 : AC0 f0 a1 ≤ 4 := (tS_eli h k10.2.1 (show R (rfa f0 a1 10) = 41 from k10.2.2.1) (fun e q => (T_41 e).mp q) (j := 0) (by decide)).2
  refine lv_aload_n F.1 F.2.1 dX6_copy_0 rfl (lv_at hl 0 rfl) ?_
  refine lv_aload_n F.1 F.2.1 dX6_copy_1 rfl (lv_at hl 1 rfl) ?_
  refine g_6_55 F h m_a1 r_a1 dX6_copy_2 (fun v1 hv1 hv1a hv1b => ?_)
  refine pe_6_55 F h m_a0 r_a0 (by omega) dX6_copy_5 (fun f2 H locs e2pq e2po hf2 h => ?_)
  have e2p : fi f2 a0 14 = v1.toInt := by unfold fi; rw [e2pq]; rfl
  have hC : CI L R O a0 a1 f0 f2 (fun _ => 0) := CI_put hC hf2 e2po rfl m_a0 r_a0
  have hG : GG L R O f2 := hG.fr hf2 (by decide +kernel) (by decide +kernel)
  have hk : fr L R [(6, 14), (6, 15), (6, 16), (6, 17), (6, 18)] [6, 23, 35, 36, 37, 38, 39, 40, 41, 42, 43, 44] f0 f2 := hk.tr hf2 rfl rfl
  have e3 : fi f2 a0 17 = fi f0 a0 17 := hf2.efi m_a0 r_a0 rfl
  have e4 : fi f2 a0 18 = fi f0 a0 18 := hf2.efi m_a0 r_a0 rfl
  have e5 : fi f2 a1 17 = fi f0 a1 17 := hf2.efi m_a1 r_a1 rfl
  have e6 : fi f2 a1 18 = fi f0 a1 18 := hf2.efi m_a1 r_a1 rfl
  refine lv_aload_n F.1 F.2.1 dX6_copy_8 rfl (lv_at hl 0 rfl) ?_
  refine lv_aload_n F.1 F.2.1 dX6_copy_9 rfl (lv_at hl 1 rfl) ?_
  refine g_6_59 F h m_a1 r_a1 dX6_copy_10 (fun v7 hv7 hv7a hv7b => ?_)
  refine pe_6_59 F h m_a0 r_a0 (by omega) dX6_copy_13 (fun f8 H locs e8pq e8po hf8 h => ?_)
  have e8p : fi f8 a0 15 = v7.toInt := by unfold fi; rw [e8pq]; rfl
  have hC : CI L R O a0 a1 f0 f8 (fun _ => 0) := CI_put hC hf8 e8po rfl m_a0 r_a0
  have hG : GG L R O f8 := hG.fr hf8 (by decide +kernel) (by decide +kernel)
  have hk : fr L R [(6, 14), (6, 15), (6, 16), (6, 17), (6, 18)] [6, 23, 35, 36, 37, 38, 39, 40, 41, 42, 43, 44] f0 f8 := hk.tr hf8 rfl rfl
  have e9 : fi f8 a0 17 = fi f2 a0 17 := hf8.efi m_a0 r_a0 rfl
  have e10 : fi f8 a0 18 = fi f2 a0 18 := hf8.efi m_a0 r_a0 rfl
  have e11 : fi f8 a1 14 = fi f2 a1 14 := hf8.efi m_a1 r_a1 rfl
  have e12 : fi f8 a1 17 = fi f2 a1 17 := hf8.efi m_a1 r_a1 rfl
  have e13 : fi f8 a1 18 = fi f2 a1 18 := hf8.efi m_a1 r_a1 rfl
  have e14 : fi f8 a0 14 = fi f2 a0 14 := hf8.efi m_a0 r_a0 rfl
  refine lv_aload_n F.1 F.2.1 dX6_copy_16 rfl (lv_at hl 0 rfl) ?_
  refine lv_aload_n F.1 F.2.1 dX6_copy_17 rfl (lv_at hl 1 rfl) ?_
  refine g_6_62 F h m_a1 r_a1 dX6_copy_18 (fun v15 hv15 hv15a hv15b => ?_)
  refine pe_6_62 F h m_a0 r_a0 (by omega) dX6_copy_21 (fun f16 H locs e16pq e16po hf16 h => ?_)
  have e16p : fi f16 a0 16 = v15.toInt := by unfold fi; rw [e16pq]; rfl
  have hC : CI L R O a0 a1 f0 f16 (fun _ => 0) := CI_put hC hf16 e16po rfl m_a0 r_a0
  have hG : GG L R O f16 := hG.fr hf16 (by decide +kernel) (by decide +kernel)
  have hk : fr L R [(6, 14), (6, 15), (6, 16), (6, 17), (6, 18)] [6, 23, 35, 36, 37, 38, 39, 40, 41, 42, 43, 44] f0 f16 := hk.tr hf16 rfl rfl
  have e17 : fi f16 a0 17 = fi f8 a0 17 := hf16.efi m_a0 r_a0 rfl
  have e18 : fi f16 a0 18 = fi f8 a0 18 := hf16.efi m_a0 r_a0 rfl
  have e19 : fi f16 a1 14 = fi f8 a1 14 := hf16.efi m_a1 r_a1 rfl
  have e20 : fi f16 a1 17 = fi f8 a1 17 := hf16.efi m_a1 r_a1 rfl
  have e21 : fi f16 a1 18 = fi f8 a1 18 := hf16.efi m_a1 r_a1 rfl
  have e22 : fi f16 a0 14 = fi f8 a0 14 := hf16.efi m_a0 r_a0 rfl
  have e23 : fi f16 a1 15 = fi f8 a1 15 := hf16.efi m_a1 r_a1 rfl
  have e24 : fi f16 a0 15 = fi f8 a0 15 := hf16.efi m_a0 r_a0 rfl
  refine lv_aload_n F.1 F.2.1 dX6_copy_24 rfl (lv_at hl 0 rfl) ?_
  refine lv_aload_n F.1 F.2.1 dX6_copy_25 rfl (lv_at hl 1 rfl) ?_
  refine g_6_65 F h m_a1 r_a1 dX6_copy_26 (fun v25 hv25 hv25a hv25b => ?_)
  refine pe_6_65 F h m_a0 r_a0 (by omega) dX6_copy_29 (fun f26 H locs e26pq e26po hf26 h => ?_)
  have e26p : fi f26 a0 17 = v25.toInt := by unfold fi; rw [e26pq]; rfl
  have hC : CI L R O a0 a1 f0 f26 (fun _ => 0) := CI_put hC hf26 e26po rfl m_a0 r_a0
  have hG : GG L R O f26 := hG.fr hf26 (by decide +kernel) (by decide +kernel)
  have hk : fr L R [(6, 14), (6, 15), (6, 16), (6, 17), (6, 18)] [6, 23, 35, 36, 37, 38, 39, 40, 41, 42, 43, 44] f0 f26 := hk.tr hf26 rfl rfl
  have e27 : fi f26 a0 18 = fi f16 a0 18 := hf26.efi m_a0 r_a0 rfl
  have e28 : fi f26 a1 14 = fi f16 a1 14 := hf26.efi m_a1 r_a1 rfl
  have e29 : fi f26 a1 18 = fi f16 a1 18 := hf26.efi m_a1 r_a1 rfl
  have e30 : fi f26 a0 14 = fi f16 a0 14 := hf26.efi m_a0 r_a0 rfl
  have e31 : fi f26 a1 15 = fi f16 a1 15 := hf26.efi m_a1 r_a1 rfl
  have e32 : fi f26 a0 15 = fi f16 a0 15 := hf26.efi m_a0 r_a0 rfl
  have e33 : fi f26 a1 16 = fi f16 a1 16 := hf26.efi m_a1 r_a1 rfl
  have e34 : fi f26 a0 16 = fi f16 a0 16 := hf26.efi m_a0 r_a0 rfl
  refine lv_aload_n F.1 F.2.1 dX6_copy_32 rfl (lv_at hl 0 rfl) ?_
  refine lv_aload_n F.1 F.2.1 dX6_copy_33 rfl (lv_at hl 1 rfl) ?_
  refine g_6_68 F h m_a1 r_a1 dX6_copy_34 (fun v35 hv35 => ?_)
  refine pe_6_68 F h m_a0 r_a0 dX6_copy_37 (fun f36 H locs e36pq e36po hf36 h => ?_)
  have e36p : fi f36 a0 18 = v35.toInt := by unfold fi; rw [e36pq]; rfl
  have hC : CI L R O a0 a1 f0 f36 (fun _ => 0) := CI_put hC hf36 e36po rfl m_a0 r_a0
  have hG : GG L R O f36 := hG.fr hf36 (by decide +kernel) (by decide +kernel)
  have hk : fr L R [(6, 14), (6, 15), (6, 16), (6, 17), (6, 18)] [6, 23, 35, 36, 37, 38, 39, 40, 41, 42, 43, 44] f0 f36 := hk.tr hf36 rfl rfl
  have e37 : fi f36 a1 14 = fi f26 a1 14 := hf36.efi m_a1 r_a1 rfl
  have e38 : fi f36 a1 17 = fi f26 a1 17 := hf36.efi m_a1 r_a1 rfl
  have e39 : fi f36 a0 14 = fi f26 a0 14 := hf36.efi m_a0 r_a0 rfl
  have e40 : fi f36 a1 15 = fi f26 a1 15 := hf36.efi m_a1 r_a1 rfl
  have e41 : fi f36 a0 15 = fi f26 a0 15 := hf36.efi m_a0 r_a0 rfl
  have e42 : fi f36 a1 16 = fi f26 a1 16 := hf36.efi m_a1 r_a1 rfl
  have e43 : fi f36 a0 16 = fi f26 a0 16 := hf36.efi m_a0 r_a0 rfl
  have e44 : fi f36 a0 17 = fi f26 a0 17 := hf36.efi m_a0 r_a0 rfl
  refine lv_aload_n F.1 F.2.1 dX6_copy_40 rfl (lv_at hl 1 rfl) ?_
  refine g_6_9 F h m_a1 r_a1 dX6_copy_41 (fun o45 m_o45 r_o45 ho45 => ?_)
  refine tw_iconst F dX6_copy_44 ki_0 (fun z46 hz46 => ?_)
  refine lv_aload_n F.1 F.2.1 dX6_copy_45 rfl (lv_at hl 0 rfl) ?_
  refine g_6_9 F h m_a0 r_a0 dX6_copy_46 (fun o47 m_o47 r_o47 ho47 => ?_)
  refine tw_iconst F dX6_copy_49 ki_0 (fun z48 hz48 => ?_)
  refine lv_aload_n F.1 F.2.1 dX6_copy_50 rfl (lv_at hl 0 rfl) ?_
  refine g_6_55 F h m_a0 r_a0 dX6_copy_51 (fun v49 hv49 hv49a hv49b => ?_)
  refine cpe_35_35 F h hl.1 mw_1570 m_o45 r_o45 m_o47 r_o47 (by omega) (Nat.le_of_ble_eq_true rfl) (Nat.le_of_ble_eq_true rfl) dX6_copy_54 (fun f50 H locs e50a e50b hf50 h => ?_)
  have hC : CI L R O a0 a1 f0 f50 (updn (fun _ => 0) 0 v49.toInt.toNat) := CI_cpj hC hG0.1 m_a0 r_a0 m_a1 r_a1 rfl ho47 ho45 (by omega) (by omega) e50a e50b
  have hG : GG L R O f50 := hG.fr hf50 (by decide +kernel) (by decide +kernel)
  have hk : fr L R [(6, 14), (6, 15), (6, 16), (6, 17), (6, 18)] [6, 23, 35, 36, 37, 38, 39, 40, 41, 42, 43, 44] f0 f50 := hk.tr hf50 rfl rfl
  have e51 : fi f50 a1 14 = fi f36 a1 14 := hf50.efi m_a1 r_a1 rfl
  have e52 : fi f50 a1 17 = fi f36 a1 17 := hf50.efi m_a1 r_a1 rfl
  have e53 : fi f50 a1 18 = fi f36 a1 18 := hf50.efi m_a1 r_a1 rfl
  have e54 : fi f50 a0 14 = fi f36 a0 14 := hf50.efi m_a0 r_a0 rfl
  have e55 : fi f50 a1 15 = fi f36 a1 15 := hf50.efi m_a1 r_a1 rfl
  have e56 : fi f50 a0 15 = fi f36 a0 15 := hf50.efi m_a0 r_a0 rfl
  have e57 : fi f50 a1 16 = fi f36 a1 16 := hf50.efi m_a1 r_a1 rfl
  have e58 : fi f50 a0 16 = fi f36 a0 16 := hf50.efi m_a0 r_a0 rfl
  have e59 : fi f50 a0 17 = fi f36 a0 17 := hf50.efi m_a0 r_a0 rfl
  have e60 : fi f50 a0 18 = fi f36 a0 18 := hf50.efi m_a0 r_a0 rfl
  refine lv_aload_n F.1 F.2.1 dX6_copy_57 rfl (lv_at hl 1 rfl) ?_
  refine g_6_15 F h m_a1 r_a1 dX6_copy_58 (fun o61 m_o61 r_o61 ho61 => ?_)
  refine tw_iconst F dX6_copy_61 ki_0 (fun z62 hz62 => ?_)
  refine lv_aload_n F.1 F.2.1 dX6_copy_62 rfl (lv_at hl 0 rfl) ?_
  refine g_6_15 F h m_a0 r_a0 dX6_copy_63 (fun o63 m_o63 r_o63 ho63 => ?_)
  refine tw_iconst F dX6_copy_66 ki_0 (fun z64 hz64 => ?_)
  refine lv_aload_n F.1 F.2.1 dX6_copy_67 rfl (lv_at hl 0 rfl) ?_
  refine g_6_59 F h m_a0 r_a0 dX6_copy_68 (fun v65 hv65 hv65a hv65b => ?_)
  refine cp_23_23 F h hl.1 mw_1570 m_o61 r_o61 m_o63 r_o63 (by omega) (Nat.le_of_ble_eq_true rfl) (Nat.le_of_ble_eq_true rfl) dX6_copy_71 (fun f66 H locs hf66 h => ?_)
  have hC : CI L R O a0 a1 f0 f66 (updn (fun _ => 0) 0 v49.toInt.toNat) := CI_fr hC hf66 (by decide +kernel) (by decide +kernel) m_a0 r_a0
  have hG : GG L R O f66 := hG.fr hf66 (by decide +kernel) (by decide +kernel)
  have hk : fr L R [(6, 14), (6, 15), (6, 16), (6, 17), (6, 18)] [6, 23, 35, 36, 37, 38, 39, 40, 41, 42, 43, 44] f0 f66 := hk.tr hf66 rfl rfl
  have e67 : fi f66 a1 14 = fi f50 a1 14 := hf66.efi m_a1 r_a1 rfl
  have e68 : fi f66 a1 17 = fi f50 a1 17 := hf66.efi m_a1 r_a1 rfl
  have e69 : fi f66 a1 18 = fi f50 a1 18 := hf66.efi m_a1 r_a1 rfl
  have e70 : fi f66 a0 14 = fi f50 a0 14 := hf66.efi m_a0 r_a0 rfl
  have e71 : fi f66 a1 15 = fi f50 a1 15 := hf66.efi m_a1 r_a1 rfl
  have e72 : fi f66 a0 15 = fi f50 a0 15 := hf66.efi m_a0 r_a0 rfl
  have e73 : fi f66 a1 16 = fi f50 a1 16 := hf66.efi m_a1 r_a1 rfl
  have e74 : fi f66 a0 16 = fi f50 a0 16 := hf66.efi m_a0 r_a0 rfl
  have e75 : fi f66 a0 17 = fi f50 a0 17 := hf66.efi m_a0 r_a0 rfl
  have e76 : fi f66 a0 18 = fi f50 a0 18 := hf66.efi m_a0 r_a0 rfl
  refine lv_aload_n F.1 F.2.1 dX6_copy_74 rfl (lv_at hl 1 rfl) ?_
  refine g_6_18 F h m_a1 r_a1 dX6_copy_75 (fun o77 m_o77 r_o77 ho77 => ?_)
  refine tw_iconst F dX6_copy_78 ki_0 (fun z78 hz78 => ?_)
  refine lv_aload_n F.1 F.2.1 dX6_copy_79 rfl (lv_at hl 0 rfl) ?_
  refine g_6_18 F h m_a0 r_a0 dX6_copy_80 (fun o79 m_o79 r_o79 ho79 => ?_)
  refine tw_iconst F dX6_copy_83 ki_0 (fun z80 hz80 => ?_)
  refine lv_aload_n F.1 F.2.1 dX6_copy_84 rfl (lv_at hl 0 rfl) ?_
  refine g_6_59 F h m_a0 r_a0 dX6_copy_85 (fun v81 hv81 hv81a hv81b => ?_)
  refine cp_36_36 F h hl.1 mw_1570 m_o77 r_o77 m_o79 r_o79 (by omega) (Nat.le_of_ble_eq_true rfl) (Nat.le_of_ble_eq_true rfl) dX6_copy_88 (fun f82 H locs hf82 h => ?_)
  have hC : CI L R O a0 a1 f0 f82 (updn (fun _ => 0) 0 v49.toInt.toNat) := CI_fr hC hf82 (by decide +kernel) (by decide +kernel) m_a0 r_a0
  have hG : GG L R O f82 := hG.fr hf82 (by decide +kernel) (by decide +kernel)
  have hk : fr L R [(6, 14), (6, 15), (6, 16), (6, 17), (6, 18)] [6, 23, 35, 36, 37, 38, 39, 40, 41, 42, 43, 44] f0 f82 := hk.tr hf82 rfl rfl
  have e83 : fi f82 a1 14 = fi f66 a1 14 := hf82.efi m_a1 r_a1 rfl
  have e84 : fi f82 a1 17 = fi f66 a1 17 := hf82.efi m_a1 r_a1 rfl
  have e85 : fi f82 a1 18 = fi f66 a1 18 := hf82.efi m_a1 r_a1 rfl
  have e86 : fi f82 a0 14 = fi f66 a0 14 := hf82.efi m_a0 r_a0 rfl
  have e87 : fi f82 a1 15 = fi f66 a1 15 := hf82.efi m_a1 r_a1 rfl
  have e88 : fi f82 a0 15 = fi f66 a0 15 := hf82.efi m_a0 r_a0 rfl
  have e89 : fi f82 a1 16 = fi f66 a1 16 := hf82.efi m_a1 r_a1 rfl
  have e90 : fi f82 a0 16 = fi f66 a0 16 := hf82.efi m_a0 r_a0 rfl
  have e91 : fi f82 a0 17 = fi f66 a0 17 := hf82.efi m_a0 r_a0 rfl
  have e92 : fi f82 a0 18 = fi f66 a0 18 := hf82.efi m_a0 r_a0 rfl
  refine lv_aload_n F.1 F.2.1 dX6_copy_91 rfl (lv_at hl 1 rfl) ?_
  refine g_6_22 F h m_a1 r_a1 dX6_copy_92 (fun o93 m_o93 r_o93 ho93 => ?_)
  refine tw_iconst F dX6_copy_95 ki_0 (fun z94 hz94 => ?_)
  refine lv_aload_n F.1 F.2.1 dX6_copy_96 rfl (lv_at hl 0 rfl) ?_
  refine g_6_22 F h m_a0 r_a0 dX6_copy_97 (fun o95 m_o95 r_o95 ho95 => ?_)
  refine tw_iconst F dX6_copy_100 ki_0 (fun z96 hz96 => ?_)
  refine lv_aload_n F.1 F.2.1 dX6_copy_101 rfl (lv_at hl 0 rfl) ?_
  refine g_6_59 F h m_a0 r_a0 dX6_copy_102 (fun v97 hv97 hv97a hv97b => ?_)
  refine cp_37_37 F h hl.1 mw_1570 m_o93 r_o93 m_o95 r_o95 (by omega) (Nat.le_of_ble_eq_true rfl) (Nat.le_of_ble_eq_true rfl) dX6_copy_105 (fun f98 H locs hf98 h => ?_)
  have hC : CI L R O a0 a1 f0 f98 (updn (fun _ => 0) 0 v49.toInt.toNat) := CI_fr hC hf98 (by decide +kernel) (by decide +kernel) m_a0 r_a0
  have hG : GG L R O f98 := hG.fr hf98 (by decide +kernel) (by decide +kernel)
  have hk : fr L R [(6, 14), (6, 15), (6, 16), (6, 17), (6, 18)] [6, 23, 35, 36, 37, 38, 39, 40, 41, 42, 43, 44] f0 f98 := hk.tr hf98 rfl rfl
  have e99 : fi f98 a1 14 = fi f82 a1 14 := hf98.efi m_a1 r_a1 rfl
  have e100 : fi f98 a1 17 = fi f82 a1 17 := hf98.efi m_a1 r_a1 rfl
  have e101 : fi f98 a1 18 = fi f82 a1 18 := hf98.efi m_a1 r_a1 rfl
  have e102 : fi f98 a0 14 = fi f82 a0 14 := hf98.efi m_a0 r_a0 rfl
  have e103 : fi f98 a1 15 = fi f82 a1 15 := hf98.efi m_a1 r_a1 rfl
  have e104 : fi f98 a0 15 = fi f82 a0 15 := hf98.efi m_a0 r_a0 rfl
  have e105 : fi f98 a1 16 = fi f82 a1 16 := hf98.efi m_a1 r_a1 rfl
  have e106 : fi f98 a0 16 = fi f82 a0 16 := hf98.efi m_a0 r_a0 rfl
  have e107 : fi f98 a0 17 = fi f82 a0 17 := hf98.efi m_a0 r_a0 rfl
  have e108 : fi f98 a0 18 = fi f82 a0 18 := hf98.efi m_a0 r_a0 rfl
  refine lv_aload_n F.1 F.2.1 dX6_copy_108 rfl (lv_at hl 1 rfl) ?_
  refine g_6_25 F h m_a1 r_a1 dX6_copy_109 (fun o109 m_o109 r_o109 ho109 => ?_)
  refine tw_iconst F dX6_copy_112 ki_0 (fun z110 hz110 => ?_)
  refine lv_aload_n F.1 F.2.1 dX6_copy_113 rfl (lv_at hl 0 rfl) ?_
  refine g_6_25 F h m_a0 r_a0 dX6_copy_114 (fun o111 m_o111 r_o111 ho111 => ?_)
  refine tw_iconst F dX6_copy_117 ki_0 (fun z112 hz112 => ?_)
  refine lv_aload_n F.1 F.2.1 dX6_copy_118 rfl (lv_at hl 0 rfl) ?_
  refine g_6_59 F h m_a0 r_a0 dX6_copy_119 (fun v113 hv113 hv113a hv113b => ?_)
  refine cp_37_37 F h hl.1 mw_1570 m_o109 r_o109 m_o111 r_o111 (by omega) (Nat.le_of_ble_eq_true rfl) (Nat.le_of_ble_eq_true rfl) dX6_copy_122 (fun f114 H locs hf114 h => ?_)
  have hC : CI L R O a0 a1 f0 f114 (updn (fun _ => 0) 0 v49.toInt.toNat) := CI_fr hC hf114 (by decide +kernel) (by decide +kernel) m_a0 r_a0
  have hG : GG L R O f114 := hG.fr hf114 (by decide +kernel) (by decide +kernel)
  have hk : fr L R [(6, 14), (6, 15), (6, 16), (6, 17), (6, 18)] [6, 23, 35, 36, 37, 38, 39, 40, 41, 42, 43, 44] f0 f114 := hk.tr hf114 rfl rfl
  have e115 : fi f114 a1 14 = fi f98 a1 14 := hf114.efi m_a1 r_a1 rfl
  have e116 : fi f114 a1 17 = fi f98 a1 17 := hf114.efi m_a1 r_a1 rfl
  have e117 : fi f114 a1 18 = fi f98 a1 18 := hf114.efi m_a1 r_a1 rfl
  have e118 : fi f114 a0 14 = fi f98 a0 14 := hf114.efi m_a0 r_a0 rfl
  have e119 : fi f114 a1 15 = fi f98 a1 15 := hf114.efi m_a1 r_a1 rfl
  have e120 : fi f114 a0 15 = fi f98 a0 15 := hf114.efi m_a0 r_a0 rfl
  have e121 : fi f114 a1 16 = fi f98 a1 16 := hf114.efi m_a1 r_a1 rfl
  have e122 : fi f114 a0 16 = fi f98 a0 16 := hf114.efi m_a0 r_a0 rfl
  have e123 : fi f114 a0 17 = fi f98 a0 17 := hf114.efi m_a0 r_a0 rfl
  have e124 : fi f114 a0 18 = fi f98 a0 18 := hf114.efi m_a0 r_a0 rfl
  refine lv_aload_n F.1 F.2.1 dX6_copy_125 rfl (lv_at hl 1 rfl) ?_
  refine g_6_28 F h m_a1 r_a1 dX6_copy_126 (fun o125 m_o125 r_o125 ho125 => ?_)
  refine tw_iconst F dX6_copy_129 ki_0 (fun z126 hz126 => ?_)
  refine lv_aload_n F.1 F.2.1 dX6_copy_130 rfl (lv_at hl 0 rfl) ?_
  refine g_6_28 F h m_a0 r_a0 dX6_copy_131 (fun o127 m_o127 r_o127 ho127 => ?_)
  refine tw_iconst F dX6_copy_134 ki_0 (fun z128 hz128 => ?_)
  refine lv_aload_n F.1 F.2.1 dX6_copy_135 rfl (lv_at hl 0 rfl) ?_
  refine g_6_62 F h m_a0 r_a0 dX6_copy_136 (fun v129 hv129 hv129a hv129b => ?_)
  refine cp_23_23 F h hl.1 mw_1570 m_o125 r_o125 m_o127 r_o127 (by omega) (Nat.le_of_ble_eq_true rfl) (Nat.le_of_ble_eq_true rfl) dX6_copy_139 (fun f130 H locs hf130 h => ?_)
  have hC : CI L R O a0 a1 f0 f130 (updn (fun _ => 0) 0 v49.toInt.toNat) := CI_fr hC hf130 (by decide +kernel) (by decide +kernel) m_a0 r_a0
  have hG : GG L R O f130 := hG.fr hf130 (by decide +kernel) (by decide +kernel)
  have hk : fr L R [(6, 14), (6, 15), (6, 16), (6, 17), (6, 18)] [6, 23, 35, 36, 37, 38, 39, 40, 41, 42, 43, 44] f0 f130 := hk.tr hf130 rfl rfl
  have e131 : fi f130 a1 14 = fi f114 a1 14 := hf130.efi m_a1 r_a1 rfl
  have e132 : fi f130 a1 17 = fi f114 a1 17 := hf130.efi m_a1 r_a1 rfl
  have e133 : fi f130 a1 18 = fi f114 a1 18 := hf130.efi m_a1 r_a1 rfl
  have e134 : fi f130 a0 14 = fi f114 a0 14 := hf130.efi m_a0 r_a0 rfl
  have e135 : fi f130 a1 15 = fi f114 a1 15 := hf130.efi m_a1 r_a1 rfl
  have e136 : fi f130 a0 15 = fi f114 a0 15 := hf130.efi m_a0 r_a0 rfl
  have e137 : fi f130 a1 16 = fi f114 a1 16 := hf130.efi m_a1 r_a1 rfl
  have e138 : fi f130 a0 16 = fi f114 a0 16 := hf130.efi m_a0 r_a0 rfl
  have e139 : fi f130 a0 17 = fi f114 a0 17 := hf130.efi m_a0 r_a0 rfl
  have e140 : fi f130 a0 18 = fi f114 a0 18 := hf130.efi m_a0 r_a0 rfl
  refine lv_aload_n F.1 F.2.1 dX6_copy_142 rfl (lv_at hl 1 rfl) ?_
  refine g_6_31 F h m_a1 r_a1 dX6_copy_143 (fun o141 m_o141 r_o141 ho141 => ?_)
  refine tw_iconst F dX6_copy_146 ki_0 (fun z142 hz142 => ?_)
  refine lv_aload_n F.1 F.2.1 dX6_copy_147 rfl (lv_at hl 0 rfl) ?_
  refine g_6_31 F h m_a0 r_a0 dX6_copy_148 (fun o143 m_o143 r_o143 ho143 => ?_)
  refine tw_iconst F dX6_copy_151 ki_0 (fun z144 hz144 => ?_)
  refine lv_aload_n F.1 F.2.1 dX6_copy_152 rfl (lv_at hl 0 rfl) ?_
  refine g_6_62 F h m_a0 r_a0 dX6_copy_153 (fun v145 hv145 hv145a hv145b => ?_)
  refine cp_23_23 F h hl.1 mw_1570 m_o141 r_o141 m_o143 r_o143 (by omega) (Nat.le_of_ble_eq_true rfl) (Nat.le_of_ble_eq_true rfl) dX6_copy_156 (fun f146 H locs hf146 h => ?_)
  have hC : CI L R O a0 a1 f0 f146 (updn (fun _ => 0) 0 v49.toInt.toNat) := CI_fr hC hf146 (by decide +kernel) (by decide +kernel) m_a0 r_a0
  have hG : GG L R O f146 := hG.fr hf146 (by decide +kernel) (by decide +kernel)
  have hk : fr L R [(6, 14), (6, 15), (6, 16), (6, 17), (6, 18)] [6, 23, 35, 36, 37, 38, 39, 40, 41, 42, 43, 44] f0 f146 := hk.tr hf146 rfl rfl
  have e147 : fi f146 a1 14 = fi f130 a1 14 := hf146.efi m_a1 r_a1 rfl
  have e148 : fi f146 a1 17 = fi f130 a1 17 := hf146.efi m_a1 r_a1 rfl
  have e149 : fi f146 a1 18 = fi f130 a1 18 := hf146.efi m_a1 r_a1 rfl
  have e150 : fi f146 a0 14 = fi f130 a0 14 := hf146.efi m_a0 r_a0 rfl
  have e151 : fi f146 a1 15 = fi f130 a1 15 := hf146.efi m_a1 r_a1 rfl
  have e152 : fi f146 a0 15 = fi f130 a0 15 := hf146.efi m_a0 r_a0 rfl
  have e153 : fi f146 a1 16 = fi f130 a1 16 := hf146.efi m_a1 r_a1 rfl
  have e154 : fi f146 a0 16 = fi f130 a0 16 := hf146.efi m_a0 r_a0 rfl
  have e155 : fi f146 a0 17 = fi f130 a0 17 := hf146.efi m_a0 r_a0 rfl
  have e156 : fi f146 a0 18 = fi f130 a0 18 := hf146.efi m_a0 r_a0 rfl
  refine lv_aload_n F.1 F.2.1 dX6_copy_159 rfl (lv_at hl 1 rfl) ?_
  refine g_6_34 F h m_a1 r_a1 dX6_copy_160 (fun o157 m_o157 r_o157 ho157 => ?_)
  refine tw_iconst F dX6_copy_163 ki_0 (fun z158 hz158 => ?_)
  refine lv_aload_n F.1 F.2.1 dX6_copy_164 rfl (lv_at hl 0 rfl) ?_
  refine g_6_34 F h m_a0 r_a0 dX6_copy_165 (fun o159 m_o159 r_o159 ho159 => ?_)
  refine tw_iconst F dX6_copy_168 ki_0 (fun z160 hz160 => ?_)
  refine lv_aload_n F.1 F.2.1 dX6_copy_169 rfl (lv_at hl 0 rfl) ?_
  refine g_6_65 F h m_a0 r_a0 dX6_copy_170 (fun v161 hv161 hv161a hv161b => ?_)
  refine cp_38_38 F h hl.1 mw_1570 m_o157 r_o157 m_o159 r_o159 (by omega) (Nat.le_of_ble_eq_true rfl) (Nat.le_of_ble_eq_true rfl) dX6_copy_173 (fun f162 H locs hf162 h => ?_)
  have hC : CI L R O a0 a1 f0 f162 (updn (fun _ => 0) 0 v49.toInt.toNat) := CI_fr hC hf162 (by decide +kernel) (by decide +kernel) m_a0 r_a0
  have hG : GG L R O f162 := hG.fr hf162 (by decide +kernel) (by decide +kernel)
  have hk : fr L R [(6, 14), (6, 15), (6, 16), (6, 17), (6, 18)] [6, 23, 35, 36, 37, 38, 39, 40, 41, 42, 43, 44] f0 f162 := hk.tr hf162 rfl rfl
  have e163 : fi f162 a1 14 = fi f146 a1 14 := hf162.efi m_a1 r_a1 rfl
  have e164 : fi f162 a1 17 = fi f146 a1 17 := hf162.efi m_a1 r_a1 rfl
  have e165 : fi f162 a1 18 = fi f146 a1 18 := hf162.efi m_a1 r_a1 rfl
  have e166 : fi f162 a0 14 = fi f146 a0 14 := hf162.efi m_a0 r_a0 rfl
  have e167 : fi f162 a1 15 = fi f146 a1 15 := hf162.efi m_a1 r_a1 rfl
  have e168 : fi f162 a0 15 = fi f146 a0 15 := hf162.efi m_a0 r_a0 rfl
  have e169 : fi f162 a1 16 = fi f146 a1 16 := hf162.efi m_a1 r_a1 rfl
  have e170 : fi f162 a0 16 = fi f146 a0 16 := hf162.efi m_a0 r_a0 rfl
  have e171 : fi f162 a0 17 = fi f146 a0 17 := hf162.efi m_a0 r_a0 rfl
  have e172 : fi f162 a0 18 = fi f146 a0 18 := hf162.efi m_a0 r_a0 rfl
  refine lv_aload_n F.1 F.2.1 dX6_copy_176 rfl (lv_at hl 1 rfl) ?_
  refine g_6_37 F h m_a1 r_a1 dX6_copy_177 (fun o173 m_o173 r_o173 ho173 => ?_)
  refine tw_iconst F dX6_copy_180 ki_0 (fun z174 hz174 => ?_)
  refine lv_aload_n F.1 F.2.1 dX6_copy_181 rfl (lv_at hl 0 rfl) ?_
  refine g_6_37 F h m_a0 r_a0 dX6_copy_182 (fun o175 m_o175 r_o175 ho175 => ?_)
  refine tw_iconst F dX6_copy_185 ki_0 (fun z176 hz176 => ?_)
  refine lv_aload_n F.1 F.2.1 dX6_copy_186 rfl (lv_at hl 0 rfl) ?_
  refine g_6_65 F h m_a0 r_a0 dX6_copy_187 (fun v177 hv177 hv177a hv177b => ?_)
  refine cpe_39_39 F h hl.1 mw_1570 m_o173 r_o173 m_o175 r_o175 (by omega) (Nat.le_of_ble_eq_true rfl) (Nat.le_of_ble_eq_true rfl) dX6_copy_190 (fun f178 H locs e178a e178b hf178 h => ?_)
  have hC : CI L R O a0 a1 f0 f178 (updn (updn (fun _ => 0) 0 v49.toInt.toNat) 8 v177.toInt.toNat) := CI_cp hC hG0.1 m_a0 r_a0 m_a1 r_a1 sk8 (by decide) rfl ho175 ho173 (by omega) (by omega) e178a e178b
  have hk : fr L R [(6, 14), (6, 15), (6, 16), (6, 17), (6, 18)] [6, 23, 35, 36, 37, 38, 39, 40, 41, 42, 43, 44] f0 f178 := hk.tr hf178 rfl rfl
  have e179 : fi f178 a1 14 = fi f162 a1 14 := hf178.efi m_a1 r_a1 rfl
  have e180 : fi f178 a1 17 = fi f162 a1 17 := hf178.efi m_a1 r_a1 rfl
  have e181 : fi f178 a1 18 = fi f162 a1 18 := hf178.efi m_a1 r_a1 rfl
  have e182 : fi f178 a0 14 = fi f162 a0 14 := hf178.efi m_a0 r_a0 rfl
  have e183 : fi f178 a1 15 = fi f162 a1 15 := hf178.efi m_a1 r_a1 rfl
  have e184 : fi f178 a0 15 = fi f162 a0 15 := hf178.efi m_a0 r_a0 rfl
  have e185 : fi f178 a1 16 = fi f162 a1 16 := hf178.efi m_a1 r_a1 rfl
  have e186 : fi f178 a0 16 = fi f162 a0 16 := hf178.efi m_a0 r_a0 rfl
  have e187 : fi f178 a0 17 = fi f162 a0 17 := hf178.efi m_a0 r_a0 rfl
  have e188 : fi f178 a0 18 = fi f162 a0 18 := hf178.efi m_a0 r_a0 rfl
  refine lv_aload_n F.1 F.2.1 dX6_copy_193 rfl (lv_at hl 1 rfl) ?_
  refine g_6_40 F h m_a1 r_a1 dX6_copy_194 (fun o189 m_o189 r_o189 ho189 => ?_)
  refine tw_iconst F dX6_copy_197 ki_0 (fun z190 hz190 => ?_)
  refine lv_aload_n F.1 F.2.1 dX6_copy_198 rfl (lv_at hl 0 rfl) ?_
  refine g_6_40 F h m_a0 r_a0 dX6_copy_199 (fun o191 m_o191 r_o191 ho191 => ?_)
  refine tw_iconst F dX6_copy_202 ki_0 (fun z192 hz192 => ?_)
  refine lv_aload_n F.1 F.2.1 dX6_copy_203 rfl (lv_at hl 0 rfl) ?_
  refine g_6_65 F h m_a0 r_a0 dX6_copy_204 (fun v193 hv193 hv193a hv193b => ?_)
  refine cpe_40_40 F h hl.1 mw_1570 m_o189 r_o189 m_o191 r_o191 (by omega) (Nat.le_of_ble_eq_true rfl) (Nat.le_of_ble_eq_true rfl) dX6_copy_207 (fun f194 H locs e194a e194b hf194 h => ?_)
  have hC : CI L R O a0 a1 f0 f194 (updn (updn (updn (fun _ => 0) 0 v49.toInt.toNat) 8 v177.toInt.toNat) 9 v193.toInt.toNat) := CI_cp hC hG0.1 m_a0 r_a0 m_a1 r_a1 sk9 (by decide) rfl ho191 ho189 (by omega) (by omega) e194a e194b
  have hk : fr L R [(6, 14), (6, 15), (6, 16), (6, 17), (6, 18)] [6, 23, 35, 36, 37, 38, 39, 40, 41, 42, 43, 44] f0 f194 := hk.tr hf194 rfl rfl
  have e195 : fi f194 a1 14 = fi f178 a1 14 := hf194.efi m_a1 r_a1 rfl
  have e196 : fi f194 a1 17 = fi f178 a1 17 := hf194.efi m_a1 r_a1 rfl
  have e197 : fi f194 a1 18 = fi f178 a1 18 := hf194.efi m_a1 r_a1 rfl
  have e198 : fi f194 a0 14 = fi f178 a0 14 := hf194.efi m_a0 r_a0 rfl
  have e199 : fi f194 a1 15 = fi f178 a1 15 := hf194.efi m_a1 r_a1 rfl
  have e200 : fi f194 a0 15 = fi f178 a0 15 := hf194.efi m_a0 r_a0 rfl
  have e201 : fi f194 a1 16 = fi f178 a1 16 := hf194.efi m_a1 r_a1 rfl
  have e202 : fi f194 a0 16 = fi f178 a0 16 := hf194.efi m_a0 r_a0 rfl
  have e203 : fi f194 a0 17 = fi f178 a0 17 := hf194.efi m_a0 r_a0 rfl
  have e204 : fi f194 a0 18 = fi f178 a0 18 := hf194.efi m_a0 r_a0 rfl
  refine lv_aload_n F.1 F.2.1 dX6_copy_210 rfl (lv_at hl 1 rfl) ?_
  refine g_6_43 F h m_a1 r_a1 dX6_copy_211 (fun o205 m_o205 r_o205 ho205 => ?_)
  refine tw_iconst F dX6_copy_214 ki_0 (fun z206 hz206 => ?_)
  refine lv_aload_n F.1 F.2.1 dX6_copy_215 rfl (lv_at hl 0 rfl) ?_
  refine g_6_43 F h m_a0 r_a0 dX6_copy_216 (fun o207 m_o207 r_o207 ho207 => ?_)
  refine tw_iconst F dX6_copy_219 ki_0 (fun z208 hz208 => ?_)
  refine lv_aload_n F.1 F.2.1 dX6_copy_220 rfl (lv_at hl 0 rfl) ?_
  refine g_6_43 F h m_a0 r_a0 dX6_copy_221 (fun o209 m_o209 r_o209 ho209 => ?_)
  refine al_41 F h m_o209 r_o209 dX6_copy_224 (fun z210 hz210 => ?_)
  refine cpe_41_41 F h hl.1 mw_1570 m_o205 r_o205 m_o207 r_o207 (by omega) (Nat.le_of_ble_eq_true rfl) (Nat.le_of_ble_eq_true rfl) dX6_copy_225 (fun f211 H locs e211a e211b hf211 h => ?_)
  have hC : CI L R O a0 a1 f0 f211 (updn (updn (updn (updn (fun _ => 0) 0 v49.toInt.toNat) 8 v177.toInt.toNat) 9 v193.toInt.toNat) 10 z210.toInt.toNat) := CI_cp hC hG0.1 m_a0 r_a0 m_a1 r_a1 sk10 (by decide) rfl ho207 ho205 (by omega) (by omega) e211a e211b
  have hk : fr L R [(6, 14), (6, 15), (6, 16), (6, 17), (6, 18)] [6, 23, 35, 36, 37, 38, 39, 40, 41, 42, 43, 44] f0 f211 := hk.tr hf211 rfl rfl
  have e212 : fi f211 a1 14 = fi f194 a1 14 := hf211.efi m_a1 r_a1 rfl
  have e213 : fi f211 a1 17 = fi f194 a1 17 := hf211.efi m_a1 r_a1 rfl
  have e214 : fi f211 a1 18 = fi f194 a1 18 := hf211.efi m_a1 r_a1 rfl
  have e215 : fi f211 a0 14 = fi f194 a0 14 := hf211.efi m_a0 r_a0 rfl
  have e216 : fi f211 a1 15 = fi f194 a1 15 := hf211.efi m_a1 r_a1 rfl
  have e217 : fi f211 a0 15 = fi f194 a0 15 := hf211.efi m_a0 r_a0 rfl
  have e218 : fi f211 a1 16 = fi f194 a1 16 := hf211.efi m_a1 r_a1 rfl
  have e219 : fi f211 a0 16 = fi f194 a0 16 := hf211.efi m_a0 r_a0 rfl
  have e220 : fi f211 a0 17 = fi f194 a0 17 := hf211.efi m_a0 r_a0 rfl
  have e221 : fi f211 a0 18 = fi f194 a0 18 := hf211.efi m_a0 r_a0 rfl
  refine lv_aload_n F.1 F.2.1 dX6_copy_228 rfl (lv_at hl 1 rfl) ?_
  refine g_6_46 F h m_a1 r_a1 dX6_copy_229 (fun o222 m_o222 r_o222 ho222 => ?_)
  refine tw_iconst F dX6_copy_232 ki_0 (fun z223 hz223 => ?_)
  refine lv_aload_n F.1 F.2.1 dX6_copy_233 rfl (lv_at hl 0 rfl) ?_
  refine g_6_46 F h m_a0 r_a0 dX6_copy_234 (fun o224 m_o224 r_o224 ho224 => ?_)
  refine tw_iconst F dX6_copy_237 ki_0 (fun z225 hz225 => ?_)
  refine tw_bipush F dX6_copy_238 kb_100 (fun z226 hz226 => ?_)
  refine cpe_42_42 F h hl.1 mw_1570 m_o222 r_o222 m_o224 r_o224 (by omega) (Nat.le_of_ble_eq_true rfl) (Nat.le_of_ble_eq_true rfl) dX6_copy_240 (fun f227 H locs e227a e227b hf227 h => ?_)
  have hC : CI L R O a0 a1 f0 f227 (updn (updn (updn (updn (updn (fun _ => 0) 0 v49.toInt.toNat) 8 v177.toInt.toNat) 9 v193.toInt.toNat) 10 z210.toInt.toNat) 11 z226.toInt.toNat) := CI_cp hC hG0.1 m_a0 r_a0 m_a1 r_a1 sk11 (by decide) rfl ho224 ho222 (by omega) (by omega) e227a e227b
  have hk : fr L R [(6, 14), (6, 15), (6, 16), (6, 17), (6, 18)] [6, 23, 35, 36, 37, 38, 39, 40, 41, 42, 43, 44] f0 f227 := hk.tr hf227 rfl rfl
  have e228 : fi f227 a1 14 = fi f211 a1 14 := hf227.efi m_a1 r_a1 rfl
  have e229 : fi f227 a1 17 = fi f211 a1 17 := hf227.efi m_a1 r_a1 rfl
  have e230 : fi f227 a1 18 = fi f211 a1 18 := hf227.efi m_a1 r_a1 rfl
  have e231 : fi f227 a0 14 = fi f211 a0 14 := hf227.efi m_a0 r_a0 rfl
  have e232 : fi f227 a1 15 = fi f211 a1 15 := hf227.efi m_a1 r_a1 rfl
  have e233 : fi f227 a0 15 = fi f211 a0 15 := hf227.efi m_a0 r_a0 rfl
  have e234 : fi f227 a1 16 = fi f211 a1 16 := hf227.efi m_a1 r_a1 rfl
  have e235 : fi f227 a0 16 = fi f211 a0 16 := hf227.efi m_a0 r_a0 rfl
  have e236 : fi f227 a0 17 = fi f211 a0 17 := hf227.efi m_a0 r_a0 rfl
  have e237 : fi f227 a0 18 = fi f211 a0 18 := hf227.efi m_a0 r_a0 rfl
  refine lv_aload_n F.1 F.2.1 dX6_copy_243 rfl (lv_at hl 1 rfl) ?_
  refine g_6_49 F h m_a1 r_a1 dX6_copy_244 (fun o238 m_o238 r_o238 ho238 => ?_)
  refine tw_iconst F dX6_copy_247 ki_0 (fun z239 hz239 => ?_)
  refine lv_aload_n F.1 F.2.1 dX6_copy_248 rfl (lv_at hl 0 rfl) ?_
  refine g_6_49 F h m_a0 r_a0 dX6_copy_249 (fun o240 m_o240 r_o240 ho240 => ?_)
  refine tw_iconst F dX6_copy_252 ki_0 (fun z241 hz241 => ?_)
  refine tw_bipush F dX6_copy_253 kb_100 (fun z242 hz242 => ?_)
  refine cpe_43_43 F h hl.1 mw_1570 m_o238 r_o238 m_o240 r_o240 (by omega) (Nat.le_of_ble_eq_true rfl) (Nat.le_of_ble_eq_true rfl) dX6_copy_255 (fun f243 H locs e243a e243b hf243 h => ?_)
  have hC : CI L R O a0 a1 f0 f243 (updn (updn (updn (updn (updn (updn (fun _ => 0) 0 v49.toInt.toNat) 8 v177.toInt.toNat) 9 v193.toInt.toNat) 10 z210.toInt.toNat) 11 z226.toInt.toNat) 12 z242.toInt.toNat) := CI_cp hC hG0.1 m_a0 r_a0 m_a1 r_a1 sk12 (by decide) rfl ho240 ho238 (by omega) (by omega) e243a e243b
  have hk : fr L R [(6, 14), (6, 15), (6, 16), (6, 17), (6, 18)] [6, 23, 35, 36, 37, 38, 39, 40, 41, 42, 43, 44] f0 f243 := hk.tr hf243 rfl rfl
  have e244 : fi f243 a1 14 = fi f227 a1 14 := hf243.efi m_a1 r_a1 rfl
  have e245 : fi f243 a1 17 = fi f227 a1 17 := hf243.efi m_a1 r_a1 rfl
  have e246 : fi f243 a1 18 = fi f227 a1 18 := hf243.efi m_a1 r_a1 rfl
  have e247 : fi f243 a0 14 = fi f227 a0 14 := hf243.efi m_a0 r_a0 rfl
  have e248 : fi f243 a1 15 = fi f227 a1 15 := hf243.efi m_a1 r_a1 rfl
  have e249 : fi f243 a0 15 = fi f227 a0 15 := hf243.efi m_a0 r_a0 rfl
  have e250 : fi f243 a1 16 = fi f227 a1 16 := hf243.efi m_a1 r_a1 rfl
  have e251 : fi f243 a0 16 = fi f227 a0 16 := hf243.efi m_a0 r_a0 rfl
  have e252 : fi f243 a0 17 = fi f227 a0 17 := hf243.efi m_a0 r_a0 rfl
  have e253 : fi f243 a0 18 = fi f227 a0 18 := hf243.efi m_a0 r_a0 rfl
  refine lv_aload_n F.1 F.2.1 dX6_copy_258 rfl (lv_at hl 1 rfl) ?_
  refine g_6_52 F h m_a1 r_a1 dX6_copy_259 (fun o254 m_o254 r_o254 ho254 => ?_)
  refine tw_iconst F dX6_copy_262 ki_0 (fun z255 hz255 => ?_)
  refine lv_aload_n F.1 F.2.1 dX6_copy_263 rfl (lv_at hl 0 rfl) ?_
  refine g_6_52 F h m_a0 r_a0 dX6_copy_264 (fun o256 m_o256 r_o256 ho256 => ?_)
  refine tw_iconst F dX6_copy_267 ki_0 (fun z257 hz257 => ?_)
  refine tw_bipush F dX6_copy_268 kb_100 (fun z258 hz258 => ?_)
  refine cpe_44_44 F h hl.1 mw_1570 m_o254 r_o254 m_o256 r_o256 (by omega) (Nat.le_of_ble_eq_true rfl) (Nat.le_of_ble_eq_true rfl) dX6_copy_270 (fun f259 H locs e259a e259b hf259 h => ?_)
  have hC : CI L R O a0 a1 f0 f259 (updn (updn (updn (updn (updn (updn (updn (fun _ => 0) 0 v49.toInt.toNat) 8 v177.toInt.toNat) 9 v193.toInt.toNat) 10 z210.toInt.toNat) 11 z226.toInt.toNat) 12 z242.toInt.toNat) 13 z258.toInt.toNat) := CI_cp hC hG0.1 m_a0 r_a0 m_a1 r_a1 sk13 (by decide) rfl ho256 ho254 (by omega) (by omega) e259a e259b
  have hk : fr L R [(6, 14), (6, 15), (6, 16), (6, 17), (6, 18)] [6, 23, 35, 36, 37, 38, 39, 40, 41, 42, 43, 44] f0 f259 := hk.tr hf259 rfl rfl
  have e260 : fi f259 a1 14 = fi f243 a1 14 := hf259.efi m_a1 r_a1 rfl
  have e261 : fi f259 a1 17 = fi f243 a1 17 := hf259.efi m_a1 r_a1 rfl
  have e262 : fi f259 a1 18 = fi f243 a1 18 := hf259.efi m_a1 r_a1 rfl
  have e263 : fi f259 a0 14 = fi f243 a0 14 := hf259.efi m_a0 r_a0 rfl
  have e264 : fi f259 a1 15 = fi f243 a1 15 := hf259.efi m_a1 r_a1 rfl
  have e265 : fi f259 a0 15 = fi f243 a0 15 := hf259.efi m_a0 r_a0 rfl
  have e266 : fi f259 a1 16 = fi f243 a1 16 := hf259.efi m_a1 r_a1 rfl
  have e267 : fi f259 a0 16 = fi f243 a0 16 := hf259.efi m_a0 r_a0 rfl
  have e268 : fi f259 a0 17 = fi f243 a0 17 := hf259.efi m_a0 r_a0 rfl
  have e269 : fi f259 a0 18 = fi f243 a0 18 := hf259.efi m_a0 r_a0 rfl
  have g0 : v49.toInt.toNat = (fi f0 a1 14).toNat := by omega
  have g89 : v177.toInt.toNat = v193.toInt.toNat := by omega
  have g10 : z210.toInt.toNat = 25 := by omega
  have g11 : z226.toInt.toNat = 100 := by omega
  have g12 : z242.toInt.toNat = 100 := by omega
  have g13 : z258.toInt.toNat = 100 := by omega
  have hG : GG L R O f259 := CI_GG hC hG0 m_a0 r_a0 m_a1 r_a1 g89 g11 g12
  exact hret f259 _ _ _ _ dX6_copy_273 ⟨hk, hG, CI_OB hC, fun q => CI_AC2 hC q g10 g11 g12 g13 g0 (by omega) (by omega) (by omega) a4, CI_AC0 hC g10⟩ h
theorem dX0_copy_0 : decode cX0_copy 0 = .ok (.iconst 0, 1) := by decide +kernel
theorem dX0_copy_1 : decode cX0_copy 1 = .ok (.istore_n 2, 1) := by decide +kernel
theorem dX0_copy_2 : decode cX0_copy 2 = .ok (.iload_n 2, 1) := by decide +kernel
theorem dX0_copy_3 : decode cX0_copy 3 = .ok (.iconst 3, 1) := by decide +kernel
theorem dX0_copy_4 : decode cX0_copy 4 = .ok (.if_icmp .ge 39, 3) := by decide +kernel
theorem dX0_copy_43 : decode cX0_copy 43 = .ok (.aload_n 0, 1) := by decide +kernel
theorem dX0_copy_44 : decode cX0_copy 44 = .ok (.aload_n 1, 1) := by decide +kernel
theorem dX0_copy_45 : decode cX0_copy 45 = .ok (.getfield 36, 3) := by decide +kernel
theorem dX0_copy_48 : decode cX0_copy 48 = .ok (.putfield 36, 3) := by decide +kernel
theorem dX0_copy_51 : decode cX0_copy 51 = .ok (.iconst 0, 1) := by decide +kernel
theorem dX0_copy_52 : decode cX0_copy 52 = .ok (.istore_n 2, 1) := by decide +kernel
theorem dX0_copy_53 : decode cX0_copy 53 = .ok (.iload_n 2, 1) := by decide +kernel
theorem dX0_copy_54 : decode cX0_copy 54 = .ok (.aload_n 0, 1) := by decide +kernel
theorem dX0_copy_55 : decode cX0_copy 55 = .ok (.getfield 36, 3) := by decide +kernel
theorem dX0_copy_58 : decode cX0_copy 58 = .ok (.if_icmp .ge 24, 3) := by decide +kernel
theorem dX0_copy_82 : decode cX0_copy 82 = .ok (.aload_n 0, 1) := by decide +kernel
theorem dX0_copy_83 : decode cX0_copy 83 = .ok (.aload_n 1, 1) := by decide +kernel
theorem dX0_copy_84 : decode cX0_copy 84 = .ok (.getfield 40, 3) := by decide +kernel
theorem dX0_copy_87 : decode cX0_copy 87 = .ok (.putfield 40, 3) := by decide +kernel
theorem dX0_copy_90 : decode cX0_copy 90 = .ok (.aload_n 1, 1) := by decide +kernel
theorem dX0_copy_91 : decode cX0_copy 91 = .ok (.getfield 29, 3) := by decide +kernel
theorem dX0_copy_94 : decode cX0_copy 94 = .ok (.iconst 0, 1) := by decide +kernel
theorem dX0_copy_95 : decode cX0_copy 95 = .ok (.aload_n 0, 1) := by decide +kernel
theorem dX0_copy_96 : decode cX0_copy 96 = .ok (.getfield 29, 3) := by decide +kernel
theorem dX0_copy_99 : decode cX0_copy 99 = .ok (.iconst 0, 1) := by decide +kernel
theorem dX0_copy_100 : decode cX0_copy 100 = .ok (.aload_n 0, 1) := by decide +kernel
theorem dX0_copy_101 : decode cX0_copy 101 = .ok (.getfield 40, 3) := by decide +kernel
theorem dX0_copy_104 : decode cX0_copy 104 = .ok (.invokestatic 56, 3) := by decide +kernel
theorem mw_1565 : Cond.methodLink RX0 56 arraycopyName ∈ wsL_law := inr_66 _ (List.mem_of_getElem? (i := 5) rfl)
theorem dX0_copy_107 : decode cX0_copy 107 = .ok (.aload_n 1, 1) := by decide +kernel
theorem dX0_copy_108 : decode cX0_copy 108 = .ok (.getfield 33, 3) := by decide +kernel
theorem dX0_copy_111 : decode cX0_copy 111 = .ok (.iconst 0, 1) := by decide +kernel
theorem dX0_copy_112 : decode cX0_copy 112 = .ok (.aload_n 0, 1) := by decide +kernel
theorem dX0_copy_113 : decode cX0_copy 113 = .ok (.getfield 33, 3) := by decide +kernel
theorem dX0_copy_116 : decode cX0_copy 116 = .ok (.iconst 0, 1) := by decide +kernel
theorem dX0_copy_117 : decode cX0_copy 117 = .ok (.aload_n 0, 1) := by decide +kernel
theorem dX0_copy_118 : decode cX0_copy 118 = .ok (.getfield 40, 3) := by decide +kernel
theorem dX0_copy_121 : decode cX0_copy 121 = .ok (.invokestatic 56, 3) := by decide +kernel
theorem dX0_copy_124 : decode cX0_copy 124 = .ok (.return_, 1) := by decide +kernel
theorem dX0_copy_61 : decode cX0_copy 61 = .ok (.aload_n 0, 1) := by decide +kernel
theorem dX0_copy_62 : decode cX0_copy 62 = .ok (.getfield 25, 3) := by decide +kernel
theorem dX0_copy_65 : decode cX0_copy 65 = .ok (.iload_n 2, 1) := by decide +kernel
theorem dX0_copy_66 : decode cX0_copy 66 = .ok (.aaload, 1) := by decide +kernel
theorem dX0_copy_67 : decode cX0_copy 67 = .ok (.aload_n 1, 1) := by decide +kernel
theorem dX0_copy_68 : decode cX0_copy 68 = .ok (.getfield 25, 3) := by decide +kernel
theorem dX0_copy_71 : decode cX0_copy 71 = .ok (.iload_n 2, 1) := by decide +kernel
theorem dX0_copy_72 : decode cX0_copy 72 = .ok (.aaload, 1) := by decide +kernel
theorem dX0_copy_73 : decode cX0_copy 73 = .ok (.invokevirtual 53, 3) := by decide +kernel
theorem dX0_copy_76 : decode cX0_copy 76 = .ok (.iinc 2 1, 3) := by decide +kernel
theorem dX0_copy_79 : decode cX0_copy 79 = .ok (.goto (-26), 3) := by decide +kernel
theorem dX0_copy_7 : decode cX0_copy 7 = .ok (.aload_n 0, 1) := by decide +kernel
theorem dX0_copy_8 : decode cX0_copy 8 = .ok (.getfield 11, 3) := by decide +kernel
theorem mw_104 : Cond.fieldLink RX0 11 "AskBack$Book" "scripts" "[LAskBack$Script;" ∈ wsL_law := inr_5 _ (List.mem_of_getElem? (i := 8) rfl)
section
variable {p : Program} {l : Launch} {e : Env} {R0 : Room} {s : State} {m : MethodId} {args : Array Value} {below : List Frame} {meth : Method} {c : Code} {H H0 : Heap} {locs : List Loc} {cells slots : Nat} {Q : State → Prop} {cc : ByteArray} {nL : Nat} {D : va_G} {cy : Nat → ClassId} {A : Nat → Prop} {L : List Nat} {R : Nat → Nat} {f : Nat → va_E} {pc : Nat} {ls : Array Slot} {rest : List Value} {a : Nat}
theorem g_0_11 (F : CallFix p m c cc nL s args wsL_law RX0) (h : tS D cy A H0 L R (TT cy L R) f s H locs) (ha : a ∈ L) (hr : R a = 0) (hdg : decode cc pc = .ok (.getfield 11, 3)) (kk : ∀ b : Nat, b ∈ L → R b = 20 → fld f a 0 = .ref b → W p l e R0 s m args below meth c H locs cells slots Q (F0 m (pc + 3) ls (.ref b :: rest))) : W p l e R0 s m args below meth c H locs cells slots Q (F0 m pc ls (.ref a :: rest)) := tu_getr F h ha hr (fun e q => (T_0 e).mp q) rfl inlX0 rfl (Nat.le_of_ble_eq_true rfl) mw_104 hdg kk
end
theorem dX0_copy_11 : decode cX0_copy 11 = .ok (.iload_n 2, 1) := by decide +kernel
theorem dX0_copy_12 : decode cX0_copy 12 = .ok (.aaload, 1) := by decide +kernel
theorem dX0_copy_13 : decode cX0_copy 13 = .ok (.aload_n 1, 1) := by decide +kernel
theorem dX0_copy_14 : decode cX0_copy 14 = .ok (.getfield 11, 3) := by decide +kernel
theorem dX0_copy_17 : decode cX0_copy 17 = .ok (.iload_n 2, 1) := by decide +kernel
theorem dX0_copy_18 : decode cX0_copy 18 = .ok (.aaload, 1) := by decide +kernel
theorem dX0_copy_19 : decode cX0_copy 19 = .ok (.invokevirtual 46, 3) := by decide +kernel
theorem mw_1566 : Cond.methodLink RX0 46 yX6_copy ∈ wsL_law := inr_66 _ (List.mem_of_getElem? (i := 6) rfl)
theorem mw_1569 : Cond.code yX6_copy cX6_copy 2 none ∈ wsL_law := inr_66 _ (List.mem_of_getElem? (i := 9) rfl)
theorem yk_X6_copy : xY yX6_copy RX6 cX6_copy 2 none 1 := ⟨⟨rfl, by decide +kernel, by decide +kernel, by decide +kernel⟩, mw_57, mw_1569⟩
theorem mw_1567 : Cond.instanceMethod yX6_copy ∈ wsL_law := inr_66 _ (List.mem_of_getElem? (i := 7) rfl)
theorem mw_1568 : Cond.selects RX6 yX6_copy yX6_copy ∈ wsL_law := inr_66 _ (List.mem_of_getElem? (i := 8) rfl)
theorem dX0_copy_22 : decode cX0_copy 22 = .ok (.aload_n 0, 1) := by decide +kernel
theorem dX0_copy_23 : decode cX0_copy 23 = .ok (.getfield 19, 3) := by decide +kernel
theorem mw_106 : Cond.fieldLink RX0 19 "AskBack$Book" "states" "[LAskBack$State;" ∈ wsL_law := inr_5 _ (List.mem_of_getElem? (i := 10) rfl)
section
variable {p : Program} {l : Launch} {e : Env} {R0 : Room} {s : State} {m : MethodId} {args : Array Value} {below : List Frame} {meth : Method} {c : Code} {H H0 : Heap} {locs : List Loc} {cells slots : Nat} {Q : State → Prop} {cc : ByteArray} {nL : Nat} {D : va_G} {cy : Nat → ClassId} {A : Nat → Prop} {L : List Nat} {R : Nat → Nat} {f : Nat → va_E} {pc : Nat} {ls : Array Slot} {rest : List Value} {a : Nat}
theorem g_0_19 (F : CallFix p m c cc nL s args wsL_law RX0) (h : tS D cy A H0 L R (TT cy L R) f s H locs) (ha : a ∈ L) (hr : R a = 0) (hdg : decode cc pc = .ok (.getfield 19, 3)) (kk : ∀ b : Nat, b ∈ L → R b = 21 → fld f a 1 = .ref b → W p l e R0 s m args below meth c H locs cells slots Q (F0 m (pc + 3) ls (.ref b :: rest))) : W p l e R0 s m args below meth c H locs cells slots Q (F0 m pc ls (.ref a :: rest)) := tu_getr F h ha hr (fun e q => (T_0 e).mp q) rfl inlX0 rfl (Nat.le_of_ble_eq_true rfl) mw_106 hdg kk
end
theorem dX0_copy_26 : decode cX0_copy 26 = .ok (.iload_n 2, 1) := by decide +kernel
theorem dX0_copy_27 : decode cX0_copy 27 = .ok (.aaload, 1) := by decide +kernel
theorem dX0_copy_28 : decode cX0_copy 28 = .ok (.aload_n 1, 1) := by decide +kernel
theorem dX0_copy_29 : decode cX0_copy 29 = .ok (.getfield 19, 3) := by decide +kernel
theorem dX0_copy_32 : decode cX0_copy 32 = .ok (.iload_n 2, 1) := by decide +kernel
theorem dX0_copy_33 : decode cX0_copy 33 = .ok (.aaload, 1) := by decide +kernel
theorem dX0_copy_34 : decode cX0_copy 34 = .ok (.invokevirtual 50, 3) := by decide +kernel
theorem mw_1571 : Cond.methodLink RX0 50 yX8_copy ∈ wsL_law := inr_66 _ (List.mem_of_getElem? (i := 11) rfl)
theorem dX0_copy_37 : decode cX0_copy 37 = .ok (.iinc 2 1, 3) := by decide +kernel
theorem dX0_copy_40 : decode cX0_copy 40 = .ok (.goto (-38), 3) := by decide +kernel
def rm_X0_copy : Room := { frames := 3, cells := 0, slots := 0, locals := 83 }
set_option maxHeartbeats 4000000 in
set_option maxRecDepth 100000 in
theorem s_X0_copy (l : Launch) (D : va_G) (cy : Nat → ClassId) (L : List Nat) (R O : Nat → Nat) (f0 : Nat → va_E) (hG : GG L R O f0) (a0 : Nat) (m_a0 : a0 ∈ L) (r_a0 : R a0 = 0) (a1 : Nat) (m_a1 : a1 ∈ L) (r_a1 : R a1 = 0) (P : Nat → Nat) (rd : Nat) (m_rd : rd ∈ L) (r_rd : R rd = 3) (pre0 : IB L R O P f0 rd) : ∀ sz, Met l yX0_copy (Cond.code yX0_copy cX0_copy 3 none :: wsL_law) rm_X0_copy (va_Pc [.ref a0, .ref a1] (tPZ D cy L R (TT cy L R) f0 sz)) (va_Qv (fun f1 => fr L R [(0, 5), (0, 6), (4, 1), (6, 14), (6, 15), (6, 16), (6, 17), (6, 18), (8, 1), (8, 2)] [0, 4, 6, 8, 23, 35, 36, 37, 38, 39, 40, 41, 42, 43, 44] f0 f1 ∧ GG L R O f1 ∧ IB L R O P f1 rd) (tB D (tA L sz) L R (TT cy L R)) (tA L sz)) 0 0 (tA L sz) := by
  refine tw_enterv (by decide +kernel) rfl (Nat.le_of_ble_eq_true rfl) ?_
  intro p e s m below meth c A ls args Q F hZ h hl hret
  have hl : lv_has ls 3 [(0, .ref a0), (1, .ref a1)] := hl
  have hk : fr L R [(0, 5), (0, 6), (4, 1), (6, 14), (6, 15), (6, 16), (6, 17), (6, 18), (8, 1), (8, 2)] [0, 4, 6, 8, 23, 35, 36, 37, 38, 39, 40, 41, 42, 43, 44] f0 f0 := fr.rf
  have hI := pre0
  refine tw_iconst F dX0_copy_0 ki_0 (fun z1 hz1 => ?_)
  refine lv_istore_n (lv' := [(2, .int z1), (0, .ref a0), (1, .ref a1)]) F.1 F.2.1 dX0_copy_1 rfl hl (by decide) rfl (fun ls hl => ?_)
  have j_2 : ∀ (n2 : Nat) (f2 : Nat → va_E) (H : Heap) (locs : List Loc) (ls : Array Slot) (x2_2 : Int32), 0 ≤ x2_2.toInt → x2_2.toInt ≤ 3 → ((3 - x2_2.toInt)).toNat < n2 → tS D cy A s.heap L R (TT cy L R) f2 s H locs → GG L R O f2 → IB L R O P f2 rd → fr L R [(0, 5), (0, 6), (4, 1), (6, 14), (6, 15), (6, 16), (6, 17), (6, 18), (8, 1), (8, 2)] [0, 4, 6, 8, 23, 35, 36, 37, 38, 39, 40, 41, 42, 43, 44] f0 f2 → lv_has ls 3 [(0, .ref a0), (1, .ref a1), (2, .int x2_2)] → W p l e rm_X0_copy s m args below meth c H locs 0 0 Q (F0 m 2 ls []) := by
    intro n2
    induction n2 with
    | zero =>
      intro f2 H locs ls x2_2 b3 b4 b5 h hG hI hk hl
      exfalso
      omega
    | succ n2 ih2 =>
      intro f2 H locs ls x2_2 b3 b4 b5 h hG hI hk hl
      refine lv_iload_n F.1 F.2.1 dX0_copy_2 rfl (lv_at hl 2 rfl) ?_
      refine tw_iconst F dX0_copy_3 ki_3 (fun z6 hz6 => ?_)
      refine tw_icmp_ge (tgt := 43) F dX0_copy_4 (by decide) (fun b7 => ?_) (fun b7 => ?_)
      · refine lv_aload_n F.1 F.2.1 dX0_copy_43 rfl (lv_at hl 0 rfl) ?_
        refine lv_aload_n F.1 F.2.1 dX0_copy_44 rfl (lv_at hl 1 rfl) ?_
        refine g_0_36 F h m_a1 r_a1 dX0_copy_45 (fun v8 hv8 hv8a hv8b => ?_)
        refine p_0_36 F h m_a0 r_a0 (by omega) dX0_copy_48 (fun f9 H locs e9p hf9 h => ?_)
        have hI : IB L R O P f9 rd := IB_fr hI hG.1 hf9 (by decide +kernel) (by decide +kernel) (by decide +kernel) m_rd r_rd
        have hG : GG L R O f9 := hG.fr hf9 (by decide +kernel) (by decide +kernel)
        have hk : fr L R [(0, 5), (0, 6), (4, 1), (6, 14), (6, 15), (6, 16), (6, 17), (6, 18), (8, 1), (8, 2)] [0, 4, 6, 8, 23, 35, 36, 37, 38, 39, 40, 41, 42, 43, 44] f0 f9 := hk.tr hf9 rfl rfl
        refine tw_iconst F dX0_copy_51 ki_0 (fun z10 hz10 => ?_)
        refine lv_istore_n (lv' := [(2, .int z10), (0, .ref a0), (1, .ref a1)]) F.1 F.2.1 dX0_copy_52 rfl hl (by decide) rfl (fun ls hl => ?_)
        have j_53 : ∀ (n53 : Nat) (f11 : Nat → va_E) (H : Heap) (locs : List Loc) (ls : Array Slot) (x2_53 : Int32), 0 ≤ x2_53.toInt → x2_53.toInt ≤ 16 → ((16 - x2_53.toInt)).toNat < n53 → tS D cy A s.heap L R (TT cy L R) f11 s H locs → GG L R O f11 → IB L R O P f11 rd → fr L R [(0, 5), (0, 6), (4, 1), (6, 14), (6, 15), (6, 16), (6, 17), (6, 18), (8, 1), (8, 2)] [0, 4, 6, 8, 23, 35, 36, 37, 38, 39, 40, 41, 42, 43, 44] f0 f11 → fr L R [(4, 1)] [4, 23] f9 f11 → lv_has ls 3 [(0, .ref a0), (1, .ref a1), (2, .int x2_53)] → W p l e rm_X0_copy s m args below meth c H locs 0 0 Q (F0 m 53 ls []) := by
          intro n53
          induction n53 with
          | zero =>
            intro f11 H locs ls x2_53 b12 b13 b14 h hG hI hk hb53 hl
            exfalso
            omega
          | succ n53 ih53 =>
            intro f11 H locs ls x2_53 b12 b13 b14 h hG hI hk hb53 hl
            have e15 : fi f11 a1 5 = fi f9 a1 5 := hb53.efi m_a1 r_a1 rfl
            have e16 : fi f11 a0 5 = fi f9 a0 5 := hb53.efi m_a0 r_a0 rfl
            refine lv_iload_n F.1 F.2.1 dX0_copy_53 rfl (lv_at hl 2 rfl) ?_
            refine lv_aload_n F.1 F.2.1 dX0_copy_54 rfl (lv_at hl 0 rfl) ?_
            refine g_0_36 F h m_a0 r_a0 dX0_copy_55 (fun v17 hv17 hv17a hv17b => ?_)
            refine tw_icmp_ge (tgt := 82) F dX0_copy_58 (by decide) (fun b18 => ?_) (fun b18 => ?_)
            · refine lv_aload_n F.1 F.2.1 dX0_copy_82 rfl (lv_at hl 0 rfl) ?_
              refine lv_aload_n F.1 F.2.1 dX0_copy_83 rfl (lv_at hl 1 rfl) ?_
              refine g_0_40 F h m_a1 r_a1 dX0_copy_84 (fun v19 hv19 hv19a hv19b => ?_)
              refine p_0_40 F h m_a0 r_a0 (by omega) dX0_copy_87 (fun f20 H locs e20p hf20 h => ?_)
              have hI : IB L R O P f20 rd := IB_fr hI hG.1 hf20 (by decide +kernel) (by decide +kernel) (by decide +kernel) m_rd r_rd
              have hG : GG L R O f20 := hG.fr hf20 (by decide +kernel) (by decide +kernel)
              have hk : fr L R [(0, 5), (0, 6), (4, 1), (6, 14), (6, 15), (6, 16), (6, 17), (6, 18), (8, 1), (8, 2)] [0, 4, 6, 8, 23, 35, 36, 37, 38, 39, 40, 41, 42, 43, 44] f0 f20 := hk.tr hf20 rfl rfl
              have e21 : fi f20 a1 5 = fi f11 a1 5 := hf20.efi m_a1 r_a1 rfl
              have e22 : fi f20 a0 5 = fi f11 a0 5 := hf20.efi m_a0 r_a0 rfl
              refine lv_aload_n F.1 F.2.1 dX0_copy_90 rfl (lv_at hl 1 rfl) ?_
              refine g_0_29 F h m_a1 r_a1 dX0_copy_91 (fun o23 m_o23 r_o23 ho23 => ?_)
              refine tw_iconst F dX0_copy_94 ki_0 (fun z24 hz24 => ?_)
              refine lv_aload_n F.1 F.2.1 dX0_copy_95 rfl (lv_at hl 0 rfl) ?_
              refine g_0_29 F h m_a0 r_a0 dX0_copy_96 (fun o25 m_o25 r_o25 ho25 => ?_)
              refine tw_iconst F dX0_copy_99 ki_0 (fun z26 hz26 => ?_)
              refine lv_aload_n F.1 F.2.1 dX0_copy_100 rfl (lv_at hl 0 rfl) ?_
              refine g_0_40 F h m_a0 r_a0 dX0_copy_101 (fun v27 hv27 hv27a hv27b => ?_)
              refine cp_23_23 F h hl.1 mw_1565 m_o23 r_o23 m_o25 r_o25 (by omega) (Nat.le_of_ble_eq_true rfl) (Nat.le_of_ble_eq_true rfl) dX0_copy_104 (fun f28 H locs hf28 h => ?_)
              have hI : IB L R O P f28 rd := IB_fr hI hG.1 hf28 (by decide +kernel) (by decide +kernel) (by decide +kernel) m_rd r_rd
              have hG : GG L R O f28 := hG.fr hf28 (by decide +kernel) (by decide +kernel)
              have hk : fr L R [(0, 5), (0, 6), (4, 1), (6, 14), (6, 15), (6, 16), (6, 17), (6, 18), (8, 1), (8, 2)] [0, 4, 6, 8, 23, 35, 36, 37, 38, 39, 40, 41, 42, 43, 44] f0 f28 := hk.tr hf28 rfl rfl
              have e29 : fi f28 a1 5 = fi f20 a1 5 := hf28.efi m_a1 r_a1 rfl
              have e30 : fi f28 a0 5 = fi f20 a0 5 := hf28.efi m_a0 r_a0 rfl
              have e31 : fi f28 a1 6 = fi f20 a1 6 := hf28.efi m_a1 r_a1 rfl
              have e32 : fi f28 a0 6 = fi f20 a0 6 := hf28.efi m_a0 r_a0 rfl
              refine lv_aload_n F.1 F.2.1 dX0_copy_107 rfl (lv_at hl 1 rfl) ?_
              refine g_0_33 F h m_a1 r_a1 dX0_copy_108 (fun o33 m_o33 r_o33 ho33 => ?_)
              refine tw_iconst F dX0_copy_111 ki_0 (fun z34 hz34 => ?_)
              refine lv_aload_n F.1 F.2.1 dX0_copy_112 rfl (lv_at hl 0 rfl) ?_
              refine g_0_33 F h m_a0 r_a0 dX0_copy_113 (fun o35 m_o35 r_o35 ho35 => ?_)
              refine tw_iconst F dX0_copy_116 ki_0 (fun z36 hz36 => ?_)
              refine lv_aload_n F.1 F.2.1 dX0_copy_117 rfl (lv_at hl 0 rfl) ?_
              refine g_0_40 F h m_a0 r_a0 dX0_copy_118 (fun v37 hv37 hv37a hv37b => ?_)
              refine cp_23_23 F h hl.1 mw_1565 m_o33 r_o33 m_o35 r_o35 (by omega) (Nat.le_of_ble_eq_true rfl) (Nat.le_of_ble_eq_true rfl) dX0_copy_121 (fun f38 H locs hf38 h => ?_)
              have hI : IB L R O P f38 rd := IB_fr hI hG.1 hf38 (by decide +kernel) (by decide +kernel) (by decide +kernel) m_rd r_rd
              have hG : GG L R O f38 := hG.fr hf38 (by decide +kernel) (by decide +kernel)
              have hk : fr L R [(0, 5), (0, 6), (4, 1), (6, 14), (6, 15), (6, 16), (6, 17), (6, 18), (8, 1), (8, 2)] [0, 4, 6, 8, 23, 35, 36, 37, 38, 39, 40, 41, 42, 43, 44] f0 f38 := hk.tr hf38 rfl rfl
              have e39 : fi f38 a1 5 = fi f28 a1 5 := hf38.efi m_a1 r_a1 rfl
              have e40 : fi f38 a0 5 = fi f28 a0 5 := hf38.efi m_a0 r_a0 rfl
              have e41 : fi f38 a1 6 = fi f28 a1 6 := hf38.efi m_a1 r_a1 rfl
              have e42 : fi f38 a0 6 = fi f28 a0 6 := hf38.efi m_a0 r_a0 rfl
              exact hret f38 _ _ _ _ dX0_copy_124 ⟨hk, hG, hI⟩ h
            · refine lv_aload_n F.1 F.2.1 dX0_copy_61 rfl (lv_at hl 0 rfl) ?_
              refine g_0_25 F h m_a0 r_a0 dX0_copy_62 (fun o43 m_o43 r_o43 ho43 => ?_)
              refine lv_iload_n F.1 F.2.1 dX0_copy_65 rfl (lv_at hl 2 rfl) ?_
              refine ld_22 F h m_o43 r_o43 (by omega) dX0_copy_66 (fun o44 m_o44 r_o44 => ?_)
              refine lv_aload_n F.1 F.2.1 dX0_copy_67 rfl (lv_at hl 1 rfl) ?_
              refine g_0_25 F h m_a1 r_a1 dX0_copy_68 (fun o45 m_o45 r_o45 ho45 => ?_)
              refine lv_iload_n F.1 F.2.1 dX0_copy_71 rfl (lv_at hl 2 rfl) ?_
              refine ld_22 F h m_o45 r_o45 (by omega) dX0_copy_72 (fun o46 m_o46 r_o46 => ?_)
              refine tw_Vv (As := [.ref o46]) F hZ h yk_X4_copy mw_437 mw_438 mw_439 (s_X4_copy l D cy L R O f11 o44 m_o44 r_o44 o46 m_o46 r_o46) rfl rfl m_o44 r_o44 (fun e q => (T_4 e).mp q) rfl hl.1 rfl (Nat.le_of_ble_eq_true rfl) ⟨Nat.le_of_ble_eq_true rfl, Nat.le_of_ble_eq_true rfl⟩ ⟨Nat.le_of_ble_eq_true rfl, Nat.le_of_ble_eq_true rfl⟩ dX0_copy_73 (fun f47 H locs hp47 h => ?_)
              have hf47 := hp47
              have hI : IB L R O P f47 rd := IB_fr hI hG.1 hf47 (by decide +kernel) (by decide +kernel) (by decide +kernel) m_rd r_rd
              have hG : GG L R O f47 := hG.fr hf47 (by decide +kernel) (by decide +kernel)
              have hk : fr L R [(0, 5), (0, 6), (4, 1), (6, 14), (6, 15), (6, 16), (6, 17), (6, 18), (8, 1), (8, 2)] [0, 4, 6, 8, 23, 35, 36, 37, 38, 39, 40, 41, 42, 43, 44] f0 f47 := hk.tr hf47 rfl rfl
              have hb53 : fr L R [(4, 1)] [4, 23] f9 f47 := hb53.tr hf47 rfl rfl
              have e49 : fi f47 a1 5 = fi f11 a1 5 := hf47.efi m_a1 r_a1 rfl
              have e50 : fi f47 a0 5 = fi f11 a0 5 := hf47.efi m_a0 r_a0 rfl
              refine tu_iinc F dX0_copy_76 hl (k := 2) rfl (by decide) ki_1 (by omega) (fun z51 ls hz51 hl => ?_)
              have hl : lv_has ls 3 [(2, .int z51), (0, .ref a0), (1, .ref a1)] := hl
              refine lv_goto (tgt := 53) F.1 F.2.1 dX0_copy_79 (by decide) ?_
              exact ih53 f47 _ _ _ z51 (by omega) (by omega) (by omega) h hG hI hk hb53 (lv_sub hl [1, 2, 0] rfl)
        have hb53 : fr L R [(4, 1)] [4, 23] f9 f9 := fr.rf
        exact j_53 (((16 - z10.toInt)).toNat + 1) f9 _ _ _ z10 (by omega) (by omega) (by omega) h hG hI hk hb53 (lv_sub hl [1, 2, 0] rfl)
      · refine lv_aload_n F.1 F.2.1 dX0_copy_7 rfl (lv_at hl 0 rfl) ?_
        refine g_0_11 F h m_a0 r_a0 dX0_copy_8 (fun o52 m_o52 r_o52 ho52 => ?_)
        refine lv_iload_n F.1 F.2.1 dX0_copy_11 rfl (lv_at hl 2 rfl) ?_
        refine le_20 F h m_o52 r_o52 (by omega) dX0_copy_12 (fun o53 m_o53 r_o53 eo53 => ?_)
        refine lv_aload_n F.1 F.2.1 dX0_copy_13 rfl (lv_at hl 1 rfl) ?_
        refine g_0_11 F h m_a1 r_a1 dX0_copy_14 (fun o54 m_o54 r_o54 ho54 => ?_)
        refine lv_iload_n F.1 F.2.1 dX0_copy_17 rfl (lv_at hl 2 rfl) ?_
        refine le_20 F h m_o54 r_o54 (by omega) dX0_copy_18 (fun o55 m_o55 r_o55 eo55 => ?_)
        have hGo := hG
        refine tw_Vv (As := [.ref o55]) F hZ h yk_X6_copy mw_1566 mw_1567 mw_1568 (s_X6_copy l D cy L R O f2 hG o53 m_o53 r_o53 o55 m_o55 r_o55) rfl rfl m_o53 r_o53 (fun e q => (T_6 e).mp q) rfl hl.1 rfl (Nat.le_of_ble_eq_true rfl) ⟨Nat.le_of_ble_eq_true rfl, Nat.le_of_ble_eq_true rfl⟩ ⟨Nat.le_of_ble_eq_true rfl, Nat.le_of_ble_eq_true rfl⟩ dX0_copy_19 (fun f56 H locs hp56 h => ?_)
        obtain ⟨hf56, hG, hv57p0, hv57p1, hv57p2⟩ := hp56
        have hk : fr L R [(0, 5), (0, 6), (4, 1), (6, 14), (6, 15), (6, 16), (6, 17), (6, 18), (8, 1), (8, 2)] [0, 4, 6, 8, 23, 35, 36, 37, 38, 39, 40, 41, 42, 43, 44] f0 f56 := hk.tr hf56 (by decide +kernel) (by decide +kernel)
        refine lv_aload_n F.1 F.2.1 dX0_copy_22 rfl (lv_at hl 0 rfl) ?_
        refine g_0_19 F h m_a0 r_a0 dX0_copy_23 (fun o58 m_o58 r_o58 ho58 => ?_)
        refine lv_iload_n F.1 F.2.1 dX0_copy_26 rfl (lv_at hl 2 rfl) ?_
        refine le_21 F h m_o58 r_o58 (by omega) dX0_copy_27 (fun o59 m_o59 r_o59 eo59 => ?_)
        refine lv_aload_n F.1 F.2.1 dX0_copy_28 rfl (lv_at hl 1 rfl) ?_
        refine g_0_19 F h m_a1 r_a1 dX0_copy_29 (fun o60 m_o60 r_o60 ho60 => ?_)
        refine lv_iload_n F.1 F.2.1 dX0_copy_32 rfl (lv_at hl 2 rfl) ?_
        refine le_21 F h m_o60 r_o60 (by omega) dX0_copy_33 (fun o61 m_o61 r_o61 eo61 => ?_)
        refine tw_Vv (As := [.ref o61]) F hZ h yk_X8_copy mw_1571 mw_1220 mw_1221 (s_X8_copy l D cy L R O f56 o59 m_o59 r_o59 o61 m_o61 r_o61) rfl rfl m_o59 r_o59 (fun e q => (T_8 e).mp q) rfl hl.1 rfl (Nat.le_of_ble_eq_true rfl) ⟨Nat.le_of_ble_eq_true rfl, Nat.le_of_ble_eq_true rfl⟩ ⟨Nat.le_of_ble_eq_true rfl, Nat.le_of_ble_eq_true rfl⟩ dX0_copy_34 (fun f62 H locs hp62 h => ?_)
        obtain ⟨hf62, hv63p0, hv63p1⟩ := hp62
        have hG : GG L R O f62 := hG.fr hf62 (by decide +kernel) (by decide +kernel)
        have hk : fr L R [(0, 5), (0, 6), (4, 1), (6, 14), (6, 15), (6, 16), (6, 17), (6, 18), (8, 1), (8, 2)] [0, 4, 6, 8, 23, 35, 36, 37, 38, 39, 40, 41, 42, 43, 44] f0 f62 := hk.tr hf62 (by decide +kernel) (by decide +kernel)
        have hI : IB L R O P f62 rd := IB_copy hI hGo.1 hf56 hf62 (by decide +kernel) (by decide +kernel) (by decide +kernel) (by decide +kernel) (by decide +kernel) m_rd r_rd m_a0 r_a0 m_a1 r_a1 (i := x2_2.toInt.toNat) (by omega) (by rw [rfa_of ho52]; exact eo53) (by rw [rfa_of ho54]; exact eo55) (by rw [← hf56.erf m_a0 r_a0 (by decide +kernel), rfa_of ho58, ← hf56.eelq m_o58 r_o58 (by decide +kernel)]; exact eo59) (by rw [← hf56.erf m_a1 r_a1 (by decide +kernel), rfa_of ho60, ← hf56.eelq m_o60 r_o60 (by decide +kernel)]; exact eo61) hv57p0 hv57p1 hv57p2 hv63p0 hv63p1
        refine tu_iinc F dX0_copy_37 hl (k := 2) rfl (by decide) ki_1 (by omega) (fun z64 ls hz64 hl => ?_)
        have hl : lv_has ls 3 [(2, .int z64), (0, .ref a0), (1, .ref a1)] := hl
        refine lv_goto (tgt := 2) F.1 F.2.1 dX0_copy_40 (by decide) ?_
        exact ih2 f62 _ _ _ z64 (by omega) (by omega) (by omega) h hG hI hk (lv_sub hl [1, 2, 0] rfl)
  exact j_2 (((3 - z1.toInt)).toNat + 1) f0 _ _ _ z1 (by omega) (by omega) (by omega) h hG hI hk (lv_sub hl [1, 2, 0] rfl)
theorem dX11_back_0 : decode cX11_back 0 = .ok (.aload_n 0, 1) := by decide +kernel
theorem dX11_back_1 : decode cX11_back 1 = .ok (.getfield 69, 3) := by decide +kernel
theorem mw_42 : Cond.fieldLink RX11 69 "AskBack" "markCount" "I" ∈ wsL_law := inr_2 _ (List.mem_of_getElem? (i := 18) rfl)
section
variable {p : Program} {l : Launch} {e : Env} {R0 : Room} {s : State} {m : MethodId} {args : Array Value} {below : List Frame} {meth : Method} {c : Code} {H H0 : Heap} {locs : List Loc} {cells slots : Nat} {Q : State → Prop} {cc : ByteArray} {nL : Nat} {D : va_G} {cy : Nat → ClassId} {A : Nat → Prop} {L : List Nat} {R : Nat → Nat} {f : Nat → va_E} {pc : Nat} {ls : Array Slot} {rest : List Value} {a : Nat}
theorem g_11_69 (F : CallFix p m c cc nL s args wsL_law RX11) (h : tS D cy A H0 L R (TT cy L R) f s H locs) (ha : a ∈ L) (hr : R a = 11) (hdg : decode cc pc = .ok (.getfield 69, 3)) (kk : ∀ x : Int32, x.toInt = fi f a 11 → 0 ≤ x.toInt → x.toInt ≤ 3 → W p l e R0 s m args below meth c H locs cells slots Q (F0 m (pc + 3) ls (.int x :: rest))) : W p l e R0 s m args below meth c H locs cells slots Q (F0 m pc ls (.ref a :: rest)) := tu_geti F h ha hr (fun e q => (T_11 e).mp q) rfl inlX11 rfl (Nat.le_of_ble_eq_true rfl) mw_42 hdg (fun x h1 h2 h3 => kk x h1 h2 h3)
end
theorem dX11_back_4 : decode cX11_back 4 = .ok (.ifCond .gt 10, 3) := by decide +kernel
theorem dX11_back_14 : decode cX11_back 14 = .ok (.aload_n 0, 1) := by decide +kernel
theorem dX11_back_15 : decode cX11_back 15 = .ok (.dup, 1) := by decide +kernel
theorem dX11_back_16 : decode cX11_back 16 = .ok (.getfield 69, 3) := by decide +kernel
theorem dX11_back_19 : decode cX11_back 19 = .ok (.iconst 1, 1) := by decide +kernel
theorem dX11_back_20 : decode cX11_back 20 = .ok (.isub, 1) := by decide +kernel
theorem dX11_back_21 : decode cX11_back 21 = .ok (.putfield 69, 3) := by decide +kernel
section
variable {p : Program} {l : Launch} {e : Env} {R0 : Room} {s : State} {m : MethodId} {args : Array Value} {below : List Frame} {meth : Method} {c : Code} {H H0 : Heap} {locs : List Loc} {cells slots : Nat} {Q : State → Prop} {cc : ByteArray} {nL : Nat} {D : va_G} {cy : Nat → ClassId} {A : Nat → Prop} {L : List Nat} {R : Nat → Nat} {f : Nat → va_E} {pc : Nat} {ls : Array Slot} {rest : List Value} {a : Nat}
theorem p_11_69 (F : CallFix p m c cc nL s args wsL_law RX11) (h : tS D cy A H0 L R (TT cy L R) f s H locs) {x : Int32} (ha : a ∈ L) (hr : R a = 11) (hv : 0 ≤ x.toInt ∧ x.toInt ≤ 3) (hdg : decode cc pc = .ok (.putfield 69, 3)) (kk : ∀ (f1 : Nat → va_E) (H1 : Heap) (locs1 : List Loc), fi f1 a 11 = x.toInt → fr L R [(11, 11)] [11] f f1 → tS D cy A H0 L R (TT cy L R) f1 s H1 locs1 → W p l e R0 s m args below meth c H1 locs1 cells slots Q (F0 m (pc + 3) ls (rest))) : W p l e R0 s m args below meth c H locs cells slots Q (F0 m pc ls (.int x :: .ref a :: rest)) := tu_puti (k := 11) F h ha hr T_11 rfl hv.1 hv.2 inlX11 tyX11_ok nmX11 rfl (Nat.le_of_ble_eq_true rfl) mw_42 rfl rfl rfl hdg kk
end
theorem dX11_back_24 : decode cX11_back 24 = .ok (.aload_n 0, 1) := by decide +kernel
theorem dX11_back_25 : decode cX11_back 25 = .ok (.getfield 29, 3) := by decide +kernel
theorem dX11_back_28 : decode cX11_back 28 = .ok (.aload_n 0, 1) := by decide +kernel
theorem dX11_back_29 : decode cX11_back 29 = .ok (.getfield 33, 3) := by decide +kernel
theorem mw_25 : Cond.fieldLink RX11 33 "AskBack" "marks" "[LAskBack$Book;" ∈ wsL_law := inr_2 _ (List.mem_of_getElem? (i := 1) rfl)
section
variable {p : Program} {l : Launch} {e : Env} {R0 : Room} {s : State} {m : MethodId} {args : Array Value} {below : List Frame} {meth : Method} {c : Code} {H H0 : Heap} {locs : List Loc} {cells slots : Nat} {Q : State → Prop} {cc : ByteArray} {nL : Nat} {D : va_G} {cy : Nat → ClassId} {A : Nat → Prop} {L : List Nat} {R : Nat → Nat} {f : Nat → va_E} {pc : Nat} {ls : Array Slot} {rest : List Value} {a : Nat}
theorem g_11_33 (F : CallFix p m c cc nL s args wsL_law RX11) (h : tS D cy A H0 L R (TT cy L R) f s H locs) (ha : a ∈ L) (hr : R a = 11) (hdg : decode cc pc = .ok (.getfield 33, 3)) (kk : ∀ b : Nat, b ∈ L → R b = 57 → fld f a 4 = .ref b → W p l e R0 s m args below meth c H locs cells slots Q (F0 m (pc + 3) ls (.ref b :: rest))) : W p l e R0 s m args below meth c H locs cells slots Q (F0 m pc ls (.ref a :: rest)) := tu_getr F h ha hr (fun e q => (T_11 e).mp q) rfl inlX11 rfl (Nat.le_of_ble_eq_true rfl) mw_25 hdg kk
end
theorem dX11_back_32 : decode cX11_back 32 = .ok (.aload_n 0, 1) := by decide +kernel
theorem dX11_back_33 : decode cX11_back 33 = .ok (.getfield 69, 3) := by decide +kernel
theorem dX11_back_36 : decode cX11_back 36 = .ok (.aaload, 1) := by decide +kernel
section
variable {p : Program} {l : Launch} {e : Env} {R0 : Room} {s : State} {m : MethodId} {args : Array Value} {below : List Frame} {meth : Method} {c : Code} {H H0 : Heap} {locs : List Loc} {cells slots : Nat} {Q : State → Prop} {cc : ByteArray} {nL : Nat} {D : va_G} {cy : Nat → ClassId} {A : Nat → Prop} {L : List Nat} {R : Nat → Nat} {f : Nat → va_E} {pc : Nat} {ls : Array Slot} {rest : List Value} {a : Nat}
theorem ld_57 {own : String} (F : CallFix p m c cc nL s args wsL_law own) (h : tS D cy A H0 L R (TT cy L R) f s H locs) {i : Int32} (ha : a ∈ L) (hr : R a = 57) (hb : 0 ≤ i.toInt ∧ i.toInt < 3) (hdg : decode cc pc = .ok (.aaload, 1)) (kk : ∀ b : Nat, b ∈ L → R b = 0 → W p l e R0 s m args below meth c H locs cells slots Q (F0 m (pc + 1) ls (.ref b :: rest))) : W p l e R0 s m args below meth c H locs cells slots Q (F0 m pc ls (.int i :: .ref a :: rest)) := tu_aald (t0 := 4) F h ha hr (fun e q => (T_57 e).mp q) rfl hb.1 hb.2 hdg kk
end
theorem dX11_back_37 : decode cX11_back 37 = .ok (.invokevirtual 407, 3) := by decide +kernel
theorem mw_1561 : Cond.methodLink RX11 407 yX0_copy ∈ wsL_law := inr_66 _ (List.mem_of_getElem? (i := 1) rfl)
theorem mw_1564 : Cond.code yX0_copy cX0_copy 3 none ∈ wsL_law := inr_66 _ (List.mem_of_getElem? (i := 4) rfl)
theorem yk_X0_copy : xY yX0_copy RX0 cX0_copy 3 none 1 := ⟨⟨rfl, by decide +kernel, by decide +kernel, by decide +kernel⟩, mw_23, mw_1564⟩
theorem mw_1562 : Cond.instanceMethod yX0_copy ∈ wsL_law := inr_66 _ (List.mem_of_getElem? (i := 2) rfl)
theorem mw_1563 : Cond.selects RX0 yX0_copy yX0_copy ∈ wsL_law := inr_66 _ (List.mem_of_getElem? (i := 3) rfl)
theorem dX11_back_40 : decode cX11_back 40 = .ok (.aload_n 0, 1) := by decide +kernel
theorem dX11_back_41 : decode cX11_back 41 = .ok (.aload_n 0, 1) := by decide +kernel
theorem dX11_back_42 : decode cX11_back 42 = .ok (.getfield 69, 3) := by decide +kernel
theorem dX11_back_45 : decode cX11_back 45 = .ok (.invokevirtual 158, 3) := by decide +kernel
theorem dX11_back_48 : decode cX11_back 48 = .ok (.ireturn, 1) := by decide +kernel
theorem dX11_back_7 : decode cX11_back 7 = .ok (.aload_n 0, 1) := by decide +kernel
theorem dX11_back_8 : decode cX11_back 8 = .ok (.bipush 6, 2) := by decide +kernel
theorem dX11_back_10 : decode cX11_back 10 = .ok (.invokevirtual 140, 3) := by decide +kernel
theorem dX11_back_13 : decode cX11_back 13 = .ok (.ireturn, 1) := by decide +kernel
def rm_X11_back : Room := { frames := 4, cells := 0, slots := 0, locals := 105 }
set_option maxHeartbeats 4000000 in
set_option maxRecDepth 100000 in
theorem s_X11_back (l : Launch) (D : va_G) (cy : Nat → ClassId) (L : List Nat) (R O : Nat → Nat) (f0 : Nat → va_E) (hG : GG L R O f0) (a0 : Nat) (m_a0 : a0 ∈ L) (r_a0 : R a0 = 11) (P : Nat → Nat) (pre0 : IB L R O P f0 (rfa f0 a0 2)) : ∀ sz, Met l yX11_back (Cond.code yX11_back cX11_back 1 (some .int) :: wsL_law) rm_X11_back (va_Pc [.ref a0] (tPZ D cy L R (TT cy L R) f0 sz)) (va_Qi (fun (r : Int32) f1 => fr L R [(0, 5), (0, 6), (4, 1), (6, 14), (6, 15), (6, 16), (6, 17), (6, 18), (8, 1), (8, 2), (11, 11), (11, 14)] [0, 4, 6, 8, 11, 23, 35, 36, 37, 38, 39, 40, 41, 42, 43, 44] f0 f1 ∧ GG L R O f1 ∧ IB L R O P f1 (rfa f0 a0 2)) (tB D (tA L sz) L R (TT cy L R)) (tA L sz)) 0 0 (tA L sz) := by
  refine tw_enteri (by decide +kernel) rfl (Nat.le_of_ble_eq_true rfl) ?_
  intro p e s m below meth c A ls args Q F hZ h hl hret
  have hl : lv_has ls 1 [(0, .ref a0)] := hl
  have hk : fr L R [(0, 5), (0, 6), (4, 1), (6, 14), (6, 15), (6, 16), (6, 17), (6, 18), (8, 1), (8, 2), (11, 11), (11, 14)] [0, 4, 6, 8, 11, 23, 35, 36, 37, 38, 39, 40, 41, 42, 43, 44] f0 f0 := fr.rf
  obtain ⟨a0_reader, m_a0_reader, r_a0_reader, t_a0_reader⟩ := h.rf m_a0 r_a0 (fun e q => (T_11 e).mp q) (k := 2) rfl
  rw [rfa_of t_a0_reader] at pre0
  have hI := pre0
  refine lv_aload_n F.1 F.2.1 dX11_back_0 rfl (lv_at hl 0 rfl) ?_
  refine g_11_69 F h m_a0 r_a0 dX11_back_1 (fun v1 hv1 hv1a hv1b => ?_)
  refine tw_if_gt (tgt := 14) F dX11_back_4 (by decide) (fun b2 => ?_) (fun b2 => ?_)
  · refine lv_aload_n F.1 F.2.1 dX11_back_14 rfl (lv_at hl 0 rfl) ?_
    refine lv_dup F.1 F.2.1 dX11_back_15 rfl ?_
    refine g_11_69 F h m_a0 r_a0 dX11_back_16 (fun v3 hv3 hv3a hv3b => ?_)
    refine tw_iconst F dX11_back_19 ki_1 (fun z4 hz4 => ?_)
    refine tu_isub F dX11_back_20 (by omega) (fun z5 hz5 => ?_)
    refine p_11_69 F h m_a0 r_a0 (by omega) dX11_back_21 (fun f6 H locs e6p hf6 h => ?_)
    have hI : IB L R O P f6 a0_reader := IB_fr hI hG.1 hf6 (by decide +kernel) (by decide +kernel) (by decide +kernel) m_a0_reader r_a0_reader
    have hG : GG L R O f6 := hG.fr hf6 (by decide +kernel) (by decide +kernel)
    have hk : fr L R [(0, 5), (0, 6), (4, 1), (6, 14), (6, 15), (6, 16), (6, 17), (6, 18), (8, 1), (8, 2), (11, 11), (11, 14)] [0, 4, 6, 8, 11, 23, 35, 36, 37, 38, 39, 40, 41, 42, 43, 44] f0 f6 := hk.tr hf6 rfl rfl
    have e7 : fld f6 a0 2 = .ref a0_reader := (hf6.efl m_a0 r_a0 rfl).trans t_a0_reader
    refine lv_aload_n F.1 F.2.1 dX11_back_24 rfl (lv_at hl 0 rfl) ?_
    refine g_11_29 F h m_a0 r_a0 dX11_back_25 (fun o8 m_o8 r_o8 ho8 => ?_)
    refine lv_aload_n F.1 F.2.1 dX11_back_28 rfl (lv_at hl 0 rfl) ?_
    refine g_11_33 F h m_a0 r_a0 dX11_back_29 (fun o9 m_o9 r_o9 ho9 => ?_)
    refine lv_aload_n F.1 F.2.1 dX11_back_32 rfl (lv_at hl 0 rfl) ?_
    refine g_11_69 F h m_a0 r_a0 dX11_back_33 (fun v10 hv10 hv10a hv10b => ?_)
    refine ld_57 F h m_o9 r_o9 (by omega) dX11_back_36 (fun o11 m_o11 r_o11 => ?_)
    have hGo := hG
    refine tw_Vv (As := [.ref o11]) F hZ h yk_X0_copy mw_1561 mw_1562 mw_1563 (s_X0_copy l D cy L R O f6 hG o8 m_o8 r_o8 o11 m_o11 r_o11 P a0_reader m_a0_reader r_a0_reader hI) rfl rfl m_o8 r_o8 (fun e q => (T_0 e).mp q) rfl hl.1 rfl (Nat.le_of_ble_eq_true rfl) ⟨Nat.le_of_ble_eq_true rfl, Nat.le_of_ble_eq_true rfl⟩ ⟨Nat.le_of_ble_eq_true rfl, Nat.le_of_ble_eq_true rfl⟩ dX11_back_37 (fun f12 H locs hp12 h => ?_)
    obtain ⟨hf12, hG, hv13p0⟩ := hp12
    have hk : fr L R [(0, 5), (0, 6), (4, 1), (6, 14), (6, 15), (6, 16), (6, 17), (6, 18), (8, 1), (8, 2), (11, 11), (11, 14)] [0, 4, 6, 8, 11, 23, 35, 36, 37, 38, 39, 40, 41, 42, 43, 44] f0 f12 := hk.tr hf12 (by decide +kernel) (by decide +kernel)
    have e14 : fld f12 a0 2 = .ref a0_reader := (hf12.efl m_a0 r_a0 rfl).trans e7
    have e15 : fi f12 a0 11 = fi f6 a0 11 := hf12.efi m_a0 r_a0 rfl
    have hI : IB L R O P f12 a0_reader := hv13p0
    refine lv_aload_n F.1 F.2.1 dX11_back_40 rfl (lv_at hl 0 rfl) ?_
    refine lv_aload_n F.1 F.2.1 dX11_back_41 rfl (lv_at hl 0 rfl) ?_
    refine g_11_69 F h m_a0 r_a0 dX11_back_42 (fun v16 hv16 hv16a hv16b => ?_)
    refine tw_Vi (As := [.int v16]) F hZ h yk_X11_grant mw_442 mw_443 mw_444 (s_X11_grant l D cy L R O f12 a0 m_a0 r_a0 v16) rfl rfl m_a0 r_a0 (fun e q => (T_11 e).mp q) rfl hl.1 rfl (Nat.le_of_ble_eq_true rfl) ⟨Nat.le_of_ble_eq_true rfl, Nat.le_of_ble_eq_true rfl⟩ ⟨Nat.le_of_ble_eq_true rfl, Nat.le_of_ble_eq_true rfl⟩ dX11_back_45 (fun v18 f17 H locs hp17 h => ?_)
    have hf17 := hp17
    have hI : IB L R O P f17 a0_reader := IB_fr hI hG.1 hf17 (by decide +kernel) (by decide +kernel) (by decide +kernel) m_a0_reader r_a0_reader
    have hG : GG L R O f17 := hG.fr hf17 (by decide +kernel) (by decide +kernel)
    have hk : fr L R [(0, 5), (0, 6), (4, 1), (6, 14), (6, 15), (6, 16), (6, 17), (6, 18), (8, 1), (8, 2), (11, 11), (11, 14)] [0, 4, 6, 8, 11, 23, 35, 36, 37, 38, 39, 40, 41, 42, 43, 44] f0 f17 := hk.tr hf17 rfl rfl
    have e19 : fld f17 a0 2 = .ref a0_reader := (hf17.efl m_a0 r_a0 rfl).trans e14
    have e20 : fi f17 a0 11 = fi f12 a0 11 := hf17.efi m_a0 r_a0 rfl
    exact hret f17 _ _ _ _ v18 dX11_back_48 rfl ⟨hk, hG, by rw [rfa_of t_a0_reader]; exact hI⟩ h
  · refine lv_aload_n F.1 F.2.1 dX11_back_7 rfl (lv_at hl 0 rfl) ?_
    refine tw_bipush F dX11_back_8 kb_6 (fun z21 hz21 => ?_)
    refine tw_Vi (As := [.int z21]) F hZ h yk_X11_refuse mw_378 mw_379 mw_380 (s_X11_refuse l D cy L R O f0 a0 m_a0 r_a0 z21 ⟨by omega, by omega⟩) rfl rfl m_a0 r_a0 (fun e q => (T_11 e).mp q) rfl hl.1 rfl (Nat.le_of_ble_eq_true rfl) ⟨Nat.le_of_ble_eq_true rfl, Nat.le_of_ble_eq_true rfl⟩ ⟨Nat.le_of_ble_eq_true rfl, Nat.le_of_ble_eq_true rfl⟩ dX11_back_10 (fun v23 f22 H locs hp22 h => ?_)
    obtain ⟨hf22, hv23a, hv23b⟩ := hp22
    have hI : IB L R O P f22 a0_reader := IB_fr hI hG.1 hf22 (by decide +kernel) (by decide +kernel) (by decide +kernel) m_a0_reader r_a0_reader
    have hG : GG L R O f22 := hG.fr hf22 (by decide +kernel) (by decide +kernel)
    have hk : fr L R [(0, 5), (0, 6), (4, 1), (6, 14), (6, 15), (6, 16), (6, 17), (6, 18), (8, 1), (8, 2), (11, 11), (11, 14)] [0, 4, 6, 8, 11, 23, 35, 36, 37, 38, 39, 40, 41, 42, 43, 44] f0 f22 := hk.tr hf22 rfl rfl
    have e24 : fld f22 a0 2 = .ref a0_reader := (hf22.efl m_a0 r_a0 rfl).trans t_a0_reader
    have e25 : fi f22 a0 11 = fi f0 a0 11 := hf22.efi m_a0 r_a0 rfl
    exact hret f22 _ _ _ _ v23 dX11_back_13 rfl ⟨hk, hG, by rw [rfa_of t_a0_reader]; exact hI⟩ h
theorem dX11_mark_0 : decode cX11_mark 0 = .ok (.aload_n 0, 1) := by decide +kernel
theorem dX11_mark_1 : decode cX11_mark 1 = .ok (.getfield 69, 3) := by decide +kernel
theorem dX11_mark_4 : decode cX11_mark 4 = .ok (.iconst 3, 1) := by decide +kernel
theorem dX11_mark_5 : decode cX11_mark 5 = .ok (.if_icmp .lt 9, 3) := by decide +kernel
theorem dX11_mark_14 : decode cX11_mark 14 = .ok (.aload_n 0, 1) := by decide +kernel
theorem dX11_mark_15 : decode cX11_mark 15 = .ok (.getfield 33, 3) := by decide +kernel
theorem dX11_mark_18 : decode cX11_mark 18 = .ok (.aload_n 0, 1) := by decide +kernel
theorem dX11_mark_19 : decode cX11_mark 19 = .ok (.getfield 69, 3) := by decide +kernel
theorem dX11_mark_22 : decode cX11_mark 22 = .ok (.aaload, 1) := by decide +kernel
theorem dX11_mark_23 : decode cX11_mark 23 = .ok (.aload_n 0, 1) := by decide +kernel
theorem dX11_mark_24 : decode cX11_mark 24 = .ok (.getfield 29, 3) := by decide +kernel
theorem dX11_mark_27 : decode cX11_mark 27 = .ok (.invokevirtual 407, 3) := by decide +kernel
theorem dX11_mark_30 : decode cX11_mark 30 = .ok (.aload_n 0, 1) := by decide +kernel
theorem dX11_mark_31 : decode cX11_mark 31 = .ok (.dup, 1) := by decide +kernel
theorem dX11_mark_32 : decode cX11_mark 32 = .ok (.getfield 69, 3) := by decide +kernel
theorem dX11_mark_35 : decode cX11_mark 35 = .ok (.iconst 1, 1) := by decide +kernel
theorem dX11_mark_36 : decode cX11_mark 36 = .ok (.iadd, 1) := by decide +kernel
theorem dX11_mark_37 : decode cX11_mark 37 = .ok (.putfield 69, 3) := by decide +kernel
theorem dX11_mark_40 : decode cX11_mark 40 = .ok (.aload_n 0, 1) := by decide +kernel
theorem dX11_mark_41 : decode cX11_mark 41 = .ok (.aload_n 0, 1) := by decide +kernel
theorem dX11_mark_42 : decode cX11_mark 42 = .ok (.getfield 69, 3) := by decide +kernel
theorem dX11_mark_45 : decode cX11_mark 45 = .ok (.invokevirtual 158, 3) := by decide +kernel
theorem dX11_mark_48 : decode cX11_mark 48 = .ok (.ireturn, 1) := by decide +kernel
theorem dX11_mark_8 : decode cX11_mark 8 = .ok (.aload_n 0, 1) := by decide +kernel
theorem dX11_mark_9 : decode cX11_mark 9 = .ok (.iconst 4, 1) := by decide +kernel
theorem dX11_mark_10 : decode cX11_mark 10 = .ok (.invokevirtual 140, 3) := by decide +kernel
theorem dX11_mark_13 : decode cX11_mark 13 = .ok (.ireturn, 1) := by decide +kernel
def rm_X11_mark : Room := { frames := 4, cells := 0, slots := 0, locals := 105 }
set_option maxHeartbeats 4000000 in
set_option maxRecDepth 100000 in
theorem s_X11_mark (l : Launch) (D : va_G) (cy : Nat → ClassId) (L : List Nat) (R O : Nat → Nat) (f0 : Nat → va_E) (hG : GG L R O f0) (a0 : Nat) (m_a0 : a0 ∈ L) (r_a0 : R a0 = 11) (P : Nat → Nat) (pre0 : IB L R O P f0 (rfa f0 a0 2)) : ∀ sz, Met l yX11_mark (Cond.code yX11_mark cX11_mark 1 (some .int) :: wsL_law) rm_X11_mark (va_Pc [.ref a0] (tPZ D cy L R (TT cy L R) f0 sz)) (va_Qi (fun (r : Int32) f1 => fr L R [(0, 5), (0, 6), (4, 1), (6, 14), (6, 15), (6, 16), (6, 17), (6, 18), (8, 1), (8, 2), (11, 11), (11, 14)] [0, 4, 6, 8, 11, 23, 35, 36, 37, 38, 39, 40, 41, 42, 43, 44] f0 f1 ∧ GG L R O f1 ∧ IB L R O P f1 (rfa f0 a0 2)) (tB D (tA L sz) L R (TT cy L R)) (tA L sz)) 0 0 (tA L sz) := by
  refine tw_enteri (by decide +kernel) rfl (Nat.le_of_ble_eq_true rfl) ?_
  intro p e s m below meth c A ls args Q F hZ h hl hret
  have hl : lv_has ls 1 [(0, .ref a0)] := hl
  have hk : fr L R [(0, 5), (0, 6), (4, 1), (6, 14), (6, 15), (6, 16), (6, 17), (6, 18), (8, 1), (8, 2), (11, 11), (11, 14)] [0, 4, 6, 8, 11, 23, 35, 36, 37, 38, 39, 40, 41, 42, 43, 44] f0 f0 := fr.rf
  obtain ⟨a0_reader, m_a0_reader, r_a0_reader, t_a0_reader⟩ := h.rf m_a0 r_a0 (fun e q => (T_11 e).mp q) (k := 2) rfl
  rw [rfa_of t_a0_reader] at pre0
  have hI := pre0
  refine lv_aload_n F.1 F.2.1 dX11_mark_0 rfl (lv_at hl 0 rfl) ?_
  refine g_11_69 F h m_a0 r_a0 dX11_mark_1 (fun v1 hv1 hv1a hv1b => ?_)
  refine tw_iconst F dX11_mark_4 ki_3 (fun z2 hz2 => ?_)
  refine tw_icmp_lt (tgt := 14) F dX11_mark_5 (by decide) (fun b3 => ?_) (fun b3 => ?_)
  · refine lv_aload_n F.1 F.2.1 dX11_mark_14 rfl (lv_at hl 0 rfl) ?_
    refine g_11_33 F h m_a0 r_a0 dX11_mark_15 (fun o4 m_o4 r_o4 ho4 => ?_)
    refine lv_aload_n F.1 F.2.1 dX11_mark_18 rfl (lv_at hl 0 rfl) ?_
    refine g_11_69 F h m_a0 r_a0 dX11_mark_19 (fun v5 hv5 hv5a hv5b => ?_)
    refine ld_57 F h m_o4 r_o4 (by omega) dX11_mark_22 (fun o6 m_o6 r_o6 => ?_)
    refine lv_aload_n F.1 F.2.1 dX11_mark_23 rfl (lv_at hl 0 rfl) ?_
    refine g_11_29 F h m_a0 r_a0 dX11_mark_24 (fun o7 m_o7 r_o7 ho7 => ?_)
    have hGo := hG
    refine tw_Vv (As := [.ref o7]) F hZ h yk_X0_copy mw_1561 mw_1562 mw_1563 (s_X0_copy l D cy L R O f0 hG o6 m_o6 r_o6 o7 m_o7 r_o7 P a0_reader m_a0_reader r_a0_reader hI) rfl rfl m_o6 r_o6 (fun e q => (T_0 e).mp q) rfl hl.1 rfl (Nat.le_of_ble_eq_true rfl) ⟨Nat.le_of_ble_eq_true rfl, Nat.le_of_ble_eq_true rfl⟩ ⟨Nat.le_of_ble_eq_true rfl, Nat.le_of_ble_eq_true rfl⟩ dX11_mark_27 (fun f8 H locs hp8 h => ?_)
    obtain ⟨hf8, hG, hv9p0⟩ := hp8
    have hk : fr L R [(0, 5), (0, 6), (4, 1), (6, 14), (6, 15), (6, 16), (6, 17), (6, 18), (8, 1), (8, 2), (11, 11), (11, 14)] [0, 4, 6, 8, 11, 23, 35, 36, 37, 38, 39, 40, 41, 42, 43, 44] f0 f8 := hk.tr hf8 (by decide +kernel) (by decide +kernel)
    have e10 : fld f8 a0 2 = .ref a0_reader := (hf8.efl m_a0 r_a0 rfl).trans t_a0_reader
    have e11 : fi f8 a0 11 = fi f0 a0 11 := hf8.efi m_a0 r_a0 rfl
    have hI : IB L R O P f8 a0_reader := hv9p0
    refine lv_aload_n F.1 F.2.1 dX11_mark_30 rfl (lv_at hl 0 rfl) ?_
    refine lv_dup F.1 F.2.1 dX11_mark_31 rfl ?_
    refine g_11_69 F h m_a0 r_a0 dX11_mark_32 (fun v12 hv12 hv12a hv12b => ?_)
    refine tw_iconst F dX11_mark_35 ki_1 (fun z13 hz13 => ?_)
    refine tu_iadd F dX11_mark_36 (by omega) (fun z14 hz14 => ?_)
    refine p_11_69 F h m_a0 r_a0 (by omega) dX11_mark_37 (fun f15 H locs e15p hf15 h => ?_)
    have hI : IB L R O P f15 a0_reader := IB_fr hI hG.1 hf15 (by decide +kernel) (by decide +kernel) (by decide +kernel) m_a0_reader r_a0_reader
    have hG : GG L R O f15 := hG.fr hf15 (by decide +kernel) (by decide +kernel)
    have hk : fr L R [(0, 5), (0, 6), (4, 1), (6, 14), (6, 15), (6, 16), (6, 17), (6, 18), (8, 1), (8, 2), (11, 11), (11, 14)] [0, 4, 6, 8, 11, 23, 35, 36, 37, 38, 39, 40, 41, 42, 43, 44] f0 f15 := hk.tr hf15 rfl rfl
    have e16 : fld f15 a0 2 = .ref a0_reader := (hf15.efl m_a0 r_a0 rfl).trans e10
    refine lv_aload_n F.1 F.2.1 dX11_mark_40 rfl (lv_at hl 0 rfl) ?_
    refine lv_aload_n F.1 F.2.1 dX11_mark_41 rfl (lv_at hl 0 rfl) ?_
    refine g_11_69 F h m_a0 r_a0 dX11_mark_42 (fun v17 hv17 hv17a hv17b => ?_)
    refine tw_Vi (As := [.int v17]) F hZ h yk_X11_grant mw_442 mw_443 mw_444 (s_X11_grant l D cy L R O f15 a0 m_a0 r_a0 v17) rfl rfl m_a0 r_a0 (fun e q => (T_11 e).mp q) rfl hl.1 rfl (Nat.le_of_ble_eq_true rfl) ⟨Nat.le_of_ble_eq_true rfl, Nat.le_of_ble_eq_true rfl⟩ ⟨Nat.le_of_ble_eq_true rfl, Nat.le_of_ble_eq_true rfl⟩ dX11_mark_45 (fun v19 f18 H locs hp18 h => ?_)
    have hf18 := hp18
    have hI : IB L R O P f18 a0_reader := IB_fr hI hG.1 hf18 (by decide +kernel) (by decide +kernel) (by decide +kernel) m_a0_reader r_a0_reader
    have hG : GG L R O f18 := hG.fr hf18 (by decide +kernel) (by decide +kernel)
    have hk : fr L R [(0, 5), (0, 6), (4, 1), (6, 14), (6, 15), (6, 16), (6, 17), (6, 18), (8, 1), (8, 2), (11, 11), (11, 14)] [0, 4, 6, 8, 11, 23, 35, 36, 37, 38, 39, 40, 41, 42, 43, 44] f0 f18 := hk.tr hf18 rfl rfl
    have e20 : fld f18 a0 2 = .ref a0_reader := (hf18.efl m_a0 r_a0 rfl).trans e16
    have e21 : fi f18 a0 11 = fi f15 a0 11 := hf18.efi m_a0 r_a0 rfl
    exact hret f18 _ _ _ _ v19 dX11_mark_48 rfl ⟨hk, hG, by rw [rfa_of t_a0_reader]; exact hI⟩ h
  · refine lv_aload_n F.1 F.2.1 dX11_mark_8 rfl (lv_at hl 0 rfl) ?_
    refine tw_iconst F dX11_mark_9 ki_4 (fun z22 hz22 => ?_)
    refine tw_Vi (As := [.int z22]) F hZ h yk_X11_refuse mw_378 mw_379 mw_380 (s_X11_refuse l D cy L R O f0 a0 m_a0 r_a0 z22 ⟨by omega, by omega⟩) rfl rfl m_a0 r_a0 (fun e q => (T_11 e).mp q) rfl hl.1 rfl (Nat.le_of_ble_eq_true rfl) ⟨Nat.le_of_ble_eq_true rfl, Nat.le_of_ble_eq_true rfl⟩ ⟨Nat.le_of_ble_eq_true rfl, Nat.le_of_ble_eq_true rfl⟩ dX11_mark_10 (fun v24 f23 H locs hp23 h => ?_)
    obtain ⟨hf23, hv24a, hv24b⟩ := hp23
    have hI : IB L R O P f23 a0_reader := IB_fr hI hG.1 hf23 (by decide +kernel) (by decide +kernel) (by decide +kernel) m_a0_reader r_a0_reader
    have hG : GG L R O f23 := hG.fr hf23 (by decide +kernel) (by decide +kernel)
    have hk : fr L R [(0, 5), (0, 6), (4, 1), (6, 14), (6, 15), (6, 16), (6, 17), (6, 18), (8, 1), (8, 2), (11, 11), (11, 14)] [0, 4, 6, 8, 11, 23, 35, 36, 37, 38, 39, 40, 41, 42, 43, 44] f0 f23 := hk.tr hf23 rfl rfl
    have e25 : fld f23 a0 2 = .ref a0_reader := (hf23.efl m_a0 r_a0 rfl).trans t_a0_reader
    have e26 : fi f23 a0 11 = fi f0 a0 11 := hf23.efi m_a0 r_a0 rfl
    exact hret f23 _ _ _ _ v24 dX11_mark_13 rfl ⟨hk, hG, by rw [rfa_of t_a0_reader]; exact hI⟩ h
