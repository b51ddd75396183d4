theorem dX12_fits_0 : decode cX12_fits 0 = .ok (.iload_n 1, 1) := by decide +kernel
theorem dX12_fits_1 : decode cX12_fits 1 = .ok (.bipush 52, 2) := by decide +kernel
theorem dX12_fits_3 : decode cX12_fits 3 = .ok (.iadd, 1) := by decide +kernel
theorem dX12_fits_4 : decode cX12_fits 4 = .ok (.bipush 60, 2) := by decide +kernel
theorem dX12_fits_6 : decode cX12_fits 6 = .ok (.iload_n 2, 1) := by decide +kernel
theorem dX12_fits_7 : decode cX12_fits 7 = .ok (.imul, 1) := by decide +kernel
theorem dX12_fits_8 : decode cX12_fits 8 = .ok (.iadd, 1) := by decide +kernel
theorem dX12_fits_9 : decode cX12_fits 9 = .ok (.istore_n 3, 1) := by decide +kernel
theorem dX12_fits_10 : decode cX12_fits 10 = .ok (.aload_n 0, 1) := by decide +kernel
theorem dX12_fits_11 : decode cX12_fits 11 = .ok (.getfield 7, 3) := by decide +kernel
theorem dX12_fits_14 : decode cX12_fits 14 = .ok (.iload_n 3, 1) := by decide +kernel
theorem dX12_fits_15 : decode cX12_fits 15 = .ok (.iconst 2, 1) := by decide +kernel
theorem dX12_fits_16 : decode cX12_fits 16 = .ok (.iadd, 1) := by decide +kernel
theorem dX12_fits_17 : decode cX12_fits 17 = .ok (.laload, 1) := by decide +kernel
theorem dX12_fits_18 : decode cX12_fits 18 = .ok (.l2i, 1) := by decide +kernel
theorem dX12_fits_19 : decode cX12_fits 19 = .ok (.istore 4, 2) := by decide +kernel
theorem dX12_fits_21 : decode cX12_fits 21 = .ok (.aload_n 0, 1) := by decide +kernel
theorem dX12_fits_22 : decode cX12_fits 22 = .ok (.getfield 301, 3) := by decide +kernel
theorem mw_899 : Cond.fieldLink RX12 301 "AskBackModel" "without" "I" ∈ wsL_law := inr_38 _ (List.mem_of_getElem? (i := 11) rfl)
section
variable {p : Program} {l : Launch} {e : Env} {R0 : Room} {s : State} {m : MethodId} {args : Array Value} {below : List Frame} {meth : Method} {c : Code} {H H0 : Heap} {locs : List Loc} {cells slots : Nat} {Q : State → Prop} {cc : ByteArray} {nL : Nat} {D : va_G} {cy : Nat → ClassId} {A : Nat → Prop} {L : List Nat} {R : Nat → Nat} {f : Nat → va_E} {pc : Nat} {ls : Array Slot} {rest : List Value} {a : Nat}
theorem g_12_301 (F : CallFix p m c cc nL s args wsL_law RX12) (h : tS D cy A H0 L R (TT cy L R) f s H locs) (ha : a ∈ L) (hr : R a = 12) (hdg : decode cc pc = .ok (.getfield 301, 3)) (kk : ∀ x : Int32, x.toInt = fi f a 31 → W p l e R0 s m args below meth c H locs cells slots Q (F0 m (pc + 3) ls (.int x :: rest))) : W p l e R0 s m args below meth c H locs cells slots Q (F0 m pc ls (.ref a :: rest)) := tu_geti F h ha hr (fun e q => (T_12 e).mp q) rfl inlX12 rfl (Nat.le_of_ble_eq_true rfl) mw_899 hdg (fun x h1 h2 h3 => kk x h1)
end
theorem dX12_fits_25 : decode cX12_fits 25 = .ok (.iload_n 2, 1) := by decide +kernel
theorem dX12_fits_26 : decode cX12_fits 26 = .ok (.ishr, 1) := by decide +kernel
theorem dX12_fits_27 : decode cX12_fits 27 = .ok (.iconst 1, 1) := by decide +kernel
theorem dX12_fits_28 : decode cX12_fits 28 = .ok (.iand, 1) := by decide +kernel
theorem dX12_fits_29 : decode cX12_fits 29 = .ok (.iconst 1, 1) := by decide +kernel
theorem dX12_fits_30 : decode cX12_fits 30 = .ok (.if_icmp .ne 5, 3) := by decide +kernel
theorem dX12_fits_35 : decode cX12_fits 35 = .ok (.iload 4, 2) := by decide +kernel
theorem dX12_fits_37 : decode cX12_fits 37 = .ok (.istore 5, 2) := by decide +kernel
theorem dX12_fits_39 : decode cX12_fits 39 = .ok (.iload 5, 2) := by decide +kernel
theorem dX12_fits_41 : decode cX12_fits 41 = .ok (.ifCond .lt 230, 3) := by decide +kernel
theorem dX12_fits_271 : decode cX12_fits 271 = .ok (.aload_n 0, 1) := by decide +kernel
theorem dX12_fits_272 : decode cX12_fits 272 = .ok (.getfield 44, 3) := by decide +kernel
theorem mw_212 : Cond.fieldLink RX12 44 "AskBackModel" "can" "[Z" ∈ wsL_law := inr_9 _ (List.mem_of_getElem? (i := 20) rfl)
section
variable {p : Program} {l : Launch} {e : Env} {R0 : Room} {s : State} {m : MethodId} {args : Array Value} {below : List Frame} {meth : Method} {c : Code} {H H0 : Heap} {locs : List Loc} {cells slots : Nat} {Q : State → Prop} {cc : ByteArray} {nL : Nat} {D : va_G} {cy : Nat → ClassId} {A : Nat → Prop} {L : List Nat} {R : Nat → Nat} {f : Nat → va_E} {pc : Nat} {ls : Array Slot} {rest : List Value} {a : Nat}
theorem g_12_44 (F : CallFix p m c cc nL s args wsL_law RX12) (h : tS D cy A H0 L R (TT cy L R) f s H locs) (ha : a ∈ L) (hr : R a = 12) (hdg : decode cc pc = .ok (.getfield 44, 3)) (kk : ∀ b : Nat, b ∈ L → R b = 68 → fld f a 21 = .ref b → W p l e R0 s m args below meth c H locs cells slots Q (F0 m (pc + 3) ls (.ref b :: rest))) : W p l e R0 s m args below meth c H locs cells slots Q (F0 m pc ls (.ref a :: rest)) := tu_getr F h ha hr (fun e q => (T_12 e).mp q) rfl inlX12 rfl (Nat.le_of_ble_eq_true rfl) mw_212 hdg kk
end
theorem dX12_fits_275 : decode cX12_fits 275 = .ok (.iconst 0, 1) := by decide +kernel
theorem dX12_fits_276 : decode cX12_fits 276 = .ok (.baload, 1) := by decide +kernel
section
variable {p : Program} {l : Launch} {e : Env} {R0 : Room} {s : State} {m : MethodId} {args : Array Value} {below : List Frame} {meth : Method} {c : Code} {H H0 : Heap} {locs : List Loc} {cells slots : Nat} {Q : State → Prop} {cc : ByteArray} {nL : Nat} {D : va_G} {cy : Nat → ClassId} {A : Nat → Prop} {L : List Nat} {R : Nat → Nat} {f : Nat → va_E} {pc : Nat} {ls : Array Slot} {rest : List Value} {a : Nat}
theorem le_68 {own : String} (F : CallFix p m c cc nL s args wsL_law own) (h : tS D cy A H0 L R (TT cy L R) f s H locs) {i : Int32} (ha : a ∈ L) (hr : R a = 68) (hb : 0 ≤ i.toInt ∧ i.toInt < 117) (hdg : decode cc pc = .ok (.baload, 1)) (kk : ∀ x : Int32, x.toInt = eli f a i.toInt.toNat → 0 ≤ x.toInt → x.toInt ≤ 1 → W p l e R0 s m args below meth c H locs cells slots Q (F0 m (pc + 1) ls (.int x :: rest))) : W p l e R0 s m args below meth c H locs cells slots Q (F0 m pc ls (.int i :: .ref a :: rest)) := tu_zald F h ha hr (fun e q => (T_68 e).mp q) hb.1 hb.2 hdg (fun x h1 h2 => kk x h2 h1.1 h1.2)
end
theorem dX12_fits_277 : decode cX12_fits 277 = .ok (.ifCond .ne 5, 3) := by decide +kernel
theorem dX12_fits_282 : decode cX12_fits 282 = .ok (.iconst 0, 1) := by decide +kernel
theorem dX12_fits_283 : decode cX12_fits 283 = .ok (.istore 5, 2) := by decide +kernel
theorem dX12_fits_285 : decode cX12_fits 285 = .ok (.iconst 0, 1) := by decide +kernel
theorem dX12_fits_286 : decode cX12_fits 286 = .ok (.istore 6, 2) := by decide +kernel
theorem dX12_fits_288 : decode cX12_fits 288 = .ok (.iconst 0, 1) := by decide +kernel
theorem dX12_fits_289 : decode cX12_fits 289 = .ok (.istore 7, 2) := by decide +kernel
theorem dX12_fits_291 : decode cX12_fits 291 = .ok (.iload 7, 2) := by decide +kernel
theorem dX12_fits_293 : decode cX12_fits 293 = .ok (.iload 4, 2) := by decide +kernel
theorem dX12_fits_295 : decode cX12_fits 295 = .ok (.if_icmp .ge 100, 3) := by decide +kernel
theorem dX12_fits_395 : decode cX12_fits 395 = .ok (.iconst 1, 1) := by decide +kernel
theorem dX12_fits_396 : decode cX12_fits 396 = .ok (.ireturn, 1) := by decide +kernel
theorem dX12_fits_298 : decode cX12_fits 298 = .ok (.aload_n 0, 1) := by decide +kernel
theorem dX12_fits_299 : decode cX12_fits 299 = .ok (.getfield 7, 3) := by decide +kernel
theorem dX12_fits_302 : decode cX12_fits 302 = .ok (.iload_n 3, 1) := by decide +kernel
theorem dX12_fits_303 : decode cX12_fits 303 = .ok (.iconst 3, 1) := by decide +kernel
theorem dX12_fits_304 : decode cX12_fits 304 = .ok (.iadd, 1) := by decide +kernel
theorem dX12_fits_305 : decode cX12_fits 305 = .ok (.iload 7, 2) := by decide +kernel
theorem dX12_fits_307 : decode cX12_fits 307 = .ok (.iadd, 1) := by decide +kernel
theorem dX12_fits_308 : decode cX12_fits 308 = .ok (.laload, 1) := by decide +kernel
theorem dX12_fits_309 : decode cX12_fits 309 = .ok (.lstore 8, 2) := by decide +kernel
theorem dX12_fits_311 : decode cX12_fits 311 = .ok (.lload 8, 2) := by decide +kernel
theorem dX12_fits_313 : decode cX12_fits 313 = .ok (.ldc2_w 142, 3) := by decide +kernel
theorem dX12_fits_316 : decode cX12_fits 316 = .ok (.lcmp, 1) := by decide +kernel
theorem dX12_fits_325 : decode cX12_fits 325 = .ok (.istore 10, 2) := by decide +kernel
theorem dX12_fits_327 : decode cX12_fits 327 = .ok (.aload_n 0, 1) := by decide +kernel
theorem dX12_fits_328 : decode cX12_fits 328 = .ok (.getfield 44, 3) := by decide +kernel
theorem dX12_fits_331 : decode cX12_fits 331 = .ok (.bipush 13, 2) := by decide +kernel
theorem dX12_fits_333 : decode cX12_fits 333 = .ok (.iload 7, 2) := by decide +kernel
theorem dX12_fits_335 : decode cX12_fits 335 = .ok (.iconst 1, 1) := by decide +kernel
theorem dX12_fits_336 : decode cX12_fits 336 = .ok (.iadd, 1) := by decide +kernel
theorem dX12_fits_337 : decode cX12_fits 337 = .ok (.imul, 1) := by decide +kernel
theorem dX12_fits_338 : decode cX12_fits 338 = .ok (.iload 5, 2) := by decide +kernel
theorem dX12_fits_340 : decode cX12_fits 340 = .ok (.iadd, 1) := by decide +kernel
theorem dX12_fits_341 : decode cX12_fits 341 = .ok (.iload 10, 2) := by decide +kernel
theorem dX12_fits_343 : decode cX12_fits 343 = .ok (.iadd, 1) := by decide +kernel
theorem dX12_fits_344 : decode cX12_fits 344 = .ok (.baload, 1) := by decide +kernel
theorem dX12_fits_345 : decode cX12_fits 345 = .ok (.ifCond .ne 9, 3) := by decide +kernel
theorem dX12_fits_354 : decode cX12_fits 354 = .ok (.lload 8, 2) := by decide +kernel
theorem dX12_fits_356 : decode cX12_fits 356 = .ok (.lconst 0, 1) := by decide +kernel
theorem dX12_fits_357 : decode cX12_fits 357 = .ok (.lcmp, 1) := by decide +kernel
theorem dX12_fits_382 : decode cX12_fits 382 = .ok (.iload 5, 2) := by decide +kernel
theorem dX12_fits_384 : decode cX12_fits 384 = .ok (.iload 10, 2) := by decide +kernel
theorem dX12_fits_386 : decode cX12_fits 386 = .ok (.iadd, 1) := by decide +kernel
theorem dX12_fits_387 : decode cX12_fits 387 = .ok (.istore 5, 2) := by decide +kernel
theorem dX12_fits_389 : decode cX12_fits 389 = .ok (.iinc 7 1, 3) := by decide +kernel
theorem dX12_fits_392 : decode cX12_fits 392 = .ok (.goto (-101), 3) := by decide +kernel
theorem dX12_fits_358 : decode cX12_fits 358 = .ok (.ifCond .ge 24, 3) := by decide +kernel
theorem dX12_fits_361 : decode cX12_fits 361 = .ok (.aload_n 0, 1) := by decide +kernel
theorem dX12_fits_362 : decode cX12_fits 362 = .ok (.getfield 48, 3) := by decide +kernel
theorem dX12_fits_365 : decode cX12_fits 365 = .ok (.iload 6, 2) := by decide +kernel
theorem dX12_fits_367 : decode cX12_fits 367 = .ok (.iload 5, 2) := by decide +kernel
theorem dX12_fits_369 : decode cX12_fits 369 = .ok (.iastore, 1) := by decide +kernel
section
variable {p : Program} {l : Launch} {e : Env} {R0 : Room} {s : State} {m : MethodId} {args : Array Value} {below : List Frame} {meth : Method} {c : Code} {H H0 : Heap} {locs : List Loc} {cells slots : Nat} {Q : State → Prop} {cc : ByteArray} {nL : Nat} {D : va_G} {cy : Nat → ClassId} {A : Nat → Prop} {L : List Nat} {R : Nat → Nat} {f : Nat → va_E} {pc : Nat} {ls : Array Slot} {rest : List Value} {a : Nat}
theorem se_69 {own : String} (F : CallFix p m c cc nL s args wsL_law own) (h : tS D cy A H0 L R (TT cy L R) f s H locs) {i : Int32} {x : Int32} (ha : a ∈ L) (hr : R a = 69) (hb : 0 ≤ i.toInt ∧ i.toInt < 8) (hv : 0 ≤ x.toInt ∧ x.toInt ≤ 12) (hdg : decode cc pc = .ok (.iastore, 1)) (kk : ∀ (f1 : Nat → va_E) (H1 : Heap) (locs1 : List Loc), (∀ j, eli f1 a j = if j = i.toInt.toNat then x.toInt else eli f a j) → (∀ a', a' ≠ a → f1 a' = f a') → fr L R [] [69] f f1 → tS D cy A H0 L R (TT cy L R) f1 s H1 locs1 → W p l e R0 s m args below meth c H1 locs1 cells slots Q (F0 m (pc + 1) ls (rest))) : W p l e R0 s m args below meth c H locs cells slots Q (F0 m pc ls (.int x :: .int i :: .ref a :: rest)) := tu_iast F h ha hr T_69 hb.1 hb.2 hv hdg (fun f1 H1 locs1 h1 h2 h3 h4 => kk f1 H1 locs1 h1 h2 h3 h4)
end
theorem dX12_fits_370 : decode cX12_fits 370 = .ok (.aload_n 0, 1) := by decide +kernel
theorem dX12_fits_371 : decode cX12_fits 371 = .ok (.getfield 51, 3) := by decide +kernel
theorem dX12_fits_374 : decode cX12_fits 374 = .ok (.iload 6, 2) := by decide +kernel
theorem dX12_fits_376 : decode cX12_fits 376 = .ok (.iload 10, 2) := by decide +kernel
theorem dX12_fits_378 : decode cX12_fits 378 = .ok (.iastore, 1) := by decide +kernel
section
variable {p : Program} {l : Launch} {e : Env} {R0 : Room} {s : State} {m : MethodId} {args : Array Value} {below : List Frame} {meth : Method} {c : Code} {H H0 : Heap} {locs : List Loc} {cells slots : Nat} {Q : State → Prop} {cc : ByteArray} {nL : Nat} {D : va_G} {cy : Nat → ClassId} {A : Nat → Prop} {L : List Nat} {R : Nat → Nat} {f : Nat → va_E} {pc : Nat} {ls : Array Slot} {rest : List Value} {a : Nat}
theorem se_70 {own : String} (F : CallFix p m c cc nL s args wsL_law own) (h : tS D cy A H0 L R (TT cy L R) f s H locs) {i : Int32} {x : Int32} (ha : a ∈ L) (hr : R a = 70) (hb : 0 ≤ i.toInt ∧ i.toInt < 8) (hv : 0 ≤ x.toInt ∧ x.toInt ≤ 12) (hdg : decode cc pc = .ok (.iastore, 1)) (kk : ∀ (f1 : Nat → va_E) (H1 : Heap) (locs1 : List Loc), (∀ j, eli f1 a j = if j = i.toInt.toNat then x.toInt else eli f a j) → (∀ a', a' ≠ a → f1 a' = f a') → fr L R [] [70] f f1 → tS D cy A H0 L R (TT cy L R) f1 s H1 locs1 → W p l e R0 s m args below meth c H1 locs1 cells slots Q (F0 m (pc + 1) ls (rest))) : W p l e R0 s m args below meth c H locs cells slots Q (F0 m pc ls (.int x :: .int i :: .ref a :: rest)) := tu_iast F h ha hr T_70 hb.1 hb.2 hv hdg (fun f1 H1 locs1 h1 h2 h3 h4 => kk f1 H1 locs1 h1 h2 h3 h4)
end
theorem dX12_fits_379 : decode cX12_fits 379 = .ok (.iinc 6 1, 3) := by decide +kernel
theorem dX12_fits_348 : decode cX12_fits 348 = .ok (.iinc 10 1, 3) := by decide +kernel
theorem dX12_fits_351 : decode cX12_fits 351 = .ok (.goto (-24), 3) := by decide +kernel
theorem dX12_fits_317 : decode cX12_fits 317 = .ok (.ifCond .ne 7, 3) := by decide +kernel
theorem dX12_fits_324 : decode cX12_fits 324 = .ok (.iconst 1, 1) := by decide +kernel
theorem dX12_fits_320 : decode cX12_fits 320 = .ok (.iconst 0, 1) := by decide +kernel
theorem dX12_fits_321 : decode cX12_fits 321 = .ok (.goto 4, 3) := by decide +kernel
theorem dX12_fits_280 : decode cX12_fits 280 = .ok (.iconst 0, 1) := by decide +kernel
theorem dX12_fits_281 : decode cX12_fits 281 = .ok (.ireturn, 1) := by decide +kernel
theorem dX12_fits_44 : decode cX12_fits 44 = .ok (.aload_n 0, 1) := by decide +kernel
theorem dX12_fits_45 : decode cX12_fits 45 = .ok (.getfield 298, 3) := by decide +kernel
theorem dX12_fits_48 : decode cX12_fits 48 = .ok (.istore 6, 2) := by decide +kernel
theorem dX12_fits_50 : decode cX12_fits 50 = .ok (.iload 6, 2) := by decide +kernel
theorem dX12_fits_52 : decode cX12_fits 52 = .ok (.ifCond .lt 213, 3) := by decide +kernel
theorem dX12_fits_265 : decode cX12_fits 265 = .ok (.iinc 5 (-1), 3) := by decide +kernel
theorem dX12_fits_268 : decode cX12_fits 268 = .ok (.goto (-229), 3) := by decide +kernel
theorem dX12_fits_55 : decode cX12_fits 55 = .ok (.iload 5, 2) := by decide +kernel
theorem dX12_fits_57 : decode cX12_fits 57 = .ok (.iload 4, 2) := by decide +kernel
theorem dX12_fits_76 : decode cX12_fits 76 = .ok (.istore 7, 2) := by decide +kernel
theorem dX12_fits_78 : decode cX12_fits 78 = .ok (.iload 5, 2) := by decide +kernel
theorem dX12_fits_80 : decode cX12_fits 80 = .ok (.iload 4, 2) := by decide +kernel
theorem dX12_fits_100 : decode cX12_fits 100 = .ok (.lstore 8, 2) := by decide +kernel
theorem dX12_fits_102 : decode cX12_fits 102 = .ok (.iload 5, 2) := by decide +kernel
theorem dX12_fits_104 : decode cX12_fits 104 = .ok (.iload 4, 2) := by decide +kernel
theorem dX12_fits_170 : decode cX12_fits 170 = .ok (.iload 5, 2) := by decide +kernel
theorem dX12_fits_172 : decode cX12_fits 172 = .ok (.iload 4, 2) := by decide +kernel
theorem dX12_fits_244 : decode cX12_fits 244 = .ok (.aload_n 0, 1) := by decide +kernel
theorem dX12_fits_245 : decode cX12_fits 245 = .ok (.getfield 44, 3) := by decide +kernel
theorem dX12_fits_248 : decode cX12_fits 248 = .ok (.bipush 13, 2) := by decide +kernel
theorem dX12_fits_250 : decode cX12_fits 250 = .ok (.iload 5, 2) := by decide +kernel
theorem dX12_fits_252 : decode cX12_fits 252 = .ok (.imul, 1) := by decide +kernel
theorem dX12_fits_253 : decode cX12_fits 253 = .ok (.iload 6, 2) := by decide +kernel
theorem dX12_fits_255 : decode cX12_fits 255 = .ok (.iadd, 1) := by decide +kernel
theorem dX12_fits_256 : decode cX12_fits 256 = .ok (.iload 7, 2) := by decide +kernel
theorem dX12_fits_258 : decode cX12_fits 258 = .ok (.bastore, 1) := by decide +kernel
section
variable {p : Program} {l : Launch} {e : Env} {R0 : Room} {s : State} {m : MethodId} {args : Array Value} {below : List Frame} {meth : Method} {c : Code} {H H0 : Heap} {locs : List Loc} {cells slots : Nat} {Q : State → Prop} {cc : ByteArray} {nL : Nat} {D : va_G} {cy : Nat → ClassId} {A : Nat → Prop} {L : List Nat} {R : Nat → Nat} {f : Nat → va_E} {pc : Nat} {ls : Array Slot} {rest : List Value} {a : Nat}
theorem se_68 {own : String} (F : CallFix p m c cc nL s args wsL_law own) (h : tS D cy A H0 L R (TT cy L R) f s H locs) {i : Int32} {x : Int32} (ha : a ∈ L) (hr : R a = 68) (hb : 0 ≤ i.toInt ∧ i.toInt < 117) (hv : 0 ≤ x.toInt ∧ x.toInt ≤ 1) (hdg : decode cc pc = .ok (.bastore, 1)) (kk : ∀ (f1 : Nat → va_E) (H1 : Heap) (locs1 : List Loc), (∀ j, eli f1 a j = if j = i.toInt.toNat then x.toInt else eli f a j) → (∀ a', a' ≠ a → f1 a' = f a') → fr L R [] [68] f f1 → tS D cy A H0 L R (TT cy L R) f1 s H1 locs1 → W p l e R0 s m args below meth c H1 locs1 cells slots Q (F0 m (pc + 1) ls (rest))) : W p l e R0 s m args below meth c H locs cells slots Q (F0 m pc ls (.int x :: .int i :: .ref a :: rest)) := tu_zast F h ha hr T_68 hb.1 hb.2 (by rw [tw_nz hv]; exact hv) hdg (fun f1 H1 locs1 h1 h2 h3 h4 => kk f1 H1 locs1 (fun j => by have q := h1 j; rw [tw_nz hv] at q; exact q) h2 h3 h4)
end
theorem dX12_fits_259 : decode cX12_fits 259 = .ok (.iinc 6 (-1), 3) := by decide +kernel
theorem dX12_fits_262 : decode cX12_fits 262 = .ok (.goto (-212), 3) := by decide +kernel
theorem dX12_fits_174 : decode cX12_fits 174 = .ok (.if_icmp .ge 70, 3) := by decide +kernel
theorem dX12_fits_177 : decode cX12_fits 177 = .ok (.lload 8, 2) := by decide +kernel
theorem dX12_fits_179 : decode cX12_fits 179 = .ok (.ldc2_w 142, 3) := by decide +kernel
theorem dX12_fits_182 : decode cX12_fits 182 = .ok (.lcmp, 1) := by decide +kernel
theorem dX12_fits_183 : decode cX12_fits 183 = .ok (.ifCond .eq 61, 3) := by decide +kernel
theorem dX12_fits_186 : decode cX12_fits 186 = .ok (.iload 6, 2) := by decide +kernel
theorem dX12_fits_188 : decode cX12_fits 188 = .ok (.aload_n 0, 1) := by decide +kernel
theorem dX12_fits_189 : decode cX12_fits 189 = .ok (.getfield 298, 3) := by decide +kernel
theorem dX12_fits_242 : decode cX12_fits 242 = .ok (.istore 7, 2) := by decide +kernel
theorem dX12_fits_241 : decode cX12_fits 241 = .ok (.iconst 0, 1) := by decide +kernel
theorem dX12_fits_192 : decode cX12_fits 192 = .ok (.if_icmp .ge 49, 3) := by decide +kernel
theorem dX12_fits_195 : decode cX12_fits 195 = .ok (.lload 8, 2) := by decide +kernel
theorem dX12_fits_197 : decode cX12_fits 197 = .ok (.ldc2_w 261, 3) := by decide +kernel
theorem mw_722 : Cond.constantLong RX12 261 (-2) ∈ wsL_law := inr_31 _ (List.mem_of_getElem? (i := 2) rfl)
theorem dX12_fits_200 : decode cX12_fits 200 = .ok (.lcmp, 1) := by decide +kernel
theorem dX12_fits_217 : decode cX12_fits 217 = .ok (.aload_n 0, 1) := by decide +kernel
theorem dX12_fits_218 : decode cX12_fits 218 = .ok (.getfield 44, 3) := by decide +kernel
theorem dX12_fits_221 : decode cX12_fits 221 = .ok (.bipush 13, 2) := by decide +kernel
theorem dX12_fits_223 : decode cX12_fits 223 = .ok (.iload 5, 2) := by decide +kernel
theorem dX12_fits_225 : decode cX12_fits 225 = .ok (.iconst 1, 1) := by decide +kernel
theorem dX12_fits_226 : decode cX12_fits 226 = .ok (.iadd, 1) := by decide +kernel
theorem dX12_fits_227 : decode cX12_fits 227 = .ok (.imul, 1) := by decide +kernel
theorem dX12_fits_228 : decode cX12_fits 228 = .ok (.iload 6, 2) := by decide +kernel
theorem dX12_fits_230 : decode cX12_fits 230 = .ok (.iadd, 1) := by decide +kernel
theorem dX12_fits_231 : decode cX12_fits 231 = .ok (.iconst 1, 1) := by decide +kernel
theorem dX12_fits_232 : decode cX12_fits 232 = .ok (.iadd, 1) := by decide +kernel
theorem dX12_fits_233 : decode cX12_fits 233 = .ok (.baload, 1) := by decide +kernel
theorem dX12_fits_234 : decode cX12_fits 234 = .ok (.ifCond .eq 7, 3) := by decide +kernel
theorem dX12_fits_237 : decode cX12_fits 237 = .ok (.iconst 1, 1) := by decide +kernel
theorem dX12_fits_238 : decode cX12_fits 238 = .ok (.goto 4, 3) := by decide +kernel
theorem dX12_fits_201 : decode cX12_fits 201 = .ok (.ifCond .eq 16, 3) := by decide +kernel
theorem dX12_fits_204 : decode cX12_fits 204 = .ok (.lload 8, 2) := by decide +kernel
theorem dX12_fits_206 : decode cX12_fits 206 = .ok (.aload_n 0, 1) := by decide +kernel
theorem dX12_fits_207 : decode cX12_fits 207 = .ok (.getfield 60, 3) := by decide +kernel
theorem dX12_fits_210 : decode cX12_fits 210 = .ok (.iload 6, 2) := by decide +kernel
theorem dX12_fits_212 : decode cX12_fits 212 = .ok (.laload, 1) := by decide +kernel
theorem dX12_fits_213 : decode cX12_fits 213 = .ok (.lcmp, 1) := by decide +kernel
theorem dX12_fits_214 : decode cX12_fits 214 = .ok (.ifCond .ne 27, 3) := by decide +kernel
theorem dX12_fits_106 : decode cX12_fits 106 = .ok (.if_icmp .ge 64, 3) := by decide +kernel
theorem dX12_fits_109 : decode cX12_fits 109 = .ok (.lload 8, 2) := by decide +kernel
theorem dX12_fits_111 : decode cX12_fits 111 = .ok (.ldc2_w 142, 3) := by decide +kernel
theorem dX12_fits_114 : decode cX12_fits 114 = .ok (.lcmp, 1) := by decide +kernel
theorem dX12_fits_115 : decode cX12_fits 115 = .ok (.ifCond .ne 55, 3) := by decide +kernel
theorem dX12_fits_118 : decode cX12_fits 118 = .ok (.aload_n 0, 1) := by decide +kernel
theorem dX12_fits_119 : decode cX12_fits 119 = .ok (.getfield 44, 3) := by decide +kernel
theorem dX12_fits_122 : decode cX12_fits 122 = .ok (.bipush 13, 2) := by decide +kernel
theorem dX12_fits_124 : decode cX12_fits 124 = .ok (.iload 5, 2) := by decide +kernel
theorem dX12_fits_126 : decode cX12_fits 126 = .ok (.iconst 1, 1) := by decide +kernel
theorem dX12_fits_127 : decode cX12_fits 127 = .ok (.iadd, 1) := by decide +kernel
theorem dX12_fits_128 : decode cX12_fits 128 = .ok (.imul, 1) := by decide +kernel
theorem dX12_fits_129 : decode cX12_fits 129 = .ok (.iload 6, 2) := by decide +kernel
theorem dX12_fits_131 : decode cX12_fits 131 = .ok (.iadd, 1) := by decide +kernel
theorem dX12_fits_132 : decode cX12_fits 132 = .ok (.baload, 1) := by decide +kernel
theorem dX12_fits_168 : decode cX12_fits 168 = .ok (.istore 7, 2) := by decide +kernel
theorem dX12_fits_163 : decode cX12_fits 163 = .ok (.iconst 1, 1) := by decide +kernel
theorem dX12_fits_164 : decode cX12_fits 164 = .ok (.goto 4, 3) := by decide +kernel
theorem dX12_fits_133 : decode cX12_fits 133 = .ok (.ifCond .ne 30, 3) := by decide +kernel
theorem dX12_fits_136 : decode cX12_fits 136 = .ok (.iload 6, 2) := by decide +kernel
theorem dX12_fits_138 : decode cX12_fits 138 = .ok (.aload_n 0, 1) := by decide +kernel
theorem dX12_fits_139 : decode cX12_fits 139 = .ok (.getfield 298, 3) := by decide +kernel
theorem dX12_fits_167 : decode cX12_fits 167 = .ok (.iconst 0, 1) := by decide +kernel
theorem dX12_fits_142 : decode cX12_fits 142 = .ok (.if_icmp .ge 25, 3) := by decide +kernel
theorem dX12_fits_145 : decode cX12_fits 145 = .ok (.aload_n 0, 1) := by decide +kernel
theorem dX12_fits_146 : decode cX12_fits 146 = .ok (.getfield 44, 3) := by decide +kernel
theorem dX12_fits_149 : decode cX12_fits 149 = .ok (.bipush 13, 2) := by decide +kernel
theorem dX12_fits_151 : decode cX12_fits 151 = .ok (.iload 5, 2) := by decide +kernel
theorem dX12_fits_153 : decode cX12_fits 153 = .ok (.imul, 1) := by decide +kernel
theorem dX12_fits_154 : decode cX12_fits 154 = .ok (.iload 6, 2) := by decide +kernel
theorem dX12_fits_156 : decode cX12_fits 156 = .ok (.iadd, 1) := by decide +kernel
theorem dX12_fits_157 : decode cX12_fits 157 = .ok (.iconst 1, 1) := by decide +kernel
theorem dX12_fits_158 : decode cX12_fits 158 = .ok (.iadd, 1) := by decide +kernel
theorem dX12_fits_159 : decode cX12_fits 159 = .ok (.baload, 1) := by decide +kernel
theorem dX12_fits_160 : decode cX12_fits 160 = .ok (.ifCond .eq 7, 3) := by decide +kernel
theorem dX12_fits_82 : decode cX12_fits 82 = .ok (.if_icmp .ge 17, 3) := by decide +kernel
theorem dX12_fits_99 : decode cX12_fits 99 = .ok (.lconst 0, 1) := by decide +kernel
theorem dX12_fits_85 : decode cX12_fits 85 = .ok (.aload_n 0, 1) := by decide +kernel
theorem dX12_fits_86 : decode cX12_fits 86 = .ok (.getfield 7, 3) := by decide +kernel
theorem dX12_fits_89 : decode cX12_fits 89 = .ok (.iload_n 3, 1) := by decide +kernel
theorem dX12_fits_90 : decode cX12_fits 90 = .ok (.iconst 3, 1) := by decide +kernel
theorem dX12_fits_91 : decode cX12_fits 91 = .ok (.iadd, 1) := by decide +kernel
theorem dX12_fits_92 : decode cX12_fits 92 = .ok (.iload 5, 2) := by decide +kernel
theorem dX12_fits_94 : decode cX12_fits 94 = .ok (.iadd, 1) := by decide +kernel
theorem dX12_fits_95 : decode cX12_fits 95 = .ok (.laload, 1) := by decide +kernel
theorem dX12_fits_96 : decode cX12_fits 96 = .ok (.goto 4, 3) := by decide +kernel
theorem dX12_fits_75 : decode cX12_fits 75 = .ok (.iconst 0, 1) := by decide +kernel
theorem dX12_fits_59 : decode cX12_fits 59 = .ok (.if_icmp .ne 16, 3) := by decide +kernel
theorem dX12_fits_62 : decode cX12_fits 62 = .ok (.iload 6, 2) := by decide +kernel
theorem dX12_fits_64 : decode cX12_fits 64 = .ok (.aload_n 0, 1) := by decide +kernel
theorem dX12_fits_65 : decode cX12_fits 65 = .ok (.getfield 298, 3) := by decide +kernel
theorem dX12_fits_68 : decode cX12_fits 68 = .ok (.if_icmp .ne 7, 3) := by decide +kernel
theorem dX12_fits_71 : decode cX12_fits 71 = .ok (.iconst 1, 1) := by decide +kernel
theorem dX12_fits_72 : decode cX12_fits 72 = .ok (.goto 4, 3) := by decide +kernel
theorem dX12_fits_33 : decode cX12_fits 33 = .ok (.iconst 0, 1) := by decide +kernel
theorem dX12_fits_34 : decode cX12_fits 34 = .ok (.ireturn, 1) := by decide +kernel
def rm_X12_fits : Room := { frames := 0, cells := 0, slots := 0, locals := 0 }
set_option maxHeartbeats 4000000 in
set_option maxRecDepth 100000 in
theorem s_X12_fits (l : Launch) (D : va_G) (cy : Nat → ClassId) (L : List Nat) (R O : Nat → Nat) (f0 : Nat → va_E) (a0 : Nat) (m_a0 : a0 ∈ L) (r_a0 : R a0 = 12) (x1 : Int32) (b1 : 0 ≤ x1.toInt ∧ x1.toInt ≤ 24060) (x2 : Int32) (b2 : 0 ≤ x2.toInt ∧ x2.toInt ≤ 23) (GA : Nat) (m_GA : GA ∈ L) (r_GA : R GA = 61) (t_GA : fld f0 a0 0 = .ref GA) (GP : Nat) (m_GP : GP ∈ L) (r_GP : R GP = 69) (t_GP : fld f0 a0 22 = .ref GP) (GL : Nat) (m_GL : GL ∈ L) (r_GL : R GL = 70) (t_GL : fld f0 a0 23 = .ref GL) (GT : Nat) (m_GT : GT ∈ L) (r_GT : R GT = 64) (t_GT : fld f0 a0 6 = .ref GT) (pre0 : isB x1.toInt.toNat) (pre1 : GZ GP GL f0) : ∀ sz, Met l yX12_fits (Cond.code yX12_fits cX12_fits 11 (some .boolean) :: wsL_law) rm_X12_fits (va_Pc [.ref a0, .int x1, .int x2] (tPZ D cy L R (TT cy L R) f0 sz)) (va_Qi (fun (r : Int32) f1 => fr L R [] [68, 69, 70] f0 f1 ∧ 0 ≤ r.toInt ∧ r.toInt ≤ 1 ∧ GZ GP GL f1) (tB D (tA L sz) L R (TT cy L R)) (tA L sz)) 0 0 (tA L sz) := by
  refine tw_enteri (by decide +kernel) rfl (Nat.le_of_ble_eq_true rfl) ?_
  intro p e s m below meth c A ls args Q F hZ h hl hret
  have hl : lv_has ls 11 [(0, .ref a0), (1, .int x1), (2, .int x2)] := hl
  have hk : fr L R [] [68, 69, 70] f0 f0 := fr.rf
  have t_a0_heardMany := h.bfi m_a0 r_a0 (fun e q => (T_12 e).mp q) (k := 28) rfl
  obtain ⟨a0_can, m_a0_can, r_a0_can, t_a0_can⟩ := h.rf m_a0 r_a0 (fun e q => (T_12 e).mp q) (k := 21) rfl
  have hB := pre0
  have hX := pre1
  refine lv_iload_n F.1 F.2.1 dX12_fits_0 rfl (lv_at hl 1 rfl) ?_
  refine tw_bipush F dX12_fits_1 kb_52 (fun z1 hz1 => ?_)
  refine tu_iadd F dX12_fits_3 (by omega) (fun z2 hz2 => ?_)
  refine tw_bipush F dX12_fits_4 kb_60 (fun z3 hz3 => ?_)
  refine lv_iload_n F.1 F.2.1 dX12_fits_6 rfl (lv_at hl 2 rfl) ?_
  refine tu_imull F dX12_fits_7 hz3 (by omega) (fun z4 hz4 => ?_)
  refine tu_iadd F dX12_fits_8 (by omega) (fun z5 hz5 => ?_)
  refine lv_istore_n (lv' := [(3, .int z5), (0, .ref a0), (1, .int x1), (2, .int x2)]) F.1 F.2.1 dX12_fits_9 rfl hl (by decide) rfl (fun ls hl => ?_)
  refine lv_aload_n F.1 F.2.1 dX12_fits_10 rfl (lv_at hl 1 rfl) ?_
  refine g_12_7 F h m_a0 r_a0 dX12_fits_11 (fun o6 m_o6 r_o6 ho6 => ?_)
  obtain rfl := (fld_inj t_GA ho6).symm
  refine lv_iload_n F.1 F.2.1 dX12_fits_14 rfl (lv_at hl 0 rfl) ?_
  refine tw_iconst F dX12_fits_15 ki_2 (fun z7 hz7 => ?_)
  refine tu_iadd F dX12_fits_16 (by omega) (fun z8 hz8 => ?_)
  refine ld_61 F h m_GA r_GA (by omega) dX12_fits_17 (fun v9 hv9a => ?_)
  have hv9b := clP_4.mp (atb hv9a (ac_r (b := x1.toInt.toNat) 2 hB (by omega) rfl))
  refine tw_l2i F dX12_fits_18 (by omega) (by omega) (fun z10 hz10 => ?_)
  refine lv_istore (lv' := [(4, .int z10), (3, .int z5), (0, .ref a0), (1, .int x1), (2, .int x2)]) F.1 F.2.1 dX12_fits_19 hl (by decide) rfl (fun ls hl => ?_)
  refine lv_aload_n F.1 F.2.1 dX12_fits_21 rfl (lv_at hl 2 rfl) ?_
  refine g_12_301 F h m_a0 r_a0 dX12_fits_22 (fun v11 hv11 => ?_)
  refine lv_iload_n F.1 F.2.1 dX12_fits_25 rfl (lv_at hl 4 rfl) ?_
  refine lv_ishr F.1 F.2.1 dX12_fits_26 ?_
  refine lv_topi (fun z12 _ => ?_)
  refine tw_iconst F dX12_fits_27 ki_1 (fun z13 hz13 => ?_)
  refine tu_iand F dX12_fits_28 (by omega) (fun z14 hz14a hz14b => ?_)
  refine tw_iconst F dX12_fits_29 ki_1 (fun z15 hz15 => ?_)
  refine tw_icmp_ne (tgt := 35) F dX12_fits_30 (by decide) (fun b16 => ?_) (fun b16 => ?_)
  · refine lv_iload F.1 F.2.1 dX12_fits_35 (lv_at hl 0 rfl) ?_
    refine lv_istore (lv' := [(5, .int z10), (4, .int z10), (3, .int z5), (0, .ref a0), (1, .int x1), (2, .int x2)]) F.1 F.2.1 dX12_fits_37 hl (by decide) rfl (fun ls hl => ?_)
    have j_39 : ∀ (n39 : Nat) (f17 : Nat → va_E) (H : Heap) (locs : List Loc) (ls : Array Slot) (x5_39 : Int32), (-1) ≤ x5_39.toInt → x5_39.toInt ≤ 8 → x5_39.toInt ≤ z10.toInt → (DPA a0_can GA (x1.toInt.toNat + 55 + 60 * x2.toInt.toNat) (fi f0 a0 28) (z10.toInt) (x5_39.toInt) (fi f0 a0 28) f17) → ((x5_39.toInt - (-1))).toNat < n39 → tS D cy A s.heap L R (TT cy L R) f17 s H locs → GZ GP GL f17 → fr L R [] [68, 69, 70] f0 f17 → fr L R [] [68] f0 f17 → lv_has ls 11 [(0, .ref a0), (3, .int z5), (4, .int z10), (5, .int x5_39)] → W p l e rm_X12_fits s m args below meth c H locs 0 0 Q (F0 m 39 ls []) := by
      intro n39
      induction n39 with
      | zero =>
        intro f17 H locs ls x5_39 b18 b19 b20 ip39_0 b21 h hX hk hb39 hl
        exfalso
        omega
      | succ n39 ih39 =>
        intro f17 H locs ls x5_39 b18 b19 b20 ip39_0 b21 h hX hk hb39 hl
        have e22 : fld f17 a0 0 = .ref GA := (hb39.efl m_a0 r_a0 rfl).trans t_GA
        have e23 : fld f17 a0 22 = .ref GP := (hb39.efl m_a0 r_a0 rfl).trans t_GP
        have e24 : fld f17 a0 23 = .ref GL := (hb39.efl m_a0 r_a0 rfl).trans t_GL
        have e25 : fld f17 a0 6 = .ref GT := (hb39.efl m_a0 r_a0 rfl).trans t_GT
        have e26 : fi f17 a0 28 = fi f0 a0 28 := hb39.efi m_a0 r_a0 rfl
        have e27 : fld f17 a0 21 = .ref a0_can := (hb39.efl m_a0 r_a0 rfl).trans t_a0_can
        refine lv_iload F.1 F.2.1 dX12_fits_39 (lv_at hl 3 rfl) ?_
        refine tw_if_lt (tgt := 271) F dX12_fits_41 (by decide) (fun b28 => ?_) (fun b28 => ?_)
        · refine lv_aload_n F.1 F.2.1 dX12_fits_271 rfl (lv_at hl 0 rfl) ?_
          refine g_12_44 F h m_a0 r_a0 dX12_fits_272 (fun o29 m_o29 r_o29 ho29 => ?_)
          obtain rfl := (fld_inj e27 ho29).symm
          refine tw_iconst F dX12_fits_275 ki_0 (fun z30 hz30 => ?_)
          refine le_68 F h m_a0_can r_a0_can (by omega) dX12_fits_276 (fun v31 ev31 hv31a hv31b => ?_)
          refine tw_if_ne (tgt := 282) F dX12_fits_277 (by decide) (fun b32 => ?_) (fun b32 => ?_)
          · have hD : DPA a0_can GA (x1.toInt.toNat + 55 + 60 * x2.toInt.toNat) (fi f0 a0 28) (z10.toInt) (-1) (fi f0 a0 28) f17 := DPA_ei ip39_0 (by omega)
            have z276 : eli f17 a0_can 0 = 1 := by rw [show (0 : Nat) = z30.toInt.toNat by omega, ← ev31]; omega
            refine tw_iconst F dX12_fits_282 ki_0 (fun z33 hz33 => ?_)
            refine lv_istore (lv' := [(5, .int z33), (0, .ref a0), (3, .int z5), (4, .int z10)]) F.1 F.2.1 dX12_fits_283 hl (by decide) rfl (fun ls hl => ?_)
            refine tw_iconst F dX12_fits_285 ki_0 (fun z34 hz34 => ?_)
            refine lv_istore (lv' := [(6, .int z34), (5, .int z33), (0, .ref a0), (3, .int z5), (4, .int z10)]) F.1 F.2.1 dX12_fits_286 hl (by decide) rfl (fun ls hl => ?_)
            refine tw_iconst F dX12_fits_288 ki_0 (fun z35 hz35 => ?_)
            refine lv_istore (lv' := [(7, .int z35), (6, .int z34), (5, .int z33), (0, .ref a0), (3, .int z5), (4, .int z10)]) F.1 F.2.1 dX12_fits_289 hl (by decide) rfl (fun ls hl => ?_)
            have j_291 : ∀ (n291 : Nat) (f36 : Nat → va_E) (H : Heap) (locs : List Loc) (ls : Array Slot) (x5_291 : Int32) (x6_291 : Int32) (x7_291 : Int32), 0 ≤ x7_291.toInt → x7_291.toInt ≤ 8 → 0 ≤ x5_291.toInt → x5_291.toInt ≤ fi f0 a0 28 → 0 ≤ x6_291.toInt → x6_291.toInt ≤ x7_291.toInt → (eli f36 a0_can (13 * x7_291.toInt.toNat + x5_291.toInt.toNat) = 1) → ((8 - x7_291.toInt)).toNat < n291 → tS D cy A s.heap L R (TT cy L R) f36 s H locs → GZ GP GL f36 → DPA a0_can GA (x1.toInt.toNat + 55 + 60 * x2.toInt.toNat) (fi f0 a0 28) (z10.toInt) (-1) (fi f0 a0 28) f36 → fr L R [] [68, 69, 70] f0 f36 → fr L R [] [69, 70] f17 f36 → lv_has ls 11 [(0, .ref a0), (3, .int z5), (4, .int z10), (5, .int x5_291), (6, .int x6_291), (7, .int x7_291)] → W p l e rm_X12_fits s m args below meth c H locs 0 0 Q (F0 m 291 ls []) := by
              intro n291
              induction n291 with
              | zero =>
                intro f36 H locs ls x5_291 x6_291 x7_291 b37 b38 b39 b40 b41 b42 ip291_0 b43 h hX hD hk hb291 hl
                exfalso
                omega
              | succ n291 ih291 =>
                intro f36 H locs ls x5_291 x6_291 x7_291 b37 b38 b39 b40 b41 b42 ip291_0 b43 h hX hD hk hb291 hl
                have e44 : fld f36 a0 0 = .ref GA := (hb291.efl m_a0 r_a0 rfl).trans e22
                have e45 : fld f36 a0 22 = .ref GP := (hb291.efl m_a0 r_a0 rfl).trans e23
                have e46 : fld f36 a0 23 = .ref GL := (hb291.efl m_a0 r_a0 rfl).trans e24
                have e47 : fld f36 a0 6 = .ref GT := (hb291.efl m_a0 r_a0 rfl).trans e25
                have e48 : fi f36 a0 28 = fi f17 a0 28 := hb291.efi m_a0 r_a0 rfl
                have e49 : fld f36 a0 21 = .ref a0_can := (hb291.efl m_a0 r_a0 rfl).trans e27
                refine lv_iload F.1 F.2.1 dX12_fits_291 (lv_at hl 5 rfl) ?_
                refine lv_iload F.1 F.2.1 dX12_fits_293 (lv_at hl 2 rfl) ?_
                refine tw_icmp_ge (tgt := 395) F dX12_fits_295 (by decide) (fun b50 => ?_) (fun b50 => ?_)
                · refine tw_iconst F dX12_fits_395 ki_1 (fun z51 hz51 => ?_)
                  exact hret f36 _ _ _ _ z51 dX12_fits_396 (tw_nb (by omega)) ⟨hk, by omega, by omega, hX⟩ h
                · refine lv_aload_n F.1 F.2.1 dX12_fits_298 rfl (lv_at hl 0 rfl) ?_
                  refine g_12_7 F h m_a0 r_a0 dX12_fits_299 (fun o52 m_o52 r_o52 ho52 => ?_)
                  obtain rfl := (fld_inj e44 ho52).symm
                  refine lv_iload_n F.1 F.2.1 dX12_fits_302 rfl (lv_at hl 1 rfl) ?_
                  refine tw_iconst F dX12_fits_303 ki_3 (fun z53 hz53 => ?_)
                  refine tu_iadd F dX12_fits_304 (by omega) (fun z54 hz54 => ?_)
                  refine lv_iload F.1 F.2.1 dX12_fits_305 (lv_at hl 5 rfl) ?_
                  refine tu_iadd F dX12_fits_307 (by omega) (fun z55 hz55 => ?_)
                  refine le_61 F h m_GA r_GA (by omega) dX12_fits_308 (fun v56 ev56 hv56a => ?_)
                  refine lv_lstore (lv' := [(8, .long v56), (0, .ref a0), (3, .int z5), (4, .int z10), (5, .int x5_291), (6, .int x6_291), (7, .int x7_291)]) F.1 F.2.1 dX12_fits_309 hl (by decide) rfl (fun ls hl => ?_)
                  have u308 : v56.toInt = elj f36 GA (x1.toInt.toNat + 55 + 60 * x2.toInt.toNat + x7_291.toInt.toNat) := by rw [ev56, show z55.toInt.toNat = x1.toInt.toNat + 55 + 60 * x2.toInt.toNat + x7_291.toInt.toNat by omega]
                  have hdp := Hid.mk (hD x7_291.toInt.toNat x5_291.toInt.toNat (by omega) (by omega) (by omega))
                  refine lv_lload F.1 F.2.1 dX12_fits_311 (lv_at hl 0 rfl) ?_
                  refine tu_ldc2 F mw_340 dX12_fits_313 kl_m1 (fun z57 hz57 => ?_)
                  refine tw_lcmp F dX12_fits_316 (fun z58 hz58 => ?_)
                  have j_325 : ∀ (ls : Array Slot) (y0_325 : Int32), 0 ≤ y0_325.toInt → y0_325.toInt ≤ 1 → (Hid (∃ u : Nat, x5_291.toInt + y0_325.toInt ≤ u ∧ (u : Int) ≤ fi f0 a0 28 ∧ eli f36 a0_can (13 * (x7_291.toInt.toNat + 1) + u) = 1)) → lv_has ls 11 [(0, .ref a0), (3, .int z5), (4, .int z10), (5, .int x5_291), (6, .int x6_291), (7, .int x7_291), (8, .long v56)] → W p l e rm_X12_fits s m args below meth c H locs 0 0 Q (F0 m 325 ls [.int y0_325]) := by
                    intro ls y0_325 b59 b60 ip325_0 hl
                    refine lv_istore (lv' := [(10, .int y0_325), (0, .ref a0), (3, .int z5), (4, .int z10), (5, .int x5_291), (6, .int x6_291), (7, .int x7_291), (8, .long v56)]) F.1 F.2.1 dX12_fits_325 hl (by decide) rfl (fun ls hl => ?_)
                    have j_327 : ∀ (n327 : Nat) (ls : Array Slot) (x10_327 : Int32), 0 ≤ x10_327.toInt → (Hid (∃ u : Nat, x5_291.toInt + x10_327.toInt ≤ u ∧ (u : Int) ≤ fi f0 a0 28 ∧ eli f36 a0_can (13 * (x7_291.toInt.toNat + 1) + u) = 1)) → ((2147483647 - x10_327.toInt)).toNat < n327 → lv_has ls 11 [(0, .ref a0), (3, .int z5), (4, .int z10), (5, .int x5_291), (6, .int x6_291), (7, .int x7_291), (8, .long v56), (10, .int x10_327)] → W p l e rm_X12_fits s m args below meth c H locs 0 0 Q (F0 m 327 ls []) := by
                      intro n327
                      induction n327 with
                      | zero =>
                        intro ls x10_327 b61 ip327_0 b62 hl
                        exfalso
                        omega
                      | succ n327 ih327 =>
                        intro ls x10_327 b61 ip327_0 b62 hl
                        have hbd := DP_b ip327_0.g
                        refine lv_aload_n F.1 F.2.1 dX12_fits_327 rfl (lv_at hl 0 rfl) ?_
                        refine g_12_44 F h m_a0 r_a0 dX12_fits_328 (fun o63 m_o63 r_o63 ho63 => ?_)
                        obtain rfl := (fld_inj e49 ho63).symm
                        refine tw_bipush F dX12_fits_331 kb_13 (fun z64 hz64 => ?_)
                        refine lv_iload F.1 F.2.1 dX12_fits_333 (lv_at hl 5 rfl) ?_
                        refine tw_iconst F dX12_fits_335 ki_1 (fun z65 hz65 => ?_)
                        refine tu_iadd F dX12_fits_336 (by omega) (fun z66 hz66 => ?_)
                        refine tu_imull F dX12_fits_337 hz64 (by omega) (fun z67 hz67 => ?_)
                        refine lv_iload F.1 F.2.1 dX12_fits_338 (lv_at hl 3 rfl) ?_
                        refine tu_iadd F dX12_fits_340 (by omega) (fun z68 hz68 => ?_)
                        refine lv_iload F.1 F.2.1 dX12_fits_341 (lv_at hl 7 rfl) ?_
                        refine tu_iadd F dX12_fits_343 (by omega) (fun z69 hz69 => ?_)
                        refine le_68 F h m_a0_can r_a0_can (by omega) dX12_fits_344 (fun v70 ev70 hv70a hv70b => ?_)
                        refine tw_if_ne (tgt := 354) F dX12_fits_345 (by decide) (fun b71 => ?_) (fun b71 => ?_)
                        · have hE : eli f36 a0_can (13 * (x7_291.toInt.toNat + 1) + (x5_291.toInt.toNat + x10_327.toInt.toNat)) = 1 := by rw [show 13 * (x7_291.toInt.toNat + 1) + (x5_291.toInt.toNat + x10_327.toInt.toNat) = z69.toInt.toNat by omega, ← ev70]; omega
                          refine lv_lload F.1 F.2.1 dX12_fits_354 (lv_at hl 6 rfl) ?_
                          refine tu_lconst F dX12_fits_356 (by decide) (fun z72 (hz72 : z72.toInt = 0) => ?_)
                          refine tw_lcmp F dX12_fits_357 (fun z73 hz73 => ?_)
                          have j_382 : ∀ (f74 : Nat → va_E) (H : Heap) (locs : List Loc) (ls : Array Slot) (x6_382 : Int32), 0 ≤ x6_382.toInt → x6_382.toInt ≤ x7_291.toInt + 1 → tS D cy A s.heap L R (TT cy L R) f74 s H locs → GZ GP GL f74 → DPA a0_can GA (x1.toInt.toNat + 55 + 60 * x2.toInt.toNat) (fi f0 a0 28) (z10.toInt) (-1) (fi f0 a0 28) f74 → eli f74 a0_can (13 * (x7_291.toInt.toNat + 1) + (x5_291.toInt.toNat + x10_327.toInt.toNat)) = 1 → fr L R [] [68, 69, 70] f0 f74 → fr L R [] [69, 70] f36 f74 → lv_has ls 11 [(0, .ref a0), (3, .int z5), (4, .int z10), (5, .int x5_291), (6, .int x6_382), (7, .int x7_291), (10, .int x10_327)] → W p l e rm_X12_fits s m args below meth c H locs 0 0 Q (F0 m 382 ls []) := by
                            intro f74 H locs ls x6_382 b75 b76 h hX hD hE hk hb382 hl
                            have hb291 : fr L R [] [69, 70] f17 f74 := hb291.tr hb382 rfl rfl
                            have e77 : fld f74 a0 0 = .ref GA := (hb382.efl m_a0 r_a0 rfl).trans e44
                            have e78 : fld f74 a0 22 = .ref GP := (hb382.efl m_a0 r_a0 rfl).trans e45
                            have e79 : fld f74 a0 23 = .ref GL := (hb382.efl m_a0 r_a0 rfl).trans e46
                            have e80 : fld f74 a0 6 = .ref GT := (hb382.efl m_a0 r_a0 rfl).trans e47
                            have e81 : fi f74 a0 28 = fi f36 a0 28 := hb382.efi m_a0 r_a0 rfl
                            have e82 : fld f74 a0 21 = .ref a0_can := (hb382.efl m_a0 r_a0 rfl).trans e49
                            refine lv_iload F.1 F.2.1 dX12_fits_382 (lv_at hl 3 rfl) ?_
                            refine lv_iload F.1 F.2.1 dX12_fits_384 (lv_at hl 6 rfl) ?_
                            refine tu_iadd F dX12_fits_386 (by omega) (fun z83 hz83 => ?_)
                            refine lv_istore (lv' := [(5, .int z83), (0, .ref a0), (3, .int z5), (4, .int z10), (6, .int x6_382), (7, .int x7_291), (10, .int x10_327)]) F.1 F.2.1 dX12_fits_387 hl (by decide) rfl (fun ls hl => ?_)
                            refine tu_iinc F dX12_fits_389 hl (k := 5) rfl (by decide) ki_1 (by omega) (fun z84 ls hz84 hl => ?_)
                            have hl : lv_has ls 11 [(7, .int z84), (5, .int z83), (0, .ref a0), (3, .int z5), (4, .int z10), (6, .int x6_382), (10, .int x10_327)] := hl
                            refine lv_goto (tgt := 291) F.1 F.2.1 dX12_fits_392 (by decide) ?_
                            exact ih291 f74 _ _ _ z83 x6_382 z84 (by omega) (by omega) (by omega) (by omega) (by omega) (by omega) (by rw [show 13 * z84.toInt.toNat + z83.toInt.toNat = 13 * (x7_291.toInt.toNat + 1) + (x5_291.toInt.toNat + x10_327.toInt.toNat) by omega]; exact hE) (by omega) h hX hD hk hb291 (lv_sub hl [2, 3, 4, 1, 5, 0] rfl)
                          have hb382 : fr L R [] [69, 70] f36 f36 := fr.rf
                          refine tw_if_ge (tgt := 382) F dX12_fits_358 (by decide) (fun b85 => ?_) (fun b85 => ?_)
                          · exact j_382 f36 _ _ _ x6_291 (by omega) (by omega) h hX hD hE hk hb382 (lv_sub hl [0, 1, 2, 3, 4, 5, 7] rfl)
                          · refine lv_aload_n F.1 F.2.1 dX12_fits_361 rfl (lv_at hl 0 rfl) ?_
                            refine g_12_48 F h m_a0 r_a0 dX12_fits_362 (fun o86 m_o86 r_o86 ho86 => ?_)
                            obtain rfl := (fld_inj e45 ho86).symm
                            refine lv_iload F.1 F.2.1 dX12_fits_365 (lv_at hl 4 rfl) ?_
                            refine lv_iload F.1 F.2.1 dX12_fits_367 (lv_at hl 3 rfl) ?_
                            have hXo := hX
                            refine se_69 F h m_GP r_GP (by omega) (by omega) dX12_fits_369 (fun f87 H locs e87a e87b hf87 h => ?_)
                            have hD : DPA a0_can GA (x1.toInt.toNat + 55 + 60 * x2.toInt.toNat) (fi f0 a0 28) (z10.toInt) (-1) (fi f0 a0 28) f87 := hD.fm hf87 m_a0_can r_a0_can m_GA r_GA (by decide +kernel) (by decide +kernel)
                            have hE : eli f87 a0_can (13 * (x7_291.toInt.toNat + 1) + (x5_291.toInt.toNat + x10_327.toInt.toNat)) = 1 := by rw [hf87.eeli m_a0_can r_a0_can (by decide +kernel)]; exact hE
                            have hk : fr L R [] [68, 69, 70] f0 f87 := hk.tr hf87 rfl rfl
                            have hb291 : fr L R [] [69, 70] f17 f87 := hb291.tr hf87 rfl rfl
                            have hb382 : fr L R [] [69, 70] f36 f87 := hb382.tr hf87 rfl rfl
                            have e88 : fld f87 a0 0 = .ref GA := (hf87.efl m_a0 r_a0 rfl).trans e44
                            have e89 : fld f87 a0 22 = .ref GP := (hf87.efl m_a0 r_a0 rfl).trans e45
                            have e90 : fld f87 a0 23 = .ref GL := (hf87.efl m_a0 r_a0 rfl).trans e46
                            have e91 : fld f87 a0 6 = .ref GT := (hf87.efl m_a0 r_a0 rfl).trans e47
                            have e92 : fi f87 a0 28 = fi f36 a0 28 := hf87.efi m_a0 r_a0 rfl
                            have e93 : fld f87 a0 21 = .ref a0_can := (hf87.efl m_a0 r_a0 rfl).trans e49
                            refine lv_aload_n F.1 F.2.1 dX12_fits_370 rfl (lv_at hl 0 rfl) ?_
                            refine g_12_51 F h m_a0 r_a0 dX12_fits_371 (fun o94 m_o94 r_o94 ho94 => ?_)
                            obtain rfl := (fld_inj e90 ho94).symm
                            refine lv_iload F.1 F.2.1 dX12_fits_374 (lv_at hl 4 rfl) ?_
                            refine lv_iload F.1 F.2.1 dX12_fits_376 (lv_at hl 7 rfl) ?_
                            refine se_70 F h m_GL r_GL (by omega) (by omega) dX12_fits_378 (fun f95 H locs e95a e95b hf95 h => ?_)
                            have hD : DPA a0_can GA (x1.toInt.toNat + 55 + 60 * x2.toInt.toNat) (fi f0 a0 28) (z10.toInt) (-1) (fi f0 a0 28) f95 := hD.fm hf95 m_a0_can r_a0_can m_GA r_GA (by decide +kernel) (by decide +kernel)
                            have hE : eli f95 a0_can (13 * (x7_291.toInt.toNat + 1) + (x5_291.toInt.toNat + x10_327.toInt.toNat)) = 1 := by rw [hf95.eeli m_a0_can r_a0_can (by decide +kernel)]; exact hE
                            have hk : fr L R [] [68, 69, 70] f0 f95 := hk.tr hf95 rfl rfl
                            have hb291 : fr L R [] [69, 70] f17 f95 := hb291.tr hf95 rfl rfl
                            have hb382 : fr L R [] [69, 70] f36 f95 := hb382.tr hf95 rfl rfl
                            have e96 : fld f95 a0 0 = .ref GA := (hf95.efl m_a0 r_a0 rfl).trans e88
                            have e97 : fld f95 a0 22 = .ref GP := (hf95.efl m_a0 r_a0 rfl).trans e89
                            have e98 : fld f95 a0 23 = .ref GL := (hf95.efl m_a0 r_a0 rfl).trans e90
                            have e99 : fld f95 a0 6 = .ref GT := (hf95.efl m_a0 r_a0 rfl).trans e91
                            have e100 : fi f95 a0 28 = fi f87 a0 28 := hf95.efi m_a0 r_a0 rfl
                            have e101 : fld f95 a0 21 = .ref a0_can := (hf95.efl m_a0 r_a0 rfl).trans e93
                            have hX : GZ GP GL f95 := GZ_2 hXo (ne_r r_GP r_GL (by decide)) e87a e87b e95a e95b (by omega)
                            refine tu_iinc F dX12_fits_379 hl (k := 4) rfl (by decide) ki_1 (by omega) (fun z102 ls hz102 hl => ?_)
                            have hl : lv_has ls 11 [(6, .int z102), (0, .ref a0), (3, .int z5), (4, .int z10), (5, .int x5_291), (7, .int x7_291), (8, .long v56), (10, .int x10_327)] := hl
                            exact j_382 f95 _ _ _ z102 (by omega) (by omega) h hX hD hE hk hb382 (lv_sub hl [1, 2, 3, 4, 0, 5, 7] rfl)
                        · refine tu_iinc F dX12_fits_348 hl (k := 7) rfl (by decide) ki_1 (by omega) (fun z103 ls hz103 hl => ?_)
                          have hl : lv_has ls 11 [(10, .int z103), (0, .ref a0), (3, .int z5), (4, .int z10), (5, .int x5_291), (6, .int x6_291), (7, .int x7_291), (8, .long v56)] := hl
                          refine lv_goto (tgt := 327) F.1 F.2.1 dX12_fits_351 (by decide) ?_
                          exact ih327 _ z103 (by omega) (Hid.mk (DP_s (j := z69.toInt.toNat) ip327_0.g (by omega) (by omega) (by omega))) (by omega) (lv_sub hl [1, 2, 3, 4, 5, 6, 7, 0] rfl)
                    exact j_327 (((2147483647 - y0_325.toInt)).toNat + 1) _ y0_325 (by omega) (ip325_0) (by omega) (lv_sub hl [1, 2, 3, 4, 5, 6, 7, 0] rfl)
                  refine tw_if_ne (tgt := 324) F dX12_fits_317 (by decide) (fun b104 => ?_) (fun b104 => ?_)
                  · refine tw_iconst F dX12_fits_324 ki_1 (fun z105 hz105 => ?_)
                    exact j_325 _ z105 (by omega) (by omega) (Hid.mk (DP_1 hdp.g ip291_0 (by omega) (by omega) (by omega))) (lv_sub hl [1, 2, 3, 4, 5, 6, 0] rfl)
                  · refine tw_iconst F dX12_fits_320 ki_0 (fun z106 hz106 => ?_)
                    refine lv_goto (tgt := 325) F.1 F.2.1 dX12_fits_321 (by decide) ?_
                    exact j_325 _ z106 (by omega) (by omega) (Hid.mk (DP_0 hdp.g ip291_0 (u308.symm.trans (by omega)) (by omega) (by omega))) (lv_sub hl [1, 2, 3, 4, 5, 6, 0] rfl)
            have hb291 : fr L R [] [69, 70] f17 f17 := fr.rf
            exact j_291 (((8 - z35.toInt)).toNat + 1) f17 _ _ _ z33 z34 z35 (by omega) (by omega) (by omega) (by omega) (by omega) (by omega) (by rw [show 13 * z35.toInt.toNat + z33.toInt.toNat = 0 by omega]; exact z276) (by omega) h hX hD hk hb291 (lv_sub hl [3, 4, 5, 2, 1, 0] rfl)
          · refine tw_iconst F dX12_fits_280 ki_0 (fun z107 hz107 => ?_)
            exact hret f17 _ _ _ _ z107 dX12_fits_281 (tw_nb (by omega)) ⟨hk, by omega, by omega, hX⟩ h
        · refine lv_aload_n F.1 F.2.1 dX12_fits_44 rfl (lv_at hl 0 rfl) ?_
          refine g_12_298 F h m_a0 r_a0 dX12_fits_45 (fun v108 hv108 hv108a hv108b => ?_)
          refine lv_istore (lv' := [(6, .int v108), (0, .ref a0), (3, .int z5), (4, .int z10), (5, .int x5_39)]) F.1 F.2.1 dX12_fits_48 hl (by decide) rfl (fun ls hl => ?_)
          have j_50 : ∀ (n50 : Nat) (f109 : Nat → va_E) (H : Heap) (locs : List Loc) (ls : Array Slot) (x6_50 : Int32), (-1) ≤ x6_50.toInt → x6_50.toInt ≤ 12 → x6_50.toInt ≤ fi f0 a0 28 → (DPA a0_can GA (x1.toInt.toNat + 55 + 60 * x2.toInt.toNat) (fi f0 a0 28) (z10.toInt) (x5_39.toInt) (x6_50.toInt) f109) → ((x6_50.toInt - (-1))).toNat < n50 → tS D cy A s.heap L R (TT cy L R) f109 s H locs → GZ GP GL f109 → fr L R [] [68, 69, 70] f0 f109 → fr L R [] [68] f17 f109 → lv_has ls 11 [(0, .ref a0), (3, .int z5), (4, .int z10), (5, .int x5_39), (6, .int x6_50)] → W p l e rm_X12_fits s m args below meth c H locs 0 0 Q (F0 m 50 ls []) := by
            intro n50
            induction n50 with
            | zero =>
              intro f109 H locs ls x6_50 b110 b111 b112 ip50_0 b113 h hX hk hb50 hl
              exfalso
              omega
            | succ n50 ih50 =>
              intro f109 H locs ls x6_50 b110 b111 b112 ip50_0 b113 h hX hk hb50 hl
              have hb39 : fr L R [] [68] f0 f109 := hb39.tr hb50 rfl rfl
              have e114 : fld f109 a0 0 = .ref GA := (hb50.efl m_a0 r_a0 rfl).trans e22
              have e115 : fld f109 a0 22 = .ref GP := (hb50.efl m_a0 r_a0 rfl).trans e23
              have e116 : fld f109 a0 23 = .ref GL := (hb50.efl m_a0 r_a0 rfl).trans e24
              have e117 : fld f109 a0 6 = .ref GT := (hb50.efl m_a0 r_a0 rfl).trans e25
              have e118 : fi f109 a0 28 = fi f17 a0 28 := hb50.efi m_a0 r_a0 rfl
              have e119 : fld f109 a0 21 = .ref a0_can := (hb50.efl m_a0 r_a0 rfl).trans e27
              refine lv_iload F.1 F.2.1 dX12_fits_50 (lv_at hl 4 rfl) ?_
              refine tw_if_lt (tgt := 265) F dX12_fits_52 (by decide) (fun b120 => ?_) (fun b120 => ?_)
              · refine tu_iinc F dX12_fits_265 hl (k := 3) rfl (by decide) ki_m1 (by omega) (fun z121 ls hz121 hl => ?_)
                have hl : lv_has ls 11 [(5, .int z121), (0, .ref a0), (3, .int z5), (4, .int z10), (6, .int x6_50)] := hl
                refine lv_goto (tgt := 39) F.1 F.2.1 dX12_fits_268 (by decide) ?_
                exact ih39 f109 _ _ _ z121 (by omega) (by omega) (by omega) (DPA_ei (DPA_row ip50_0 (by omega)) (by omega)) (by omega) h hX hk hb39 (lv_sub hl [1, 2, 3, 0] rfl)
              · refine lv_iload F.1 F.2.1 dX12_fits_55 (lv_at hl 3 rfl) ?_
                refine lv_iload F.1 F.2.1 dX12_fits_57 (lv_at hl 2 rfl) ?_
                have j_76 : ∀ (ls : Array Slot) (y0_76 : Int32), 0 ≤ y0_76.toInt → y0_76.toInt ≤ 1 → (y0_76.toInt = 0 ∨ x5_39.toInt = z10.toInt) → lv_has ls 11 [(0, .ref a0), (3, .int z5), (4, .int z10), (5, .int x5_39), (6, .int x6_50)] → W p l e rm_X12_fits s m args below meth c H locs 0 0 Q (F0 m 76 ls [.int y0_76]) := by
                  intro ls y0_76 b122 b123 b124 hl
                  refine lv_istore (lv' := [(7, .int y0_76), (0, .ref a0), (3, .int z5), (4, .int z10), (5, .int x5_39), (6, .int x6_50)]) F.1 F.2.1 dX12_fits_76 hl (by decide) rfl (fun ls hl => ?_)
                  refine lv_iload F.1 F.2.1 dX12_fits_78 (lv_at hl 4 rfl) ?_
                  refine lv_iload F.1 F.2.1 dX12_fits_80 (lv_at hl 3 rfl) ?_
                  have j_100 : ∀ (ls : Array Slot) (y0_100 : Int64), (Hid (x5_39.toInt < z10.toInt → y0_100.toInt = elj f109 GA (x1.toInt.toNat + 55 + 60 * x2.toInt.toNat + x5_39.toInt.toNat))) → lv_has ls 11 [(0, .ref a0), (3, .int z5), (4, .int z10), (5, .int x5_39), (6, .int x6_50), (7, .int y0_76)] → W p l e rm_X12_fits s m args below meth c H locs 0 0 Q (F0 m 100 ls [.long y0_100]) := by
                    intro ls y0_100 ip100_0 hl
                    refine lv_lstore (lv' := [(8, .long y0_100), (0, .ref a0), (3, .int z5), (4, .int z10), (5, .int x5_39), (6, .int x6_50), (7, .int y0_76)]) F.1 F.2.1 dX12_fits_100 hl (by decide) rfl (fun ls hl => ?_)
                    refine lv_iload F.1 F.2.1 dX12_fits_102 (lv_at hl 4 rfl) ?_
                    refine lv_iload F.1 F.2.1 dX12_fits_104 (lv_at hl 3 rfl) ?_
                    have j_170 : ∀ (ls : Array Slot) (x7_170 : Int32), 0 ≤ x7_170.toInt → x7_170.toInt ≤ 1 → (Hid (x7_170.toInt = 1 → x5_39.toInt < z10.toInt → y0_100.toInt = -1 ∧ (eli f109 a0_can (13 * (x5_39.toInt.toNat + 1) + x6_50.toInt.toNat) = 1 ∨ (x6_50.toInt < fi f0 a0 28 ∧ eli f109 a0_can (13 * x5_39.toInt.toNat + (x6_50.toInt.toNat + 1)) = 1)))) → lv_has ls 11 [(0, .ref a0), (3, .int z5), (4, .int z10), (5, .int x5_39), (6, .int x6_50), (7, .int x7_170), (8, .long y0_100)] → W p l e rm_X12_fits s m args below meth c H locs 0 0 Q (F0 m 170 ls []) := by
                      intro ls x7_170 b125 b126 ip170_0 hl
                      refine lv_iload F.1 F.2.1 dX12_fits_170 (lv_at hl 3 rfl) ?_
                      refine lv_iload F.1 F.2.1 dX12_fits_172 (lv_at hl 2 rfl) ?_
                      have j_244 : ∀ (ls : Array Slot) (x7_244 : Int32), 0 ≤ x7_244.toInt → x7_244.toInt ≤ 1 → (Hid (x7_244.toInt = 1 → x5_39.toInt < z10.toInt → DQ a0_can (fi f0 a0 28) (y0_100.toInt) (x5_39.toInt.toNat) (x6_50.toInt.toNat) f109)) → lv_has ls 11 [(0, .ref a0), (3, .int z5), (4, .int z10), (5, .int x5_39), (6, .int x6_50), (7, .int x7_244), (8, .long y0_100)] → W p l e rm_X12_fits s m args below meth c H locs 0 0 Q (F0 m 244 ls []) := by
                        intro ls x7_244 b127 b128 ip244_0 hl
                        refine lv_aload_n F.1 F.2.1 dX12_fits_244 rfl (lv_at hl 0 rfl) ?_
                        refine g_12_44 F h m_a0 r_a0 dX12_fits_245 (fun o129 m_o129 r_o129 ho129 => ?_)
                        obtain rfl := (fld_inj e119 ho129).symm
                        refine tw_bipush F dX12_fits_248 kb_13 (fun z130 hz130 => ?_)
                        refine lv_iload F.1 F.2.1 dX12_fits_250 (lv_at hl 3 rfl) ?_
                        refine tu_imull F dX12_fits_252 hz130 (by omega) (fun z131 hz131 => ?_)
                        refine lv_iload F.1 F.2.1 dX12_fits_253 (lv_at hl 4 rfl) ?_
                        refine tu_iadd F dX12_fits_255 (by omega) (fun z132 hz132 => ?_)
                        refine lv_iload F.1 F.2.1 dX12_fits_256 (lv_at hl 5 rfl) ?_
                        refine se_68 F h m_a0_can r_a0_can (by omega) (by omega) dX12_fits_258 (fun f133 H locs e133a e133b hf133 h => ?_)
                        have hX : GZ GP GL f133 := hX.fm hf133 m_GP r_GP m_GL r_GL (by decide +kernel) (by decide +kernel)
                        have hk : fr L R [] [68, 69, 70] f0 f133 := hk.tr hf133 rfl rfl
                        have hb39 : fr L R [] [68] f0 f133 := hb39.tr hf133 rfl rfl
                        have hb50 : fr L R [] [68] f17 f133 := hb50.tr hf133 rfl rfl
                        have e134 : fld f133 a0 0 = .ref GA := (hf133.efl m_a0 r_a0 rfl).trans e114
                        have e135 : fld f133 a0 22 = .ref GP := (hf133.efl m_a0 r_a0 rfl).trans e115
                        have e136 : fld f133 a0 23 = .ref GL := (hf133.efl m_a0 r_a0 rfl).trans e116
                        have e137 : fld f133 a0 6 = .ref GT := (hf133.efl m_a0 r_a0 rfl).trans e117
                        have e138 : fi f133 a0 28 = fi f109 a0 28 := hf133.efi m_a0 r_a0 rfl
                        have e139 : fld f133 a0 21 = .ref a0_can := (hf133.efl m_a0 r_a0 rfl).trans e119
                        have hDn := DPA_st (it := y0_100.toInt) ip50_0 (by omega) (by omega) (fun j => by rw [e133a j, show z132.toInt.toNat = 13 * x5_39.toInt.toNat + x6_50.toInt.toNat by omega]) (hf133.eelj m_GA r_GA (by decide +kernel) _) (hf133.eelj m_GA r_GA (by decide +kernel)) (fun q => ip100_0.g q) (fun q1 q2 => ip244_0.g q1 q2)
                        refine tu_iinc F dX12_fits_259 hl (k := 4) rfl (by decide) ki_m1 (by omega) (fun z140 ls hz140 hl => ?_)
                        have hl : lv_has ls 11 [(6, .int z140), (0, .ref a0), (3, .int z5), (4, .int z10), (5, .int x5_39), (7, .int x7_244), (8, .long y0_100)] := hl
                        refine lv_goto (tgt := 50) F.1 F.2.1 dX12_fits_262 (by decide) ?_
                        exact ih50 f133 _ _ _ z140 (by omega) (by omega) (by omega) (DPA_e hDn (by omega)) (by omega) h hX hk hb50 (lv_sub hl [1, 2, 3, 4, 0] rfl)
                      refine tw_icmp_ge (tgt := 244) F dX12_fits_174 (by decide) (fun b141 => ?_) (fun b141 => ?_)
                      · exact j_244 _ x7_170 (by omega) (by omega) (Hid.mk (fun q1 q2 => absurd q2 (by omega))) (lv_sub hl [0, 1, 2, 3, 4, 5, 6] rfl)
                      · refine lv_lload F.1 F.2.1 dX12_fits_177 (lv_at hl 6 rfl) ?_
                        refine tu_ldc2 F mw_340 dX12_fits_179 kl_m1 (fun z142 hz142 => ?_)
                        refine tw_lcmp F dX12_fits_182 (fun z143 hz143 => ?_)
                        refine tw_if_eq (tgt := 244) F dX12_fits_183 (by decide) (fun b144 => ?_) (fun b144 => ?_)
                        · exact j_244 _ x7_170 (by omega) (by omega) (Hid.mk (fun q1 q2 => Or.inl ⟨(ip170_0.g q1 q2).1, (ip170_0.g q1 q2).2.imp id (fun q => ⟨by omega, q.2⟩)⟩)) (lv_sub hl [0, 1, 2, 3, 4, 5, 6] rfl)
                        · refine lv_iload F.1 F.2.1 dX12_fits_186 (lv_at hl 4 rfl) ?_
                          refine lv_aload_n F.1 F.2.1 dX12_fits_188 rfl (lv_at hl 0 rfl) ?_
                          refine g_12_298 F h m_a0 r_a0 dX12_fits_189 (fun v145 hv145 hv145a hv145b => ?_)
                          have j_242 : ∀ (ls : Array Slot) (y0_242 : Int32), 0 ≤ y0_242.toInt → y0_242.toInt ≤ 1 → (Hid (y0_242.toInt = 1 → x6_50.toInt < fi f0 a0 28 ∧ eli f109 a0_can (13 * (x5_39.toInt.toNat + 1) + (x6_50.toInt.toNat + 1)) = 1)) → lv_has ls 11 [(0, .ref a0), (3, .int z5), (4, .int z10), (5, .int x5_39), (6, .int x6_50), (8, .long y0_100)] → W p l e rm_X12_fits s m args below meth c H locs 0 0 Q (F0 m 242 ls [.int y0_242]) := by
                            intro ls y0_242 b146 b147 ip242_0 hl
                            refine lv_istore (lv' := [(7, .int y0_242), (0, .ref a0), (3, .int z5), (4, .int z10), (5, .int x5_39), (6, .int x6_50), (8, .long y0_100)]) F.1 F.2.1 dX12_fits_242 hl (by decide) rfl (fun ls hl => ?_)
                            exact j_244 _ y0_242 (by omega) (by omega) (Hid.mk (fun q1 _ => Or.inr ⟨by omega, by have w := (ip242_0.g q1).1; omega, (ip242_0.g q1).2⟩)) (lv_sub hl [1, 2, 3, 4, 5, 0, 6] rfl)
                          have j_241 : ∀ (ls : Array Slot), lv_has ls 11 [(0, .ref a0), (3, .int z5), (4, .int z10), (5, .int x5_39), (6, .int x6_50), (8, .long y0_100)] → W p l e rm_X12_fits s m args below meth c H locs 0 0 Q (F0 m 241 ls []) := by
                            intro ls hl
                            refine tw_iconst F dX12_fits_241 ki_0 (fun z148 hz148 => ?_)
                            exact j_242 _ z148 (by omega) (by omega) (Hid.mk (fun q => absurd q (by omega))) (lv_sub hl [0, 1, 2, 3, 4, 5] rfl)
                          refine tw_icmp_ge (tgt := 241) F dX12_fits_192 (by decide) (fun b149 => ?_) (fun b149 => ?_)
                          · exact j_241 _ (lv_sub hl [0, 1, 2, 3, 4, 6] rfl)
                          · refine lv_lload F.1 F.2.1 dX12_fits_195 (lv_at hl 6 rfl) ?_
                            refine tu_ldc2 F mw_722 dX12_fits_197 kl_m2 (fun z150 hz150 => ?_)
                            refine tw_lcmp F dX12_fits_200 (fun z151 hz151 => ?_)
                            have j_217 : ∀ (ls : Array Slot), lv_has ls 11 [(0, .ref a0), (3, .int z5), (4, .int z10), (5, .int x5_39), (6, .int x6_50), (8, .long y0_100)] → W p l e rm_X12_fits s m args below meth c H locs 0 0 Q (F0 m 217 ls []) := by
                              intro ls hl
                              refine lv_aload_n F.1 F.2.1 dX12_fits_217 rfl (lv_at hl 0 rfl) ?_
                              refine g_12_44 F h m_a0 r_a0 dX12_fits_218 (fun o152 m_o152 r_o152 ho152 => ?_)
                              obtain rfl := (fld_inj e119 ho152).symm
                              refine tw_bipush F dX12_fits_221 kb_13 (fun z153 hz153 => ?_)
                              refine lv_iload F.1 F.2.1 dX12_fits_223 (lv_at hl 3 rfl) ?_
                              refine tw_iconst F dX12_fits_225 ki_1 (fun z154 hz154 => ?_)
                              refine tu_iadd F dX12_fits_226 (by omega) (fun z155 hz155 => ?_)
                              refine tu_imull F dX12_fits_227 hz153 (by omega) (fun z156 hz156 => ?_)
                              refine lv_iload F.1 F.2.1 dX12_fits_228 (lv_at hl 4 rfl) ?_
                              refine tu_iadd F dX12_fits_230 (by omega) (fun z157 hz157 => ?_)
                              refine tw_iconst F dX12_fits_231 ki_1 (fun z158 hz158 => ?_)
                              refine tu_iadd F dX12_fits_232 (by omega) (fun z159 hz159 => ?_)
                              refine le_68 F h m_a0_can r_a0_can (by omega) dX12_fits_233 (fun v160 ev160 hv160a hv160b => ?_)
                              refine tw_if_eq (tgt := 241) F dX12_fits_234 (by decide) (fun b161 => ?_) (fun b161 => ?_)
                              · exact j_241 _ (lv_sub hl [0, 1, 2, 3, 4, 5] rfl)
                              · refine tw_iconst F dX12_fits_237 ki_1 (fun z162 hz162 => ?_)
                                refine lv_goto (tgt := 242) F.1 F.2.1 dX12_fits_238 (by decide) ?_
                                exact j_242 _ z162 (by omega) (by omega) (Hid.mk (fun _ => ⟨by omega, by rw [show 13 * (x5_39.toInt.toNat + 1) + (x6_50.toInt.toNat + 1) = z159.toInt.toNat by omega, ← ev160]; omega⟩)) (lv_sub hl [0, 1, 2, 3, 4, 5] rfl)
                            refine tw_if_eq (tgt := 217) F dX12_fits_201 (by decide) (fun b163 => ?_) (fun b163 => ?_)
                            · exact j_217 _ (lv_sub hl [0, 1, 2, 3, 4, 6] rfl)
                            · refine lv_lload F.1 F.2.1 dX12_fits_204 (lv_at hl 6 rfl) ?_
                              refine lv_aload_n F.1 F.2.1 dX12_fits_206 rfl (lv_at hl 0 rfl) ?_
                              refine g_12_60 F h m_a0 r_a0 dX12_fits_207 (fun o164 m_o164 r_o164 ho164 => ?_)
                              refine lv_iload F.1 F.2.1 dX12_fits_210 (lv_at hl 4 rfl) ?_
                              refine ld_73 F h m_o164 r_o164 (by omega) dX12_fits_212 (fun v165 => ?_)
                              refine tw_lcmp F dX12_fits_213 (fun z166 hz166 => ?_)
                              refine tw_if_ne (tgt := 241) F dX12_fits_214 (by decide) (fun b167 => ?_) (fun b167 => ?_)
                              · exact j_241 _ (lv_sub hl [0, 1, 2, 3, 4, 6] rfl)
                              · exact j_217 _ (lv_sub hl [0, 1, 2, 3, 4, 6] rfl)
                    refine tw_icmp_ge (tgt := 170) F dX12_fits_106 (by decide) (fun b168 => ?_) (fun b168 => ?_)
                    · exact j_170 _ y0_76 (by omega) (by omega) (Hid.mk (fun q1 q2 => absurd q2 (by omega))) (lv_sub hl [1, 2, 3, 4, 5, 6, 0] rfl)
                    · refine lv_lload F.1 F.2.1 dX12_fits_109 (lv_at hl 0 rfl) ?_
                      refine tu_ldc2 F mw_340 dX12_fits_111 kl_m1 (fun z169 hz169 => ?_)
                      refine tw_lcmp F dX12_fits_114 (fun z170 hz170 => ?_)
                      refine tw_if_ne (tgt := 170) F dX12_fits_115 (by decide) (fun b171 => ?_) (fun b171 => ?_)
                      · exact j_170 _ y0_76 (by omega) (by omega) (Hid.mk (fun q1 q2 => absurd q2 (by omega))) (lv_sub hl [1, 2, 3, 4, 5, 6, 0] rfl)
                      · refine lv_aload_n F.1 F.2.1 dX12_fits_118 rfl (lv_at hl 1 rfl) ?_
                        refine g_12_44 F h m_a0 r_a0 dX12_fits_119 (fun o172 m_o172 r_o172 ho172 => ?_)
                        obtain rfl := (fld_inj e119 ho172).symm
                        refine tw_bipush F dX12_fits_122 kb_13 (fun z173 hz173 => ?_)
                        refine lv_iload F.1 F.2.1 dX12_fits_124 (lv_at hl 4 rfl) ?_
                        refine tw_iconst F dX12_fits_126 ki_1 (fun z174 hz174 => ?_)
                        refine tu_iadd F dX12_fits_127 (by omega) (fun z175 hz175 => ?_)
                        refine tu_imull F dX12_fits_128 hz173 (by omega) (fun z176 hz176 => ?_)
                        refine lv_iload F.1 F.2.1 dX12_fits_129 (lv_at hl 5 rfl) ?_
                        refine tu_iadd F dX12_fits_131 (by omega) (fun z177 hz177 => ?_)
                        refine le_68 F h m_a0_can r_a0_can (by omega) dX12_fits_132 (fun v178 ev178 hv178a hv178b => ?_)
                        have j_168 : ∀ (ls : Array Slot) (y0_168 : Int32), 0 ≤ y0_168.toInt → y0_168.toInt ≤ 1 → (Hid (y0_168.toInt = 1 → y0_100.toInt = -1 ∧ (eli f109 a0_can (13 * (x5_39.toInt.toNat + 1) + x6_50.toInt.toNat) = 1 ∨ (x6_50.toInt < fi f0 a0 28 ∧ eli f109 a0_can (13 * x5_39.toInt.toNat + (x6_50.toInt.toNat + 1)) = 1)))) → lv_has ls 11 [(0, .ref a0), (3, .int z5), (4, .int z10), (5, .int x5_39), (6, .int x6_50), (8, .long y0_100)] → W p l e rm_X12_fits s m args below meth c H locs 0 0 Q (F0 m 168 ls [.int y0_168]) := by
                          intro ls y0_168 b179 b180 ip168_0 hl
                          refine lv_istore (lv' := [(7, .int y0_168), (0, .ref a0), (3, .int z5), (4, .int z10), (5, .int x5_39), (6, .int x6_50), (8, .long y0_100)]) F.1 F.2.1 dX12_fits_168 hl (by decide) rfl (fun ls hl => ?_)
                          exact j_170 _ y0_168 (by omega) (by omega) (Hid.mk (fun q1 _ => ip168_0.g q1)) (lv_sub hl [1, 2, 3, 4, 5, 0, 6] rfl)
                        have j_163 : ∀ (ls : Array Slot), (Hid (eli f109 a0_can (13 * (x5_39.toInt.toNat + 1) + x6_50.toInt.toNat) = 1 ∨ (x6_50.toInt < fi f0 a0 28 ∧ eli f109 a0_can (13 * x5_39.toInt.toNat + (x6_50.toInt.toNat + 1)) = 1))) → lv_has ls 11 [(0, .ref a0), (3, .int z5), (4, .int z10), (5, .int x5_39), (6, .int x6_50), (8, .long y0_100)] → W p l e rm_X12_fits s m args below meth c H locs 0 0 Q (F0 m 163 ls []) := by
                          intro ls ip163_0 hl
                          refine tw_iconst F dX12_fits_163 ki_1 (fun z181 hz181 => ?_)
                          refine lv_goto (tgt := 168) F.1 F.2.1 dX12_fits_164 (by decide) ?_
                          exact j_168 _ z181 (by omega) (by omega) (Hid.mk (fun _ => ⟨by omega, ip163_0.g⟩)) (lv_sub hl [0, 1, 2, 3, 4, 5] rfl)
                        refine tw_if_ne (tgt := 163) F dX12_fits_133 (by decide) (fun b182 => ?_) (fun b182 => ?_)
                        · exact j_163 _ (Hid.mk (Or.inl (by rw [show 13 * (x5_39.toInt.toNat + 1) + x6_50.toInt.toNat = z177.toInt.toNat by omega, ← ev178]; omega))) (lv_sub hl [1, 2, 3, 4, 5, 0] rfl)
                        · refine lv_iload F.1 F.2.1 dX12_fits_136 (lv_at hl 5 rfl) ?_
                          refine lv_aload_n F.1 F.2.1 dX12_fits_138 rfl (lv_at hl 1 rfl) ?_
                          refine g_12_298 F h m_a0 r_a0 dX12_fits_139 (fun v183 hv183 hv183a hv183b => ?_)
                          have j_167 : ∀ (ls : Array Slot), lv_has ls 11 [(0, .ref a0), (3, .int z5), (4, .int z10), (5, .int x5_39), (6, .int x6_50), (8, .long y0_100)] → W p l e rm_X12_fits s m args below meth c H locs 0 0 Q (F0 m 167 ls []) := by
                            intro ls hl
                            refine tw_iconst F dX12_fits_167 ki_0 (fun z184 hz184 => ?_)
                            exact j_168 _ z184 (by omega) (by omega) (Hid.mk (fun q => absurd q (by omega))) (lv_sub hl [0, 1, 2, 3, 4, 5] rfl)
                          refine tw_icmp_ge (tgt := 167) F dX12_fits_142 (by decide) (fun b185 => ?_) (fun b185 => ?_)
                          · exact j_167 _ (lv_sub hl [1, 2, 3, 4, 5, 0] rfl)
                          · refine lv_aload_n F.1 F.2.1 dX12_fits_145 rfl (lv_at hl 1 rfl) ?_
                            refine g_12_44 F h m_a0 r_a0 dX12_fits_146 (fun o186 m_o186 r_o186 ho186 => ?_)
                            obtain rfl := (fld_inj e119 ho186).symm
                            refine tw_bipush F dX12_fits_149 kb_13 (fun z187 hz187 => ?_)
                            refine lv_iload F.1 F.2.1 dX12_fits_151 (lv_at hl 4 rfl) ?_
                            refine tu_imull F dX12_fits_153 hz187 (by omega) (fun z188 hz188 => ?_)
                            refine lv_iload F.1 F.2.1 dX12_fits_154 (lv_at hl 5 rfl) ?_
                            refine tu_iadd F dX12_fits_156 (by omega) (fun z189 hz189 => ?_)
                            refine tw_iconst F dX12_fits_157 ki_1 (fun z190 hz190 => ?_)
                            refine tu_iadd F dX12_fits_158 (by omega) (fun z191 hz191 => ?_)
                            refine le_68 F h m_a0_can r_a0_can (by omega) dX12_fits_159 (fun v192 ev192 hv192a hv192b => ?_)
                            refine tw_if_eq (tgt := 167) F dX12_fits_160 (by decide) (fun b193 => ?_) (fun b193 => ?_)
                            · exact j_167 _ (lv_sub hl [1, 2, 3, 4, 5, 0] rfl)
                            · exact j_163 _ (Hid.mk (Or.inr ⟨by omega, by rw [show 13 * x5_39.toInt.toNat + (x6_50.toInt.toNat + 1) = z191.toInt.toNat by omega, ← ev192]; omega⟩)) (lv_sub hl [1, 2, 3, 4, 5, 0] rfl)
                  refine tw_icmp_ge (tgt := 99) F dX12_fits_82 (by decide) (fun b194 => ?_) (fun b194 => ?_)
                  · refine tu_lconst F dX12_fits_99 (by decide) (fun z195 (hz195 : z195.toInt = 0) => ?_)
                    exact j_100 _ z195 (Hid.mk (fun q => absurd q (by omega))) (lv_sub hl [1, 2, 3, 4, 5, 0] rfl)
                  · refine lv_aload_n F.1 F.2.1 dX12_fits_85 rfl (lv_at hl 1 rfl) ?_
                    refine g_12_7 F h m_a0 r_a0 dX12_fits_86 (fun o196 m_o196 r_o196 ho196 => ?_)
                    obtain rfl := (fld_inj e114 ho196).symm
                    refine lv_iload_n F.1 F.2.1 dX12_fits_89 rfl (lv_at hl 2 rfl) ?_
                    refine tw_iconst F dX12_fits_90 ki_3 (fun z197 hz197 => ?_)
                    refine tu_iadd F dX12_fits_91 (by omega) (fun z198 hz198 => ?_)
                    refine lv_iload F.1 F.2.1 dX12_fits_92 (lv_at hl 4 rfl) ?_
                    refine tu_iadd F dX12_fits_94 (by omega) (fun z199 hz199 => ?_)
                    refine le_61 F h m_GA r_GA (by omega) dX12_fits_95 (fun v200 ev200 hv200a => ?_)
                    refine lv_goto (tgt := 100) F.1 F.2.1 dX12_fits_96 (by decide) ?_
                    exact j_100 _ v200 (Hid.mk (fun _ => by rw [ev200, show z199.toInt.toNat = x1.toInt.toNat + 55 + 60 * x2.toInt.toNat + x5_39.toInt.toNat by omega])) (lv_sub hl [1, 2, 3, 4, 5, 0] rfl)
                have j_75 : ∀ (ls : Array Slot), lv_has ls 11 [(0, .ref a0), (3, .int z5), (4, .int z10), (5, .int x5_39), (6, .int x6_50)] → W p l e rm_X12_fits s m args below meth c H locs 0 0 Q (F0 m 75 ls []) := by
                  intro ls hl
                  refine tw_iconst F dX12_fits_75 ki_0 (fun z201 hz201 => ?_)
                  exact j_76 _ z201 (by omega) (by omega) (by omega) (lv_sub hl [0, 1, 2, 3, 4] rfl)
                refine tw_icmp_ne (tgt := 75) F dX12_fits_59 (by decide) (fun b202 => ?_) (fun b202 => ?_)
                · exact j_75 _ (lv_sub hl [0, 1, 2, 3, 4] rfl)
                · refine lv_iload F.1 F.2.1 dX12_fits_62 (lv_at hl 4 rfl) ?_
                  refine lv_aload_n F.1 F.2.1 dX12_fits_64 rfl (lv_at hl 0 rfl) ?_
                  refine g_12_298 F h m_a0 r_a0 dX12_fits_65 (fun v203 hv203 hv203a hv203b => ?_)
                  refine tw_icmp_ne (tgt := 75) F dX12_fits_68 (by decide) (fun b204 => ?_) (fun b204 => ?_)
                  · exact j_75 _ (lv_sub hl [0, 1, 2, 3, 4] rfl)
                  · refine tw_iconst F dX12_fits_71 ki_1 (fun z205 hz205 => ?_)
                    refine lv_goto (tgt := 76) F.1 F.2.1 dX12_fits_72 (by decide) ?_
                    exact j_76 _ z205 (by omega) (by omega) (by omega) (lv_sub hl [0, 1, 2, 3, 4] rfl)
          have hb50 : fr L R [] [68] f17 f17 := fr.rf
          exact j_50 (((v108.toInt - (-1))).toNat + 1) f17 _ _ _ v108 (by omega) (by omega) (by omega) (DPA_e ip39_0 (by omega)) (by omega) h hX hk hb50 (lv_sub hl [1, 2, 3, 4, 0] rfl)
    have hb39 : fr L R [] [68] f0 f0 := fr.rf
    exact j_39 (((z10.toInt - (-1))).toNat + 1) f0 _ _ _ z10 (by omega) (by omega) (by omega) (DPA_0 (by omega) (by omega)) (by omega) h hX hk hb39 (lv_sub hl [3, 2, 1, 0] rfl)
  · refine tw_iconst F dX12_fits_33 ki_0 (fun z206 hz206 => ?_)
    exact hret f0 _ _ _ _ z206 dX12_fits_34 (tw_nb (by omega)) ⟨hk, by omega, by omega, hX⟩ h
