theorem dX7_firstBroke_0 : decode cX7_firstBroke 0 = .ok (.iconst 0, 1) := by decide +kernel
theorem dX7_firstBroke_1 : decode cX7_firstBroke 1 = .ok (.istore_n 3, 1) := by decide +kernel
theorem dX7_firstBroke_2 : decode cX7_firstBroke 2 = .ok (.iload_n 3, 1) := by decide +kernel
theorem dX7_firstBroke_3 : decode cX7_firstBroke 3 = .ok (.iload_n 2, 1) := by decide +kernel
theorem dX7_firstBroke_4 : decode cX7_firstBroke 4 = .ok (.if_icmp .ge 67, 3) := by decide +kernel
theorem dX7_firstBroke_71 : decode cX7_firstBroke 71 = .ok (.iconst (-1), 1) := by decide +kernel
theorem dX7_firstBroke_72 : decode cX7_firstBroke 72 = .ok (.ireturn, 1) := by decide +kernel
theorem dX7_firstBroke_7 : decode cX7_firstBroke 7 = .ok (.aload_n 0, 1) := by decide +kernel
theorem dX7_firstBroke_8 : decode cX7_firstBroke 8 = .ok (.getfield 11, 3) := by decide +kernel
theorem mw_139 : Cond.fieldLink RX7 11 "AskBack$Search" "ears" "[LAskBack$Ear;" ∈ wsL_law := inr_6 _ (List.mem_of_getElem? (i := 19) rfl)
section
variable {p : Program} {l : Launch} {e : Env} {R0 : Room} {s : State} {m : MethodId} {args : Array Value} {below : List Frame} {meth : Method} {c : Code} {H H0 : Heap} {locs : List Loc} {cells slots : Nat} {Q : State → Prop} {cc : ByteArray} {nL : Nat} {D : va_G} {cy : Nat → ClassId} {A : Nat → Prop} {L : List Nat} {R : Nat → Nat} {f : Nat → va_E} {pc : Nat} {ls : Array Slot} {rest : List Value} {a : Nat}
theorem g_7_11 (F : CallFix p m c cc nL s args wsL_law RX7) (h : tS D cy A H0 L R (TT cy L R) f s H locs) (ha : a ∈ L) (hr : R a = 7) (hdg : decode cc pc = .ok (.getfield 11, 3)) (kk : ∀ b : Nat, b ∈ L → R b = 45 → fld f a 1 = .ref b → W p l e R0 s m args below meth c H locs cells slots Q (F0 m (pc + 3) ls (.ref b :: rest))) : W p l e R0 s m args below meth c H locs cells slots Q (F0 m pc ls (.ref a :: rest)) := tu_getr F h ha hr (fun e q => (T_7 e).mp q) rfl inlX7 rfl (Nat.le_of_ble_eq_true rfl) mw_139 hdg kk
end
theorem dX7_firstBroke_11 : decode cX7_firstBroke 11 = .ok (.iload_n 3, 1) := by decide +kernel
theorem dX7_firstBroke_12 : decode cX7_firstBroke 12 = .ok (.aaload, 1) := by decide +kernel
section
variable {p : Program} {l : Launch} {e : Env} {R0 : Room} {s : State} {m : MethodId} {args : Array Value} {below : List Frame} {meth : Method} {c : Code} {H H0 : Heap} {locs : List Loc} {cells slots : Nat} {Q : State → Prop} {cc : ByteArray} {nL : Nat} {D : va_G} {cy : Nat → ClassId} {A : Nat → Prop} {L : List Nat} {R : Nat → Nat} {f : Nat → va_E} {pc : Nat} {ls : Array Slot} {rest : List Value} {a : Nat}
theorem le_45 {own : String} (F : CallFix p m c cc nL s args wsL_law own) (h : tS D cy A H0 L R (TT cy L R) f s H locs) {i : Int32} (ha : a ∈ L) (hr : R a = 45) (hb : 0 ≤ i.toInt ∧ i.toInt < 16) (hdg : decode cc pc = .ok (.aaload, 1)) (kk : ∀ b : Nat, b ∈ L → R b = 1 → elq f a i.toInt.toNat = some b → W p l e R0 s m args below meth c H locs cells slots Q (F0 m (pc + 1) ls (.ref b :: rest))) : W p l e R0 s m args below meth c H locs cells slots Q (F0 m pc ls (.int i :: .ref a :: rest)) := tu_aaldE (t0 := 5) F h ha hr (fun e q => (T_45 e).mp q) rfl hb.1 hb.2 hdg kk
end
theorem dX7_firstBroke_13 : decode cX7_firstBroke 13 = .ok (.astore 4, 2) := by decide +kernel
theorem dX7_firstBroke_15 : decode cX7_firstBroke 15 = .ok (.aload_n 0, 1) := by decide +kernel
theorem dX7_firstBroke_16 : decode cX7_firstBroke 16 = .ok (.getfield 51, 3) := by decide +kernel
theorem mw_151 : Cond.fieldLink RX7 51 "AskBack$Search" "states" "[LAskBack$State;" ∈ wsL_law := inr_7 _ (List.mem_of_getElem? (i := 7) rfl)
section
variable {p : Program} {l : Launch} {e : Env} {R0 : Room} {s : State} {m : MethodId} {args : Array Value} {below : List Frame} {meth : Method} {c : Code} {H H0 : Heap} {locs : List Loc} {cells slots : Nat} {Q : State → Prop} {cc : ByteArray} {nL : Nat} {D : va_G} {cy : Nat → ClassId} {A : Nat → Prop} {L : List Nat} {R : Nat → Nat} {f : Nat → va_E} {pc : Nat} {ls : Array Slot} {rest : List Value} {a : Nat}
theorem g_7_51 (F : CallFix p m c cc nL s args wsL_law RX7) (h : tS D cy A H0 L R (TT cy L R) f s H locs) (ha : a ∈ L) (hr : R a = 7) (hdg : decode cc pc = .ok (.getfield 51, 3)) (kk : ∀ b : Nat, b ∈ L → R b = 48 → fld f a 12 = .ref b → W p l e R0 s m args below meth c H locs cells slots Q (F0 m (pc + 3) ls (.ref b :: rest))) : W p l e R0 s m args below meth c H locs cells slots Q (F0 m pc ls (.ref a :: rest)) := tu_getr F h ha hr (fun e q => (T_7 e).mp q) rfl inlX7 rfl (Nat.le_of_ble_eq_true rfl) mw_151 hdg kk
end
theorem dX7_firstBroke_19 : decode cX7_firstBroke 19 = .ok (.iconst 0, 1) := by decide +kernel
theorem dX7_firstBroke_20 : decode cX7_firstBroke 20 = .ok (.aaload, 1) := by decide +kernel
section
variable {p : Program} {l : Launch} {e : Env} {R0 : Room} {s : State} {m : MethodId} {args : Array Value} {below : List Frame} {meth : Method} {c : Code} {H H0 : Heap} {locs : List Loc} {cells slots : Nat} {Q : State → Prop} {cc : ByteArray} {nL : Nat} {D : va_G} {cy : Nat → ClassId} {A : Nat → Prop} {L : List Nat} {R : Nat → Nat} {f : Nat → va_E} {pc : Nat} {ls : Array Slot} {rest : List Value} {a : Nat}
theorem le_48 {own : String} (F : CallFix p m c cc nL s args wsL_law own) (h : tS D cy A H0 L R (TT cy L R) f s H locs) {i : Int32} (ha : a ∈ L) (hr : R a = 48) (hb : 0 ≤ i.toInt ∧ i.toInt < 6) (hdg : decode cc pc = .ok (.aaload, 1)) (kk : ∀ b : Nat, b ∈ L → R b = 8 → elq f a i.toInt.toNat = some b → W p l e R0 s m args below meth c H locs cells slots Q (F0 m (pc + 1) ls (.ref b :: rest))) : W p l e R0 s m args below meth c H locs cells slots Q (F0 m pc ls (.int i :: .ref a :: rest)) := tu_aaldE (t0 := 8) F h ha hr (fun e q => (T_48 e).mp q) rfl hb.1 hb.2 hdg kk
end
theorem dX7_firstBroke_21 : decode cX7_firstBroke 21 = .ok (.invokevirtual 94, 3) := by decide +kernel
theorem mw_1168 : Cond.methodLink RX7 94 yX8_refresh ∈ wsL_law := inr_49 _ (List.mem_of_getElem? (i := 16) rfl)
theorem dX7_firstBroke_24 : decode cX7_firstBroke 24 = .ok (.aload_n 0, 1) := by decide +kernel
theorem dX7_firstBroke_25 : decode cX7_firstBroke 25 = .ok (.getfield 85, 3) := by decide +kernel
theorem mw_163 : Cond.fieldLink RX7 85 "AskBack$Search" "sayer" "LAskBack$Sayer;" ∈ wsL_law := inr_7 _ (List.mem_of_getElem? (i := 19) rfl)
section
variable {p : Program} {l : Launch} {e : Env} {R0 : Room} {s : State} {m : MethodId} {args : Array Value} {below : List Frame} {meth : Method} {c : Code} {H H0 : Heap} {locs : List Loc} {cells slots : Nat} {Q : State → Prop} {cc : ByteArray} {nL : Nat} {D : va_G} {cy : Nat → ClassId} {A : Nat → Prop} {L : List Nat} {R : Nat → Nat} {f : Nat → va_E} {pc : Nat} {ls : Array Slot} {rest : List Value} {a : Nat}
theorem g_7_85 (F : CallFix p m c cc nL s args wsL_law RX7) (h : tS D cy A H0 L R (TT cy L R) f s H locs) (ha : a ∈ L) (hr : R a = 7) (hdg : decode cc pc = .ok (.getfield 85, 3)) (kk : ∀ b : Nat, b ∈ L → R b = 5 → fld f a 0 = .ref b → W p l e R0 s m args below meth c H locs cells slots Q (F0 m (pc + 3) ls (.ref b :: rest))) : W p l e R0 s m args below meth c H locs cells slots Q (F0 m pc ls (.ref a :: rest)) := tu_getr F h ha hr (fun e q => (T_7 e).mp q) rfl inlX7 rfl (Nat.le_of_ble_eq_true rfl) mw_163 hdg kk
end
theorem dX7_firstBroke_28 : decode cX7_firstBroke 28 = .ok (.aload 4, 2) := by decide +kernel
theorem dX7_firstBroke_30 : decode cX7_firstBroke 30 = .ok (.aload_n 0, 1) := by decide +kernel
theorem dX7_firstBroke_31 : decode cX7_firstBroke 31 = .ok (.getfield 51, 3) := by decide +kernel
theorem dX7_firstBroke_34 : decode cX7_firstBroke 34 = .ok (.iconst 0, 1) := by decide +kernel
theorem dX7_firstBroke_35 : decode cX7_firstBroke 35 = .ok (.aaload, 1) := by decide +kernel
theorem dX7_firstBroke_36 : decode cX7_firstBroke 36 = .ok (.aload 4, 2) := by decide +kernel
theorem dX7_firstBroke_38 : decode cX7_firstBroke 38 = .ok (.getfield 97, 3) := by decide +kernel
theorem mw_1159 : Cond.fieldLink RX7 97 "AskBack$Ear" "order" "[I" ∈ wsL_law := inr_49 _ (List.mem_of_getElem? (i := 7) rfl)
section
variable {p : Program} {l : Launch} {e : Env} {R0 : Room} {s : State} {m : MethodId} {args : Array Value} {below : List Frame} {meth : Method} {c : Code} {H H0 : Heap} {locs : List Loc} {cells slots : Nat} {Q : State → Prop} {cc : ByteArray} {nL : Nat} {D : va_G} {cy : Nat → ClassId} {A : Nat → Prop} {L : List Nat} {R : Nat → Nat} {f : Nat → va_E} {pc : Nat} {ls : Array Slot} {rest : List Value} {a : Nat}
theorem g_7_97 (F : CallFix p m c cc nL s args wsL_law RX7) (h : tS D cy A H0 L R (TT cy L R) f s H locs) (ha : a ∈ L) (hr : R a = 1) (hdg : decode cc pc = .ok (.getfield 97, 3)) (kk : ∀ b : Nat, b ∈ L → R b = 24 → fld f a 4 = .ref b → W p l e R0 s m args below meth c H locs cells slots Q (F0 m (pc + 3) ls (.ref b :: rest))) : W p l e R0 s m args below meth c H locs cells slots Q (F0 m pc ls (.ref a :: rest)) := tu_getr F h ha hr (fun e q => (T_1 e).mp q) rfl inlX1 rfl (Nat.le_of_ble_eq_true rfl) mw_1159 hdg kk
end
theorem dX7_firstBroke_41 : decode cX7_firstBroke 41 = .ok (.aload 4, 2) := by decide +kernel
theorem dX7_firstBroke_43 : decode cX7_firstBroke 43 = .ok (.getfield 98, 3) := by decide +kernel
theorem mw_1160 : Cond.fieldLink RX7 98 "AskBack$Ear" "orderCount" "I" ∈ wsL_law := inr_49 _ (List.mem_of_getElem? (i := 8) rfl)
section
variable {p : Program} {l : Launch} {e : Env} {R0 : Room} {s : State} {m : MethodId} {args : Array Value} {below : List Frame} {meth : Method} {c : Code} {H H0 : Heap} {locs : List Loc} {cells slots : Nat} {Q : State → Prop} {cc : ByteArray} {nL : Nat} {D : va_G} {cy : Nat → ClassId} {A : Nat → Prop} {L : List Nat} {R : Nat → Nat} {f : Nat → va_E} {pc : Nat} {ls : Array Slot} {rest : List Value} {a : Nat}
theorem g_7_98 (F : CallFix p m c cc nL s args wsL_law RX7) (h : tS D cy A H0 L R (TT cy L R) f s H locs) (ha : a ∈ L) (hr : R a = 1) (hdg : decode cc pc = .ok (.getfield 98, 3)) (kk : ∀ x : Int32, x.toInt = fi f a 5 → 0 ≤ x.toInt → x.toInt ≤ 12 → W p l e R0 s m args below meth c H locs cells slots Q (F0 m (pc + 3) ls (.int x :: rest))) : W p l e R0 s m args below meth c H locs cells slots Q (F0 m pc ls (.ref a :: rest)) := tu_geti F h ha hr (fun e q => (T_1 e).mp q) rfl inlX1 rfl (Nat.le_of_ble_eq_true rfl) mw_1160 hdg (fun x h1 h2 h3 => kk x h1 h2 h3)
end
theorem dX7_firstBroke_46 : decode cX7_firstBroke 46 = .ok (.invokevirtual 101, 3) := by decide +kernel
theorem mw_1169 : Cond.methodLink RX7 101 yX5_answer ∈ wsL_law := inr_49 _ (List.mem_of_getElem? (i := 17) rfl)
theorem mw_961 : Cond.code yX5_answer cX5_answer 5 none ∈ wsL_law := inr_41 _ (List.mem_of_getElem? (i := 1) rfl)
theorem yk_X5_answer : xY yX5_answer RX5 cX5_answer 5 none 4 := ⟨⟨rfl, by decide +kernel, by decide +kernel, by decide +kernel⟩, mw_162, mw_961⟩
theorem mw_959 : Cond.instanceMethod yX5_answer ∈ wsL_law := inr_40 _ (List.mem_of_getElem? (i := 23) rfl)
theorem mw_960 : Cond.selects RX5 yX5_answer yX5_answer ∈ wsL_law := inr_41 _ (List.mem_of_getElem? (i := 0) rfl)
theorem dX7_firstBroke_49 : decode cX7_firstBroke 49 = .ok (.aload_n 1, 1) := by decide +kernel
theorem dX7_firstBroke_50 : decode cX7_firstBroke 50 = .ok (.aload_n 0, 1) := by decide +kernel
theorem dX7_firstBroke_51 : decode cX7_firstBroke 51 = .ok (.getfield 85, 3) := by decide +kernel
theorem dX7_firstBroke_54 : decode cX7_firstBroke 54 = .ok (.getfield 108, 3) := by decide +kernel
theorem mw_1162 : Cond.fieldLink RX7 108 "AskBack$Sayer" "words" "LAskBack$Row;" ∈ wsL_law := inr_49 _ (List.mem_of_getElem? (i := 10) rfl)
section
variable {p : Program} {l : Launch} {e : Env} {R0 : Room} {s : State} {m : MethodId} {args : Array Value} {below : List Frame} {meth : Method} {c : Code} {H H0 : Heap} {locs : List Loc} {cells slots : Nat} {Q : State → Prop} {cc : ByteArray} {nL : Nat} {D : va_G} {cy : Nat → ClassId} {A : Nat → Prop} {L : List Nat} {R : Nat → Nat} {f : Nat → va_E} {pc : Nat} {ls : Array Slot} {rest : List Value} {a : Nat}
theorem g_7_108 (F : CallFix p m c cc nL s args wsL_law RX7) (h : tS D cy A H0 L R (TT cy L R) f s H locs) (ha : a ∈ L) (hr : R a = 5) (hdg : decode cc pc = .ok (.getfield 108, 3)) (kk : ∀ b : Nat, b ∈ L → R b = 4 → fld f a 0 = .ref b → W p l e R0 s m args below meth c H locs cells slots Q (F0 m (pc + 3) ls (.ref b :: rest))) : W p l e R0 s m args below meth c H locs cells slots Q (F0 m pc ls (.ref a :: rest)) := tu_getr F h ha hr (fun e q => (T_5 e).mp q) rfl inlX5 rfl (Nat.le_of_ble_eq_true rfl) mw_1162 hdg kk
end
theorem dX7_firstBroke_57 : decode cX7_firstBroke 57 = .ok (.invokevirtual 151, 3) := by decide +kernel
theorem mw_1345 : Cond.methodLink RX7 151 yX0_isBroken ∈ wsL_law := inr_57 _ (List.mem_of_getElem? (i := 1) rfl)
theorem dX7_firstBroke_60 : decode cX7_firstBroke 60 = .ok (.ifCond .eq 5, 3) := by decide +kernel
theorem dX7_firstBroke_65 : decode cX7_firstBroke 65 = .ok (.iinc 3 1, 3) := by decide +kernel
theorem dX7_firstBroke_68 : decode cX7_firstBroke 68 = .ok (.goto (-66), 3) := by decide +kernel
theorem dX7_firstBroke_63 : decode cX7_firstBroke 63 = .ok (.iload_n 3, 1) := by decide +kernel
theorem dX7_firstBroke_64 : decode cX7_firstBroke 64 = .ok (.ireturn, 1) := by decide +kernel
def rm_X7_firstBroke : Room := { frames := 5, cells := 0, slots := 0, locals := 128 }
set_option maxHeartbeats 4000000 in
set_option maxRecDepth 100000 in
theorem s_X7_firstBroke (l : Launch) (D : va_G) (cy : Nat → ClassId) (L : List Nat) (R O : Nat → Nat) (f0 : Nat → va_E) (hG : GG L R O f0) (a0 : Nat) (m_a0 : a0 ∈ L) (r_a0 : R a0 = 7) (a1 : Nat) (m_a1 : a1 ∈ L) (r_a1 : R a1 = 0) (x2 : Int32) (b2 : 0 ≤ x2.toInt ∧ x2.toInt ≤ 16) (pre0 : ∃ b, b ∈ L ∧ R b = 6 ∧ SB L R O f0 a0 (x2.toInt.toNat) b) : ∀ sz, Met l yX7_firstBroke (Cond.code yX7_firstBroke cX7_firstBroke 5 (some .int) :: wsL_law) rm_X7_firstBroke (va_Pc [.ref a0, .ref a1, .int x2] (tPZ D cy L R (TT cy L R) f0 sz)) (va_Qi (fun (r : Int32) f1 => fr L R [(4, 1), (5, 4), (5, 5), (5, 6), (5, 7), (8, 1), (8, 2)] [4, 5, 8, 23, 34, 51] f0 f1 ∧ (-1) ≤ r.toInt ∧ r.toInt ≤ 15 ∧ KO L R O (rfa f0 a0 12) f0 f1) (tB D (tA L sz) L R (TT cy L R)) (tA L sz)) 0 0 (tA L sz) := by
  refine tw_enteri (by decide +kernel) rfl (Nat.le_of_ble_eq_true rfl) ?_
  intro p e s m below meth c A ls args Q F hZ h hl hret
  have hl : lv_has ls 5 [(0, .ref a0), (1, .ref a1), (2, .int x2)] := hl
  have hk : fr L R [(4, 1), (5, 4), (5, 5), (5, 6), (5, 7), (8, 1), (8, 2)] [4, 5, 8, 23, 34, 51] f0 f0 := fr.rf
  obtain ⟨b, m_b, r_b, hB⟩ := pre0
  have hB0 := hB
  have hO : KO L R O (rfa f0 a0 12) f0 f0 := KO.rf
  refine tw_iconst F dX7_firstBroke_0 ki_0 (fun z1 hz1 => ?_)
  refine lv_istore_n (lv' := [(3, .int z1), (0, .ref a0), (1, .ref a1), (2, .int x2)]) F.1 F.2.1 dX7_firstBroke_1 rfl hl (by decide) rfl (fun ls hl => ?_)
  have j_2 : ∀ (n2 : Nat) (f2 : Nat → va_E) (H : Heap) (locs : List Loc) (ls : Array Slot) (x3_2 : Int32), 0 ≤ x3_2.toInt → x3_2.toInt ≤ 16 → ((16 - x3_2.toInt)).toNat < n2 → tS D cy A s.heap L R (TT cy L R) f2 s H locs → SB L R O f2 a0 (x2.toInt.toNat) b → KO L R O (rfa f0 a0 12) f0 f2 → fr L R [(4, 1), (5, 4), (5, 5), (5, 6), (5, 7), (8, 1), (8, 2)] [4, 5, 8, 23, 34, 51] f0 f2 → lv_has ls 5 [(0, .ref a0), (1, .ref a1), (2, .int x2), (3, .int x3_2)] → W p l e rm_X7_firstBroke s m args below meth c H locs 0 0 Q (F0 m 2 ls []) := by
    intro n2
    induction n2 with
    | zero =>
      intro f2 H locs ls x3_2 b3 b4 b5 h hB hO hk hl
      exfalso
      omega
    | succ n2 ih2 =>
      intro f2 H locs ls x3_2 b3 b4 b5 h hB hO hk hl
      refine lv_iload_n F.1 F.2.1 dX7_firstBroke_2 rfl (lv_at hl 3 rfl) ?_
      refine lv_iload_n F.1 F.2.1 dX7_firstBroke_3 rfl (lv_at hl 2 rfl) ?_
      refine tw_icmp_ge (tgt := 71) F dX7_firstBroke_4 (by decide) (fun b6 => ?_) (fun b6 => ?_)
      · refine tw_iconst F dX7_firstBroke_71 ki_m1 (fun z7 hz7 => ?_)
        exact hret f2 _ _ _ _ z7 dX7_firstBroke_72 rfl ⟨hk, by omega, by omega, hO⟩ h
      · refine lv_aload_n F.1 F.2.1 dX7_firstBroke_7 rfl (lv_at hl 0 rfl) ?_
        refine g_7_11 F h m_a0 r_a0 dX7_firstBroke_8 (fun o8 m_o8 r_o8 ho8 => ?_)
        refine lv_iload_n F.1 F.2.1 dX7_firstBroke_11 rfl (lv_at hl 3 rfl) ?_
        refine le_45 F h m_o8 r_o8 (by omega) dX7_firstBroke_12 (fun o9 m_o9 r_o9 eo9 => ?_)
        have qE : elq f0 (rfa f0 a0 1) x3_2.toInt.toNat = some o9 := by rw [← SB_e1 hB0 hk (by decide +kernel) m_a0 r_a0]; exact elq_a ho8 eo9
        refine lv_astore (lv' := [(4, .ref o9), (0, .ref a0), (1, .ref a1), (2, .int x2), (3, .int x3_2)]) F.1 F.2.1 dX7_firstBroke_13 hl (by decide) rfl (fun ls hl => ?_)
        refine lv_aload_n F.1 F.2.1 dX7_firstBroke_15 rfl (lv_at hl 1 rfl) ?_
        refine g_7_51 F h m_a0 r_a0 dX7_firstBroke_16 (fun o10 m_o10 r_o10 ho10 => ?_)
        refine tw_iconst F dX7_firstBroke_19 ki_0 (fun z11 hz11 => ?_)
        refine le_48 F h m_o10 r_o10 (by omega) dX7_firstBroke_20 (fun o12 m_o12 r_o12 eo12 => ?_)
        have qS : elq f0 (rfa f0 a0 12) 0 = some o12 := by have q := elq_a ho10 eo12; rw [SB_e12 hB0 hk (by decide +kernel) m_a0 r_a0, (show z11.toInt.toNat = 0 by omega)] at q; exact q
        have qSO : O o12 = rfa f0 a0 12 := (hB0.1.2.2 0 o12 qS (by decide)).2.2
        refine tw_Vv (As := []) F hZ h yk_X8_refresh mw_1168 mw_627 mw_628 (s_X8_refresh l D cy L R O f2 o12 m_o12 r_o12) rfl rfl m_o12 r_o12 (fun e q => (T_8 e).mp q) rfl hl.1 rfl (Nat.le_of_ble_eq_true rfl) ⟨Nat.le_of_ble_eq_true rfl, Nat.le_of_ble_eq_true rfl⟩ ⟨Nat.le_of_ble_eq_true rfl, Nat.le_of_ble_eq_true rfl⟩ dX7_firstBroke_21 (fun f13 H locs hp13 h => ?_)
        obtain ⟨hf13, hv14p0, hv14p1⟩ := hp13
        have hB : SB L R O f13 a0 (x2.toInt.toNat) b := SB_fr hB (hG.1.fr hk (by decide +kernel)) hf13 (by decide +kernel) m_a0 r_a0 m_b r_b
        have hk : fr L R [(4, 1), (5, 4), (5, 5), (5, 6), (5, 7), (8, 1), (8, 2)] [4, 5, 8, 23, 34, 51] f0 f13 := hk.tr hf13 rfl rfl
        have hD : DS f13 a0 0 b := DS_one (by rw [SB_e12 hB0 hk (by decide +kernel) m_a0 r_a0]; exact qS) (dg0_DIG hv14p0)
        have hO : KO L R O (rfa f0 a0 12) f0 f13 := KO_ks hO hv14p1 qSO
        refine lv_aload_n F.1 F.2.1 dX7_firstBroke_24 rfl (lv_at hl 1 rfl) ?_
        refine g_7_85 F h m_a0 r_a0 dX7_firstBroke_25 (fun o15 m_o15 r_o15 ho15 => ?_)
        refine lv_aload F.1 F.2.1 dX7_firstBroke_28 (lv_at hl 0 rfl) ?_
        refine lv_aload_n F.1 F.2.1 dX7_firstBroke_30 rfl (lv_at hl 1 rfl) ?_
        refine g_7_51 F h m_a0 r_a0 dX7_firstBroke_31 (fun o16 m_o16 r_o16 ho16 => ?_)
        refine tw_iconst F dX7_firstBroke_34 ki_0 (fun z17 hz17 => ?_)
        refine le_48 F h m_o16 r_o16 (by omega) dX7_firstBroke_35 (fun o18 m_o18 r_o18 eo18 => ?_)
        have qT : elq f0 (rfa f0 a0 12) 0 = some o18 := by have q := elq_a ho16 eo18; rw [SB_e12 hB0 hk (by decide +kernel) m_a0 r_a0, (show z17.toInt.toNat = 0 by omega)] at q; exact q
        have qTO : O o18 = rfa f0 a0 12 := (hB0.1.2.2 0 o18 qT (by decide)).2.2
        refine lv_aload F.1 F.2.1 dX7_firstBroke_36 (lv_at hl 0 rfl) ?_
        refine g_7_97 F h m_o9 r_o9 dX7_firstBroke_38 (fun o19 m_o19 r_o19 ho19 => ?_)
        refine lv_aload F.1 F.2.1 dX7_firstBroke_41 (lv_at hl 0 rfl) ?_
        refine g_7_98 F h m_o9 r_o9 dX7_firstBroke_43 (fun v20 hv20 hv20a hv20b => ?_)
        have qb : rfa f13 o9 0 = b := SB_b hB (by rw [SB_e1 hB0 hk (by decide +kernel) m_a0 r_a0]; exact qE) (by omega)
        have ow := (hG.1.fr hk (by decide +kernel))
        have hBo := hB
        have hDo := hD
        refine tw_Vv (As := [.ref o9, .ref o18, .ref o19, .int v20]) F hZ h yk_X5_answer mw_1169 mw_959 mw_960 (s_X5_answer_a l D cy L R O f13 (hG.fr hk (by decide +kernel) (by decide +kernel)) o15 m_o15 r_o15 o9 m_o9 r_o9 o18 m_o18 r_o18 o19 m_o19 r_o19 v20 ⟨by omega, by omega⟩ (SB_p0 hB (by rw [SB_e1 hB0 hk (by decide +kernel) m_a0 r_a0]; exact qE) (by omega)) (by rw [qb]; exact hD _ (by rw [SB_e12 hB0 hk (by decide +kernel) m_a0 r_a0]; exact qT))) rfl rfl m_o15 r_o15 (fun e q => (T_5 e).mp q) rfl hl.1 rfl (Nat.le_of_ble_eq_true rfl) ⟨Nat.le_of_ble_eq_true rfl, Nat.le_of_ble_eq_true rfl⟩ ⟨Nat.le_of_ble_eq_true rfl, Nat.le_of_ble_eq_true rfl⟩ dX7_firstBroke_46 (fun f21 H locs hp21 h => ?_)
        obtain ⟨hf21, hv22p0, hv22p1⟩ := hp21
        have hB : SB L R O f21 a0 (x2.toInt.toNat) b := SB_fr hB (hG.1.fr hk (by decide +kernel)) hf21 (by decide +kernel) m_a0 r_a0 m_b r_b
        have hk : fr L R [(4, 1), (5, 4), (5, 5), (5, 6), (5, 7), (8, 1), (8, 2)] [4, 5, 8, 23, 34, 51] f0 f21 := hk.tr hf21 (by decide +kernel) (by decide +kernel)
        have e23 : fld f21 a0 0 = .ref o15 := (hf21.efl m_a0 r_a0 rfl).trans ho15
        have hMa : DM L R f13 f21 b := DM_ks ow hf21 (by decide +kernel) (by decide +kernel) hv22p1 (by have q := hv22p0; rw [qb] at q; exact q) m_b r_b
        have hD : DS f21 a0 0 b := DS_dm hDo hBo.1 (by decide) hf21 (by decide +kernel) (by decide +kernel) m_a0 r_a0 hMa
        have hO : KO L R O (rfa f0 a0 12) f0 f21 := KO_ks hO hv22p1 qTO
        refine lv_aload_n F.1 F.2.1 dX7_firstBroke_49 rfl (lv_at hl 2 rfl) ?_
        refine lv_aload_n F.1 F.2.1 dX7_firstBroke_50 rfl (lv_at hl 1 rfl) ?_
        refine g_7_85 F h m_a0 r_a0 dX7_firstBroke_51 (fun o24 m_o24 r_o24 ho24 => ?_)
        obtain rfl := (fld_inj e23 ho24).symm
        refine g_7_108 F h m_o15 r_o15 dX7_firstBroke_54 (fun o25 m_o25 r_o25 ho25 => ?_)
        refine tw_Vi (As := [.ref o25]) F hZ h yk_X0_isBroken mw_1345 mw_1346 mw_1347 (s_X0_isBroken l D cy L R O f21 a1 m_a1 r_a1 o25 m_o25 r_o25) rfl rfl m_a1 r_a1 (fun e q => (T_0 e).mp q) rfl hl.1 rfl (Nat.le_of_ble_eq_true rfl) ⟨Nat.le_of_ble_eq_true rfl, Nat.le_of_ble_eq_true rfl⟩ ⟨Nat.le_of_ble_eq_true rfl, Nat.le_of_ble_eq_true rfl⟩ dX7_firstBroke_57 (fun v27 f26 H locs hp26 h => ?_)
        obtain ⟨rfl, hv27a, hv27b⟩ := hp26
        refine tw_if_eq (tgt := 65) F dX7_firstBroke_60 (by decide) (fun b28 => ?_) (fun b28 => ?_)
        · refine tu_iinc F dX7_firstBroke_65 hl (k := 4) rfl (by decide) ki_1 (by omega) (fun z29 ls hz29 hl => ?_)
          have hl : lv_has ls 5 [(3, .int z29), (4, .ref o9), (0, .ref a0), (1, .ref a1), (2, .int x2)] := hl
          refine lv_goto (tgt := 2) F.1 F.2.1 dX7_firstBroke_68 (by decide) ?_
          exact ih2 f21 _ _ _ z29 (by omega) (by omega) (by omega) h hB hO hk (lv_sub hl [2, 3, 4, 0] rfl)
        · refine lv_iload_n F.1 F.2.1 dX7_firstBroke_63 rfl (lv_at hl 4 rfl) ?_
          exact hret f21 _ _ _ _ x3_2 dX7_firstBroke_64 rfl ⟨hk, by omega, by omega, hO⟩ h
  exact j_2 (((16 - z1.toInt)).toNat + 1) f0 _ _ _ z1 (by omega) (by omega) (by omega) h hB hO hk (lv_sub hl [1, 2, 3, 0] rfl)
theorem dX7_hold_0 : decode cX7_hold 0 = .ok (.aload_n 1, 1) := by decide +kernel
theorem dX7_hold_1 : decode cX7_hold 1 = .ok (.invokevirtual 89, 3) := by decide +kernel
theorem mw_1164 : Cond.methodLink RX7 89 yX9_clear ∈ wsL_law := inr_49 _ (List.mem_of_getElem? (i := 12) rfl)
theorem mw_1167 : Cond.code yX9_clear cX9_clear 1 none ∈ wsL_law := inr_49 _ (List.mem_of_getElem? (i := 15) rfl)
theorem yk_X9_clear : xY yX9_clear RX9 cX9_clear 1 none 0 := ⟨⟨rfl, by decide +kernel, by decide +kernel, by decide +kernel⟩, mw_28, mw_1167⟩
theorem mw_1165 : Cond.instanceMethod yX9_clear ∈ wsL_law := inr_49 _ (List.mem_of_getElem? (i := 13) rfl)
theorem mw_1166 : Cond.selects RX9 yX9_clear yX9_clear ∈ wsL_law := inr_49 _ (List.mem_of_getElem? (i := 14) rfl)
theorem dX7_hold_4 : decode cX7_hold 4 = .ok (.aload_n 0, 1) := by decide +kernel
theorem dX7_hold_5 : decode cX7_hold 5 = .ok (.getfield 51, 3) := by decide +kernel
theorem dX7_hold_8 : decode cX7_hold 8 = .ok (.iconst 0, 1) := by decide +kernel
theorem dX7_hold_9 : decode cX7_hold 9 = .ok (.aaload, 1) := by decide +kernel
theorem dX7_hold_10 : decode cX7_hold 10 = .ok (.invokevirtual 94, 3) := by decide +kernel
theorem dX7_hold_13 : decode cX7_hold 13 = .ok (.iconst 0, 1) := by decide +kernel
theorem dX7_hold_14 : decode cX7_hold 14 = .ok (.istore_n 3, 1) := by decide +kernel
theorem dX7_hold_15 : decode cX7_hold 15 = .ok (.iload_n 3, 1) := by decide +kernel
theorem dX7_hold_16 : decode cX7_hold 16 = .ok (.iload_n 2, 1) := by decide +kernel
theorem dX7_hold_17 : decode cX7_hold 17 = .ok (.if_icmp .ge 67, 3) := by decide +kernel
theorem dX7_hold_84 : decode cX7_hold 84 = .ok (.return_, 1) := by decide +kernel
theorem dX7_hold_20 : decode cX7_hold 20 = .ok (.aload_n 0, 1) := by decide +kernel
theorem dX7_hold_21 : decode cX7_hold 21 = .ok (.getfield 11, 3) := by decide +kernel
theorem dX7_hold_24 : decode cX7_hold 24 = .ok (.iload_n 3, 1) := by decide +kernel
theorem dX7_hold_25 : decode cX7_hold 25 = .ok (.aaload, 1) := by decide +kernel
theorem dX7_hold_26 : decode cX7_hold 26 = .ok (.astore 4, 2) := by decide +kernel
theorem dX7_hold_28 : decode cX7_hold 28 = .ok (.aload_n 0, 1) := by decide +kernel
theorem dX7_hold_29 : decode cX7_hold 29 = .ok (.getfield 85, 3) := by decide +kernel
theorem dX7_hold_32 : decode cX7_hold 32 = .ok (.aload 4, 2) := by decide +kernel
theorem dX7_hold_34 : decode cX7_hold 34 = .ok (.aload_n 0, 1) := by decide +kernel
theorem dX7_hold_35 : decode cX7_hold 35 = .ok (.getfield 51, 3) := by decide +kernel
theorem dX7_hold_38 : decode cX7_hold 38 = .ok (.iconst 0, 1) := by decide +kernel
theorem dX7_hold_39 : decode cX7_hold 39 = .ok (.aaload, 1) := by decide +kernel
theorem dX7_hold_40 : decode cX7_hold 40 = .ok (.aload 4, 2) := by decide +kernel
theorem dX7_hold_42 : decode cX7_hold 42 = .ok (.getfield 97, 3) := by decide +kernel
theorem dX7_hold_45 : decode cX7_hold 45 = .ok (.aload 4, 2) := by decide +kernel
theorem dX7_hold_47 : decode cX7_hold 47 = .ok (.getfield 98, 3) := by decide +kernel
theorem dX7_hold_50 : decode cX7_hold 50 = .ok (.invokevirtual 101, 3) := by decide +kernel
theorem dX7_hold_53 : decode cX7_hold 53 = .ok (.aload_n 1, 1) := by decide +kernel
theorem dX7_hold_54 : decode cX7_hold 54 = .ok (.aload 4, 2) := by decide +kernel
theorem dX7_hold_56 : decode cX7_hold 56 = .ok (.getfield 105, 3) := by decide +kernel
theorem mw_1161 : Cond.fieldLink RX7 105 "AskBack$Ear" "line" "LAskBack$Row;" ∈ wsL_law := inr_49 _ (List.mem_of_getElem? (i := 9) rfl)
section
variable {p : Program} {l : Launch} {e : Env} {R0 : Room} {s : State} {m : MethodId} {args : Array Value} {below : List Frame} {meth : Method} {c : Code} {H H0 : Heap} {locs : List Loc} {cells slots : Nat} {Q : State → Prop} {cc : ByteArray} {nL : Nat} {D : va_G} {cy : Nat → ClassId} {A : Nat → Prop} {L : List Nat} {R : Nat → Nat} {f : Nat → va_E} {pc : Nat} {ls : Array Slot} {rest : List Value} {a : Nat}
theorem g_7_105 (F : CallFix p m c cc nL s args wsL_law RX7) (h : tS D cy A H0 L R (TT cy L R) f s H locs) (ha : a ∈ L) (hr : R a = 1) (hdg : decode cc pc = .ok (.getfield 105, 3)) (kk : ∀ b : Nat, b ∈ L → R b = 4 → fld f a 1 = .ref b → W p l e R0 s m args below meth c H locs cells slots Q (F0 m (pc + 3) ls (.ref b :: rest))) : W p l e R0 s m args below meth c H locs cells slots Q (F0 m pc ls (.ref a :: rest)) := tu_getr F h ha hr (fun e q => (T_1 e).mp q) rfl inlX1 rfl (Nat.le_of_ble_eq_true rfl) mw_1161 hdg kk
end
theorem dX7_hold_59 : decode cX7_hold 59 = .ok (.aload_n 0, 1) := by decide +kernel
theorem dX7_hold_60 : decode cX7_hold 60 = .ok (.getfield 85, 3) := by decide +kernel
theorem dX7_hold_63 : decode cX7_hold 63 = .ok (.getfield 108, 3) := by decide +kernel
theorem dX7_hold_66 : decode cX7_hold 66 = .ok (.aload_n 0, 1) := by decide +kernel
theorem dX7_hold_67 : decode cX7_hold 67 = .ok (.getfield 85, 3) := by decide +kernel
theorem dX7_hold_70 : decode cX7_hold 70 = .ok (.getfield 111, 3) := by decide +kernel
theorem mw_1163 : Cond.fieldLink RX7 111 "AskBack$Sayer" "told" "[I" ∈ wsL_law := inr_49 _ (List.mem_of_getElem? (i := 11) rfl)
section
variable {p : Program} {l : Launch} {e : Env} {R0 : Room} {s : State} {m : MethodId} {args : Array Value} {below : List Frame} {meth : Method} {c : Code} {H H0 : Heap} {locs : List Loc} {cells slots : Nat} {Q : State → Prop} {cc : ByteArray} {nL : Nat} {D : va_G} {cy : Nat → ClassId} {A : Nat → Prop} {L : List Nat} {R : Nat → Nat} {f : Nat → va_E} {pc : Nat} {ls : Array Slot} {rest : List Value} {a : Nat}
theorem g_7_111 (F : CallFix p m c cc nL s args wsL_law RX7) (h : tS D cy A H0 L R (TT cy L R) f s H locs) (ha : a ∈ L) (hr : R a = 5) (hdg : decode cc pc = .ok (.getfield 111, 3)) (kk : ∀ b : Nat, b ∈ L → R b = 34 → fld f a 1 = .ref b → W p l e R0 s m args below meth c H locs cells slots Q (F0 m (pc + 3) ls (.ref b :: rest))) : W p l e R0 s m args below meth c H locs cells slots Q (F0 m pc ls (.ref a :: rest)) := tu_getr F h ha hr (fun e q => (T_5 e).mp q) rfl inlX5 rfl (Nat.le_of_ble_eq_true rfl) mw_1163 hdg kk
end
theorem dX7_hold_73 : decode cX7_hold 73 = .ok (.iconst 0, 1) := by decide +kernel
theorem dX7_hold_74 : decode cX7_hold 74 = .ok (.iaload, 1) := by decide +kernel
theorem dX7_hold_75 : decode cX7_hold 75 = .ok (.invokevirtual 114, 3) := by decide +kernel
theorem mw_1170 : Cond.methodLink RX7 114 yX9_add ∈ wsL_law := inr_49 _ (List.mem_of_getElem? (i := 18) rfl)
theorem mw_1173 : Cond.code yX9_add cX9_add 4 none ∈ wsL_law := inr_49 _ (List.mem_of_getElem? (i := 21) rfl)
theorem yk_X9_add : xY yX9_add RX9 cX9_add 4 none 3 := ⟨⟨rfl, by decide +kernel, by decide +kernel, by decide +kernel⟩, mw_28, mw_1173⟩
theorem mw_1171 : Cond.instanceMethod yX9_add ∈ wsL_law := inr_49 _ (List.mem_of_getElem? (i := 19) rfl)
theorem mw_1172 : Cond.selects RX9 yX9_add yX9_add ∈ wsL_law := inr_49 _ (List.mem_of_getElem? (i := 20) rfl)
theorem dX7_hold_78 : decode cX7_hold 78 = .ok (.iinc 3 1, 3) := by decide +kernel
theorem dX7_hold_81 : decode cX7_hold 81 = .ok (.goto (-66), 3) := by decide +kernel
def rm_X7_hold : Room := { frames := 5, cells := 0, slots := 0, locals := 128 }
set_option maxHeartbeats 4000000 in
set_option maxRecDepth 100000 in
theorem s_X7_hold (l : Launch) (D : va_G) (cy : Nat → ClassId) (L : List Nat) (R O : Nat → Nat) (f0 : Nat → va_E) (hG : GG L R O f0) (a0 : Nat) (m_a0 : a0 ∈ L) (r_a0 : R a0 = 7) (a1 : Nat) (m_a1 : a1 ∈ L) (r_a1 : R a1 = 9) (x2 : Int32) (b2 : 0 ≤ x2.toInt ∧ x2.toInt ≤ 15) (pre0 : ∃ b, b ∈ L ∧ R b = 6 ∧ SB L R O f0 a0 (x2.toInt.toNat) b) : ∀ sz, Met l yX7_hold (Cond.code yX7_hold cX7_hold 5 none :: wsL_law) rm_X7_hold (va_Pc [.ref a0, .ref a1, .int x2] (tPZ D cy L R (TT cy L R) f0 sz)) (va_Qv (fun f1 => fr L R [(4, 1), (5, 4), (5, 5), (5, 6), (5, 7), (8, 1), (8, 2), (9, 4)] [4, 5, 8, 9, 23, 34, 51, 52, 53] f0 f1 ∧ KO L R O (rfa f0 a0 12) f0 f1) (tB D (tA L sz) L R (TT cy L R)) (tA L sz)) 0 0 (tA L sz) := by
  refine tw_enterv (by decide +kernel) rfl (Nat.le_of_ble_eq_true rfl) ?_
  intro p e s m below meth c A ls args Q F hZ h hl hret
  have hl : lv_has ls 5 [(0, .ref a0), (1, .ref a1), (2, .int x2)] := hl
  have hk : fr L R [(4, 1), (5, 4), (5, 5), (5, 6), (5, 7), (8, 1), (8, 2), (9, 4)] [4, 5, 8, 9, 23, 34, 51, 52, 53] f0 f0 := fr.rf
  obtain ⟨b, m_b, r_b, hB⟩ := pre0
  have hB0 := hB
  have hO : KO L R O (rfa f0 a0 12) f0 f0 := KO.rf
  refine lv_aload_n F.1 F.2.1 dX7_hold_0 rfl (lv_at hl 1 rfl) ?_
  refine tw_Vv (As := []) F hZ h yk_X9_clear mw_1164 mw_1165 mw_1166 (s_X9_clear l D cy L R O f0 a1 m_a1 r_a1) rfl rfl m_a1 r_a1 (fun e q => (T_9 e).mp q) rfl hl.1 rfl (Nat.le_of_ble_eq_true rfl) ⟨Nat.le_of_ble_eq_true rfl, Nat.le_of_ble_eq_true rfl⟩ ⟨Nat.le_of_ble_eq_true rfl, Nat.le_of_ble_eq_true rfl⟩ dX7_hold_1 (fun f1 H locs hp1 h => ?_)
  have hf1 := hp1
  have hB : SB L R O f1 a0 (x2.toInt.toNat) b := SB_fr hB hG.1 hf1 (by decide +kernel) m_a0 r_a0 m_b r_b
  have hO : KO L R O (rfa f0 a0 12) f0 f1 := KO_fr hO hf1 (by decide +kernel)
  have hk : fr L R [(4, 1), (5, 4), (5, 5), (5, 6), (5, 7), (8, 1), (8, 2), (9, 4)] [4, 5, 8, 9, 23, 34, 51, 52, 53] f0 f1 := hk.tr hf1 rfl rfl
  refine lv_aload_n F.1 F.2.1 dX7_hold_4 rfl (lv_at hl 0 rfl) ?_
  refine g_7_51 F h m_a0 r_a0 dX7_hold_5 (fun o3 m_o3 r_o3 ho3 => ?_)
  refine tw_iconst F dX7_hold_8 ki_0 (fun z4 hz4 => ?_)
  refine le_48 F h m_o3 r_o3 (by omega) dX7_hold_9 (fun o5 m_o5 r_o5 eo5 => ?_)
  have qS : elq f0 (rfa f0 a0 12) 0 = some o5 := by have q := elq_a ho3 eo5; rw [SB_e12 hB0 hk (by decide +kernel) m_a0 r_a0, (show z4.toInt.toNat = 0 by omega)] at q; exact q
  have qSO : O o5 = rfa f0 a0 12 := (hB0.1.2.2 0 o5 qS (by decide)).2.2
  refine tw_Vv (As := []) F hZ h yk_X8_refresh mw_1168 mw_627 mw_628 (s_X8_refresh l D cy L R O f1 o5 m_o5 r_o5) rfl rfl m_o5 r_o5 (fun e q => (T_8 e).mp q) rfl hl.1 rfl (Nat.le_of_ble_eq_true rfl) ⟨Nat.le_of_ble_eq_true rfl, Nat.le_of_ble_eq_true rfl⟩ ⟨Nat.le_of_ble_eq_true rfl, Nat.le_of_ble_eq_true rfl⟩ dX7_hold_10 (fun f6 H locs hp6 h => ?_)
  obtain ⟨hf6, hv7p0, hv7p1⟩ := hp6
  have hB : SB L R O f6 a0 (x2.toInt.toNat) b := SB_fr hB (hG.1.fr hk (by decide +kernel)) hf6 (by decide +kernel) m_a0 r_a0 m_b r_b
  have hk : fr L R [(4, 1), (5, 4), (5, 5), (5, 6), (5, 7), (8, 1), (8, 2), (9, 4)] [4, 5, 8, 9, 23, 34, 51, 52, 53] f0 f6 := hk.tr hf6 rfl rfl
  have hD : DS f6 a0 0 b := DS_one (by rw [SB_e12 hB0 hk (by decide +kernel) m_a0 r_a0]; exact qS) (dg0_DIG hv7p0)
  have hO : KO L R O (rfa f0 a0 12) f0 f6 := KO_ks hO hv7p1 qSO
  refine tw_iconst F dX7_hold_13 ki_0 (fun z8 hz8 => ?_)
  refine lv_istore_n (lv' := [(3, .int z8), (0, .ref a0), (1, .ref a1), (2, .int x2)]) F.1 F.2.1 dX7_hold_14 rfl hl (by decide) rfl (fun ls hl => ?_)
  have j_15 : ∀ (n15 : Nat) (f9 : Nat → va_E) (H : Heap) (locs : List Loc) (ls : Array Slot) (x3_15 : Int32), 0 ≤ x3_15.toInt → x3_15.toInt ≤ 15 → ((15 - x3_15.toInt)).toNat < n15 → tS D cy A s.heap L R (TT cy L R) f9 s H locs → DS f9 a0 0 b → SB L R O f9 a0 (x2.toInt.toNat) b → KO L R O (rfa f0 a0 12) f0 f9 → fr L R [(4, 1), (5, 4), (5, 5), (5, 6), (5, 7), (8, 1), (8, 2), (9, 4)] [4, 5, 8, 9, 23, 34, 51, 52, 53] f0 f9 → lv_has ls 5 [(0, .ref a0), (1, .ref a1), (2, .int x2), (3, .int x3_15)] → W p l e rm_X7_hold s m args below meth c H locs 0 0 Q (F0 m 15 ls []) := by
    intro n15
    induction n15 with
    | zero =>
      intro f9 H locs ls x3_15 b10 b11 b12 h hD hB hO hk hl
      exfalso
      omega
    | succ n15 ih15 =>
      intro f9 H locs ls x3_15 b10 b11 b12 h hD hB hO hk hl
      refine lv_iload_n F.1 F.2.1 dX7_hold_15 rfl (lv_at hl 3 rfl) ?_
      refine lv_iload_n F.1 F.2.1 dX7_hold_16 rfl (lv_at hl 2 rfl) ?_
      refine tw_icmp_ge (tgt := 84) F dX7_hold_17 (by decide) (fun b13 => ?_) (fun b13 => ?_)
      · exact hret f9 _ _ _ _ dX7_hold_84 ⟨hk, hO⟩ h
      · refine lv_aload_n F.1 F.2.1 dX7_hold_20 rfl (lv_at hl 0 rfl) ?_
        refine g_7_11 F h m_a0 r_a0 dX7_hold_21 (fun o14 m_o14 r_o14 ho14 => ?_)
        refine lv_iload_n F.1 F.2.1 dX7_hold_24 rfl (lv_at hl 3 rfl) ?_
        refine le_45 F h m_o14 r_o14 (by omega) dX7_hold_25 (fun o15 m_o15 r_o15 eo15 => ?_)
        have qE : elq f0 (rfa f0 a0 1) x3_15.toInt.toNat = some o15 := by rw [← SB_e1 hB0 hk (by decide +kernel) m_a0 r_a0]; exact elq_a ho14 eo15
        refine lv_astore (lv' := [(4, .ref o15), (0, .ref a0), (1, .ref a1), (2, .int x2), (3, .int x3_15)]) F.1 F.2.1 dX7_hold_26 hl (by decide) rfl (fun ls hl => ?_)
        refine lv_aload_n F.1 F.2.1 dX7_hold_28 rfl (lv_at hl 1 rfl) ?_
        refine g_7_85 F h m_a0 r_a0 dX7_hold_29 (fun o16 m_o16 r_o16 ho16 => ?_)
        refine lv_aload F.1 F.2.1 dX7_hold_32 (lv_at hl 0 rfl) ?_
        refine lv_aload_n F.1 F.2.1 dX7_hold_34 rfl (lv_at hl 1 rfl) ?_
        refine g_7_51 F h m_a0 r_a0 dX7_hold_35 (fun o17 m_o17 r_o17 ho17 => ?_)
        refine tw_iconst F dX7_hold_38 ki_0 (fun z18 hz18 => ?_)
        refine le_48 F h m_o17 r_o17 (by omega) dX7_hold_39 (fun o19 m_o19 r_o19 eo19 => ?_)
        have qT : elq f0 (rfa f0 a0 12) 0 = some o19 := by have q := elq_a ho17 eo19; rw [SB_e12 hB0 hk (by decide +kernel) m_a0 r_a0, (show z18.toInt.toNat = 0 by omega)] at q; exact q
        have qTO : O o19 = rfa f0 a0 12 := (hB0.1.2.2 0 o19 qT (by decide)).2.2
        refine lv_aload F.1 F.2.1 dX7_hold_40 (lv_at hl 0 rfl) ?_
        refine g_7_97 F h m_o15 r_o15 dX7_hold_42 (fun o20 m_o20 r_o20 ho20 => ?_)
        refine lv_aload F.1 F.2.1 dX7_hold_45 (lv_at hl 0 rfl) ?_
        refine g_7_98 F h m_o15 r_o15 dX7_hold_47 (fun v21 hv21 hv21a hv21b => ?_)
        have qb : rfa f9 o15 0 = b := SB_b hB (by rw [SB_e1 hB0 hk (by decide +kernel) m_a0 r_a0]; exact qE) (by omega)
        have ow := (hG.1.fr hk (by decide +kernel))
        have hBo := hB
        have hDo := hD
        refine tw_Vv (As := [.ref o15, .ref o19, .ref o20, .int v21]) F hZ h yk_X5_answer mw_1169 mw_959 mw_960 (s_X5_answer_a l D cy L R O f9 (hG.fr hk (by decide +kernel) (by decide +kernel)) o16 m_o16 r_o16 o15 m_o15 r_o15 o19 m_o19 r_o19 o20 m_o20 r_o20 v21 ⟨by omega, by omega⟩ (SB_p0 hB (by rw [SB_e1 hB0 hk (by decide +kernel) m_a0 r_a0]; exact qE) (by omega)) (by rw [qb]; exact hD _ (by rw [SB_e12 hB0 hk (by decide +kernel) m_a0 r_a0]; exact qT))) rfl rfl m_o16 r_o16 (fun e q => (T_5 e).mp q) rfl hl.1 rfl (Nat.le_of_ble_eq_true rfl) ⟨Nat.le_of_ble_eq_true rfl, Nat.le_of_ble_eq_true rfl⟩ ⟨Nat.le_of_ble_eq_true rfl, Nat.le_of_ble_eq_true rfl⟩ dX7_hold_50 (fun f22 H locs hp22 h => ?_)
        obtain ⟨hf22, hv23p0, hv23p1⟩ := hp22
        have hB : SB L R O f22 a0 (x2.toInt.toNat) b := SB_fr hB (hG.1.fr hk (by decide +kernel)) hf22 (by decide +kernel) m_a0 r_a0 m_b r_b
        have hk : fr L R [(4, 1), (5, 4), (5, 5), (5, 6), (5, 7), (8, 1), (8, 2), (9, 4)] [4, 5, 8, 9, 23, 34, 51, 52, 53] f0 f22 := hk.tr hf22 (by decide +kernel) (by decide +kernel)
        have e24 : fld f22 a0 0 = .ref o16 := (hf22.efl m_a0 r_a0 rfl).trans ho16
        have hMa : DM L R f9 f22 b := DM_ks ow hf22 (by decide +kernel) (by decide +kernel) hv23p1 (by have q := hv23p0; rw [qb] at q; exact q) m_b r_b
        have hD : DS f22 a0 0 b := DS_dm hDo hBo.1 (by decide) hf22 (by decide +kernel) (by decide +kernel) m_a0 r_a0 hMa
        have hO : KO L R O (rfa f0 a0 12) f0 f22 := KO_ks hO hv23p1 qTO
        refine lv_aload_n F.1 F.2.1 dX7_hold_53 rfl (lv_at hl 2 rfl) ?_
        refine lv_aload F.1 F.2.1 dX7_hold_54 (lv_at hl 0 rfl) ?_
        refine g_7_105 F h m_o15 r_o15 dX7_hold_56 (fun o25 m_o25 r_o25 ho25 => ?_)
        refine lv_aload_n F.1 F.2.1 dX7_hold_59 rfl (lv_at hl 1 rfl) ?_
        refine g_7_85 F h m_a0 r_a0 dX7_hold_60 (fun o26 m_o26 r_o26 ho26 => ?_)
        obtain rfl := (fld_inj e24 ho26).symm
        refine g_7_108 F h m_o16 r_o16 dX7_hold_63 (fun o27 m_o27 r_o27 ho27 => ?_)
        refine lv_aload_n F.1 F.2.1 dX7_hold_66 rfl (lv_at hl 1 rfl) ?_
        refine g_7_85 F h m_a0 r_a0 dX7_hold_67 (fun o28 m_o28 r_o28 ho28 => ?_)
        obtain rfl := (fld_inj e24 ho28).symm
        refine g_7_111 F h m_o16 r_o16 dX7_hold_70 (fun o29 m_o29 r_o29 ho29 => ?_)
        refine tw_iconst F dX7_hold_73 ki_0 (fun z30 hz30 => ?_)
        refine ld_34 F h m_o29 r_o29 (by omega) dX7_hold_74 (fun v31 => ?_)
        refine tw_Vv (As := [.ref o25, .ref o27, .int v31]) F hZ h yk_X9_add mw_1170 mw_1171 mw_1172 (s_X9_add l D cy L R O f22 a1 m_a1 r_a1 o25 m_o25 r_o25 o27 m_o27 r_o27 v31) rfl rfl m_a1 r_a1 (fun e q => (T_9 e).mp q) rfl hl.1 rfl (Nat.le_of_ble_eq_true rfl) ⟨Nat.le_of_ble_eq_true rfl, Nat.le_of_ble_eq_true rfl⟩ ⟨Nat.le_of_ble_eq_true rfl, Nat.le_of_ble_eq_true rfl⟩ dX7_hold_75 (fun f32 H locs hp32 h => ?_)
        have hf32 := hp32
        have hD : DS f32 a0 0 b := DS_dm hD hB.1 (by decide) hf32 (by decide +kernel) (by decide +kernel) m_a0 r_a0 (DM_fr (hG.1.fr hk (by decide +kernel)) hf32 (by decide +kernel) (by decide +kernel) (by decide +kernel) m_b r_b)
        have hB : SB L R O f32 a0 (x2.toInt.toNat) b := SB_fr hB (hG.1.fr hk (by decide +kernel)) hf32 (by decide +kernel) m_a0 r_a0 m_b r_b
        have hO : KO L R O (rfa f0 a0 12) f0 f32 := KO_fr hO hf32 (by decide +kernel)
        have hk : fr L R [(4, 1), (5, 4), (5, 5), (5, 6), (5, 7), (8, 1), (8, 2), (9, 4)] [4, 5, 8, 9, 23, 34, 51, 52, 53] f0 f32 := hk.tr hf32 (by decide +kernel) (by decide +kernel)
        have e34 : fld f32 a0 0 = .ref o16 := (hf32.efl m_a0 r_a0 rfl).trans e24
        refine tu_iinc F dX7_hold_78 hl (k := 4) rfl (by decide) ki_1 (by omega) (fun z35 ls hz35 hl => ?_)
        have hl : lv_has ls 5 [(3, .int z35), (4, .ref o15), (0, .ref a0), (1, .ref a1), (2, .int x2)] := hl
        refine lv_goto (tgt := 15) F.1 F.2.1 dX7_hold_81 (by decide) ?_
        exact ih15 f32 _ _ _ z35 (by omega) (by omega) (by omega) h hD hB hO hk (lv_sub hl [2, 3, 4, 0] rfl)
  exact j_15 (((15 - z8.toInt)).toNat + 1) f6 _ _ _ z8 (by omega) (by omega) (by omega) h hD hB hO hk (lv_sub hl [1, 2, 3, 0] rfl)
theorem dX7_saysWanted_0 : decode cX7_saysWanted 0 = .ok (.iconst 1, 1) := by decide +kernel
theorem dX7_saysWanted_1 : decode cX7_saysWanted 1 = .ok (.istore_n 3, 1) := by decide +kernel
theorem dX7_saysWanted_2 : decode cX7_saysWanted 2 = .ok (.aload_n 0, 1) := by decide +kernel
theorem dX7_saysWanted_3 : decode cX7_saysWanted 3 = .ok (.getfield 85, 3) := by decide +kernel
theorem dX7_saysWanted_6 : decode cX7_saysWanted 6 = .ok (.iload_n 2, 1) := by decide +kernel
theorem dX7_saysWanted_7 : decode cX7_saysWanted 7 = .ok (.putfield 156, 3) := by decide +kernel
theorem mw_1373 : Cond.fieldLink RX7 156 "AskBack$Sayer" "rulesOut" "I" ∈ wsL_law := inr_58 _ (List.mem_of_getElem? (i := 5) rfl)
section
variable {p : Program} {l : Launch} {e : Env} {R0 : Room} {s : State} {m : MethodId} {args : Array Value} {below : List Frame} {meth : Method} {c : Code} {H H0 : Heap} {locs : List Loc} {cells slots : Nat} {Q : State → Prop} {cc : ByteArray} {nL : Nat} {D : va_G} {cy : Nat → ClassId} {A : Nat → Prop} {L : List Nat} {R : Nat → Nat} {f : Nat → va_E} {pc : Nat} {ls : Array Slot} {rest : List Value} {a : Nat}
theorem p_7_156 (F : CallFix p m c cc nL s args wsL_law RX7) (h : tS D cy A H0 L R (TT cy L R) f s H locs) {x : Int32} (ha : a ∈ L) (hr : R a = 5) (hdg : decode cc pc = .ok (.putfield 156, 3)) (kk : ∀ (f1 : Nat → va_E) (H1 : Heap) (locs1 : List Loc), fi f1 a 2 = x.toInt → fr L R [(5, 2)] [5] f f1 → tS D cy A H0 L R (TT cy L R) f1 s H1 locs1 → W p l e R0 s m args below meth c H1 locs1 cells slots Q (F0 m (pc + 3) ls (rest))) : W p l e R0 s m args below meth c H locs cells slots Q (F0 m pc ls (.int x :: .ref a :: rest)) := tu_puti (k := 2) F h ha hr T_5 rfl (tb_i x).1 (tb_i x).2 inlX5 tyX5_ok nmX5 rfl (Nat.le_of_ble_eq_true rfl) mw_1373 rfl rfl rfl hdg kk
end
theorem dX7_saysWanted_10 : decode cX7_saysWanted 10 = .ok (.aload_n 0, 1) := by decide +kernel
theorem dX7_saysWanted_11 : decode cX7_saysWanted 11 = .ok (.getfield 51, 3) := by decide +kernel
theorem dX7_saysWanted_14 : decode cX7_saysWanted 14 = .ok (.iconst 0, 1) := by decide +kernel
theorem dX7_saysWanted_15 : decode cX7_saysWanted 15 = .ok (.aaload, 1) := by decide +kernel
theorem dX7_saysWanted_16 : decode cX7_saysWanted 16 = .ok (.invokevirtual 94, 3) := by decide +kernel
theorem dX7_saysWanted_19 : decode cX7_saysWanted 19 = .ok (.iconst 0, 1) := by decide +kernel
theorem dX7_saysWanted_20 : decode cX7_saysWanted 20 = .ok (.istore 4, 2) := by decide +kernel
theorem dX7_saysWanted_22 : decode cX7_saysWanted 22 = .ok (.iload 4, 2) := by decide +kernel
theorem dX7_saysWanted_24 : decode cX7_saysWanted 24 = .ok (.iload_n 1, 1) := by decide +kernel
theorem dX7_saysWanted_25 : decode cX7_saysWanted 25 = .ok (.if_icmp .ge 65, 3) := by decide +kernel
theorem dX7_saysWanted_90 : decode cX7_saysWanted 90 = .ok (.aload_n 0, 1) := by decide +kernel
theorem dX7_saysWanted_91 : decode cX7_saysWanted 91 = .ok (.getfield 85, 3) := by decide +kernel
theorem dX7_saysWanted_94 : decode cX7_saysWanted 94 = .ok (.iconst 0, 1) := by decide +kernel
theorem dX7_saysWanted_95 : decode cX7_saysWanted 95 = .ok (.putfield 156, 3) := by decide +kernel
theorem dX7_saysWanted_98 : decode cX7_saysWanted 98 = .ok (.iload_n 3, 1) := by decide +kernel
theorem dX7_saysWanted_99 : decode cX7_saysWanted 99 = .ok (.ireturn, 1) := by decide +kernel
theorem dX7_saysWanted_28 : decode cX7_saysWanted 28 = .ok (.iload_n 3, 1) := by decide +kernel
theorem dX7_saysWanted_29 : decode cX7_saysWanted 29 = .ok (.ifCond .eq 61, 3) := by decide +kernel
theorem dX7_saysWanted_32 : decode cX7_saysWanted 32 = .ok (.aload_n 0, 1) := by decide +kernel
theorem dX7_saysWanted_33 : decode cX7_saysWanted 33 = .ok (.getfield 11, 3) := by decide +kernel
theorem dX7_saysWanted_36 : decode cX7_saysWanted 36 = .ok (.iload 4, 2) := by decide +kernel
theorem dX7_saysWanted_38 : decode cX7_saysWanted 38 = .ok (.aaload, 1) := by decide +kernel
theorem dX7_saysWanted_39 : decode cX7_saysWanted 39 = .ok (.astore 5, 2) := by decide +kernel
theorem dX7_saysWanted_41 : decode cX7_saysWanted 41 = .ok (.aload_n 0, 1) := by decide +kernel
theorem dX7_saysWanted_42 : decode cX7_saysWanted 42 = .ok (.getfield 85, 3) := by decide +kernel
theorem dX7_saysWanted_45 : decode cX7_saysWanted 45 = .ok (.aload 5, 2) := by decide +kernel
theorem dX7_saysWanted_47 : decode cX7_saysWanted 47 = .ok (.aload_n 0, 1) := by decide +kernel
theorem dX7_saysWanted_48 : decode cX7_saysWanted 48 = .ok (.getfield 51, 3) := by decide +kernel
theorem dX7_saysWanted_51 : decode cX7_saysWanted 51 = .ok (.iconst 0, 1) := by decide +kernel
theorem dX7_saysWanted_52 : decode cX7_saysWanted 52 = .ok (.aaload, 1) := by decide +kernel
theorem dX7_saysWanted_53 : decode cX7_saysWanted 53 = .ok (.aload 5, 2) := by decide +kernel
theorem dX7_saysWanted_55 : decode cX7_saysWanted 55 = .ok (.getfield 97, 3) := by decide +kernel
theorem dX7_saysWanted_58 : decode cX7_saysWanted 58 = .ok (.aload 5, 2) := by decide +kernel
theorem dX7_saysWanted_60 : decode cX7_saysWanted 60 = .ok (.getfield 98, 3) := by decide +kernel
theorem dX7_saysWanted_63 : decode cX7_saysWanted 63 = .ok (.invokevirtual 101, 3) := by decide +kernel
theorem dX7_saysWanted_66 : decode cX7_saysWanted 66 = .ok (.aload_n 0, 1) := by decide +kernel
theorem dX7_saysWanted_67 : decode cX7_saysWanted 67 = .ok (.getfield 85, 3) := by decide +kernel
theorem dX7_saysWanted_70 : decode cX7_saysWanted 70 = .ok (.getfield 108, 3) := by decide +kernel
theorem dX7_saysWanted_73 : decode cX7_saysWanted 73 = .ok (.aload_n 0, 1) := by decide +kernel
theorem dX7_saysWanted_74 : decode cX7_saysWanted 74 = .ok (.getfield 57, 3) := by decide +kernel
theorem mw_153 : Cond.fieldLink RX7 57 "AskBack$Search" "wanted" "[LAskBack$Row;" ∈ wsL_law := inr_7 _ (List.mem_of_getElem? (i := 9) rfl)
section
variable {p : Program} {l : Launch} {e : Env} {R0 : Room} {s : State} {m : MethodId} {args : Array Value} {below : List Frame} {meth : Method} {c : Code} {H H0 : Heap} {locs : List Loc} {cells slots : Nat} {Q : State → Prop} {cc : ByteArray} {nL : Nat} {D : va_G} {cy : Nat → ClassId} {A : Nat → Prop} {L : List Nat} {R : Nat → Nat} {f : Nat → va_E} {pc : Nat} {ls : Array Slot} {rest : List Value} {a : Nat}
theorem g_7_57 (F : CallFix p m c cc nL s args wsL_law RX7) (h : tS D cy A H0 L R (TT cy L R) f s H locs) (ha : a ∈ L) (hr : R a = 7) (hdg : decode cc pc = .ok (.getfield 57, 3)) (kk : ∀ b : Nat, b ∈ L → R b = 49 → fld f a 13 = .ref b → W p l e R0 s m args below meth c H locs cells slots Q (F0 m (pc + 3) ls (.ref b :: rest))) : W p l e R0 s m args below meth c H locs cells slots Q (F0 m pc ls (.ref a :: rest)) := tu_getr F h ha hr (fun e q => (T_7 e).mp q) rfl inlX7 rfl (Nat.le_of_ble_eq_true rfl) mw_153 hdg kk
end
theorem dX7_saysWanted_77 : decode cX7_saysWanted 77 = .ok (.iload 4, 2) := by decide +kernel
theorem dX7_saysWanted_79 : decode cX7_saysWanted 79 = .ok (.aaload, 1) := by decide +kernel
theorem dX7_saysWanted_80 : decode cX7_saysWanted 80 = .ok (.invokevirtual 126, 3) := by decide +kernel
theorem mw_1223 : Cond.methodLink RX7 126 yX4_same ∈ wsL_law := inr_51 _ (List.mem_of_getElem? (i := 23) rfl)
theorem dX7_saysWanted_83 : decode cX7_saysWanted 83 = .ok (.istore_n 3, 1) := by decide +kernel
theorem dX7_saysWanted_84 : decode cX7_saysWanted 84 = .ok (.iinc 4 1, 3) := by decide +kernel
theorem dX7_saysWanted_87 : decode cX7_saysWanted 87 = .ok (.goto (-65), 3) := by decide +kernel
def rm_X7_saysWanted : Room := { frames := 5, cells := 0, slots := 0, locals := 128 }
set_option maxHeartbeats 4000000 in
set_option maxRecDepth 100000 in
theorem s_X7_saysWanted (l : Launch) (D : va_G) (cy : Nat → ClassId) (L : List Nat) (R O : Nat → Nat) (f0 : Nat → va_E) (hG : GG L R O f0) (a0 : Nat) (m_a0 : a0 ∈ L) (r_a0 : R a0 = 7) (x1 : Int32) (b1 : 0 ≤ x1.toInt ∧ x1.toInt ≤ 15) (x2 : Int32) (pre0 : ∃ b, b ∈ L ∧ R b = 6 ∧ SB L R O f0 a0 (x1.toInt.toNat) b) : ∀ sz, Met l yX7_saysWanted (Cond.code yX7_saysWanted cX7_saysWanted 6 (some .boolean) :: wsL_law) rm_X7_saysWanted (va_Pc [.ref a0, .int x1, .int x2] (tPZ D cy L R (TT cy L R) f0 sz)) (va_Qi (fun (r : Int32) f1 => fr L R [(4, 1), (5, 2), (5, 4), (5, 5), (5, 6), (5, 7), (8, 1), (8, 2)] [4, 5, 8, 23, 34, 51] f0 f1 ∧ 0 ≤ r.toInt ∧ r.toInt ≤ 1 ∧ KO L R O (rfa f0 a0 12) f0 f1) (tB D (tA L sz) L R (TT cy L R)) (tA L sz)) 0 0 (tA L sz) := by
  refine tw_enteri (by decide +kernel) rfl (Nat.le_of_ble_eq_true rfl) ?_
  intro p e s m below meth c A ls args Q F hZ h hl hret
  have hl : lv_has ls 6 [(0, .ref a0), (1, .int x1), (2, .int x2)] := hl
  have hk : fr L R [(4, 1), (5, 2), (5, 4), (5, 5), (5, 6), (5, 7), (8, 1), (8, 2)] [4, 5, 8, 23, 34, 51] f0 f0 := fr.rf
  obtain ⟨b, m_b, r_b, hB⟩ := pre0
  have hB0 := hB
  have hO : KO L R O (rfa f0 a0 12) f0 f0 := KO.rf
  refine tw_iconst F dX7_saysWanted_0 ki_1 (fun z1 hz1 => ?_)
  refine lv_istore_n (lv' := [(3, .int z1), (0, .ref a0), (1, .int x1), (2, .int x2)]) F.1 F.2.1 dX7_saysWanted_1 rfl hl (by decide) rfl (fun ls hl => ?_)
  refine lv_aload_n F.1 F.2.1 dX7_saysWanted_2 rfl (lv_at hl 1 rfl) ?_
  refine g_7_85 F h m_a0 r_a0 dX7_saysWanted_3 (fun o2 m_o2 r_o2 ho2 => ?_)
  refine lv_iload_n F.1 F.2.1 dX7_saysWanted_6 rfl (lv_at hl 3 rfl) ?_
  refine p_7_156 F h m_o2 r_o2 dX7_saysWanted_7 (fun f3 H locs e3p hf3 h => ?_)
  have hB : SB L R O f3 a0 (x1.toInt.toNat) b := SB_fr hB hG.1 hf3 (by decide +kernel) m_a0 r_a0 m_b r_b
  have hO : KO L R O (rfa f0 a0 12) f0 f3 := KO_fr hO hf3 (by decide +kernel)
  have hk : fr L R [(4, 1), (5, 2), (5, 4), (5, 5), (5, 6), (5, 7), (8, 1), (8, 2)] [4, 5, 8, 23, 34, 51] f0 f3 := hk.tr hf3 rfl rfl
  have e4 : fld f3 a0 0 = .ref o2 := (hf3.efl m_a0 r_a0 rfl).trans ho2
  refine lv_aload_n F.1 F.2.1 dX7_saysWanted_10 rfl (lv_at hl 1 rfl) ?_
  refine g_7_51 F h m_a0 r_a0 dX7_saysWanted_11 (fun o5 m_o5 r_o5 ho5 => ?_)
  refine tw_iconst F dX7_saysWanted_14 ki_0 (fun z6 hz6 => ?_)
  refine le_48 F h m_o5 r_o5 (by omega) dX7_saysWanted_15 (fun o7 m_o7 r_o7 eo7 => ?_)
  have qS : elq f0 (rfa f0 a0 12) 0 = some o7 := by have q := elq_a ho5 eo7; rw [SB_e12 hB0 hk (by decide +kernel) m_a0 r_a0, (show z6.toInt.toNat = 0 by omega)] at q; exact q
  have qSO : O o7 = rfa f0 a0 12 := (hB0.1.2.2 0 o7 qS (by decide)).2.2
  refine tw_Vv (As := []) F hZ h yk_X8_refresh mw_1168 mw_627 mw_628 (s_X8_refresh l D cy L R O f3 o7 m_o7 r_o7) rfl rfl m_o7 r_o7 (fun e q => (T_8 e).mp q) rfl hl.1 rfl (Nat.le_of_ble_eq_true rfl) ⟨Nat.le_of_ble_eq_true rfl, Nat.le_of_ble_eq_true rfl⟩ ⟨Nat.le_of_ble_eq_true rfl, Nat.le_of_ble_eq_true rfl⟩ dX7_saysWanted_16 (fun f8 H locs hp8 h => ?_)
  obtain ⟨hf8, hv9p0, hv9p1⟩ := hp8
  have hB : SB L R O f8 a0 (x1.toInt.toNat) b := SB_fr hB (hG.1.fr hk (by decide +kernel)) hf8 (by decide +kernel) m_a0 r_a0 m_b r_b
  have hk : fr L R [(4, 1), (5, 2), (5, 4), (5, 5), (5, 6), (5, 7), (8, 1), (8, 2)] [4, 5, 8, 23, 34, 51] f0 f8 := hk.tr hf8 rfl rfl
  have e10 : fld f8 a0 0 = .ref o2 := (hf8.efl m_a0 r_a0 rfl).trans e4
  have hD : DS f8 a0 0 b := DS_one (by rw [SB_e12 hB0 hk (by decide +kernel) m_a0 r_a0]; exact qS) (dg0_DIG hv9p0)
  have hO : KO L R O (rfa f0 a0 12) f0 f8 := KO_ks hO hv9p1 qSO
  refine tw_iconst F dX7_saysWanted_19 ki_0 (fun z11 hz11 => ?_)
  refine lv_istore (lv' := [(4, .int z11), (3, .int z1), (0, .ref a0), (1, .int x1), (2, .int x2)]) F.1 F.2.1 dX7_saysWanted_20 hl (by decide) rfl (fun ls hl => ?_)
  have j_22 : ∀ (n22 : Nat) (f12 : Nat → va_E) (H : Heap) (locs : List Loc) (ls : Array Slot) (x3_22 : Int32) (x4_22 : Int32), 0 ≤ x3_22.toInt → x3_22.toInt ≤ 1 → 0 ≤ x4_22.toInt → x4_22.toInt ≤ 15 → ((15 - x4_22.toInt)).toNat < n22 → tS D cy A s.heap L R (TT cy L R) f12 s H locs → DS f12 a0 0 b → SB L R O f12 a0 (x1.toInt.toNat) b → KO L R O (rfa f0 a0 12) f0 f12 → fr L R [(4, 1), (5, 2), (5, 4), (5, 5), (5, 6), (5, 7), (8, 1), (8, 2)] [4, 5, 8, 23, 34, 51] f0 f12 → fr L R [(4, 1), (5, 4), (5, 5), (5, 6), (5, 7), (8, 1), (8, 2)] [4, 5, 8, 23, 34, 51] f8 f12 → lv_has ls 6 [(0, .ref a0), (1, .int x1), (3, .int x3_22), (4, .int x4_22)] → W p l e rm_X7_saysWanted s m args below meth c H locs 0 0 Q (F0 m 22 ls []) := by
    intro n22
    induction n22 with
    | zero =>
      intro f12 H locs ls x3_22 x4_22 b13 b14 b15 b16 b17 h hD hB hO hk hb22 hl
      exfalso
      omega
    | succ n22 ih22 =>
      intro f12 H locs ls x3_22 x4_22 b13 b14 b15 b16 b17 h hD hB hO hk hb22 hl
      have e18 : fld f12 a0 0 = .ref o2 := (hb22.efl m_a0 r_a0 rfl).trans e10
      refine lv_iload F.1 F.2.1 dX7_saysWanted_22 (lv_at hl 3 rfl) ?_
      refine lv_iload_n F.1 F.2.1 dX7_saysWanted_24 rfl (lv_at hl 1 rfl) ?_
      refine tw_icmp_ge (tgt := 90) F dX7_saysWanted_25 (by decide) (fun b19 => ?_) (fun b19 => ?_)
      · refine lv_aload_n F.1 F.2.1 dX7_saysWanted_90 rfl (lv_at hl 0 rfl) ?_
        refine g_7_85 F h m_a0 r_a0 dX7_saysWanted_91 (fun o20 m_o20 r_o20 ho20 => ?_)
        obtain rfl := (fld_inj e18 ho20).symm
        refine tw_iconst F dX7_saysWanted_94 ki_0 (fun z21 hz21 => ?_)
        refine p_7_156 F h m_o2 r_o2 dX7_saysWanted_95 (fun f22 H locs e22p hf22 h => ?_)
        have hD : DS f22 a0 0 b := DS_dm hD hB.1 (by decide) hf22 (by decide +kernel) (by decide +kernel) m_a0 r_a0 (DM_fr (hG.1.fr hk (by decide +kernel)) hf22 (by decide +kernel) (by decide +kernel) (by decide +kernel) m_b r_b)
        have hB : SB L R O f22 a0 (x1.toInt.toNat) b := SB_fr hB (hG.1.fr hk (by decide +kernel)) hf22 (by decide +kernel) m_a0 r_a0 m_b r_b
        have hO : KO L R O (rfa f0 a0 12) f0 f22 := KO_fr hO hf22 (by decide +kernel)
        have hk : fr L R [(4, 1), (5, 2), (5, 4), (5, 5), (5, 6), (5, 7), (8, 1), (8, 2)] [4, 5, 8, 23, 34, 51] f0 f22 := hk.tr hf22 rfl rfl
        have e23 : fld f22 a0 0 = .ref o2 := (hf22.efl m_a0 r_a0 rfl).trans e18
        refine lv_iload_n F.1 F.2.1 dX7_saysWanted_98 rfl (lv_at hl 2 rfl) ?_
        exact hret f22 _ _ _ _ x3_22 dX7_saysWanted_99 (tw_nb (by omega)) ⟨hk, by omega, by omega, hO⟩ h
      · refine lv_iload_n F.1 F.2.1 dX7_saysWanted_28 rfl (lv_at hl 2 rfl) ?_
        refine tw_if_eq (tgt := 90) F dX7_saysWanted_29 (by decide) (fun b24 => ?_) (fun b24 => ?_)
        · refine lv_aload_n F.1 F.2.1 dX7_saysWanted_90 rfl (lv_at hl 0 rfl) ?_
          refine g_7_85 F h m_a0 r_a0 dX7_saysWanted_91 (fun o25 m_o25 r_o25 ho25 => ?_)
          obtain rfl := (fld_inj e18 ho25).symm
          refine tw_iconst F dX7_saysWanted_94 ki_0 (fun z26 hz26 => ?_)
          refine p_7_156 F h m_o2 r_o2 dX7_saysWanted_95 (fun f27 H locs e27p hf27 h => ?_)
          have hD : DS f27 a0 0 b := DS_dm hD hB.1 (by decide) hf27 (by decide +kernel) (by decide +kernel) m_a0 r_a0 (DM_fr (hG.1.fr hk (by decide +kernel)) hf27 (by decide +kernel) (by decide +kernel) (by decide +kernel) m_b r_b)
          have hB : SB L R O f27 a0 (x1.toInt.toNat) b := SB_fr hB (hG.1.fr hk (by decide +kernel)) hf27 (by decide +kernel) m_a0 r_a0 m_b r_b
          have hO : KO L R O (rfa f0 a0 12) f0 f27 := KO_fr hO hf27 (by decide +kernel)
          have hk : fr L R [(4, 1), (5, 2), (5, 4), (5, 5), (5, 6), (5, 7), (8, 1), (8, 2)] [4, 5, 8, 23, 34, 51] f0 f27 := hk.tr hf27 rfl rfl
          have e28 : fld f27 a0 0 = .ref o2 := (hf27.efl m_a0 r_a0 rfl).trans e18
          refine lv_iload_n F.1 F.2.1 dX7_saysWanted_98 rfl (lv_at hl 2 rfl) ?_
          exact hret f27 _ _ _ _ x3_22 dX7_saysWanted_99 (tw_nb (by omega)) ⟨hk, by omega, by omega, hO⟩ h
        · refine lv_aload_n F.1 F.2.1 dX7_saysWanted_32 rfl (lv_at hl 0 rfl) ?_
          refine g_7_11 F h m_a0 r_a0 dX7_saysWanted_33 (fun o29 m_o29 r_o29 ho29 => ?_)
          refine lv_iload F.1 F.2.1 dX7_saysWanted_36 (lv_at hl 3 rfl) ?_
          refine le_45 F h m_o29 r_o29 (by omega) dX7_saysWanted_38 (fun o30 m_o30 r_o30 eo30 => ?_)
          have qE : elq f0 (rfa f0 a0 1) x4_22.toInt.toNat = some o30 := by rw [← SB_e1 hB0 hk (by decide +kernel) m_a0 r_a0]; exact elq_a ho29 eo30
          refine lv_astore (lv' := [(5, .ref o30), (0, .ref a0), (1, .int x1), (3, .int x3_22), (4, .int x4_22)]) F.1 F.2.1 dX7_saysWanted_39 hl (by decide) rfl (fun ls hl => ?_)
          refine lv_aload_n F.1 F.2.1 dX7_saysWanted_41 rfl (lv_at hl 1 rfl) ?_
          refine g_7_85 F h m_a0 r_a0 dX7_saysWanted_42 (fun o31 m_o31 r_o31 ho31 => ?_)
          obtain rfl := (fld_inj e18 ho31).symm
          refine lv_aload F.1 F.2.1 dX7_saysWanted_45 (lv_at hl 0 rfl) ?_
          refine lv_aload_n F.1 F.2.1 dX7_saysWanted_47 rfl (lv_at hl 1 rfl) ?_
          refine g_7_51 F h m_a0 r_a0 dX7_saysWanted_48 (fun o32 m_o32 r_o32 ho32 => ?_)
          refine tw_iconst F dX7_saysWanted_51 ki_0 (fun z33 hz33 => ?_)
          refine le_48 F h m_o32 r_o32 (by omega) dX7_saysWanted_52 (fun o34 m_o34 r_o34 eo34 => ?_)
          have qT : elq f0 (rfa f0 a0 12) 0 = some o34 := by have q := elq_a ho32 eo34; rw [SB_e12 hB0 hk (by decide +kernel) m_a0 r_a0, (show z33.toInt.toNat = 0 by omega)] at q; exact q
          have qTO : O o34 = rfa f0 a0 12 := (hB0.1.2.2 0 o34 qT (by decide)).2.2
          refine lv_aload F.1 F.2.1 dX7_saysWanted_53 (lv_at hl 0 rfl) ?_
          refine g_7_97 F h m_o30 r_o30 dX7_saysWanted_55 (fun o35 m_o35 r_o35 ho35 => ?_)
          refine lv_aload F.1 F.2.1 dX7_saysWanted_58 (lv_at hl 0 rfl) ?_
          refine g_7_98 F h m_o30 r_o30 dX7_saysWanted_60 (fun v36 hv36 hv36a hv36b => ?_)
          have qb : rfa f12 o30 0 = b := SB_b hB (by rw [SB_e1 hB0 hk (by decide +kernel) m_a0 r_a0]; exact qE) (by omega)
          have ow := (hG.1.fr hk (by decide +kernel))
          have hBo := hB
          have hDo := hD
          refine tw_Vv (As := [.ref o30, .ref o34, .ref o35, .int v36]) F hZ h yk_X5_answer mw_1169 mw_959 mw_960 (s_X5_answer_a l D cy L R O f12 (hG.fr hk (by decide +kernel) (by decide +kernel)) o2 m_o2 r_o2 o30 m_o30 r_o30 o34 m_o34 r_o34 o35 m_o35 r_o35 v36 ⟨by omega, by omega⟩ (SB_p0 hB (by rw [SB_e1 hB0 hk (by decide +kernel) m_a0 r_a0]; exact qE) (by omega)) (by rw [qb]; exact hD _ (by rw [SB_e12 hB0 hk (by decide +kernel) m_a0 r_a0]; exact qT))) rfl rfl m_o2 r_o2 (fun e q => (T_5 e).mp q) rfl hl.1 rfl (Nat.le_of_ble_eq_true rfl) ⟨Nat.le_of_ble_eq_true rfl, Nat.le_of_ble_eq_true rfl⟩ ⟨Nat.le_of_ble_eq_true rfl, Nat.le_of_ble_eq_true rfl⟩ dX7_saysWanted_63 (fun f37 H locs hp37 h => ?_)
          obtain ⟨hf37, hv38p0, hv38p1⟩ := hp37
          have hB : SB L R O f37 a0 (x1.toInt.toNat) b := SB_fr hB (hG.1.fr hk (by decide +kernel)) hf37 (by decide +kernel) m_a0 r_a0 m_b r_b
          have hk : fr L R [(4, 1), (5, 2), (5, 4), (5, 5), (5, 6), (5, 7), (8, 1), (8, 2)] [4, 5, 8, 23, 34, 51] f0 f37 := hk.tr hf37 (by decide +kernel) (by decide +kernel)
          have hb22 : fr L R [(4, 1), (5, 4), (5, 5), (5, 6), (5, 7), (8, 1), (8, 2)] [4, 5, 8, 23, 34, 51] f8 f37 := hb22.tr hf37 (by decide +kernel) rfl
          have e39 : fld f37 a0 0 = .ref o2 := (hf37.efl m_a0 r_a0 rfl).trans e18
          have hMa : DM L R f12 f37 b := DM_ks ow hf37 (by decide +kernel) (by decide +kernel) hv38p1 (by have q := hv38p0; rw [qb] at q; exact q) m_b r_b
          have hD : DS f37 a0 0 b := DS_dm hDo hBo.1 (by decide) hf37 (by decide +kernel) (by decide +kernel) m_a0 r_a0 hMa
          have hO : KO L R O (rfa f0 a0 12) f0 f37 := KO_ks hO hv38p1 qTO
          refine lv_aload_n F.1 F.2.1 dX7_saysWanted_66 rfl (lv_at hl 1 rfl) ?_
          refine g_7_85 F h m_a0 r_a0 dX7_saysWanted_67 (fun o40 m_o40 r_o40 ho40 => ?_)
          obtain rfl := (fld_inj e39 ho40).symm
          refine g_7_108 F h m_o2 r_o2 dX7_saysWanted_70 (fun o41 m_o41 r_o41 ho41 => ?_)
          refine lv_aload_n F.1 F.2.1 dX7_saysWanted_73 rfl (lv_at hl 1 rfl) ?_
          refine g_7_57 F h m_a0 r_a0 dX7_saysWanted_74 (fun o42 m_o42 r_o42 ho42 => ?_)
          refine lv_iload F.1 F.2.1 dX7_saysWanted_77 (lv_at hl 4 rfl) ?_
          refine ld_49 F h m_o42 r_o42 (by omega) dX7_saysWanted_79 (fun o43 m_o43 r_o43 => ?_)
          refine tw_Vi (As := [.ref o43]) F hZ h yk_X4_same mw_1223 mw_1224 mw_1225 (s_X4_same l D cy L R O f37 o41 m_o41 r_o41 o43 m_o43 r_o43) rfl rfl m_o41 r_o41 (fun e q => (T_4 e).mp q) rfl hl.1 rfl (Nat.le_of_ble_eq_true rfl) ⟨Nat.le_of_ble_eq_true rfl, Nat.le_of_ble_eq_true rfl⟩ ⟨Nat.le_of_ble_eq_true rfl, Nat.le_of_ble_eq_true rfl⟩ dX7_saysWanted_80 (fun v45 f44 H locs hp44 h => ?_)
          obtain ⟨rfl, hv45a, hv45b⟩ := hp44
          refine lv_istore_n (lv' := [(3, .int v45), (5, .ref o30), (0, .ref a0), (1, .int x1), (4, .int x4_22)]) F.1 F.2.1 dX7_saysWanted_83 rfl hl (by decide) rfl (fun ls hl => ?_)
          refine tu_iinc F dX7_saysWanted_84 hl (k := 4) rfl (by decide) ki_1 (by omega) (fun z46 ls hz46 hl => ?_)
          have hl : lv_has ls 6 [(4, .int z46), (3, .int v45), (5, .ref o30), (0, .ref a0), (1, .int x1)] := hl
          refine lv_goto (tgt := 22) F.1 F.2.1 dX7_saysWanted_87 (by decide) ?_
          exact ih22 f37 _ _ _ v45 z46 (by omega) (by omega) (by omega) (by omega) (by omega) h hD hB hO hk hb22 (lv_sub hl [3, 4, 1, 0] rfl)
  have hb22 : fr L R [(4, 1), (5, 4), (5, 5), (5, 6), (5, 7), (8, 1), (8, 2)] [4, 5, 8, 23, 34, 51] f8 f8 := fr.rf
  exact j_22 (((15 - z11.toInt)).toNat + 1) f8 _ _ _ z1 z11 (by omega) (by omega) (by omega) (by omega) (by omega) h hD hB hO hk hb22 (lv_sub hl [2, 3, 1, 0] rfl)
theorem dX7_saysTalk_0 : decode cX7_saysTalk 0 = .ok (.aload_n 0, 1) := by decide +kernel
theorem dX7_saysTalk_1 : decode cX7_saysTalk 1 = .ok (.getfield 51, 3) := by decide +kernel
theorem dX7_saysTalk_4 : decode cX7_saysTalk 4 = .ok (.iconst 0, 1) := by decide +kernel
theorem dX7_saysTalk_5 : decode cX7_saysTalk 5 = .ok (.aaload, 1) := by decide +kernel
theorem dX7_saysTalk_6 : decode cX7_saysTalk 6 = .ok (.invokevirtual 94, 3) := by decide +kernel
theorem dX7_saysTalk_9 : decode cX7_saysTalk 9 = .ok (.iconst 0, 1) := by decide +kernel
theorem dX7_saysTalk_10 : decode cX7_saysTalk 10 = .ok (.istore_n 3, 1) := by decide +kernel
theorem dX7_saysTalk_11 : decode cX7_saysTalk 11 = .ok (.iload_n 3, 1) := by decide +kernel
theorem dX7_saysTalk_12 : decode cX7_saysTalk 12 = .ok (.aload_n 1, 1) := by decide +kernel
theorem dX7_saysTalk_13 : decode cX7_saysTalk 13 = .ok (.getfield 193, 3) := by decide +kernel
theorem mw_1499 : Cond.fieldLink RX7 193 "AskBack$Talk" "size" "I" ∈ wsL_law := inr_63 _ (List.mem_of_getElem? (i := 11) rfl)
section
variable {p : Program} {l : Launch} {e : Env} {R0 : Room} {s : State} {m : MethodId} {args : Array Value} {below : List Frame} {meth : Method} {c : Code} {H H0 : Heap} {locs : List Loc} {cells slots : Nat} {Q : State → Prop} {cc : ByteArray} {nL : Nat} {D : va_G} {cy : Nat → ClassId} {A : Nat → Prop} {L : List Nat} {R : Nat → Nat} {f : Nat → va_E} {pc : Nat} {ls : Array Slot} {rest : List Value} {a : Nat}
theorem g_7_193 (F : CallFix p m c cc nL s args wsL_law RX7) (h : tS D cy A H0 L R (TT cy L R) f s H locs) (ha : a ∈ L) (hr : R a = 9) (hdg : decode cc pc = .ok (.getfield 193, 3)) (kk : ∀ x : Int32, x.toInt = fi f a 4 → 0 ≤ x.toInt → x.toInt ≤ 15 → W p l e R0 s m args below meth c H locs cells slots Q (F0 m (pc + 3) ls (.int x :: rest))) : W p l e R0 s m args below meth c H locs cells slots Q (F0 m pc ls (.ref a :: rest)) := tu_geti F h ha hr (fun e q => (T_9 e).mp q) rfl inlX9 rfl (Nat.le_of_ble_eq_true rfl) mw_1499 hdg (fun x h1 h2 h3 => kk x h1 h2 h3)
end
theorem dX7_saysTalk_16 : decode cX7_saysTalk 16 = .ok (.if_icmp .ge 54, 3) := by decide +kernel
theorem dX7_saysTalk_70 : decode cX7_saysTalk 70 = .ok (.iconst 1, 1) := by decide +kernel
theorem dX7_saysTalk_71 : decode cX7_saysTalk 71 = .ok (.ireturn, 1) := by decide +kernel
theorem dX7_saysTalk_19 : decode cX7_saysTalk 19 = .ok (.aload_n 0, 1) := by decide +kernel
theorem dX7_saysTalk_20 : decode cX7_saysTalk 20 = .ok (.getfield 85, 3) := by decide +kernel
theorem dX7_saysTalk_23 : decode cX7_saysTalk 23 = .ok (.aload_n 0, 1) := by decide +kernel
theorem dX7_saysTalk_24 : decode cX7_saysTalk 24 = .ok (.getfield 11, 3) := by decide +kernel
theorem dX7_saysTalk_27 : decode cX7_saysTalk 27 = .ok (.iload_n 3, 1) := by decide +kernel
theorem dX7_saysTalk_28 : decode cX7_saysTalk 28 = .ok (.aaload, 1) := by decide +kernel
theorem dX7_saysTalk_29 : decode cX7_saysTalk 29 = .ok (.aload_n 0, 1) := by decide +kernel
theorem dX7_saysTalk_30 : decode cX7_saysTalk 30 = .ok (.getfield 51, 3) := by decide +kernel
theorem dX7_saysTalk_33 : decode cX7_saysTalk 33 = .ok (.iconst 0, 1) := by decide +kernel
theorem dX7_saysTalk_34 : decode cX7_saysTalk 34 = .ok (.aaload, 1) := by decide +kernel
theorem dX7_saysTalk_35 : decode cX7_saysTalk 35 = .ok (.aload_n 0, 1) := by decide +kernel
theorem dX7_saysTalk_36 : decode cX7_saysTalk 36 = .ok (.getfield 61, 3) := by decide +kernel
theorem dX7_saysTalk_39 : decode cX7_saysTalk 39 = .ok (.iload_n 2, 1) := by decide +kernel
theorem dX7_saysTalk_40 : decode cX7_saysTalk 40 = .ok (.invokevirtual 101, 3) := by decide +kernel
theorem dX7_saysTalk_43 : decode cX7_saysTalk 43 = .ok (.aload_n 0, 1) := by decide +kernel
theorem dX7_saysTalk_44 : decode cX7_saysTalk 44 = .ok (.getfield 85, 3) := by decide +kernel
theorem dX7_saysTalk_47 : decode cX7_saysTalk 47 = .ok (.getfield 108, 3) := by decide +kernel
theorem dX7_saysTalk_50 : decode cX7_saysTalk 50 = .ok (.aload_n 1, 1) := by decide +kernel
theorem dX7_saysTalk_51 : decode cX7_saysTalk 51 = .ok (.getfield 196, 3) := by decide +kernel
theorem mw_1500 : Cond.fieldLink RX7 196 "AskBack$Talk" "sayings" "[LAskBack$Row;" ∈ wsL_law := inr_63 _ (List.mem_of_getElem? (i := 12) rfl)
section
variable {p : Program} {l : Launch} {e : Env} {R0 : Room} {s : State} {m : MethodId} {args : Array Value} {below : List Frame} {meth : Method} {c : Code} {H H0 : Heap} {locs : List Loc} {cells slots : Nat} {Q : State → Prop} {cc : ByteArray} {nL : Nat} {D : va_G} {cy : Nat → ClassId} {A : Nat → Prop} {L : List Nat} {R : Nat → Nat} {f : Nat → va_E} {pc : Nat} {ls : Array Slot} {rest : List Value} {a : Nat}
theorem g_7_196 (F : CallFix p m c cc nL s args wsL_law RX7) (h : tS D cy A H0 L R (TT cy L R) f s H locs) (ha : a ∈ L) (hr : R a = 9) (hdg : decode cc pc = .ok (.getfield 196, 3)) (kk : ∀ b : Nat, b ∈ L → R b = 49 → fld f a 1 = .ref b → W p l e R0 s m args below meth c H locs cells slots Q (F0 m (pc + 3) ls (.ref b :: rest))) : W p l e R0 s m args below meth c H locs cells slots Q (F0 m pc ls (.ref a :: rest)) := tu_getr F h ha hr (fun e q => (T_9 e).mp q) rfl inlX9 rfl (Nat.le_of_ble_eq_true rfl) mw_1500 hdg kk
end
theorem dX7_saysTalk_54 : decode cX7_saysTalk 54 = .ok (.iload_n 3, 1) := by decide +kernel
theorem dX7_saysTalk_55 : decode cX7_saysTalk 55 = .ok (.aaload, 1) := by decide +kernel
theorem dX7_saysTalk_56 : decode cX7_saysTalk 56 = .ok (.invokevirtual 126, 3) := by decide +kernel
theorem dX7_saysTalk_59 : decode cX7_saysTalk 59 = .ok (.ifCond .ne 5, 3) := by decide +kernel
theorem dX7_saysTalk_64 : decode cX7_saysTalk 64 = .ok (.iinc 3 1, 3) := by decide +kernel
theorem dX7_saysTalk_67 : decode cX7_saysTalk 67 = .ok (.goto (-56), 3) := by decide +kernel
theorem dX7_saysTalk_62 : decode cX7_saysTalk 62 = .ok (.iconst 0, 1) := by decide +kernel
theorem dX7_saysTalk_63 : decode cX7_saysTalk 63 = .ok (.ireturn, 1) := by decide +kernel
def rm_X7_saysTalk : Room := { frames := 5, cells := 0, slots := 0, locals := 128 }
set_option maxHeartbeats 4000000 in
set_option maxRecDepth 100000 in
theorem s_X7_saysTalk (l : Launch) (D : va_G) (cy : Nat → ClassId) (L : List Nat) (R O : Nat → Nat) (f0 : Nat → va_E) (hG : GG L R O f0) (a0 : Nat) (m_a0 : a0 ∈ L) (r_a0 : R a0 = 7) (a1 : Nat) (m_a1 : a1 ∈ L) (r_a1 : R a1 = 9) (x2 : Int32) (b2 : 0 ≤ x2.toInt ∧ x2.toInt ≤ 6) (pre0 : ∃ b, b ∈ L ∧ R b = 6 ∧ SB L R O f0 a0 ((fi f0 a1 4).toNat) b) : ∀ sz, Met l yX7_saysTalk (Cond.code yX7_saysTalk cX7_saysTalk 4 (some .boolean) :: wsL_law) rm_X7_saysTalk (va_Pc [.ref a0, .ref a1, .int x2] (tPZ D cy L R (TT cy L R) f0 sz)) (va_Qi (fun (r : Int32) f1 => fr L R [(4, 1), (5, 4), (5, 5), (5, 6), (5, 7), (8, 1), (8, 2)] [4, 5, 8, 23, 34, 51] f0 f1 ∧ 0 ≤ r.toInt ∧ r.toInt ≤ 1 ∧ KO L R O (rfa f0 a0 12) f0 f1) (tB D (tA L sz) L R (TT cy L R)) (tA L sz)) 0 0 (tA L sz) := by
  refine tw_enteri (by decide +kernel) rfl (Nat.le_of_ble_eq_true rfl) ?_
  intro p e s m below meth c A ls args Q F hZ h hl hret
  have hl : lv_has ls 4 [(0, .ref a0), (1, .ref a1), (2, .int x2)] := hl
  have hk : fr L R [(4, 1), (5, 4), (5, 5), (5, 6), (5, 7), (8, 1), (8, 2)] [4, 5, 8, 23, 34, 51] f0 f0 := fr.rf
  have t_a1_size := h.bfi m_a1 r_a1 (fun e q => (T_9 e).mp q) (k := 4) rfl
  obtain ⟨b, m_b, r_b, hB⟩ := pre0
  have hB0 := hB
  have hO : KO L R O (rfa f0 a0 12) f0 f0 := KO.rf
  refine lv_aload_n F.1 F.2.1 dX7_saysTalk_0 rfl (lv_at hl 0 rfl) ?_
  refine g_7_51 F h m_a0 r_a0 dX7_saysTalk_1 (fun o1 m_o1 r_o1 ho1 => ?_)
  refine tw_iconst F dX7_saysTalk_4 ki_0 (fun z2 hz2 => ?_)
  refine le_48 F h m_o1 r_o1 (by omega) dX7_saysTalk_5 (fun o3 m_o3 r_o3 eo3 => ?_)
  have qS : elq f0 (rfa f0 a0 12) 0 = some o3 := by have q := elq_a ho1 eo3; rw [SB_e12 hB0 hk (by decide +kernel) m_a0 r_a0, (show z2.toInt.toNat = 0 by omega)] at q; exact q
  have qSO : O o3 = rfa f0 a0 12 := (hB0.1.2.2 0 o3 qS (by decide)).2.2
  refine tw_Vv (As := []) F hZ h yk_X8_refresh mw_1168 mw_627 mw_628 (s_X8_refresh l D cy L R O f0 o3 m_o3 r_o3) rfl rfl m_o3 r_o3 (fun e q => (T_8 e).mp q) rfl hl.1 rfl (Nat.le_of_ble_eq_true rfl) ⟨Nat.le_of_ble_eq_true rfl, Nat.le_of_ble_eq_true rfl⟩ ⟨Nat.le_of_ble_eq_true rfl, Nat.le_of_ble_eq_true rfl⟩ dX7_saysTalk_6 (fun f4 H locs hp4 h => ?_)
  obtain ⟨hf4, hv5p0, hv5p1⟩ := hp4
  have hB : SB L R O f4 a0 ((fi f0 a1 4).toNat) b := SB_fr hB hG.1 hf4 (by decide +kernel) m_a0 r_a0 m_b r_b
  have hk : fr L R [(4, 1), (5, 4), (5, 5), (5, 6), (5, 7), (8, 1), (8, 2)] [4, 5, 8, 23, 34, 51] f0 f4 := hk.tr hf4 rfl rfl
  have e6 : fi f4 a1 4 = fi f0 a1 4 := hf4.efi m_a1 r_a1 rfl
  have hD : DS f4 a0 0 b := DS_one (by rw [SB_e12 hB0 hk (by decide +kernel) m_a0 r_a0]; exact qS) (dg0_DIG hv5p0)
  have hO : KO L R O (rfa f0 a0 12) f0 f4 := KO_ks hO hv5p1 qSO
  refine tw_iconst F dX7_saysTalk_9 ki_0 (fun z7 hz7 => ?_)
  refine lv_istore_n (lv' := [(3, .int z7), (0, .ref a0), (1, .ref a1), (2, .int x2)]) F.1 F.2.1 dX7_saysTalk_10 rfl hl (by decide) rfl (fun ls hl => ?_)
  have j_11 : ∀ (n11 : Nat) (f8 : Nat → va_E) (H : Heap) (locs : List Loc) (ls : Array Slot) (x3_11 : Int32), 0 ≤ x3_11.toInt → x3_11.toInt ≤ 15 → ((15 - x3_11.toInt)).toNat < n11 → tS D cy A s.heap L R (TT cy L R) f8 s H locs → DS f8 a0 0 b → SB L R O f8 a0 ((fi f0 a1 4).toNat) b → KO L R O (rfa f0 a0 12) f0 f8 → fr L R [(4, 1), (5, 4), (5, 5), (5, 6), (5, 7), (8, 1), (8, 2)] [4, 5, 8, 23, 34, 51] f0 f8 → fr L R [(4, 1), (5, 4), (5, 5), (5, 6), (5, 7), (8, 1), (8, 2)] [4, 5, 8, 23, 34, 51] f4 f8 → lv_has ls 4 [(0, .ref a0), (1, .ref a1), (2, .int x2), (3, .int x3_11)] → W p l e rm_X7_saysTalk s m args below meth c H locs 0 0 Q (F0 m 11 ls []) := by
    intro n11
    induction n11 with
    | zero =>
      intro f8 H locs ls x3_11 b9 b10 b11 h hD hB hO hk hb11 hl
      exfalso
      omega
    | succ n11 ih11 =>
      intro f8 H locs ls x3_11 b9 b10 b11 h hD hB hO hk hb11 hl
      have e12 : fi f8 a1 4 = fi f4 a1 4 := hb11.efi m_a1 r_a1 rfl
      refine lv_iload_n F.1 F.2.1 dX7_saysTalk_11 rfl (lv_at hl 3 rfl) ?_
      refine lv_aload_n F.1 F.2.1 dX7_saysTalk_12 rfl (lv_at hl 1 rfl) ?_
      refine g_7_193 F h m_a1 r_a1 dX7_saysTalk_13 (fun v13 hv13 hv13a hv13b => ?_)
      refine tw_icmp_ge (tgt := 70) F dX7_saysTalk_16 (by decide) (fun b14 => ?_) (fun b14 => ?_)
      · refine tw_iconst F dX7_saysTalk_70 ki_1 (fun z15 hz15 => ?_)
        exact hret f8 _ _ _ _ z15 dX7_saysTalk_71 (tw_nb (by omega)) ⟨hk, by omega, by omega, hO⟩ h
      · refine lv_aload_n F.1 F.2.1 dX7_saysTalk_19 rfl (lv_at hl 0 rfl) ?_
        refine g_7_85 F h m_a0 r_a0 dX7_saysTalk_20 (fun o16 m_o16 r_o16 ho16 => ?_)
        refine lv_aload_n F.1 F.2.1 dX7_saysTalk_23 rfl (lv_at hl 0 rfl) ?_
        refine g_7_11 F h m_a0 r_a0 dX7_saysTalk_24 (fun o17 m_o17 r_o17 ho17 => ?_)
        refine lv_iload_n F.1 F.2.1 dX7_saysTalk_27 rfl (lv_at hl 3 rfl) ?_
        refine le_45 F h m_o17 r_o17 (by omega) dX7_saysTalk_28 (fun o18 m_o18 r_o18 eo18 => ?_)
        have qE : elq f0 (rfa f0 a0 1) x3_11.toInt.toNat = some o18 := by rw [← SB_e1 hB0 hk (by decide +kernel) m_a0 r_a0]; exact elq_a ho17 eo18
        refine lv_aload_n F.1 F.2.1 dX7_saysTalk_29 rfl (lv_at hl 0 rfl) ?_
        refine g_7_51 F h m_a0 r_a0 dX7_saysTalk_30 (fun o19 m_o19 r_o19 ho19 => ?_)
        refine tw_iconst F dX7_saysTalk_33 ki_0 (fun z20 hz20 => ?_)
        refine le_48 F h m_o19 r_o19 (by omega) dX7_saysTalk_34 (fun o21 m_o21 r_o21 eo21 => ?_)
        have qT : elq f0 (rfa f0 a0 12) 0 = some o21 := by have q := elq_a ho19 eo21; rw [SB_e12 hB0 hk (by decide +kernel) m_a0 r_a0, (show z20.toInt.toNat = 0 by omega)] at q; exact q
        have qTO : O o21 = rfa f0 a0 12 := (hB0.1.2.2 0 o21 qT (by decide)).2.2
        refine lv_aload_n F.1 F.2.1 dX7_saysTalk_35 rfl (lv_at hl 0 rfl) ?_
        refine g_7_61 F h m_a0 r_a0 dX7_saysTalk_36 (fun o22 m_o22 r_o22 ho22 => ?_)
        refine lv_iload_n F.1 F.2.1 dX7_saysTalk_39 rfl (lv_at hl 2 rfl) ?_
        have qb : rfa f8 o18 0 = b := SB_b hB (by rw [SB_e1 hB0 hk (by decide +kernel) m_a0 r_a0]; exact qE) (by omega)
        have ow := (hG.1.fr hk (by decide +kernel))
        have hBo := hB
        have hDo := hD
        refine tw_Vv (As := [.ref o18, .ref o21, .ref o22, .int x2]) F hZ h yk_X5_answer mw_1169 mw_959 mw_960 (s_X5_answer_b l D cy L R O f8 (hG.fr hk (by decide +kernel) (by decide +kernel)) o16 m_o16 r_o16 o18 m_o18 r_o18 o21 m_o21 r_o21 o22 m_o22 r_o22 x2 ⟨by omega, by omega⟩ (SB_p0 hB (by rw [SB_e1 hB0 hk (by decide +kernel) m_a0 r_a0]; exact qE) (by omega)) (by rw [qb]; exact hD _ (by rw [SB_e12 hB0 hk (by decide +kernel) m_a0 r_a0]; exact qT))) rfl rfl m_o16 r_o16 (fun e q => (T_5 e).mp q) rfl hl.1 rfl (Nat.le_of_ble_eq_true rfl) ⟨Nat.le_of_ble_eq_true rfl, Nat.le_of_ble_eq_true rfl⟩ ⟨Nat.le_of_ble_eq_true rfl, Nat.le_of_ble_eq_true rfl⟩ dX7_saysTalk_40 (fun f23 H locs hp23 h => ?_)
        obtain ⟨hf23, hv24p0, hv24p1⟩ := hp23
        have hB : SB L R O f23 a0 ((fi f0 a1 4).toNat) b := SB_fr hB (hG.1.fr hk (by decide +kernel)) hf23 (by decide +kernel) m_a0 r_a0 m_b r_b
        have hk : fr L R [(4, 1), (5, 4), (5, 5), (5, 6), (5, 7), (8, 1), (8, 2)] [4, 5, 8, 23, 34, 51] f0 f23 := hk.tr hf23 (by decide +kernel) (by decide +kernel)
        have hb11 : fr L R [(4, 1), (5, 4), (5, 5), (5, 6), (5, 7), (8, 1), (8, 2)] [4, 5, 8, 23, 34, 51] f4 f23 := hb11.tr hf23 (by decide +kernel) rfl
        have e25 : fi f23 a1 4 = fi f8 a1 4 := hf23.efi m_a1 r_a1 rfl
        have e26 : fld f23 a0 0 = .ref o16 := (hf23.efl m_a0 r_a0 rfl).trans ho16
        have hMa : DM L R f8 f23 b := DM_ks ow hf23 (by decide +kernel) (by decide +kernel) hv24p1 (by have q := hv24p0; rw [qb] at q; exact q) m_b r_b
        have hD : DS f23 a0 0 b := DS_dm hDo hBo.1 (by decide) hf23 (by decide +kernel) (by decide +kernel) m_a0 r_a0 hMa
        have hO : KO L R O (rfa f0 a0 12) f0 f23 := KO_ks hO hv24p1 qTO
        refine lv_aload_n F.1 F.2.1 dX7_saysTalk_43 rfl (lv_at hl 0 rfl) ?_
        refine g_7_85 F h m_a0 r_a0 dX7_saysTalk_44 (fun o27 m_o27 r_o27 ho27 => ?_)
        obtain rfl := (fld_inj e26 ho27).symm
        refine g_7_108 F h m_o16 r_o16 dX7_saysTalk_47 (fun o28 m_o28 r_o28 ho28 => ?_)
        refine lv_aload_n F.1 F.2.1 dX7_saysTalk_50 rfl (lv_at hl 1 rfl) ?_
        refine g_7_196 F h m_a1 r_a1 dX7_saysTalk_51 (fun o29 m_o29 r_o29 ho29 => ?_)
        refine lv_iload_n F.1 F.2.1 dX7_saysTalk_54 rfl (lv_at hl 3 rfl) ?_
        refine ld_49 F h m_o29 r_o29 (by omega) dX7_saysTalk_55 (fun o30 m_o30 r_o30 => ?_)
        refine tw_Vi (As := [.ref o30]) F hZ h yk_X4_same mw_1223 mw_1224 mw_1225 (s_X4_same l D cy L R O f23 o28 m_o28 r_o28 o30 m_o30 r_o30) rfl rfl m_o28 r_o28 (fun e q => (T_4 e).mp q) rfl hl.1 rfl (Nat.le_of_ble_eq_true rfl) ⟨Nat.le_of_ble_eq_true rfl, Nat.le_of_ble_eq_true rfl⟩ ⟨Nat.le_of_ble_eq_true rfl, Nat.le_of_ble_eq_true rfl⟩ dX7_saysTalk_56 (fun v32 f31 H locs hp31 h => ?_)
        obtain ⟨rfl, hv32a, hv32b⟩ := hp31
        refine tw_if_ne (tgt := 64) F dX7_saysTalk_59 (by decide) (fun b33 => ?_) (fun b33 => ?_)
        · refine tu_iinc F dX7_saysTalk_64 hl (k := 3) rfl (by decide) ki_1 (by omega) (fun z34 ls hz34 hl => ?_)
          have hl : lv_has ls 4 [(3, .int z34), (0, .ref a0), (1, .ref a1), (2, .int x2)] := hl
          refine lv_goto (tgt := 11) F.1 F.2.1 dX7_saysTalk_67 (by decide) ?_
          exact ih11 f23 _ _ _ z34 (by omega) (by omega) (by omega) h hD hB hO hk hb11 (lv_sub hl [1, 2, 3, 0] rfl)
        · refine tw_iconst F dX7_saysTalk_62 ki_0 (fun z35 hz35 => ?_)
          exact hret f23 _ _ _ _ z35 dX7_saysTalk_63 (tw_nb (by omega)) ⟨hk, by omega, by omega, hO⟩ h
  have hb11 : fr L R [(4, 1), (5, 4), (5, 5), (5, 6), (5, 7), (8, 1), (8, 2)] [4, 5, 8, 23, 34, 51] f4 f4 := fr.rf
  exact j_11 (((15 - z7.toInt)).toNat + 1) f4 _ _ _ z7 (by omega) (by omega) (by omega) h hD hB hO hk hb11 (lv_sub hl [1, 2, 3, 0] rfl)
theorem dX7_mendByRules_0 : decode cX7_mendByRules 0 = .ok (.aload_n 0, 1) := by decide +kernel
theorem dX7_mendByRules_1 : decode cX7_mendByRules 1 = .ok (.iconst 0, 1) := by decide +kernel
theorem dX7_mendByRules_2 : decode cX7_mendByRules 2 = .ok (.putfield 34, 3) := by decide +kernel
theorem dX7_mendByRules_5 : decode cX7_mendByRules 5 = .ok (.aload_n 0, 1) := by decide +kernel
theorem dX7_mendByRules_6 : decode cX7_mendByRules 6 = .ok (.iconst (-1), 1) := by decide +kernel
theorem dX7_mendByRules_7 : decode cX7_mendByRules 7 = .ok (.putfield 37, 3) := by decide +kernel
theorem dX7_mendByRules_10 : decode cX7_mendByRules 10 = .ok (.iconst 0, 1) := by decide +kernel
theorem dX7_mendByRules_11 : decode cX7_mendByRules 11 = .ok (.istore 4, 2) := by decide +kernel
theorem dX7_mendByRules_13 : decode cX7_mendByRules 13 = .ok (.iload 4, 2) := by decide +kernel
theorem dX7_mendByRules_15 : decode cX7_mendByRules 15 = .ok (.iload_n 3, 1) := by decide +kernel
theorem dX7_mendByRules_16 : decode cX7_mendByRules 16 = .ok (.if_icmp .ge 32, 3) := by decide +kernel
theorem dX7_mendByRules_48 : decode cX7_mendByRules 48 = .ok (.aload_n 0, 1) := by decide +kernel
theorem dX7_mendByRules_49 : decode cX7_mendByRules 49 = .ok (.getfield 85, 3) := by decide +kernel
theorem dX7_mendByRules_52 : decode cX7_mendByRules 52 = .ok (.iconst 0, 1) := by decide +kernel
theorem dX7_mendByRules_53 : decode cX7_mendByRules 53 = .ok (.putfield 156, 3) := by decide +kernel
theorem dX7_mendByRules_56 : decode cX7_mendByRules 56 = .ok (.return_, 1) := by decide +kernel
theorem dX7_mendByRules_19 : decode cX7_mendByRules 19 = .ok (.aload_n 0, 1) := by decide +kernel
theorem dX7_mendByRules_20 : decode cX7_mendByRules 20 = .ok (.getfield 85, 3) := by decide +kernel
theorem dX7_mendByRules_23 : decode cX7_mendByRules 23 = .ok (.iconst 1, 1) := by decide +kernel
theorem dX7_mendByRules_24 : decode cX7_mendByRules 24 = .ok (.iload 4, 2) := by decide +kernel
theorem dX7_mendByRules_26 : decode cX7_mendByRules 26 = .ok (.ishl, 1) := by decide +kernel
theorem dX7_mendByRules_27 : decode cX7_mendByRules 27 = .ok (.putfield 156, 3) := by decide +kernel
theorem dX7_mendByRules_30 : decode cX7_mendByRules 30 = .ok (.aload_n 0, 1) := by decide +kernel
theorem dX7_mendByRules_31 : decode cX7_mendByRules 31 = .ok (.iload 4, 2) := by decide +kernel
theorem dX7_mendByRules_33 : decode cX7_mendByRules 33 = .ok (.aload_n 0, 1) := by decide +kernel
theorem dX7_mendByRules_34 : decode cX7_mendByRules 34 = .ok (.aload_n 1, 1) := by decide +kernel
theorem dX7_mendByRules_35 : decode cX7_mendByRules 35 = .ok (.iload_n 2, 1) := by decide +kernel
theorem dX7_mendByRules_36 : decode cX7_mendByRules 36 = .ok (.invokevirtual 159, 3) := by decide +kernel
theorem mw_1374 : Cond.methodLink RX7 159 yX7_firstBroke ∈ wsL_law := inr_58 _ (List.mem_of_getElem? (i := 6) rfl)
theorem mw_1344 : Cond.code yX7_firstBroke cX7_firstBroke 5 (some .int) ∈ wsL_law := inr_57 _ (List.mem_of_getElem? (i := 0) rfl)
theorem yk_X7_firstBroke : xY yX7_firstBroke RX7 cX7_firstBroke 5 (some .int) 2 := ⟨⟨rfl, by decide +kernel, by decide +kernel, by decide +kernel⟩, mw_32, mw_1344⟩
theorem mw_1342 : Cond.instanceMethod yX7_firstBroke ∈ wsL_law := inr_56 _ (List.mem_of_getElem? (i := 22) rfl)
theorem mw_1343 : Cond.selects RX7 yX7_firstBroke yX7_firstBroke ∈ wsL_law := inr_56 _ (List.mem_of_getElem? (i := 23) rfl)
theorem dX7_mendByRules_39 : decode cX7_mendByRules 39 = .ok (.invokevirtual 163, 3) := by decide +kernel
theorem mw_1375 : Cond.methodLink RX7 163 yX7_countMend ∈ wsL_law := inr_58 _ (List.mem_of_getElem? (i := 7) rfl)
theorem mw_1378 : Cond.code yX7_countMend cX7_countMend 3 none ∈ wsL_law := inr_58 _ (List.mem_of_getElem? (i := 10) rfl)
theorem yk_X7_countMend : xY yX7_countMend RX7 cX7_countMend 3 none 2 := ⟨⟨rfl, by decide +kernel, by decide +kernel, by decide +kernel⟩, mw_32, mw_1378⟩
theorem mw_1376 : Cond.instanceMethod yX7_countMend ∈ wsL_law := inr_58 _ (List.mem_of_getElem? (i := 8) rfl)
theorem mw_1377 : Cond.selects RX7 yX7_countMend yX7_countMend ∈ wsL_law := inr_58 _ (List.mem_of_getElem? (i := 9) rfl)
theorem dX7_mendByRules_42 : decode cX7_mendByRules 42 = .ok (.iinc 4 1, 3) := by decide +kernel
theorem dX7_mendByRules_45 : decode cX7_mendByRules 45 = .ok (.goto (-32), 3) := by decide +kernel
def rm_X7_mendByRules : Room := { frames := 6, cells := 0, slots := 0, locals := 152 }
set_option maxHeartbeats 4000000 in
set_option maxRecDepth 100000 in
theorem s_X7_mendByRules (l : Launch) (D : va_G) (cy : Nat → ClassId) (L : List Nat) (R O : Nat → Nat) (f0 : Nat → va_E) (hG : GG L R O f0) (a0 : Nat) (m_a0 : a0 ∈ L) (r_a0 : R a0 = 7) (a1 : Nat) (m_a1 : a1 ∈ L) (r_a1 : R a1 = 0) (x2 : Int32) (b2 : 0 ≤ x2.toInt ∧ x2.toInt ≤ 16) (x3 : Int32) (b3 : 0 ≤ x3.toInt ∧ x3.toInt ≤ 24) (pre0 : ∃ b, b ∈ L ∧ R b = 6 ∧ SB L R O f0 a0 (x2.toInt.toNat) b) : ∀ sz, Met l yX7_mendByRules (Cond.code yX7_mendByRules cX7_mendByRules 5 none :: wsL_law) rm_X7_mendByRules (va_Pc [.ref a0, .ref a1, .int x2, .int x3] (tPZ D cy L R (TT cy L R) f0 sz)) (va_Qv (fun f1 => fr L R [(4, 1), (5, 2), (5, 4), (5, 5), (5, 6), (5, 7), (7, 7), (7, 8), (8, 1), (8, 2)] [4, 5, 7, 8, 23, 34, 51] f0 f1 ∧ KO L R O (rfa f0 a0 12) f0 f1) (tB D (tA L sz) L R (TT cy L R)) (tA L sz)) 0 0 (tA L sz) := by
  refine tw_enterv (by decide +kernel) rfl (Nat.le_of_ble_eq_true rfl) ?_
  intro p e s m below meth c A ls args Q F hZ h hl hret
  have hl : lv_has ls 5 [(0, .ref a0), (1, .ref a1), (2, .int x2), (3, .int x3)] := hl
  have hk : fr L R [(4, 1), (5, 2), (5, 4), (5, 5), (5, 6), (5, 7), (7, 7), (7, 8), (8, 1), (8, 2)] [4, 5, 7, 8, 23, 34, 51] f0 f0 := fr.rf
  obtain ⟨b, m_b, r_b, hB⟩ := pre0
  have hB0 := hB
  have hO : KO L R O (rfa f0 a0 12) f0 f0 := KO.rf
  refine lv_aload_n F.1 F.2.1 dX7_mendByRules_0 rfl (lv_at hl 0 rfl) ?_
  refine tw_iconst F dX7_mendByRules_1 ki_0 (fun z1 hz1 => ?_)
  refine p_7_34 F h m_a0 r_a0 dX7_mendByRules_2 (fun f2 H locs e2p hf2 h => ?_)
  have hB : SB L R O f2 a0 (x2.toInt.toNat) b := SB_fr hB hG.1 hf2 (by decide +kernel) m_a0 r_a0 m_b r_b
  have hO : KO L R O (rfa f0 a0 12) f0 f2 := KO_fr hO hf2 (by decide +kernel)
  have hk : fr L R [(4, 1), (5, 2), (5, 4), (5, 5), (5, 6), (5, 7), (7, 7), (7, 8), (8, 1), (8, 2)] [4, 5, 7, 8, 23, 34, 51] f0 f2 := hk.tr hf2 rfl rfl
  refine lv_aload_n F.1 F.2.1 dX7_mendByRules_5 rfl (lv_at hl 0 rfl) ?_
  refine tw_iconst F dX7_mendByRules_6 ki_m1 (fun z3 hz3 => ?_)
  refine p_7_37 F h m_a0 r_a0 dX7_mendByRules_7 (fun f4 H locs e4p hf4 h => ?_)
  have hB : SB L R O f4 a0 (x2.toInt.toNat) b := SB_fr hB (hG.1.fr hk (by decide +kernel)) hf4 (by decide +kernel) m_a0 r_a0 m_b r_b
  have hO : KO L R O (rfa f0 a0 12) f0 f4 := KO_fr hO hf4 (by decide +kernel)
  have hk : fr L R [(4, 1), (5, 2), (5, 4), (5, 5), (5, 6), (5, 7), (7, 7), (7, 8), (8, 1), (8, 2)] [4, 5, 7, 8, 23, 34, 51] f0 f4 := hk.tr hf4 rfl rfl
  refine tw_iconst F dX7_mendByRules_10 ki_0 (fun z5 hz5 => ?_)
  refine lv_istore (lv' := [(4, .int z5), (0, .ref a0), (1, .ref a1), (2, .int x2), (3, .int x3)]) F.1 F.2.1 dX7_mendByRules_11 hl (by decide) rfl (fun ls hl => ?_)
  have j_13 : ∀ (n13 : Nat) (f6 : Nat → va_E) (H : Heap) (locs : List Loc) (ls : Array Slot) (x4_13 : Int32), 0 ≤ x4_13.toInt → x4_13.toInt ≤ 24 → ((24 - x4_13.toInt)).toNat < n13 → tS D cy A s.heap L R (TT cy L R) f6 s H locs → SB L R O f6 a0 (x2.toInt.toNat) b → KO L R O (rfa f0 a0 12) f0 f6 → fr L R [(4, 1), (5, 2), (5, 4), (5, 5), (5, 6), (5, 7), (7, 7), (7, 8), (8, 1), (8, 2)] [4, 5, 7, 8, 23, 34, 51] f0 f6 → lv_has ls 5 [(0, .ref a0), (1, .ref a1), (2, .int x2), (3, .int x3), (4, .int x4_13)] → W p l e rm_X7_mendByRules s m args below meth c H locs 0 0 Q (F0 m 13 ls []) := by
    intro n13
    induction n13 with
    | zero =>
      intro f6 H locs ls x4_13 b7 b8 b9 h hB hO hk hl
      exfalso
      omega
    | succ n13 ih13 =>
      intro f6 H locs ls x4_13 b7 b8 b9 h hB hO hk hl
      refine lv_iload F.1 F.2.1 dX7_mendByRules_13 (lv_at hl 4 rfl) ?_
      refine lv_iload_n F.1 F.2.1 dX7_mendByRules_15 rfl (lv_at hl 3 rfl) ?_
      refine tw_icmp_ge (tgt := 48) F dX7_mendByRules_16 (by decide) (fun b10 => ?_) (fun b10 => ?_)
      · refine lv_aload_n F.1 F.2.1 dX7_mendByRules_48 rfl (lv_at hl 0 rfl) ?_
        refine g_7_85 F h m_a0 r_a0 dX7_mendByRules_49 (fun o11 m_o11 r_o11 ho11 => ?_)
        refine tw_iconst F dX7_mendByRules_52 ki_0 (fun z12 hz12 => ?_)
        refine p_7_156 F h m_o11 r_o11 dX7_mendByRules_53 (fun f13 H locs e13p hf13 h => ?_)
        have hB : SB L R O f13 a0 (x2.toInt.toNat) b := SB_fr hB (hG.1.fr hk (by decide +kernel)) hf13 (by decide +kernel) m_a0 r_a0 m_b r_b
        have hO : KO L R O (rfa f0 a0 12) f0 f13 := KO_fr hO hf13 (by decide +kernel)
        have hk : fr L R [(4, 1), (5, 2), (5, 4), (5, 5), (5, 6), (5, 7), (7, 7), (7, 8), (8, 1), (8, 2)] [4, 5, 7, 8, 23, 34, 51] f0 f13 := hk.tr hf13 rfl rfl
        have e14 : fld f13 a0 0 = .ref o11 := (hf13.efl m_a0 r_a0 rfl).trans ho11
        exact hret f13 _ _ _ _ dX7_mendByRules_56 ⟨hk, hO⟩ h
      · refine lv_aload_n F.1 F.2.1 dX7_mendByRules_19 rfl (lv_at hl 0 rfl) ?_
        refine g_7_85 F h m_a0 r_a0 dX7_mendByRules_20 (fun o15 m_o15 r_o15 ho15 => ?_)
        refine tw_iconst F dX7_mendByRules_23 ki_1 (fun z16 hz16 => ?_)
        refine lv_iload F.1 F.2.1 dX7_mendByRules_24 (lv_at hl 4 rfl) ?_
        refine lv_ishl F.1 F.2.1 dX7_mendByRules_26 ?_
        refine lv_topi (fun z17 _ => ?_)
        refine p_7_156 F h m_o15 r_o15 dX7_mendByRules_27 (fun f18 H locs e18p hf18 h => ?_)
        have hB : SB L R O f18 a0 (x2.toInt.toNat) b := SB_fr hB (hG.1.fr hk (by decide +kernel)) hf18 (by decide +kernel) m_a0 r_a0 m_b r_b
        have hO : KO L R O (rfa f0 a0 12) f0 f18 := KO_fr hO hf18 (by decide +kernel)
        have hk : fr L R [(4, 1), (5, 2), (5, 4), (5, 5), (5, 6), (5, 7), (7, 7), (7, 8), (8, 1), (8, 2)] [4, 5, 7, 8, 23, 34, 51] f0 f18 := hk.tr hf18 rfl rfl
        have e19 : fld f18 a0 0 = .ref o15 := (hf18.efl m_a0 r_a0 rfl).trans ho15
        refine lv_aload_n F.1 F.2.1 dX7_mendByRules_30 rfl (lv_at hl 0 rfl) ?_
        refine lv_iload F.1 F.2.1 dX7_mendByRules_31 (lv_at hl 4 rfl) ?_
        refine lv_aload_n F.1 F.2.1 dX7_mendByRules_33 rfl (lv_at hl 0 rfl) ?_
        refine lv_aload_n F.1 F.2.1 dX7_mendByRules_34 rfl (lv_at hl 1 rfl) ?_
        refine lv_iload_n F.1 F.2.1 dX7_mendByRules_35 rfl (lv_at hl 2 rfl) ?_
        have hk0_36 : rfa f18 a0 12 = rfa f0 a0 12 := hk.erf m_a0 r_a0 (by decide +kernel)
        refine tw_Vi (As := [.ref a1, .int x2]) F hZ h yk_X7_firstBroke mw_1374 mw_1342 mw_1343 (s_X7_firstBroke l D cy L R O f18 (hG.fr hk (by decide +kernel) (by decide +kernel)) a0 m_a0 r_a0 a1 m_a1 r_a1 x2 ⟨by omega, by omega⟩ ⟨b, m_b, r_b, hB⟩) rfl rfl m_a0 r_a0 (fun e q => (T_7 e).mp q) rfl hl.1 rfl (Nat.le_of_ble_eq_true rfl) ⟨Nat.le_of_ble_eq_true rfl, Nat.le_of_ble_eq_true rfl⟩ ⟨Nat.le_of_ble_eq_true rfl, Nat.le_of_ble_eq_true rfl⟩ dX7_mendByRules_36 (fun v21 f20 H locs hp20 h => ?_)
        obtain ⟨hf20, hv21a, hv21b, hv21p0⟩ := hp20
        have hB : SB L R O f20 a0 (x2.toInt.toNat) b := SB_fr hB (hG.1.fr hk (by decide +kernel)) hf20 (by decide +kernel) m_a0 r_a0 m_b r_b
        have hk : fr L R [(4, 1), (5, 2), (5, 4), (5, 5), (5, 6), (5, 7), (7, 7), (7, 8), (8, 1), (8, 2)] [4, 5, 7, 8, 23, 34, 51] f0 f20 := hk.tr hf20 (by decide +kernel) (by decide +kernel)
        have e22 : fld f20 a0 0 = .ref o15 := (hf20.efl m_a0 r_a0 rfl).trans e19
        have hO : KO L R O (rfa f0 a0 12) f0 f20 := hO.tr (by have q := hv21p0; rw [hk0_36] at q; exact q)
        refine tw_Vv (As := [.int x4_13, .int v21]) F hZ h yk_X7_countMend mw_1375 mw_1376 mw_1377 (s_X7_countMend l D cy L R O f20 a0 m_a0 r_a0 x4_13 ⟨by omega, by omega⟩ v21 ⟨by omega, by omega⟩) rfl rfl m_a0 r_a0 (fun e q => (T_7 e).mp q) rfl hl.1 rfl (Nat.le_of_ble_eq_true rfl) ⟨Nat.le_of_ble_eq_true rfl, Nat.le_of_ble_eq_true rfl⟩ ⟨Nat.le_of_ble_eq_true rfl, Nat.le_of_ble_eq_true rfl⟩ dX7_mendByRules_39 (fun f23 H locs hp23 h => ?_)
        have hf23 := hp23
        have hB : SB L R O f23 a0 (x2.toInt.toNat) b := SB_fr hB (hG.1.fr hk (by decide +kernel)) hf23 (by decide +kernel) m_a0 r_a0 m_b r_b
        have hO : KO L R O (rfa f0 a0 12) f0 f23 := KO_fr hO hf23 (by decide +kernel)
        have hk : fr L R [(4, 1), (5, 2), (5, 4), (5, 5), (5, 6), (5, 7), (7, 7), (7, 8), (8, 1), (8, 2)] [4, 5, 7, 8, 23, 34, 51] f0 f23 := hk.tr hf23 rfl rfl
        have e25 : fld f23 a0 0 = .ref o15 := (hf23.efl m_a0 r_a0 rfl).trans e22
        refine tu_iinc F dX7_mendByRules_42 hl (k := 4) rfl (by decide) ki_1 (by omega) (fun z26 ls hz26 hl => ?_)
        have hl : lv_has ls 5 [(4, .int z26), (0, .ref a0), (1, .ref a1), (2, .int x2), (3, .int x3)] := hl
        refine lv_goto (tgt := 13) F.1 F.2.1 dX7_mendByRules_45 (by decide) ?_
        exact ih13 f23 _ _ _ z26 (by omega) (by omega) (by omega) h hB hO hk (lv_sub hl [1, 2, 3, 4, 0] rfl)
  exact j_13 (((24 - z5.toInt)).toNat + 1) f4 _ _ _ z5 (by omega) (by omega) (by omega) h hB hO hk (lv_sub hl [1, 2, 3, 4, 0] rfl)
theorem dX7_mendByTurns_0 : decode cX7_mendByTurns 0 = .ok (.aload_n 0, 1) := by decide +kernel
theorem dX7_mendByTurns_1 : decode cX7_mendByTurns 1 = .ok (.iconst 0, 1) := by decide +kernel
theorem dX7_mendByTurns_2 : decode cX7_mendByTurns 2 = .ok (.putfield 34, 3) := by decide +kernel
theorem dX7_mendByTurns_5 : decode cX7_mendByTurns 5 = .ok (.aload_n 0, 1) := by decide +kernel
theorem dX7_mendByTurns_6 : decode cX7_mendByTurns 6 = .ok (.iconst (-1), 1) := by decide +kernel
theorem dX7_mendByTurns_7 : decode cX7_mendByTurns 7 = .ok (.putfield 37, 3) := by decide +kernel
theorem dX7_mendByTurns_10 : decode cX7_mendByTurns 10 = .ok (.iconst 0, 1) := by decide +kernel
theorem dX7_mendByTurns_11 : decode cX7_mendByTurns 11 = .ok (.istore 4, 2) := by decide +kernel
theorem dX7_mendByTurns_13 : decode cX7_mendByTurns 13 = .ok (.iload 4, 2) := by decide +kernel
theorem dX7_mendByTurns_15 : decode cX7_mendByTurns 15 = .ok (.iload_n 3, 1) := by decide +kernel
theorem dX7_mendByTurns_16 : decode cX7_mendByTurns 16 = .ok (.if_icmp .ge 30, 3) := by decide +kernel
theorem dX7_mendByTurns_46 : decode cX7_mendByTurns 46 = .ok (.aload_n 0, 1) := by decide +kernel
theorem dX7_mendByTurns_47 : decode cX7_mendByTurns 47 = .ok (.getfield 85, 3) := by decide +kernel
theorem dX7_mendByTurns_50 : decode cX7_mendByTurns 50 = .ok (.iconst (-1), 1) := by decide +kernel
theorem dX7_mendByTurns_51 : decode cX7_mendByTurns 51 = .ok (.putfield 166, 3) := by decide +kernel
theorem mw_1383 : Cond.fieldLink RX7 166 "AskBack$Sayer" "turnOut" "I" ∈ wsL_law := inr_58 _ (List.mem_of_getElem? (i := 15) rfl)
section
variable {p : Program} {l : Launch} {e : Env} {R0 : Room} {s : State} {m : MethodId} {args : Array Value} {below : List Frame} {meth : Method} {c : Code} {H H0 : Heap} {locs : List Loc} {cells slots : Nat} {Q : State → Prop} {cc : ByteArray} {nL : Nat} {D : va_G} {cy : Nat → ClassId} {A : Nat → Prop} {L : List Nat} {R : Nat → Nat} {f : Nat → va_E} {pc : Nat} {ls : Array Slot} {rest : List Value} {a : Nat}
theorem p_7_166 (F : CallFix p m c cc nL s args wsL_law RX7) (h : tS D cy A H0 L R (TT cy L R) f s H locs) {x : Int32} (ha : a ∈ L) (hr : R a = 5) (hdg : decode cc pc = .ok (.putfield 166, 3)) (kk : ∀ (f1 : Nat → va_E) (H1 : Heap) (locs1 : List Loc), fi f1 a 3 = x.toInt → fr L R [(5, 3)] [5] f f1 → tS D cy A H0 L R (TT cy L R) f1 s H1 locs1 → W p l e R0 s m args below meth c H1 locs1 cells slots Q (F0 m (pc + 3) ls (rest))) : W p l e R0 s m args below meth c H locs cells slots Q (F0 m pc ls (.int x :: .ref a :: rest)) := tu_puti (k := 3) F h ha hr T_5 rfl (tb_i x).1 (tb_i x).2 inlX5 tyX5_ok nmX5 rfl (Nat.le_of_ble_eq_true rfl) mw_1383 rfl rfl rfl hdg kk
end
theorem dX7_mendByTurns_54 : decode cX7_mendByTurns 54 = .ok (.return_, 1) := by decide +kernel
theorem dX7_mendByTurns_19 : decode cX7_mendByTurns 19 = .ok (.aload_n 0, 1) := by decide +kernel
theorem dX7_mendByTurns_20 : decode cX7_mendByTurns 20 = .ok (.getfield 85, 3) := by decide +kernel
theorem dX7_mendByTurns_23 : decode cX7_mendByTurns 23 = .ok (.iload 4, 2) := by decide +kernel
theorem dX7_mendByTurns_25 : decode cX7_mendByTurns 25 = .ok (.putfield 166, 3) := by decide +kernel
theorem dX7_mendByTurns_28 : decode cX7_mendByTurns 28 = .ok (.aload_n 0, 1) := by decide +kernel
theorem dX7_mendByTurns_29 : decode cX7_mendByTurns 29 = .ok (.iload 4, 2) := by decide +kernel
theorem dX7_mendByTurns_31 : decode cX7_mendByTurns 31 = .ok (.aload_n 0, 1) := by decide +kernel
theorem dX7_mendByTurns_32 : decode cX7_mendByTurns 32 = .ok (.aload_n 1, 1) := by decide +kernel
theorem dX7_mendByTurns_33 : decode cX7_mendByTurns 33 = .ok (.iload_n 2, 1) := by decide +kernel
theorem dX7_mendByTurns_34 : decode cX7_mendByTurns 34 = .ok (.invokevirtual 159, 3) := by decide +kernel
theorem dX7_mendByTurns_37 : decode cX7_mendByTurns 37 = .ok (.invokevirtual 163, 3) := by decide +kernel
theorem dX7_mendByTurns_40 : decode cX7_mendByTurns 40 = .ok (.iinc 4 1, 3) := by decide +kernel
theorem dX7_mendByTurns_43 : decode cX7_mendByTurns 43 = .ok (.goto (-30), 3) := by decide +kernel
def rm_X7_mendByTurns : Room := { frames := 6, cells := 0, slots := 0, locals := 152 }
set_option maxHeartbeats 4000000 in
set_option maxRecDepth 100000 in
theorem s_X7_mendByTurns (l : Launch) (D : va_G) (cy : Nat → ClassId) (L : List Nat) (R O : Nat → Nat) (f0 : Nat → va_E) (hG : GG L R O f0) (a0 : Nat) (m_a0 : a0 ∈ L) (r_a0 : R a0 = 7) (a1 : Nat) (m_a1 : a1 ∈ L) (r_a1 : R a1 = 0) (x2 : Int32) (b2 : 0 ≤ x2.toInt ∧ x2.toInt ≤ 16) (x3 : Int32) (b3 : 0 ≤ x3.toInt ∧ x3.toInt ≤ 24) (pre0 : ∃ b, b ∈ L ∧ R b = 6 ∧ SB L R O f0 a0 (x2.toInt.toNat) b) : ∀ sz, Met l yX7_mendByTurns (Cond.code yX7_mendByTurns cX7_mendByTurns 5 none :: wsL_law) rm_X7_mendByTurns (va_Pc [.ref a0, .ref a1, .int x2, .int x3] (tPZ D cy L R (TT cy L R) f0 sz)) (va_Qv (fun f1 => fr L R [(4, 1), (5, 3), (5, 4), (5, 5), (5, 6), (5, 7), (7, 7), (7, 8), (8, 1), (8, 2)] [4, 5, 7, 8, 23, 34, 51] f0 f1 ∧ KO L R O (rfa f0 a0 12) f0 f1) (tB D (tA L sz) L R (TT cy L R)) (tA L sz)) 0 0 (tA L sz) := by
  refine tw_enterv (by decide +kernel) rfl (Nat.le_of_ble_eq_true rfl) ?_
  intro p e s m below meth c A ls args Q F hZ h hl hret
  have hl : lv_has ls 5 [(0, .ref a0), (1, .ref a1), (2, .int x2), (3, .int x3)] := hl
  have hk : fr L R [(4, 1), (5, 3), (5, 4), (5, 5), (5, 6), (5, 7), (7, 7), (7, 8), (8, 1), (8, 2)] [4, 5, 7, 8, 23, 34, 51] f0 f0 := fr.rf
  obtain ⟨b, m_b, r_b, hB⟩ := pre0
  have hB0 := hB
  have hO : KO L R O (rfa f0 a0 12) f0 f0 := KO.rf
  refine lv_aload_n F.1 F.2.1 dX7_mendByTurns_0 rfl (lv_at hl 0 rfl) ?_
  refine tw_iconst F dX7_mendByTurns_1 ki_0 (fun z1 hz1 => ?_)
  refine p_7_34 F h m_a0 r_a0 dX7_mendByTurns_2 (fun f2 H locs e2p hf2 h => ?_)
  have hB : SB L R O f2 a0 (x2.toInt.toNat) b := SB_fr hB hG.1 hf2 (by decide +kernel) m_a0 r_a0 m_b r_b
  have hO : KO L R O (rfa f0 a0 12) f0 f2 := KO_fr hO hf2 (by decide +kernel)
  have hk : fr L R [(4, 1), (5, 3), (5, 4), (5, 5), (5, 6), (5, 7), (7, 7), (7, 8), (8, 1), (8, 2)] [4, 5, 7, 8, 23, 34, 51] f0 f2 := hk.tr hf2 rfl rfl
  refine lv_aload_n F.1 F.2.1 dX7_mendByTurns_5 rfl (lv_at hl 0 rfl) ?_
  refine tw_iconst F dX7_mendByTurns_6 ki_m1 (fun z3 hz3 => ?_)
  refine p_7_37 F h m_a0 r_a0 dX7_mendByTurns_7 (fun f4 H locs e4p hf4 h => ?_)
  have hB : SB L R O f4 a0 (x2.toInt.toNat) b := SB_fr hB (hG.1.fr hk (by decide +kernel)) hf4 (by decide +kernel) m_a0 r_a0 m_b r_b
  have hO : KO L R O (rfa f0 a0 12) f0 f4 := KO_fr hO hf4 (by decide +kernel)
  have hk : fr L R [(4, 1), (5, 3), (5, 4), (5, 5), (5, 6), (5, 7), (7, 7), (7, 8), (8, 1), (8, 2)] [4, 5, 7, 8, 23, 34, 51] f0 f4 := hk.tr hf4 rfl rfl
  refine tw_iconst F dX7_mendByTurns_10 ki_0 (fun z5 hz5 => ?_)
  refine lv_istore (lv' := [(4, .int z5), (0, .ref a0), (1, .ref a1), (2, .int x2), (3, .int x3)]) F.1 F.2.1 dX7_mendByTurns_11 hl (by decide) rfl (fun ls hl => ?_)
  have j_13 : ∀ (n13 : Nat) (f6 : Nat → va_E) (H : Heap) (locs : List Loc) (ls : Array Slot) (x4_13 : Int32), 0 ≤ x4_13.toInt → x4_13.toInt ≤ 24 → ((24 - x4_13.toInt)).toNat < n13 → tS D cy A s.heap L R (TT cy L R) f6 s H locs → SB L R O f6 a0 (x2.toInt.toNat) b → KO L R O (rfa f0 a0 12) f0 f6 → fr L R [(4, 1), (5, 3), (5, 4), (5, 5), (5, 6), (5, 7), (7, 7), (7, 8), (8, 1), (8, 2)] [4, 5, 7, 8, 23, 34, 51] f0 f6 → lv_has ls 5 [(0, .ref a0), (1, .ref a1), (2, .int x2), (3, .int x3), (4, .int x4_13)] → W p l e rm_X7_mendByTurns s m args below meth c H locs 0 0 Q (F0 m 13 ls []) := by
    intro n13
    induction n13 with
    | zero =>
      intro f6 H locs ls x4_13 b7 b8 b9 h hB hO hk hl
      exfalso
      omega
    | succ n13 ih13 =>
      intro f6 H locs ls x4_13 b7 b8 b9 h hB hO hk hl
      refine lv_iload F.1 F.2.1 dX7_mendByTurns_13 (lv_at hl 4 rfl) ?_
      refine lv_iload_n F.1 F.2.1 dX7_mendByTurns_15 rfl (lv_at hl 3 rfl) ?_
      refine tw_icmp_ge (tgt := 46) F dX7_mendByTurns_16 (by decide) (fun b10 => ?_) (fun b10 => ?_)
      · refine lv_aload_n F.1 F.2.1 dX7_mendByTurns_46 rfl (lv_at hl 0 rfl) ?_
        refine g_7_85 F h m_a0 r_a0 dX7_mendByTurns_47 (fun o11 m_o11 r_o11 ho11 => ?_)
        refine tw_iconst F dX7_mendByTurns_50 ki_m1 (fun z12 hz12 => ?_)
        refine p_7_166 F h m_o11 r_o11 dX7_mendByTurns_51 (fun f13 H locs e13p hf13 h => ?_)
        have hB : SB L R O f13 a0 (x2.toInt.toNat) b := SB_fr hB (hG.1.fr hk (by decide +kernel)) hf13 (by decide +kernel) m_a0 r_a0 m_b r_b
        have hO : KO L R O (rfa f0 a0 12) f0 f13 := KO_fr hO hf13 (by decide +kernel)
        have hk : fr L R [(4, 1), (5, 3), (5, 4), (5, 5), (5, 6), (5, 7), (7, 7), (7, 8), (8, 1), (8, 2)] [4, 5, 7, 8, 23, 34, 51] f0 f13 := hk.tr hf13 rfl rfl
        have e14 : fld f13 a0 0 = .ref o11 := (hf13.efl m_a0 r_a0 rfl).trans ho11
        exact hret f13 _ _ _ _ dX7_mendByTurns_54 ⟨hk, hO⟩ h
      · refine lv_aload_n F.1 F.2.1 dX7_mendByTurns_19 rfl (lv_at hl 0 rfl) ?_
        refine g_7_85 F h m_a0 r_a0 dX7_mendByTurns_20 (fun o15 m_o15 r_o15 ho15 => ?_)
        refine lv_iload F.1 F.2.1 dX7_mendByTurns_23 (lv_at hl 4 rfl) ?_
        refine p_7_166 F h m_o15 r_o15 dX7_mendByTurns_25 (fun f16 H locs e16p hf16 h => ?_)
        have hB : SB L R O f16 a0 (x2.toInt.toNat) b := SB_fr hB (hG.1.fr hk (by decide +kernel)) hf16 (by decide +kernel) m_a0 r_a0 m_b r_b
        have hO : KO L R O (rfa f0 a0 12) f0 f16 := KO_fr hO hf16 (by decide +kernel)
        have hk : fr L R [(4, 1), (5, 3), (5, 4), (5, 5), (5, 6), (5, 7), (7, 7), (7, 8), (8, 1), (8, 2)] [4, 5, 7, 8, 23, 34, 51] f0 f16 := hk.tr hf16 rfl rfl
        have e17 : fld f16 a0 0 = .ref o15 := (hf16.efl m_a0 r_a0 rfl).trans ho15
        refine lv_aload_n F.1 F.2.1 dX7_mendByTurns_28 rfl (lv_at hl 0 rfl) ?_
        refine lv_iload F.1 F.2.1 dX7_mendByTurns_29 (lv_at hl 4 rfl) ?_
        refine lv_aload_n F.1 F.2.1 dX7_mendByTurns_31 rfl (lv_at hl 0 rfl) ?_
        refine lv_aload_n F.1 F.2.1 dX7_mendByTurns_32 rfl (lv_at hl 1 rfl) ?_
        refine lv_iload_n F.1 F.2.1 dX7_mendByTurns_33 rfl (lv_at hl 2 rfl) ?_
        have hk0_34 : rfa f16 a0 12 = rfa f0 a0 12 := hk.erf m_a0 r_a0 (by decide +kernel)
        refine tw_Vi (As := [.ref a1, .int x2]) F hZ h yk_X7_firstBroke mw_1374 mw_1342 mw_1343 (s_X7_firstBroke l D cy L R O f16 (hG.fr hk (by decide +kernel) (by decide +kernel)) a0 m_a0 r_a0 a1 m_a1 r_a1 x2 ⟨by omega, by omega⟩ ⟨b, m_b, r_b, hB⟩) rfl rfl m_a0 r_a0 (fun e q => (T_7 e).mp q) rfl hl.1 rfl (Nat.le_of_ble_eq_true rfl) ⟨Nat.le_of_ble_eq_true rfl, Nat.le_of_ble_eq_true rfl⟩ ⟨Nat.le_of_ble_eq_true rfl, Nat.le_of_ble_eq_true rfl⟩ dX7_mendByTurns_34 (fun v19 f18 H locs hp18 h => ?_)
        obtain ⟨hf18, hv19a, hv19b, hv19p0⟩ := hp18
        have hB : SB L R O f18 a0 (x2.toInt.toNat) b := SB_fr hB (hG.1.fr hk (by decide +kernel)) hf18 (by decide +kernel) m_a0 r_a0 m_b r_b
        have hk : fr L R [(4, 1), (5, 3), (5, 4), (5, 5), (5, 6), (5, 7), (7, 7), (7, 8), (8, 1), (8, 2)] [4, 5, 7, 8, 23, 34, 51] f0 f18 := hk.tr hf18 (by decide +kernel) (by decide +kernel)
        have e20 : fld f18 a0 0 = .ref o15 := (hf18.efl m_a0 r_a0 rfl).trans e17
        have hO : KO L R O (rfa f0 a0 12) f0 f18 := hO.tr (by have q := hv19p0; rw [hk0_34] at q; exact q)
        refine tw_Vv (As := [.int x4_13, .int v19]) F hZ h yk_X7_countMend mw_1375 mw_1376 mw_1377 (s_X7_countMend l D cy L R O f18 a0 m_a0 r_a0 x4_13 ⟨by omega, by omega⟩ v19 ⟨by omega, by omega⟩) rfl rfl m_a0 r_a0 (fun e q => (T_7 e).mp q) rfl hl.1 rfl (Nat.le_of_ble_eq_true rfl) ⟨Nat.le_of_ble_eq_true rfl, Nat.le_of_ble_eq_true rfl⟩ ⟨Nat.le_of_ble_eq_true rfl, Nat.le_of_ble_eq_true rfl⟩ dX7_mendByTurns_37 (fun f21 H locs hp21 h => ?_)
        have hf21 := hp21
        have hB : SB L R O f21 a0 (x2.toInt.toNat) b := SB_fr hB (hG.1.fr hk (by decide +kernel)) hf21 (by decide +kernel) m_a0 r_a0 m_b r_b
        have hO : KO L R O (rfa f0 a0 12) f0 f21 := KO_fr hO hf21 (by decide +kernel)
        have hk : fr L R [(4, 1), (5, 3), (5, 4), (5, 5), (5, 6), (5, 7), (7, 7), (7, 8), (8, 1), (8, 2)] [4, 5, 7, 8, 23, 34, 51] f0 f21 := hk.tr hf21 rfl rfl
        have e23 : fld f21 a0 0 = .ref o15 := (hf21.efl m_a0 r_a0 rfl).trans e20
        refine tu_iinc F dX7_mendByTurns_40 hl (k := 4) rfl (by decide) ki_1 (by omega) (fun z24 ls hz24 hl => ?_)
        have hl : lv_has ls 5 [(4, .int z24), (0, .ref a0), (1, .ref a1), (2, .int x2), (3, .int x3)] := hl
        refine lv_goto (tgt := 13) F.1 F.2.1 dX7_mendByTurns_43 (by decide) ?_
        exact ih13 f21 _ _ _ z24 (by omega) (by omega) (by omega) h hB hO hk (lv_sub hl [1, 2, 3, 4, 0] rfl)
  exact j_13 (((24 - z5.toInt)).toNat + 1) f4 _ _ _ z5 (by omega) (by omega) (by omega) h hB hO hk (lv_sub hl [1, 2, 3, 4, 0] rfl)
theorem dX7_tryOrders_0 : decode cX7_tryOrders 0 = .ok (.iconst 0, 1) := by decide +kernel
theorem dX7_tryOrders_1 : decode cX7_tryOrders 1 = .ok (.istore_n 3, 1) := by decide +kernel
theorem dX7_tryOrders_2 : decode cX7_tryOrders 2 = .ok (.aload_n 0, 1) := by decide +kernel
theorem dX7_tryOrders_3 : decode cX7_tryOrders 3 = .ok (.iload_n 2, 1) := by decide +kernel
theorem dX7_tryOrders_4 : decode cX7_tryOrders 4 = .ok (.putfield 43, 3) := by decide +kernel
theorem mw_148 : Cond.fieldLink RX7 43 "AskBack$Search" "orderedKeys" "I" ∈ wsL_law := inr_7 _ (List.mem_of_getElem? (i := 4) rfl)
section
variable {p : Program} {l : Launch} {e : Env} {R0 : Room} {s : State} {m : MethodId} {args : Array Value} {below : List Frame} {meth : Method} {c : Code} {H H0 : Heap} {locs : List Loc} {cells slots : Nat} {Q : State → Prop} {cc : ByteArray} {nL : Nat} {D : va_G} {cy : Nat → ClassId} {A : Nat → Prop} {L : List Nat} {R : Nat → Nat} {f : Nat → va_E} {pc : Nat} {ls : Array Slot} {rest : List Value} {a : Nat}
theorem p_7_43 (F : CallFix p m c cc nL s args wsL_law RX7) (h : tS D cy A H0 L R (TT cy L R) f s H locs) {x : Int32} (ha : a ∈ L) (hr : R a = 7) (hv : (-1) ≤ x.toInt ∧ x.toInt ≤ 6) (hdg : decode cc pc = .ok (.putfield 43, 3)) (kk : ∀ (f1 : Nat → va_E) (H1 : Heap) (locs1 : List Loc), fi f1 a 10 = x.toInt → fr L R [(7, 10)] [7] f f1 → tS D cy A H0 L R (TT cy L R) f1 s H1 locs1 → W p l e R0 s m args below meth c H1 locs1 cells slots Q (F0 m (pc + 3) ls (rest))) : W p l e R0 s m args below meth c H locs cells slots Q (F0 m pc ls (.int x :: .ref a :: rest)) := tu_puti (k := 10) F h ha hr T_7 rfl hv.1 hv.2 inlX7 tyX7_ok nmX7 rfl (Nat.le_of_ble_eq_true rfl) mw_148 rfl rfl rfl hdg kk
end
theorem dX7_tryOrders_7 : decode cX7_tryOrders 7 = .ok (.iconst 0, 1) := by decide +kernel
theorem dX7_tryOrders_8 : decode cX7_tryOrders 8 = .ok (.istore 4, 2) := by decide +kernel
theorem dX7_tryOrders_10 : decode cX7_tryOrders 10 = .ok (.iload 4, 2) := by decide +kernel
theorem dX7_tryOrders_12 : decode cX7_tryOrders 12 = .ok (.aload_n 0, 1) := by decide +kernel
theorem dX7_tryOrders_13 : decode cX7_tryOrders 13 = .ok (.getfield 46, 3) := by decide +kernel
theorem dX7_tryOrders_16 : decode cX7_tryOrders 16 = .ok (.arraylength, 1) := by decide +kernel
section
variable {p : Program} {l : Launch} {e : Env} {R0 : Room} {s : State} {m : MethodId} {args : Array Value} {below : List Frame} {meth : Method} {c : Code} {H H0 : Heap} {locs : List Loc} {cells slots : Nat} {Q : State → Prop} {cc : ByteArray} {nL : Nat} {D : va_G} {cy : Nat → ClassId} {A : Nat → Prop} {L : List Nat} {R : Nat → Nat} {f : Nat → va_E} {pc : Nat} {ls : Array Slot} {rest : List Value} {a : Nat}
theorem al_47 {own : String} (F : CallFix p m c cc nL s args wsL_law own) (h : tS D cy A H0 L R (TT cy L R) f s H locs) (ha : a ∈ L) (hr : R a = 47) (hdg : decode cc pc = .ok (.arraylength, 1)) (kk : ∀ z : Int32, z.toInt = 36 → W p l e R0 s m args below meth c H locs cells slots Q (F0 m (pc + 1) ls (.int z :: rest))) : W p l e R0 s m args below meth c H locs cells slots Q (F0 m pc ls (.ref a :: rest)) := tw_alen (n := 36) (t0 := 1) F h ha hr (fun e q => by obtain ⟨g, hg, -⟩ := (T_47 e).mp q; exact ⟨_, hg⟩) rfl (by decide) hdg kk
end
theorem dX7_tryOrders_17 : decode cX7_tryOrders 17 = .ok (.if_icmp .ge 17, 3) := by decide +kernel
theorem dX7_tryOrders_34 : decode cX7_tryOrders 34 = .ok (.iconst 1, 1) := by decide +kernel
theorem dX7_tryOrders_35 : decode cX7_tryOrders 35 = .ok (.istore 4, 2) := by decide +kernel
theorem dX7_tryOrders_37 : decode cX7_tryOrders 37 = .ok (.iconst 0, 1) := by decide +kernel
theorem dX7_tryOrders_38 : decode cX7_tryOrders 38 = .ok (.istore 5, 2) := by decide +kernel
theorem dX7_tryOrders_40 : decode cX7_tryOrders 40 = .ok (.iload 5, 2) := by decide +kernel
theorem dX7_tryOrders_42 : decode cX7_tryOrders 42 = .ok (.iload_n 2, 1) := by decide +kernel
theorem dX7_tryOrders_43 : decode cX7_tryOrders 43 = .ok (.if_icmp .ge 27, 3) := by decide +kernel
theorem dX7_tryOrders_70 : decode cX7_tryOrders 70 = .ok (.iconst 0, 1) := by decide +kernel
theorem dX7_tryOrders_71 : decode cX7_tryOrders 71 = .ok (.istore 5, 2) := by decide +kernel
theorem dX7_tryOrders_73 : decode cX7_tryOrders 73 = .ok (.iload 5, 2) := by decide +kernel
theorem dX7_tryOrders_75 : decode cX7_tryOrders 75 = .ok (.iload 4, 2) := by decide +kernel
theorem dX7_tryOrders_77 : decode cX7_tryOrders 77 = .ok (.if_icmp .ge 31, 3) := by decide +kernel
theorem dX7_tryOrders_108 : decode cX7_tryOrders 108 = .ok (.iload_n 3, 1) := by decide +kernel
theorem dX7_tryOrders_109 : decode cX7_tryOrders 109 = .ok (.ireturn, 1) := by decide +kernel
theorem dX7_tryOrders_80 : decode cX7_tryOrders 80 = .ok (.aload_n 0, 1) := by decide +kernel
theorem dX7_tryOrders_81 : decode cX7_tryOrders 81 = .ok (.aload_n 1, 1) := by decide +kernel
theorem dX7_tryOrders_82 : decode cX7_tryOrders 82 = .ok (.iload_n 2, 1) := by decide +kernel
theorem dX7_tryOrders_83 : decode cX7_tryOrders 83 = .ok (.invokevirtual 182, 3) := by decide +kernel
theorem mw_1495 : Cond.methodLink RX7 182 yX7_saysTalk ∈ wsL_law := inr_63 _ (List.mem_of_getElem? (i := 7) rfl)
theorem mw_1498 : Cond.code yX7_saysTalk cX7_saysTalk 4 (some .boolean) ∈ wsL_law := inr_63 _ (List.mem_of_getElem? (i := 10) rfl)
theorem yk_X7_saysTalk : xY yX7_saysTalk RX7 cX7_saysTalk 4 (some .boolean) 2 := ⟨⟨rfl, by decide +kernel, by decide +kernel, by decide +kernel⟩, mw_32, mw_1498⟩
theorem mw_1496 : Cond.instanceMethod yX7_saysTalk ∈ wsL_law := inr_63 _ (List.mem_of_getElem? (i := 8) rfl)
theorem mw_1497 : Cond.selects RX7 yX7_saysTalk yX7_saysTalk ∈ wsL_law := inr_63 _ (List.mem_of_getElem? (i := 9) rfl)
theorem dX7_tryOrders_97 : decode cX7_tryOrders 97 = .ok (.aload_n 0, 1) := by decide +kernel
theorem dX7_tryOrders_98 : decode cX7_tryOrders 98 = .ok (.iload_n 2, 1) := by decide +kernel
theorem dX7_tryOrders_99 : decode cX7_tryOrders 99 = .ok (.invokevirtual 190, 3) := by decide +kernel
theorem mw_1505 : Cond.methodLink RX7 190 yX7_nextOrder ∈ wsL_law := inr_63 _ (List.mem_of_getElem? (i := 17) rfl)
theorem mw_1508 : Cond.code yX7_nextOrder cX7_nextOrder 6 none ∈ wsL_law := inr_63 _ (List.mem_of_getElem? (i := 20) rfl)
theorem yk_X7_nextOrder : xY yX7_nextOrder RX7 cX7_nextOrder 6 none 1 := ⟨⟨rfl, by decide +kernel, by decide +kernel, by decide +kernel⟩, mw_32, mw_1508⟩
theorem mw_1506 : Cond.instanceMethod yX7_nextOrder ∈ wsL_law := inr_63 _ (List.mem_of_getElem? (i := 18) rfl)
theorem mw_1507 : Cond.selects RX7 yX7_nextOrder yX7_nextOrder ∈ wsL_law := inr_63 _ (List.mem_of_getElem? (i := 19) rfl)
theorem dX7_tryOrders_102 : decode cX7_tryOrders 102 = .ok (.iinc 5 1, 3) := by decide +kernel
theorem dX7_tryOrders_105 : decode cX7_tryOrders 105 = .ok (.goto (-32), 3) := by decide +kernel
theorem dX7_tryOrders_86 : decode cX7_tryOrders 86 = .ok (.ifCond .eq 11, 3) := by decide +kernel
theorem dX7_tryOrders_89 : decode cX7_tryOrders 89 = .ok (.iinc 3 1, 3) := by decide +kernel
theorem dX7_tryOrders_92 : decode cX7_tryOrders 92 = .ok (.aload_n 0, 1) := by decide +kernel
theorem dX7_tryOrders_93 : decode cX7_tryOrders 93 = .ok (.iload_n 2, 1) := by decide +kernel
theorem dX7_tryOrders_94 : decode cX7_tryOrders 94 = .ok (.invokevirtual 186, 3) := by decide +kernel
theorem mw_1501 : Cond.methodLink RX7 186 yX7_countAheads ∈ wsL_law := inr_63 _ (List.mem_of_getElem? (i := 13) rfl)
theorem mw_1504 : Cond.code yX7_countAheads cX7_countAheads 4 none ∈ wsL_law := inr_63 _ (List.mem_of_getElem? (i := 16) rfl)
theorem yk_X7_countAheads : xY yX7_countAheads RX7 cX7_countAheads 4 none 1 := ⟨⟨rfl, by decide +kernel, by decide +kernel, by decide +kernel⟩, mw_32, mw_1504⟩
theorem mw_1502 : Cond.instanceMethod yX7_countAheads ∈ wsL_law := inr_63 _ (List.mem_of_getElem? (i := 14) rfl)
theorem mw_1503 : Cond.selects RX7 yX7_countAheads yX7_countAheads ∈ wsL_law := inr_63 _ (List.mem_of_getElem? (i := 15) rfl)
theorem dX7_tryOrders_46 : decode cX7_tryOrders 46 = .ok (.aload_n 0, 1) := by decide +kernel
theorem dX7_tryOrders_47 : decode cX7_tryOrders 47 = .ok (.getfield 61, 3) := by decide +kernel
theorem dX7_tryOrders_50 : decode cX7_tryOrders 50 = .ok (.iload 5, 2) := by decide +kernel
theorem dX7_tryOrders_52 : decode cX7_tryOrders 52 = .ok (.iload 5, 2) := by decide +kernel
theorem dX7_tryOrders_54 : decode cX7_tryOrders 54 = .ok (.iastore, 1) := by decide +kernel
theorem dX7_tryOrders_55 : decode cX7_tryOrders 55 = .ok (.iload 4, 2) := by decide +kernel
theorem dX7_tryOrders_57 : decode cX7_tryOrders 57 = .ok (.iload 5, 2) := by decide +kernel
theorem dX7_tryOrders_59 : decode cX7_tryOrders 59 = .ok (.iconst 1, 1) := by decide +kernel
theorem dX7_tryOrders_60 : decode cX7_tryOrders 60 = .ok (.iadd, 1) := by decide +kernel
theorem dX7_tryOrders_61 : decode cX7_tryOrders 61 = .ok (.imul, 1) := by decide +kernel
theorem dX7_tryOrders_62 : decode cX7_tryOrders 62 = .ok (.istore 4, 2) := by decide +kernel
theorem dX7_tryOrders_64 : decode cX7_tryOrders 64 = .ok (.iinc 5 1, 3) := by decide +kernel
theorem dX7_tryOrders_67 : decode cX7_tryOrders 67 = .ok (.goto (-27), 3) := by decide +kernel
theorem dX7_tryOrders_20 : decode cX7_tryOrders 20 = .ok (.aload_n 0, 1) := by decide +kernel
theorem dX7_tryOrders_21 : decode cX7_tryOrders 21 = .ok (.getfield 46, 3) := by decide +kernel
theorem dX7_tryOrders_24 : decode cX7_tryOrders 24 = .ok (.iload 4, 2) := by decide +kernel
theorem dX7_tryOrders_26 : decode cX7_tryOrders 26 = .ok (.iconst 0, 1) := by decide +kernel
theorem dX7_tryOrders_27 : decode cX7_tryOrders 27 = .ok (.iastore, 1) := by decide +kernel
theorem dX7_tryOrders_28 : decode cX7_tryOrders 28 = .ok (.iinc 4 1, 3) := by decide +kernel
theorem dX7_tryOrders_31 : decode cX7_tryOrders 31 = .ok (.goto (-21), 3) := by decide +kernel
def rm_X7_tryOrders : Room := { frames := 6, cells := 0, slots := 0, locals := 151 }
set_option maxHeartbeats 4000000 in
set_option maxRecDepth 100000 in
theorem s_X7_tryOrders (l : Launch) (D : va_G) (cy : Nat → ClassId) (L : List Nat) (R O : Nat → Nat) (f0 : Nat → va_E) (hG : GG L R O f0) (a0 : Nat) (m_a0 : a0 ∈ L) (r_a0 : R a0 = 7) (a1 : Nat) (m_a1 : a1 ∈ L) (r_a1 : R a1 = 9) (x2 : Int32) (b2 : 0 ≤ x2.toInt ∧ x2.toInt ≤ 6) (pre0 : ∃ b, b ∈ L ∧ R b = 6 ∧ SB L R O f0 a0 ((fi f0 a1 4).toNat) b) : ∀ sz, Met l yX7_tryOrders (Cond.code yX7_tryOrders cX7_tryOrders 6 (some .int) :: wsL_law) rm_X7_tryOrders (va_Pc [.ref a0, .ref a1, .int x2] (tPZ D cy L R (TT cy L R) f0 sz)) (va_Qi (fun (r : Int32) f1 => fr L R [(4, 1), (5, 4), (5, 5), (5, 6), (5, 7), (7, 10), (8, 1), (8, 2)] [4, 5, 7, 8, 23, 34, 47, 50, 51] f0 f1 ∧ KO L R O (rfa f0 a0 12) f0 f1) (tB D (tA L sz) L R (TT cy L R)) (tA L sz)) 0 0 (tA L sz) := by
  refine tw_enteri (by decide +kernel) rfl (Nat.le_of_ble_eq_true rfl) ?_
  intro p e s m below meth c A ls args Q F hZ h hl hret
  have hl : lv_has ls 6 [(0, .ref a0), (1, .ref a1), (2, .int x2)] := hl
  have hk : fr L R [(4, 1), (5, 4), (5, 5), (5, 6), (5, 7), (7, 10), (8, 1), (8, 2)] [4, 5, 7, 8, 23, 34, 47, 50, 51] f0 f0 := fr.rf
  have t_a1_size := h.bfi m_a1 r_a1 (fun e q => (T_9 e).mp q) (k := 4) rfl
  obtain ⟨b, m_b, r_b, hB⟩ := pre0
  have hB0 := hB
  have hO : KO L R O (rfa f0 a0 12) f0 f0 := KO.rf
  refine tw_iconst F dX7_tryOrders_0 ki_0 (fun z1 hz1 => ?_)
  refine lv_istore_n (lv' := [(3, .int z1), (0, .ref a0), (1, .ref a1), (2, .int x2)]) F.1 F.2.1 dX7_tryOrders_1 rfl hl (by decide) rfl (fun ls hl => ?_)
  refine lv_aload_n F.1 F.2.1 dX7_tryOrders_2 rfl (lv_at hl 1 rfl) ?_
  refine lv_iload_n F.1 F.2.1 dX7_tryOrders_3 rfl (lv_at hl 3 rfl) ?_
  refine p_7_43 F h m_a0 r_a0 (by omega) dX7_tryOrders_4 (fun f2 H locs e2p hf2 h => ?_)
  have hB : SB L R O f2 a0 ((fi f0 a1 4).toNat) b := SB_fr hB hG.1 hf2 (by decide +kernel) m_a0 r_a0 m_b r_b
  have hO : KO L R O (rfa f0 a0 12) f0 f2 := KO_fr hO hf2 (by decide +kernel)
  have hk : fr L R [(4, 1), (5, 4), (5, 5), (5, 6), (5, 7), (7, 10), (8, 1), (8, 2)] [4, 5, 7, 8, 23, 34, 47, 50, 51] f0 f2 := hk.tr hf2 rfl rfl
  have e3 : fi f2 a1 4 = fi f0 a1 4 := hf2.efi m_a1 r_a1 rfl
  refine tw_iconst F dX7_tryOrders_7 ki_0 (fun z4 hz4 => ?_)
  refine lv_istore (lv' := [(4, .int z4), (3, .int z1), (0, .ref a0), (1, .ref a1), (2, .int x2)]) F.1 F.2.1 dX7_tryOrders_8 hl (by decide) rfl (fun ls hl => ?_)
  have j_10 : ∀ (n10 : Nat) (f5 : Nat → va_E) (H : Heap) (locs : List Loc) (ls : Array Slot) (x4_10 : Int32), 0 ≤ x4_10.toInt → x4_10.toInt ≤ 36 → ((36 - x4_10.toInt)).toNat < n10 → tS D cy A s.heap L R (TT cy L R) f5 s H locs → SB L R O f5 a0 ((fi f0 a1 4).toNat) b → KO L R O (rfa f0 a0 12) f0 f5 → fr L R [(4, 1), (5, 4), (5, 5), (5, 6), (5, 7), (7, 10), (8, 1), (8, 2)] [4, 5, 7, 8, 23, 34, 47, 50, 51] f0 f5 → fr L R [] [47] f2 f5 → lv_has ls 6 [(0, .ref a0), (1, .ref a1), (2, .int x2), (3, .int z1), (4, .int x4_10)] → W p l e rm_X7_tryOrders s m args below meth c H locs 0 0 Q (F0 m 10 ls []) := by
    intro n10
    induction n10 with
    | zero =>
      intro f5 H locs ls x4_10 b6 b7 b8 h hB hO hk hb10 hl
      exfalso
      omega
    | succ n10 ih10 =>
      intro f5 H locs ls x4_10 b6 b7 b8 h hB hO hk hb10 hl
      have e9 : fi f5 a1 4 = fi f2 a1 4 := hb10.efi m_a1 r_a1 rfl
      refine lv_iload F.1 F.2.1 dX7_tryOrders_10 (lv_at hl 4 rfl) ?_
      refine lv_aload_n F.1 F.2.1 dX7_tryOrders_12 rfl (lv_at hl 0 rfl) ?_
      refine g_7_46 F h m_a0 r_a0 dX7_tryOrders_13 (fun o10 m_o10 r_o10 ho10 => ?_)
      refine al_47 F h m_o10 r_o10 dX7_tryOrders_16 (fun z11 hz11 => ?_)
      refine tw_icmp_ge (tgt := 34) F dX7_tryOrders_17 (by decide) (fun b12 => ?_) (fun b12 => ?_)
      · refine tw_iconst F dX7_tryOrders_34 ki_1 (fun z13 hz13 => ?_)
        refine lv_istore (lv' := [(4, .int z13), (0, .ref a0), (1, .ref a1), (2, .int x2), (3, .int z1)]) F.1 F.2.1 dX7_tryOrders_35 hl (by decide) rfl (fun ls hl => ?_)
        refine tw_iconst F dX7_tryOrders_37 ki_0 (fun z14 hz14 => ?_)
        refine lv_istore (lv' := [(5, .int z14), (4, .int z13), (0, .ref a0), (1, .ref a1), (2, .int x2), (3, .int z1)]) F.1 F.2.1 dX7_tryOrders_38 hl (by decide) rfl (fun ls hl => ?_)
        have j_40 : ∀ (n40 : Nat) (f15 : Nat → va_E) (H : Heap) (locs : List Loc) (ls : Array Slot) (x4_40 : Int32) (x5_40 : Int32), 0 ≤ x5_40.toInt → x5_40.toInt ≤ 6 → ((6 - x5_40.toInt)).toNat < n40 → tS D cy A s.heap L R (TT cy L R) f15 s H locs → SB L R O f15 a0 ((fi f0 a1 4).toNat) b → KO L R O (rfa f0 a0 12) f0 f15 → fr L R [(4, 1), (5, 4), (5, 5), (5, 6), (5, 7), (7, 10), (8, 1), (8, 2)] [4, 5, 7, 8, 23, 34, 47, 50, 51] f0 f15 → fr L R [] [50] f5 f15 → lv_has ls 6 [(0, .ref a0), (1, .ref a1), (2, .int x2), (3, .int z1), (4, .int x4_40), (5, .int x5_40)] → W p l e rm_X7_tryOrders s m args below meth c H locs 0 0 Q (F0 m 40 ls []) := by
          intro n40
          induction n40 with
          | zero =>
            intro f15 H locs ls x4_40 x5_40 b16 b17 b18 h hB hO hk hb40 hl
            exfalso
            omega
          | succ n40 ih40 =>
            intro f15 H locs ls x4_40 x5_40 b16 b17 b18 h hB hO hk hb40 hl
            have e19 : fi f15 a1 4 = fi f5 a1 4 := hb40.efi m_a1 r_a1 rfl
            refine lv_iload F.1 F.2.1 dX7_tryOrders_40 (lv_at hl 5 rfl) ?_
            refine lv_iload_n F.1 F.2.1 dX7_tryOrders_42 rfl (lv_at hl 2 rfl) ?_
            refine tw_icmp_ge (tgt := 70) F dX7_tryOrders_43 (by decide) (fun b20 => ?_) (fun b20 => ?_)
            · refine tw_iconst F dX7_tryOrders_70 ki_0 (fun z21 hz21 => ?_)
              refine lv_istore (lv' := [(5, .int z21), (0, .ref a0), (1, .ref a1), (2, .int x2), (3, .int z1), (4, .int x4_40)]) F.1 F.2.1 dX7_tryOrders_71 hl (by decide) rfl (fun ls hl => ?_)
              have j_73 : ∀ (n73 : Nat) (f22 : Nat → va_E) (H : Heap) (locs : List Loc) (ls : Array Slot) (x3_73 : Int32) (x5_73 : Int32), 0 ≤ x5_73.toInt → ((2147483647 - x5_73.toInt)).toNat < n73 → tS D cy A s.heap L R (TT cy L R) f22 s H locs → SB L R O f22 a0 ((fi f0 a1 4).toNat) b → KO L R O (rfa f0 a0 12) f0 f22 → fr L R [(4, 1), (5, 4), (5, 5), (5, 6), (5, 7), (7, 10), (8, 1), (8, 2)] [4, 5, 7, 8, 23, 34, 47, 50, 51] f0 f22 → fr L R [(4, 1), (5, 4), (5, 5), (5, 6), (5, 7), (8, 1), (8, 2)] [4, 5, 8, 23, 34, 47, 50, 51] f15 f22 → lv_has ls 6 [(0, .ref a0), (1, .ref a1), (2, .int x2), (3, .int x3_73), (4, .int x4_40), (5, .int x5_73)] → W p l e rm_X7_tryOrders s m args below meth c H locs 0 0 Q (F0 m 73 ls []) := by
                intro n73
                induction n73 with
                | zero =>
                  intro f22 H locs ls x3_73 x5_73 b23 b24 h hB hO hk hb73 hl
                  exfalso
                  omega
                | succ n73 ih73 =>
                  intro f22 H locs ls x3_73 x5_73 b23 b24 h hB hO hk hb73 hl
                  have e25 : fi f22 a1 4 = fi f15 a1 4 := hb73.efi m_a1 r_a1 rfl
                  refine lv_iload F.1 F.2.1 dX7_tryOrders_73 (lv_at hl 5 rfl) ?_
                  refine lv_iload F.1 F.2.1 dX7_tryOrders_75 (lv_at hl 4 rfl) ?_
                  have tb4 := tb_i x4_40
                  refine tw_icmp_ge (tgt := 108) F dX7_tryOrders_77 (by decide) (fun b26 => ?_) (fun b26 => ?_)
                  · refine lv_iload_n F.1 F.2.1 dX7_tryOrders_108 rfl (lv_at hl 3 rfl) ?_
                    exact hret f22 _ _ _ _ x3_73 dX7_tryOrders_109 rfl ⟨hk, hO⟩ h
                  · refine lv_aload_n F.1 F.2.1 dX7_tryOrders_80 rfl (lv_at hl 0 rfl) ?_
                    refine lv_aload_n F.1 F.2.1 dX7_tryOrders_81 rfl (lv_at hl 1 rfl) ?_
                    refine lv_iload_n F.1 F.2.1 dX7_tryOrders_82 rfl (lv_at hl 2 rfl) ?_
                    have hk0_83 : rfa f22 a0 12 = rfa f0 a0 12 := hk.erf m_a0 r_a0 (by decide +kernel)
                    refine tw_Vi (As := [.ref a1, .int x2]) F hZ h yk_X7_saysTalk mw_1495 mw_1496 mw_1497 (s_X7_saysTalk l D cy L R O f22 (hG.fr hk (by decide +kernel) (by decide +kernel)) a0 m_a0 r_a0 a1 m_a1 r_a1 x2 ⟨by omega, by omega⟩ ⟨b, m_b, r_b, by rw [hk.efi m_a1 r_a1 (by decide +kernel)]; exact hB⟩) rfl rfl m_a0 r_a0 (fun e q => (T_7 e).mp q) rfl hl.1 rfl (Nat.le_of_ble_eq_true rfl) ⟨Nat.le_of_ble_eq_true rfl, Nat.le_of_ble_eq_true rfl⟩ ⟨Nat.le_of_ble_eq_true rfl, Nat.le_of_ble_eq_true rfl⟩ dX7_tryOrders_83 (fun v28 f27 H locs hp27 h => ?_)
                    obtain ⟨hf27, hv28a, hv28b, hv28p0⟩ := hp27
                    have hB : SB L R O f27 a0 ((fi f0 a1 4).toNat) b := SB_fr hB (hG.1.fr hk (by decide +kernel)) hf27 (by decide +kernel) m_a0 r_a0 m_b r_b
                    have hk : fr L R [(4, 1), (5, 4), (5, 5), (5, 6), (5, 7), (7, 10), (8, 1), (8, 2)] [4, 5, 7, 8, 23, 34, 47, 50, 51] f0 f27 := hk.tr hf27 (by decide +kernel) (by decide +kernel)
                    have hb73 : fr L R [(4, 1), (5, 4), (5, 5), (5, 6), (5, 7), (8, 1), (8, 2)] [4, 5, 8, 23, 34, 47, 50, 51] f15 f27 := hb73.tr hf27 (by decide +kernel) (by decide +kernel)
                    have e29 : fi f27 a1 4 = fi f22 a1 4 := hf27.efi m_a1 r_a1 rfl
                    have hO : KO L R O (rfa f0 a0 12) f0 f27 := hO.tr (by have q := hv28p0; rw [hk0_83] at q; exact q)
                    have j_97 : ∀ (f30 : Nat → va_E) (H : Heap) (locs : List Loc) (ls : Array Slot) (x3_97 : Int32), tS D cy A s.heap L R (TT cy L R) f30 s H locs → SB L R O f30 a0 ((fi f0 a1 4).toNat) b → KO L R O (rfa f0 a0 12) f0 f30 → fr L R [(4, 1), (5, 4), (5, 5), (5, 6), (5, 7), (7, 10), (8, 1), (8, 2)] [4, 5, 7, 8, 23, 34, 47, 50, 51] f0 f30 → fr L R [] [47] f27 f30 → lv_has ls 6 [(0, .ref a0), (1, .ref a1), (2, .int x2), (3, .int x3_97), (4, .int x4_40), (5, .int x5_73)] → W p l e rm_X7_tryOrders s m args below meth c H locs 0 0 Q (F0 m 97 ls []) := by
                      intro f30 H locs ls x3_97 h hB hO hk hb97 hl
                      have hb73 : fr L R [(4, 1), (5, 4), (5, 5), (5, 6), (5, 7), (8, 1), (8, 2)] [4, 5, 8, 23, 34, 47, 50, 51] f15 f30 := hb73.tr hb97 rfl rfl
                      have e31 : fi f30 a1 4 = fi f27 a1 4 := hb97.efi m_a1 r_a1 rfl
                      refine lv_aload_n F.1 F.2.1 dX7_tryOrders_97 rfl (lv_at hl 0 rfl) ?_
                      refine lv_iload_n F.1 F.2.1 dX7_tryOrders_98 rfl (lv_at hl 2 rfl) ?_
                      refine tw_Vv (As := [.int x2]) F hZ h yk_X7_nextOrder mw_1505 mw_1506 mw_1507 (s_X7_nextOrder l D cy L R O f30 a0 m_a0 r_a0 x2 ⟨by omega, by omega⟩) rfl rfl m_a0 r_a0 (fun e q => (T_7 e).mp q) rfl hl.1 rfl (Nat.le_of_ble_eq_true rfl) ⟨Nat.le_of_ble_eq_true rfl, Nat.le_of_ble_eq_true rfl⟩ ⟨Nat.le_of_ble_eq_true rfl, Nat.le_of_ble_eq_true rfl⟩ dX7_tryOrders_99 (fun f32 H locs hp32 h => ?_)
                      have hf32 := hp32
                      have hB : SB L R O f32 a0 ((fi f0 a1 4).toNat) b := SB_fr hB (hG.1.fr hk (by decide +kernel)) hf32 (by decide +kernel) m_a0 r_a0 m_b r_b
                      have hO : KO L R O (rfa f0 a0 12) f0 f32 := KO_fr hO hf32 (by decide +kernel)
                      have hk : fr L R [(4, 1), (5, 4), (5, 5), (5, 6), (5, 7), (7, 10), (8, 1), (8, 2)] [4, 5, 7, 8, 23, 34, 47, 50, 51] f0 f32 := hk.tr hf32 rfl rfl
                      have hb73 : fr L R [(4, 1), (5, 4), (5, 5), (5, 6), (5, 7), (8, 1), (8, 2)] [4, 5, 8, 23, 34, 47, 50, 51] f15 f32 := hb73.tr hf32 rfl rfl
                      have e34 : fi f32 a1 4 = fi f30 a1 4 := hf32.efi m_a1 r_a1 rfl
                      refine tu_iinc F dX7_tryOrders_102 hl (k := 5) rfl (by decide) ki_1 (by omega) (fun z35 ls hz35 hl => ?_)
                      have hl : lv_has ls 6 [(5, .int z35), (0, .ref a0), (1, .ref a1), (2, .int x2), (3, .int x3_97), (4, .int x4_40)] := hl
                      refine lv_goto (tgt := 73) F.1 F.2.1 dX7_tryOrders_105 (by decide) ?_
                      exact ih73 f32 _ _ _ x3_97 z35 (by omega) (by omega) h hB hO hk hb73 (lv_sub hl [1, 2, 3, 4, 5, 0] rfl)
                    have hb97 : fr L R [] [47] f27 f27 := fr.rf
                    refine tw_if_eq (tgt := 97) F dX7_tryOrders_86 (by decide) (fun b36 => ?_) (fun b36 => ?_)
                    · exact j_97 f27 _ _ _ x3_73 h hB hO hk hb97 (lv_sub hl [0, 1, 2, 3, 4, 5] rfl)
                    · refine tu_iincU F dX7_tryOrders_89 hl (k := 3) rfl (by decide) (fun z37 ls hl => ?_)
                      have hl : lv_has ls 6 [(3, .int z37), (0, .ref a0), (1, .ref a1), (2, .int x2), (4, .int x4_40), (5, .int x5_73)] := hl
                      refine lv_aload_n F.1 F.2.1 dX7_tryOrders_92 rfl (lv_at hl 1 rfl) ?_
                      refine lv_iload_n F.1 F.2.1 dX7_tryOrders_93 rfl (lv_at hl 3 rfl) ?_
                      refine tw_Vv (As := [.int x2]) F hZ h yk_X7_countAheads mw_1501 mw_1502 mw_1503 (s_X7_countAheads l D cy L R O f27 a0 m_a0 r_a0 x2 ⟨by omega, by omega⟩) rfl rfl m_a0 r_a0 (fun e q => (T_7 e).mp q) rfl hl.1 rfl (Nat.le_of_ble_eq_true rfl) ⟨Nat.le_of_ble_eq_true rfl, Nat.le_of_ble_eq_true rfl⟩ ⟨Nat.le_of_ble_eq_true rfl, Nat.le_of_ble_eq_true rfl⟩ dX7_tryOrders_94 (fun f38 H locs hp38 h => ?_)
                      have hf38 := hp38
                      have hB : SB L R O f38 a0 ((fi f0 a1 4).toNat) b := SB_fr hB (hG.1.fr hk (by decide +kernel)) hf38 (by decide +kernel) m_a0 r_a0 m_b r_b
                      have hO : KO L R O (rfa f0 a0 12) f0 f38 := KO_fr hO hf38 (by decide +kernel)
                      have hk : fr L R [(4, 1), (5, 4), (5, 5), (5, 6), (5, 7), (7, 10), (8, 1), (8, 2)] [4, 5, 7, 8, 23, 34, 47, 50, 51] f0 f38 := hk.tr hf38 rfl rfl
                      have hb73 : fr L R [(4, 1), (5, 4), (5, 5), (5, 6), (5, 7), (8, 1), (8, 2)] [4, 5, 8, 23, 34, 47, 50, 51] f15 f38 := hb73.tr hf38 rfl rfl
                      have hb97 : fr L R [] [47] f27 f38 := hb97.tr hf38 rfl rfl
                      have e40 : fi f38 a1 4 = fi f27 a1 4 := hf38.efi m_a1 r_a1 rfl
                      exact j_97 f38 _ _ _ z37 h hB hO hk hb97 (lv_sub hl [1, 2, 3, 0, 4, 5] rfl)
              have hb73 : fr L R [(4, 1), (5, 4), (5, 5), (5, 6), (5, 7), (8, 1), (8, 2)] [4, 5, 8, 23, 34, 47, 50, 51] f15 f15 := fr.rf
              exact j_73 (((2147483647 - z21.toInt)).toNat + 1) f15 _ _ _ z1 z21 (by omega) (by omega) h hB hO hk hb73 (lv_sub hl [1, 2, 3, 4, 5, 0] rfl)
            · refine lv_aload_n F.1 F.2.1 dX7_tryOrders_46 rfl (lv_at hl 0 rfl) ?_
              refine g_7_61 F h m_a0 r_a0 dX7_tryOrders_47 (fun o41 m_o41 r_o41 ho41 => ?_)
              refine lv_iload F.1 F.2.1 dX7_tryOrders_50 (lv_at hl 5 rfl) ?_
              refine lv_iload F.1 F.2.1 dX7_tryOrders_52 (lv_at hl 5 rfl) ?_
              refine st_50 F h m_o41 r_o41 (by omega) (by omega) dX7_tryOrders_54 (fun f42 H locs hf42 h => ?_)
              have hB : SB L R O f42 a0 ((fi f0 a1 4).toNat) b := SB_fr hB (hG.1.fr hk (by decide +kernel)) hf42 (by decide +kernel) m_a0 r_a0 m_b r_b
              have hO : KO L R O (rfa f0 a0 12) f0 f42 := KO_fr hO hf42 (by decide +kernel)
              have hk : fr L R [(4, 1), (5, 4), (5, 5), (5, 6), (5, 7), (7, 10), (8, 1), (8, 2)] [4, 5, 7, 8, 23, 34, 47, 50, 51] f0 f42 := hk.tr hf42 rfl rfl
              have hb40 : fr L R [] [50] f5 f42 := hb40.tr hf42 rfl rfl
              have e43 : fi f42 a1 4 = fi f15 a1 4 := hf42.efi m_a1 r_a1 rfl
              refine lv_iload F.1 F.2.1 dX7_tryOrders_55 (lv_at hl 4 rfl) ?_
              refine lv_iload F.1 F.2.1 dX7_tryOrders_57 (lv_at hl 5 rfl) ?_
              refine tw_iconst F dX7_tryOrders_59 ki_1 (fun z44 hz44 => ?_)
              refine tu_iadd F dX7_tryOrders_60 (by omega) (fun z45 hz45 => ?_)
              refine lv_imul F.1 F.2.1 dX7_tryOrders_61 ?_
              refine lv_topi (fun z46 _ => ?_)
              refine lv_istore (lv' := [(4, .int z46), (0, .ref a0), (1, .ref a1), (2, .int x2), (3, .int z1), (5, .int x5_40)]) F.1 F.2.1 dX7_tryOrders_62 hl (by decide) rfl (fun ls hl => ?_)
              refine tu_iinc F dX7_tryOrders_64 hl (k := 5) rfl (by decide) ki_1 (by omega) (fun z47 ls hz47 hl => ?_)
              have hl : lv_has ls 6 [(5, .int z47), (4, .int z46), (0, .ref a0), (1, .ref a1), (2, .int x2), (3, .int z1)] := hl
              refine lv_goto (tgt := 40) F.1 F.2.1 dX7_tryOrders_67 (by decide) ?_
              exact ih40 f42 _ _ _ z46 z47 (by omega) (by omega) (by omega) h hB hO hk hb40 (lv_sub hl [2, 3, 4, 5, 1, 0] rfl)
        have hb40 : fr L R [] [50] f5 f5 := fr.rf
        exact j_40 (((6 - z14.toInt)).toNat + 1) f5 _ _ _ z13 z14 (by omega) (by omega) (by omega) h hB hO hk hb40 (lv_sub hl [2, 3, 4, 5, 1, 0] rfl)
      · refine lv_aload_n F.1 F.2.1 dX7_tryOrders_20 rfl (lv_at hl 0 rfl) ?_
        refine g_7_46 F h m_a0 r_a0 dX7_tryOrders_21 (fun o48 m_o48 r_o48 ho48 => ?_)
        refine lv_iload F.1 F.2.1 dX7_tryOrders_24 (lv_at hl 4 rfl) ?_
        refine tw_iconst F dX7_tryOrders_26 ki_0 (fun z49 hz49 => ?_)
        refine st_47 F h m_o48 r_o48 (by omega) dX7_tryOrders_27 (fun f50 H locs hf50 h => ?_)
        have hB : SB L R O f50 a0 ((fi f0 a1 4).toNat) b := SB_fr hB (hG.1.fr hk (by decide +kernel)) hf50 (by decide +kernel) m_a0 r_a0 m_b r_b
        have hO : KO L R O (rfa f0 a0 12) f0 f50 := KO_fr hO hf50 (by decide +kernel)
        have hk : fr L R [(4, 1), (5, 4), (5, 5), (5, 6), (5, 7), (7, 10), (8, 1), (8, 2)] [4, 5, 7, 8, 23, 34, 47, 50, 51] f0 f50 := hk.tr hf50 rfl rfl
        have hb10 : fr L R [] [47] f2 f50 := hb10.tr hf50 rfl rfl
        have e51 : fi f50 a1 4 = fi f5 a1 4 := hf50.efi m_a1 r_a1 rfl
        refine tu_iinc F dX7_tryOrders_28 hl (k := 4) rfl (by decide) ki_1 (by omega) (fun z52 ls hz52 hl => ?_)
        have hl : lv_has ls 6 [(4, .int z52), (0, .ref a0), (1, .ref a1), (2, .int x2), (3, .int z1)] := hl
        refine lv_goto (tgt := 10) F.1 F.2.1 dX7_tryOrders_31 (by decide) ?_
        exact ih10 f50 _ _ _ z52 (by omega) (by omega) (by omega) h hB hO hk hb10 (lv_sub hl [1, 2, 3, 4, 0] rfl)
  have hb10 : fr L R [] [47] f2 f2 := fr.rf
  exact j_10 (((36 - z4.toInt)).toNat + 1) f2 _ _ _ z4 (by omega) (by omega) (by omega) h hB hO hk hb10 (lv_sub hl [2, 3, 4, 1, 0] rfl)
theorem dX7_reach_0 : decode cX7_reach 0 = .ok (.iload_n 1, 1) := by decide +kernel
theorem dX7_reach_1 : decode cX7_reach 1 = .ok (.iload_n 2, 1) := by decide +kernel
theorem dX7_reach_2 : decode cX7_reach 2 = .ok (.if_icmp .ge 8, 3) := by decide +kernel
theorem dX7_reach_10 : decode cX7_reach 10 = .ok (.iconst 0, 1) := by decide +kernel
theorem dX7_reach_11 : decode cX7_reach 11 = .ok (.ireturn, 1) := by decide +kernel
theorem dX7_reach_5 : decode cX7_reach 5 = .ok (.iload_n 1, 1) := by decide +kernel
theorem dX7_reach_6 : decode cX7_reach 6 = .ok (.iconst 5, 1) := by decide +kernel
theorem dX7_reach_7 : decode cX7_reach 7 = .ok (.if_icmp .lt 5, 3) := by decide +kernel
theorem dX7_reach_12 : decode cX7_reach 12 = .ok (.aload_n 0, 1) := by decide +kernel
theorem dX7_reach_13 : decode cX7_reach 13 = .ok (.getfield 51, 3) := by decide +kernel
theorem dX7_reach_16 : decode cX7_reach 16 = .ok (.iload_n 1, 1) := by decide +kernel
theorem dX7_reach_17 : decode cX7_reach 17 = .ok (.iconst 1, 1) := by decide +kernel
theorem dX7_reach_18 : decode cX7_reach 18 = .ok (.iadd, 1) := by decide +kernel
theorem dX7_reach_19 : decode cX7_reach 19 = .ok (.aaload, 1) := by decide +kernel
theorem dX7_reach_20 : decode cX7_reach 20 = .ok (.astore 5, 2) := by decide +kernel
theorem dX7_reach_22 : decode cX7_reach 22 = .ok (.iconst 0, 1) := by decide +kernel
theorem dX7_reach_23 : decode cX7_reach 23 = .ok (.istore 6, 2) := by decide +kernel
theorem dX7_reach_25 : decode cX7_reach 25 = .ok (.iload 6, 2) := by decide +kernel
theorem dX7_reach_27 : decode cX7_reach 27 = .ok (.iload_n 3, 1) := by decide +kernel
theorem dX7_reach_28 : decode cX7_reach 28 = .ok (.if_icmp .ge 100, 3) := by decide +kernel
theorem dX7_reach_128 : decode cX7_reach 128 = .ok (.iconst 0, 1) := by decide +kernel
theorem dX7_reach_129 : decode cX7_reach 129 = .ok (.ireturn, 1) := by decide +kernel
theorem dX7_reach_31 : decode cX7_reach 31 = .ok (.aload_n 0, 1) := by decide +kernel
theorem dX7_reach_32 : decode cX7_reach 32 = .ok (.getfield 11, 3) := by decide +kernel
theorem dX7_reach_35 : decode cX7_reach 35 = .ok (.iload 6, 2) := by decide +kernel
theorem dX7_reach_37 : decode cX7_reach 37 = .ok (.aaload, 1) := by decide +kernel
theorem dX7_reach_38 : decode cX7_reach 38 = .ok (.astore 7, 2) := by decide +kernel
theorem dX7_reach_40 : decode cX7_reach 40 = .ok (.aload_n 0, 1) := by decide +kernel
theorem dX7_reach_41 : decode cX7_reach 41 = .ok (.getfield 17, 3) := by decide +kernel
theorem mw_140 : Cond.fieldLink RX7 17 "AskBack$Search" "path" "[I" ∈ wsL_law := inr_6 _ (List.mem_of_getElem? (i := 20) rfl)
section
variable {p : Program} {l : Launch} {e : Env} {R0 : Room} {s : State} {m : MethodId} {args : Array Value} {below : List Frame} {meth : Method} {c : Code} {H H0 : Heap} {locs : List Loc} {cells slots : Nat} {Q : State → Prop} {cc : ByteArray} {nL : Nat} {D : va_G} {cy : Nat → ClassId} {A : Nat → Prop} {L : List Nat} {R : Nat → Nat} {f : Nat → va_E} {pc : Nat} {ls : Array Slot} {rest : List Value} {a : Nat}
theorem g_7_17 (F : CallFix p m c cc nL s args wsL_law RX7) (h : tS D cy A H0 L R (TT cy L R) f s H locs) (ha : a ∈ L) (hr : R a = 7) (hdg : decode cc pc = .ok (.getfield 17, 3)) (kk : ∀ b : Nat, b ∈ L → R b = 46 → fld f a 2 = .ref b → W p l e R0 s m args below meth c H locs cells slots Q (F0 m (pc + 3) ls (.ref b :: rest))) : W p l e R0 s m args below meth c H locs cells slots Q (F0 m pc ls (.ref a :: rest)) := tu_getr F h ha hr (fun e q => (T_7 e).mp q) rfl inlX7 rfl (Nat.le_of_ble_eq_true rfl) mw_140 hdg kk
end
theorem dX7_reach_44 : decode cX7_reach 44 = .ok (.iload_n 1, 1) := by decide +kernel
theorem dX7_reach_45 : decode cX7_reach 45 = .ok (.iload 6, 2) := by decide +kernel
theorem dX7_reach_47 : decode cX7_reach 47 = .ok (.iastore, 1) := by decide +kernel
section
variable {p : Program} {l : Launch} {e : Env} {R0 : Room} {s : State} {m : MethodId} {args : Array Value} {below : List Frame} {meth : Method} {c : Code} {H H0 : Heap} {locs : List Loc} {cells slots : Nat} {Q : State → Prop} {cc : ByteArray} {nL : Nat} {D : va_G} {cy : Nat → ClassId} {A : Nat → Prop} {L : List Nat} {R : Nat → Nat} {f : Nat → va_E} {pc : Nat} {ls : Array Slot} {rest : List Value} {a : Nat}
theorem st_46 {own : String} (F : CallFix p m c cc nL s args wsL_law own) (h : tS D cy A H0 L R (TT cy L R) f s H locs) {i : Int32} {x : Int32} (ha : a ∈ L) (hr : R a = 46) (hb : 0 ≤ i.toInt ∧ i.toInt < 5) (hv : 0 ≤ x.toInt ∧ x.toInt ≤ 5) (hdg : decode cc pc = .ok (.iastore, 1)) (kk : ∀ (f1 : Nat → va_E) (H1 : Heap) (locs1 : List Loc), fr L R [] [46] f f1 → tS D cy A H0 L R (TT cy L R) f1 s H1 locs1 → W p l e R0 s m args below meth c H1 locs1 cells slots Q (F0 m (pc + 1) ls (rest))) : W p l e R0 s m args below meth c H locs cells slots Q (F0 m pc ls (.int x :: .int i :: .ref a :: rest)) := tu_iast F h ha hr T_46 hb.1 hb.2 hv hdg (fun f1 H1 locs1 h1 h2 h3 h4 => kk f1 H1 locs1 h3 h4)
end
theorem dX7_reach_48 : decode cX7_reach 48 = .ok (.aload 5, 2) := by decide +kernel
theorem dX7_reach_50 : decode cX7_reach 50 = .ok (.aload_n 0, 1) := by decide +kernel
theorem dX7_reach_51 : decode cX7_reach 51 = .ok (.getfield 51, 3) := by decide +kernel
theorem dX7_reach_54 : decode cX7_reach 54 = .ok (.iload_n 1, 1) := by decide +kernel
theorem dX7_reach_55 : decode cX7_reach 55 = .ok (.aaload, 1) := by decide +kernel
theorem dX7_reach_56 : decode cX7_reach 56 = .ok (.invokevirtual 122, 3) := by decide +kernel
theorem mw_1219 : Cond.methodLink RX7 122 yX8_copy ∈ wsL_law := inr_51 _ (List.mem_of_getElem? (i := 19) rfl)
theorem mw_1222 : Cond.code yX8_copy cX8_copy 3 none ∈ wsL_law := inr_51 _ (List.mem_of_getElem? (i := 22) rfl)
theorem yk_X8_copy : xY yX8_copy RX8 cX8_copy 3 none 1 := ⟨⟨rfl, by decide +kernel, by decide +kernel, by decide +kernel⟩, mw_114, mw_1222⟩
theorem mw_1220 : Cond.instanceMethod yX8_copy ∈ wsL_law := inr_51 _ (List.mem_of_getElem? (i := 20) rfl)
theorem mw_1221 : Cond.selects RX8 yX8_copy yX8_copy ∈ wsL_law := inr_51 _ (List.mem_of_getElem? (i := 21) rfl)
theorem dX7_reach_59 : decode cX7_reach 59 = .ok (.aload_n 0, 1) := by decide +kernel
theorem dX7_reach_60 : decode cX7_reach 60 = .ok (.getfield 85, 3) := by decide +kernel
theorem dX7_reach_63 : decode cX7_reach 63 = .ok (.aload 7, 2) := by decide +kernel
theorem dX7_reach_65 : decode cX7_reach 65 = .ok (.aload 5, 2) := by decide +kernel
theorem dX7_reach_67 : decode cX7_reach 67 = .ok (.aload 7, 2) := by decide +kernel
theorem dX7_reach_69 : decode cX7_reach 69 = .ok (.getfield 97, 3) := by decide +kernel
theorem dX7_reach_72 : decode cX7_reach 72 = .ok (.aload 7, 2) := by decide +kernel
theorem dX7_reach_74 : decode cX7_reach 74 = .ok (.getfield 98, 3) := by decide +kernel
theorem dX7_reach_77 : decode cX7_reach 77 = .ok (.invokevirtual 101, 3) := by decide +kernel
theorem dX7_reach_80 : decode cX7_reach 80 = .ok (.iload_n 1, 1) := by decide +kernel
theorem dX7_reach_81 : decode cX7_reach 81 = .ok (.iconst 1, 1) := by decide +kernel
theorem dX7_reach_82 : decode cX7_reach 82 = .ok (.iadd, 1) := by decide +kernel
theorem dX7_reach_83 : decode cX7_reach 83 = .ok (.iload_n 2, 1) := by decide +kernel
theorem dX7_reach_84 : decode cX7_reach 84 = .ok (.if_icmp .ne 18, 3) := by decide +kernel
theorem dX7_reach_87 : decode cX7_reach 87 = .ok (.aload_n 0, 1) := by decide +kernel
theorem dX7_reach_88 : decode cX7_reach 88 = .ok (.getfield 85, 3) := by decide +kernel
theorem dX7_reach_91 : decode cX7_reach 91 = .ok (.getfield 108, 3) := by decide +kernel
theorem dX7_reach_94 : decode cX7_reach 94 = .ok (.aload 4, 2) := by decide +kernel
theorem dX7_reach_96 : decode cX7_reach 96 = .ok (.invokevirtual 126, 3) := by decide +kernel
theorem dX7_reach_99 : decode cX7_reach 99 = .ok (.goto 14, 3) := by decide +kernel
theorem dX7_reach_113 : decode cX7_reach 113 = .ok (.istore 8, 2) := by decide +kernel
theorem dX7_reach_115 : decode cX7_reach 115 = .ok (.iload 8, 2) := by decide +kernel
theorem dX7_reach_117 : decode cX7_reach 117 = .ok (.ifCond .eq 5, 3) := by decide +kernel
theorem dX7_reach_122 : decode cX7_reach 122 = .ok (.iinc 6 1, 3) := by decide +kernel
theorem dX7_reach_125 : decode cX7_reach 125 = .ok (.goto (-100), 3) := by decide +kernel
theorem dX7_reach_120 : decode cX7_reach 120 = .ok (.iconst 1, 1) := by decide +kernel
theorem dX7_reach_121 : decode cX7_reach 121 = .ok (.ireturn, 1) := by decide +kernel
theorem dX7_reach_102 : decode cX7_reach 102 = .ok (.aload_n 0, 1) := by decide +kernel
theorem dX7_reach_103 : decode cX7_reach 103 = .ok (.iload_n 1, 1) := by decide +kernel
theorem dX7_reach_104 : decode cX7_reach 104 = .ok (.iconst 1, 1) := by decide +kernel
theorem dX7_reach_105 : decode cX7_reach 105 = .ok (.iadd, 1) := by decide +kernel
theorem dX7_reach_106 : decode cX7_reach 106 = .ok (.iload_n 2, 1) := by decide +kernel
theorem dX7_reach_107 : decode cX7_reach 107 = .ok (.iload_n 3, 1) := by decide +kernel
theorem dX7_reach_108 : decode cX7_reach 108 = .ok (.aload 4, 2) := by decide +kernel
theorem dX7_reach_110 : decode cX7_reach 110 = .ok (.invokevirtual 118, 3) := by decide +kernel
theorem mw_1215 : Cond.methodLink RX7 118 yX7_reach ∈ wsL_law := inr_51 _ (List.mem_of_getElem? (i := 15) rfl)
theorem mw_1218 : Cond.code yX7_reach cX7_reach 9 (some .boolean) ∈ wsL_law := inr_51 _ (List.mem_of_getElem? (i := 18) rfl)
theorem yk_X7_reach : xY yX7_reach RX7 cX7_reach 9 (some .boolean) 4 := ⟨⟨rfl, by decide +kernel, by decide +kernel, by decide +kernel⟩, mw_32, mw_1218⟩
theorem mw_1216 : Cond.instanceMethod yX7_reach ∈ wsL_law := inr_51 _ (List.mem_of_getElem? (i := 16) rfl)
theorem mw_1217 : Cond.selects RX7 yX7_reach yX7_reach ∈ wsL_law := inr_51 _ (List.mem_of_getElem? (i := 17) rfl)
def rm_X7_reach_5 : Room := { frames := 0, cells := 0, slots := 0, locals := 0 }
set_option maxHeartbeats 4000000 in
set_option maxRecDepth 100000 in
theorem s_X7_reach_5 (l : Launch) (D : va_G) (cy : Nat → ClassId) (L : List Nat) (R O : Nat → Nat) (f0 : Nat → va_E) (hG : GG L R O f0) (a0 : Nat) (m_a0 : a0 ∈ L) (r_a0 : R a0 = 7) (x1 : Int32) (b1 : 5 ≤ x1.toInt ∧ x1.toInt ≤ 5) (x2 : Int32) (b2 : 1 ≤ x2.toInt ∧ x2.toInt ≤ 5) (x3 : Int32) (b3 : 0 ≤ x3.toInt ∧ x3.toInt ≤ 6) (a4 : Nat) (m_a4 : a4 ∈ L) (r_a4 : R a4 = 4) (b : Nat) (m_b : b ∈ L) (r_b : R b = 6) (pre0 : SB L R O f0 a0 (x3.toInt.toNat) b) (pre1 : DS f0 a0 5 b) : ∀ sz, Met l yX7_reach (Cond.code yX7_reach cX7_reach 9 (some .boolean) :: wsL_law) rm_X7_reach_5 (va_Pc [.ref a0, .int x1, .int x2, .int x3, .ref a4] (tPZ D cy L R (TT cy L R) f0 sz)) (va_Qi (fun (r : Int32) f1 => fr L R [(4, 1), (5, 4), (5, 5), (5, 6), (5, 7), (8, 1), (8, 2)] [4, 5, 8, 23, 34, 46, 51] f0 f1 ∧ 0 ≤ r.toInt ∧ r.toInt ≤ 1 ∧ KO L R O (rfa f0 a0 12) f0 f1 ∧ DM L R f0 f1 b) (tB D (tA L sz) L R (TT cy L R)) (tA L sz)) 0 0 (tA L sz) := by
  refine tw_enteri (by decide +kernel) rfl (Nat.le_of_ble_eq_true rfl) ?_
  intro p e s m below meth c A ls args Q F hZ h hl hret
  have hl : lv_has ls 9 [(0, .ref a0), (1, .int x1), (2, .int x2), (3, .int x3), (4, .ref a4)] := hl
  have hk : fr L R [(4, 1), (5, 4), (5, 5), (5, 6), (5, 7), (8, 1), (8, 2)] [4, 5, 8, 23, 34, 46, 51] f0 f0 := fr.rf
  have hB := pre0
  have hB0 := hB
  have hD := pre1
  have hM : DM L R f0 f0 b := DM_rf
  have hO : KO L R O (rfa f0 a0 12) f0 f0 := KO.rf
  refine lv_iload_n F.1 F.2.1 dX7_reach_0 rfl (lv_at hl 1 rfl) ?_
  refine lv_iload_n F.1 F.2.1 dX7_reach_1 rfl (lv_at hl 2 rfl) ?_
  refine tw_icmp_ge (tgt := 10) F dX7_reach_2 (by decide) (fun b1 => ?_) (fun b1 => ?_)
  · refine tw_iconst F dX7_reach_10 ki_0 (fun z2 hz2 => ?_)
    exact hret f0 _ _ _ _ z2 dX7_reach_11 (tw_nb (by omega)) ⟨hk, by omega, by omega, hO, hM⟩ h
  · exfalso
    omega
def rm_X7_reach_4 : Room := { frames := 5, cells := 0, slots := 0, locals := 128 }
set_option maxHeartbeats 4000000 in
set_option maxRecDepth 100000 in
theorem s_X7_reach_4 (l : Launch) (D : va_G) (cy : Nat → ClassId) (L : List Nat) (R O : Nat → Nat) (f0 : Nat → va_E) (hG : GG L R O f0) (a0 : Nat) (m_a0 : a0 ∈ L) (r_a0 : R a0 = 7) (x1 : Int32) (b1 : 4 ≤ x1.toInt ∧ x1.toInt ≤ 4) (x2 : Int32) (b2 : 1 ≤ x2.toInt ∧ x2.toInt ≤ 5) (x3 : Int32) (b3 : 0 ≤ x3.toInt ∧ x3.toInt ≤ 6) (a4 : Nat) (m_a4 : a4 ∈ L) (r_a4 : R a4 = 4) (b : Nat) (m_b : b ∈ L) (r_b : R b = 6) (pre0 : SB L R O f0 a0 (x3.toInt.toNat) b) (pre1 : DS f0 a0 4 b) : ∀ sz, Met l yX7_reach (Cond.code yX7_reach cX7_reach 9 (some .boolean) :: wsL_law) rm_X7_reach_4 (va_Pc [.ref a0, .int x1, .int x2, .int x3, .ref a4] (tPZ D cy L R (TT cy L R) f0 sz)) (va_Qi (fun (r : Int32) f1 => fr L R [(4, 1), (5, 4), (5, 5), (5, 6), (5, 7), (8, 1), (8, 2)] [4, 5, 8, 23, 34, 46, 51] f0 f1 ∧ 0 ≤ r.toInt ∧ r.toInt ≤ 1 ∧ KO L R O (rfa f0 a0 12) f0 f1 ∧ DM L R f0 f1 b) (tB D (tA L sz) L R (TT cy L R)) (tA L sz)) 0 0 (tA L sz) := by
  refine tw_enteri (by decide +kernel) rfl (Nat.le_of_ble_eq_true rfl) ?_
  intro p e s m below meth c A ls args Q F hZ h hl hret
  have hl : lv_has ls 9 [(0, .ref a0), (1, .int x1), (2, .int x2), (3, .int x3), (4, .ref a4)] := hl
  have hk : fr L R [(4, 1), (5, 4), (5, 5), (5, 6), (5, 7), (8, 1), (8, 2)] [4, 5, 8, 23, 34, 46, 51] f0 f0 := fr.rf
  have hB := pre0
  have hB0 := hB
  have hD := pre1
  have hM : DM L R f0 f0 b := DM_rf
  have hO : KO L R O (rfa f0 a0 12) f0 f0 := KO.rf
  refine lv_iload_n F.1 F.2.1 dX7_reach_0 rfl (lv_at hl 1 rfl) ?_
  refine lv_iload_n F.1 F.2.1 dX7_reach_1 rfl (lv_at hl 2 rfl) ?_
  refine tw_icmp_ge (tgt := 10) F dX7_reach_2 (by decide) (fun b1 => ?_) (fun b1 => ?_)
  · refine tw_iconst F dX7_reach_10 ki_0 (fun z2 hz2 => ?_)
    exact hret f0 _ _ _ _ z2 dX7_reach_11 (tw_nb (by omega)) ⟨hk, by omega, by omega, hO, hM⟩ h
  · refine lv_iload_n F.1 F.2.1 dX7_reach_5 rfl (lv_at hl 1 rfl) ?_
    refine tw_iconst F dX7_reach_6 ki_5 (fun z3 hz3 => ?_)
    refine tw_icmp_lt (tgt := 12) F dX7_reach_7 (by decide) (fun b4 => ?_) (fun b4 => ?_)
    · refine lv_aload_n F.1 F.2.1 dX7_reach_12 rfl (lv_at hl 0 rfl) ?_
      refine g_7_51 F h m_a0 r_a0 dX7_reach_13 (fun o5 m_o5 r_o5 ho5 => ?_)
      refine lv_iload_n F.1 F.2.1 dX7_reach_16 rfl (lv_at hl 1 rfl) ?_
      refine tw_iconst F dX7_reach_17 ki_1 (fun z6 hz6 => ?_)
      refine tu_iadd F dX7_reach_18 (by omega) (fun z7 hz7 => ?_)
      refine le_48 F h m_o5 r_o5 (by omega) dX7_reach_19 (fun o8 m_o8 r_o8 eo8 => ?_)
      have qN : elq f0 (rfa f0 a0 12) 5 = some o8 := by have q := elq_a ho5 eo8; rw [SB_e12 hB0 hk (by decide +kernel) m_a0 r_a0, (show z7.toInt.toNat = 5 by omega)] at q; exact q
      have qNO : O o8 = rfa f0 a0 12 := (hB0.1.2.2 5 o8 qN (by decide)).2.2
      refine lv_astore (lv' := [(5, .ref o8), (0, .ref a0), (1, .int x1), (2, .int x2), (3, .int x3), (4, .ref a4)]) F.1 F.2.1 dX7_reach_20 hl (by decide) rfl (fun ls hl => ?_)
      refine tw_iconst F dX7_reach_22 ki_0 (fun z9 hz9 => ?_)
      refine lv_istore (lv' := [(6, .int z9), (5, .ref o8), (0, .ref a0), (1, .int x1), (2, .int x2), (3, .int x3), (4, .ref a4)]) F.1 F.2.1 dX7_reach_23 hl (by decide) rfl (fun ls hl => ?_)
      have j_25 : ∀ (n25 : Nat) (f10 : Nat → va_E) (H : Heap) (locs : List Loc) (ls : Array Slot) (x6_25 : Int32), 0 ≤ x6_25.toInt → x6_25.toInt ≤ 6 → ((6 - x6_25.toInt)).toNat < n25 → tS D cy A s.heap L R (TT cy L R) f10 s H locs → DS f10 a0 4 b → DM L R f0 f10 b → SB L R O f10 a0 (x3.toInt.toNat) b → KO L R O (rfa f0 a0 12) f0 f10 → fr L R [(4, 1), (5, 4), (5, 5), (5, 6), (5, 7), (8, 1), (8, 2)] [4, 5, 8, 23, 34, 46, 51] f0 f10 → lv_has ls 9 [(0, .ref a0), (1, .int x1), (2, .int x2), (3, .int x3), (4, .ref a4), (5, .ref o8), (6, .int x6_25)] → W p l e rm_X7_reach_4 s m args below meth c H locs 0 0 Q (F0 m 25 ls []) := by
        intro n25
        induction n25 with
        | zero =>
          intro f10 H locs ls x6_25 b11 b12 b13 h hD hM hB hO hk hl
          exfalso
          omega
        | succ n25 ih25 =>
          intro f10 H locs ls x6_25 b11 b12 b13 h hD hM hB hO hk hl
          refine lv_iload F.1 F.2.1 dX7_reach_25 (lv_at hl 6 rfl) ?_
          refine lv_iload_n F.1 F.2.1 dX7_reach_27 rfl (lv_at hl 3 rfl) ?_
          refine tw_icmp_ge (tgt := 128) F dX7_reach_28 (by decide) (fun b14 => ?_) (fun b14 => ?_)
          · refine tw_iconst F dX7_reach_128 ki_0 (fun z15 hz15 => ?_)
            exact hret f10 _ _ _ _ z15 dX7_reach_129 (tw_nb (by omega)) ⟨hk, by omega, by omega, hO, hM⟩ h
          · refine lv_aload_n F.1 F.2.1 dX7_reach_31 rfl (lv_at hl 0 rfl) ?_
            refine g_7_11 F h m_a0 r_a0 dX7_reach_32 (fun o16 m_o16 r_o16 ho16 => ?_)
            refine lv_iload F.1 F.2.1 dX7_reach_35 (lv_at hl 6 rfl) ?_
            refine le_45 F h m_o16 r_o16 (by omega) dX7_reach_37 (fun o17 m_o17 r_o17 eo17 => ?_)
            have qE : elq f0 (rfa f0 a0 1) x6_25.toInt.toNat = some o17 := by rw [← SB_e1 hB0 hk (by decide +kernel) m_a0 r_a0]; exact elq_a ho16 eo17
            refine lv_astore (lv' := [(7, .ref o17), (0, .ref a0), (1, .int x1), (2, .int x2), (3, .int x3), (4, .ref a4), (5, .ref o8), (6, .int x6_25)]) F.1 F.2.1 dX7_reach_38 hl (by decide) rfl (fun ls hl => ?_)
            refine lv_aload_n F.1 F.2.1 dX7_reach_40 rfl (lv_at hl 1 rfl) ?_
            refine g_7_17 F h m_a0 r_a0 dX7_reach_41 (fun o18 m_o18 r_o18 ho18 => ?_)
            refine lv_iload_n F.1 F.2.1 dX7_reach_44 rfl (lv_at hl 2 rfl) ?_
            refine lv_iload F.1 F.2.1 dX7_reach_45 (lv_at hl 7 rfl) ?_
            refine st_46 F h m_o18 r_o18 (by omega) (by omega) dX7_reach_47 (fun f19 H locs hf19 h => ?_)
            have hD : DS f19 a0 4 b := DS_dm hD hB.1 (by decide) hf19 (by decide +kernel) (by decide +kernel) m_a0 r_a0 (DM_fr (hG.1.fr hk (by decide +kernel)) hf19 (by decide +kernel) (by decide +kernel) (by decide +kernel) m_b r_b)
            have hM : DM L R f0 f19 b := DM_tr hM (DM_fr (hG.1.fr hk (by decide +kernel)) hf19 (by decide +kernel) (by decide +kernel) (by decide +kernel) m_b r_b)
            have hB : SB L R O f19 a0 (x3.toInt.toNat) b := SB_fr hB (hG.1.fr hk (by decide +kernel)) hf19 (by decide +kernel) m_a0 r_a0 m_b r_b
            have hO : KO L R O (rfa f0 a0 12) f0 f19 := KO_fr hO hf19 (by decide +kernel)
            have hk : fr L R [(4, 1), (5, 4), (5, 5), (5, 6), (5, 7), (8, 1), (8, 2)] [4, 5, 8, 23, 34, 46, 51] f0 f19 := hk.tr hf19 rfl rfl
            refine lv_aload F.1 F.2.1 dX7_reach_48 (lv_at hl 6 rfl) ?_
            refine lv_aload_n F.1 F.2.1 dX7_reach_50 rfl (lv_at hl 1 rfl) ?_
            refine g_7_51 F h m_a0 r_a0 dX7_reach_51 (fun o20 m_o20 r_o20 ho20 => ?_)
            refine lv_iload_n F.1 F.2.1 dX7_reach_54 rfl (lv_at hl 2 rfl) ?_
            refine le_48 F h m_o20 r_o20 (by omega) dX7_reach_55 (fun o21 m_o21 r_o21 eo21 => ?_)
            have qC : elq f0 (rfa f0 a0 12) 4 = some o21 := by have q := elq_a ho20 eo21; rw [SB_e12 hB0 hk (by decide +kernel) m_a0 r_a0, (show x1.toInt.toNat = 4 by omega)] at q; exact q
            have qCO : O o21 = rfa f0 a0 12 := (hB0.1.2.2 4 o21 qC (by decide)).2.2
            have ow1 := (hG.1.fr hk (by decide +kernel))
            have hBo1 := hB
            have hDo1 := hD
            have hMo1 := hM
            have qc : DIG f19 o21 b := hD _ (by rw [SB_e12 hB0 hk (by decide +kernel) m_a0 r_a0]; exact qC)
            refine tw_Vv (As := [.ref o21]) F hZ h yk_X8_copy mw_1219 mw_1220 mw_1221 (s_X8_copy l D cy L R O f19 o8 m_o8 r_o8 o21 m_o21 r_o21) rfl rfl m_o8 r_o8 (fun e q => (T_8 e).mp q) rfl hl.1 rfl (Nat.le_of_ble_eq_true rfl) ⟨Nat.le_of_ble_eq_true rfl, Nat.le_of_ble_eq_true rfl⟩ ⟨Nat.le_of_ble_eq_true rfl, Nat.le_of_ble_eq_true rfl⟩ dX7_reach_56 (fun f22 H locs hp22 h => ?_)
            obtain ⟨hf22, hv23p0, hv23p1⟩ := hp22
            have hB : SB L R O f22 a0 (x3.toInt.toNat) b := SB_fr hB (hG.1.fr hk (by decide +kernel)) hf22 (by decide +kernel) m_a0 r_a0 m_b r_b
            have hk : fr L R [(4, 1), (5, 4), (5, 5), (5, 6), (5, 7), (8, 1), (8, 2)] [4, 5, 8, 23, 34, 46, 51] f0 f22 := hk.tr hf22 rfl rfl
            have eA1 : AC0 f22 b = AC0 f19 b := AC0_fr ow1 hf22 (by decide +kernel) (by decide +kernel) m_b r_b
            have hdn : DIG f22 o8 b := by have q := qc; unfold DIG dg at q ⊢; rw [hv23p0, eA1]; exact q
            have hMa : DM L R f19 f22 b := DM_ks ow1 hf22 (by decide +kernel) (by decide +kernel) hv23p1 hdn m_b r_b
            have hD : DS f22 a0 4 b := DS_dm hDo1 hBo1.1 (by decide) hf22 (by decide +kernel) (by decide +kernel) m_a0 r_a0 hMa
            have hM : DM L R f0 f22 b := DM_tr hMo1 hMa
            have hO : KO L R O (rfa f0 a0 12) f0 f22 := KO_ks hO hv23p1 qNO
            refine lv_aload_n F.1 F.2.1 dX7_reach_59 rfl (lv_at hl 1 rfl) ?_
            refine g_7_85 F h m_a0 r_a0 dX7_reach_60 (fun o24 m_o24 r_o24 ho24 => ?_)
            refine lv_aload F.1 F.2.1 dX7_reach_63 (lv_at hl 0 rfl) ?_
            refine lv_aload F.1 F.2.1 dX7_reach_65 (lv_at hl 6 rfl) ?_
            refine lv_aload F.1 F.2.1 dX7_reach_67 (lv_at hl 0 rfl) ?_
            refine g_7_97 F h m_o17 r_o17 dX7_reach_69 (fun o25 m_o25 r_o25 ho25 => ?_)
            refine lv_aload F.1 F.2.1 dX7_reach_72 (lv_at hl 0 rfl) ?_
            refine g_7_98 F h m_o17 r_o17 dX7_reach_74 (fun v26 hv26 hv26a hv26b => ?_)
            have qb : rfa f22 o17 0 = b := SB_b hB (by rw [SB_e1 hB0 hk (by decide +kernel) m_a0 r_a0]; exact qE) (by omega)
            have ow2 := (hG.1.fr hk (by decide +kernel))
            have hBo2 := hB
            have hDo2 := hD
            have hMo2 := hM
            refine tw_Vv (As := [.ref o17, .ref o8, .ref o25, .int v26]) F hZ h yk_X5_answer mw_1169 mw_959 mw_960 (s_X5_answer_a l D cy L R O f22 (hG.fr hk (by decide +kernel) (by decide +kernel)) o24 m_o24 r_o24 o17 m_o17 r_o17 o8 m_o8 r_o8 o25 m_o25 r_o25 v26 ⟨by omega, by omega⟩ (SB_p0 hB (by rw [SB_e1 hB0 hk (by decide +kernel) m_a0 r_a0]; exact qE) (by omega)) (by rw [qb]; exact hdn)) rfl rfl m_o24 r_o24 (fun e q => (T_5 e).mp q) rfl hl.1 rfl (Nat.le_of_ble_eq_true rfl) ⟨Nat.le_of_ble_eq_true rfl, Nat.le_of_ble_eq_true rfl⟩ ⟨Nat.le_of_ble_eq_true rfl, Nat.le_of_ble_eq_true rfl⟩ dX7_reach_77 (fun f27 H locs hp27 h => ?_)
            obtain ⟨hf27, hv28p0, hv28p1⟩ := hp27
            have hB : SB L R O f27 a0 (x3.toInt.toNat) b := SB_fr hB (hG.1.fr hk (by decide +kernel)) hf27 (by decide +kernel) m_a0 r_a0 m_b r_b
            have hk : fr L R [(4, 1), (5, 4), (5, 5), (5, 6), (5, 7), (8, 1), (8, 2)] [4, 5, 8, 23, 34, 46, 51] f0 f27 := hk.tr hf27 (by decide +kernel) (by decide +kernel)
            have e29 : fld f27 a0 0 = .ref o24 := (hf27.efl m_a0 r_a0 rfl).trans ho24
            have hdn : DIG f27 o8 b := by have q := hv28p0; rw [qb] at q; exact q
            have hMa : DM L R f22 f27 b := DM_ks ow2 hf27 (by decide +kernel) (by decide +kernel) hv28p1 hdn m_b r_b
            have hD : DS f27 a0 4 b := DS_dm hDo2 hBo2.1 (by decide) hf27 (by decide +kernel) (by decide +kernel) m_a0 r_a0 hMa
            have hM : DM L R f0 f27 b := DM_tr hMo2 hMa
            have hO : KO L R O (rfa f0 a0 12) f0 f27 := KO_ks hO hv28p1 qNO
            have hDn : DS f27 a0 5 b := DS_one (by rw [SB_e12 hB0 hk (by decide +kernel) m_a0 r_a0]; exact qN) hdn
            refine lv_iload_n F.1 F.2.1 dX7_reach_80 rfl (lv_at hl 2 rfl) ?_
            refine tw_iconst F dX7_reach_81 ki_1 (fun z30 hz30 => ?_)
            refine tu_iadd F dX7_reach_82 (by omega) (fun z31 hz31 => ?_)
            refine lv_iload_n F.1 F.2.1 dX7_reach_83 rfl (lv_at hl 3 rfl) ?_
            refine tw_icmp_ne (tgt := 102) F dX7_reach_84 (by decide) (fun b32 => ?_) (fun b32 => ?_)
            · exfalso
              omega
            · refine lv_aload_n F.1 F.2.1 dX7_reach_87 rfl (lv_at hl 1 rfl) ?_
              refine g_7_85 F h m_a0 r_a0 dX7_reach_88 (fun o33 m_o33 r_o33 ho33 => ?_)
              obtain rfl := (fld_inj e29 ho33).symm
              refine g_7_108 F h m_o24 r_o24 dX7_reach_91 (fun o34 m_o34 r_o34 ho34 => ?_)
              refine lv_aload F.1 F.2.1 dX7_reach_94 (lv_at hl 5 rfl) ?_
              refine tw_Vi (As := [.ref a4]) F hZ h yk_X4_same mw_1223 mw_1224 mw_1225 (s_X4_same l D cy L R O f27 o34 m_o34 r_o34 a4 m_a4 r_a4) rfl rfl m_o34 r_o34 (fun e q => (T_4 e).mp q) rfl hl.1 rfl (Nat.le_of_ble_eq_true rfl) ⟨Nat.le_of_ble_eq_true rfl, Nat.le_of_ble_eq_true rfl⟩ ⟨Nat.le_of_ble_eq_true rfl, Nat.le_of_ble_eq_true rfl⟩ dX7_reach_96 (fun v36 f35 H locs hp35 h => ?_)
              obtain ⟨rfl, hv36a, hv36b⟩ := hp35
              refine lv_goto (tgt := 113) F.1 F.2.1 dX7_reach_99 (by decide) ?_
              refine lv_istore (lv' := [(8, .int v36), (7, .ref o17), (0, .ref a0), (1, .int x1), (2, .int x2), (3, .int x3), (4, .ref a4), (5, .ref o8), (6, .int x6_25)]) F.1 F.2.1 dX7_reach_113 hl (by decide) rfl (fun ls hl => ?_)
              refine lv_iload F.1 F.2.1 dX7_reach_115 (lv_at hl 0 rfl) ?_
              refine tw_if_eq (tgt := 122) F dX7_reach_117 (by decide) (fun b37 => ?_) (fun b37 => ?_)
              · refine tu_iinc F dX7_reach_122 hl (k := 8) rfl (by decide) ki_1 (by omega) (fun z38 ls hz38 hl => ?_)
                have hl : lv_has ls 9 [(6, .int z38), (8, .int v36), (7, .ref o17), (0, .ref a0), (1, .int x1), (2, .int x2), (3, .int x3), (4, .ref a4), (5, .ref o8)] := hl
                refine lv_goto (tgt := 25) F.1 F.2.1 dX7_reach_125 (by decide) ?_
                exact ih25 f27 _ _ _ z38 (by omega) (by omega) (by omega) h hD hM hB hO hk (lv_sub hl [3, 4, 5, 6, 7, 8, 0] rfl)
              · refine tw_iconst F dX7_reach_120 ki_1 (fun z39 hz39 => ?_)
                exact hret f27 _ _ _ _ z39 dX7_reach_121 (tw_nb (by omega)) ⟨hk, by omega, by omega, hO, hM⟩ h
      exact j_25 (((6 - z9.toInt)).toNat + 1) f0 _ _ _ z9 (by omega) (by omega) (by omega) h hD hM hB hO hk (lv_sub hl [2, 3, 4, 5, 6, 1, 0] rfl)
    · exfalso
      omega
def rm_X7_reach_3 : Room := { frames := 6, cells := 0, slots := 0, locals := 156 }
set_option maxHeartbeats 4000000 in
set_option maxRecDepth 100000 in
theorem s_X7_reach_3 (l : Launch) (D : va_G) (cy : Nat → ClassId) (L : List Nat) (R O : Nat → Nat) (f0 : Nat → va_E) (hG : GG L R O f0) (a0 : Nat) (m_a0 : a0 ∈ L) (r_a0 : R a0 = 7) (x1 : Int32) (b1 : 3 ≤ x1.toInt ∧ x1.toInt ≤ 3) (x2 : Int32) (b2 : 1 ≤ x2.toInt ∧ x2.toInt ≤ 5) (x3 : Int32) (b3 : 0 ≤ x3.toInt ∧ x3.toInt ≤ 6) (a4 : Nat) (m_a4 : a4 ∈ L) (r_a4 : R a4 = 4) (b : Nat) (m_b : b ∈ L) (r_b : R b = 6) (pre0 : SB L R O f0 a0 (x3.toInt.toNat) b) (pre1 : DS f0 a0 3 b) : ∀ sz, Met l yX7_reach (Cond.code yX7_reach cX7_reach 9 (some .boolean) :: wsL_law) rm_X7_reach_3 (va_Pc [.ref a0, .int x1, .int x2, .int x3, .ref a4] (tPZ D cy L R (TT cy L R) f0 sz)) (va_Qi (fun (r : Int32) f1 => fr L R [(4, 1), (5, 4), (5, 5), (5, 6), (5, 7), (8, 1), (8, 2)] [4, 5, 8, 23, 34, 46, 51] f0 f1 ∧ 0 ≤ r.toInt ∧ r.toInt ≤ 1 ∧ KO L R O (rfa f0 a0 12) f0 f1 ∧ DM L R f0 f1 b) (tB D (tA L sz) L R (TT cy L R)) (tA L sz)) 0 0 (tA L sz) := by
  refine tw_enteri (by decide +kernel) rfl (Nat.le_of_ble_eq_true rfl) ?_
  intro p e s m below meth c A ls args Q F hZ h hl hret
  have hl : lv_has ls 9 [(0, .ref a0), (1, .int x1), (2, .int x2), (3, .int x3), (4, .ref a4)] := hl
  have hk : fr L R [(4, 1), (5, 4), (5, 5), (5, 6), (5, 7), (8, 1), (8, 2)] [4, 5, 8, 23, 34, 46, 51] f0 f0 := fr.rf
  have hB := pre0
  have hB0 := hB
  have hD := pre1
  have hM : DM L R f0 f0 b := DM_rf
  have hO : KO L R O (rfa f0 a0 12) f0 f0 := KO.rf
  refine lv_iload_n F.1 F.2.1 dX7_reach_0 rfl (lv_at hl 1 rfl) ?_
  refine lv_iload_n F.1 F.2.1 dX7_reach_1 rfl (lv_at hl 2 rfl) ?_
  refine tw_icmp_ge (tgt := 10) F dX7_reach_2 (by decide) (fun b1 => ?_) (fun b1 => ?_)
  · refine tw_iconst F dX7_reach_10 ki_0 (fun z2 hz2 => ?_)
    exact hret f0 _ _ _ _ z2 dX7_reach_11 (tw_nb (by omega)) ⟨hk, by omega, by omega, hO, hM⟩ h
  · refine lv_iload_n F.1 F.2.1 dX7_reach_5 rfl (lv_at hl 1 rfl) ?_
    refine tw_iconst F dX7_reach_6 ki_5 (fun z3 hz3 => ?_)
    refine tw_icmp_lt (tgt := 12) F dX7_reach_7 (by decide) (fun b4 => ?_) (fun b4 => ?_)
    · refine lv_aload_n F.1 F.2.1 dX7_reach_12 rfl (lv_at hl 0 rfl) ?_
      refine g_7_51 F h m_a0 r_a0 dX7_reach_13 (fun o5 m_o5 r_o5 ho5 => ?_)
      refine lv_iload_n F.1 F.2.1 dX7_reach_16 rfl (lv_at hl 1 rfl) ?_
      refine tw_iconst F dX7_reach_17 ki_1 (fun z6 hz6 => ?_)
      refine tu_iadd F dX7_reach_18 (by omega) (fun z7 hz7 => ?_)
      refine le_48 F h m_o5 r_o5 (by omega) dX7_reach_19 (fun o8 m_o8 r_o8 eo8 => ?_)
      have qN : elq f0 (rfa f0 a0 12) 4 = some o8 := by have q := elq_a ho5 eo8; rw [SB_e12 hB0 hk (by decide +kernel) m_a0 r_a0, (show z7.toInt.toNat = 4 by omega)] at q; exact q
      have qNO : O o8 = rfa f0 a0 12 := (hB0.1.2.2 4 o8 qN (by decide)).2.2
      refine lv_astore (lv' := [(5, .ref o8), (0, .ref a0), (1, .int x1), (2, .int x2), (3, .int x3), (4, .ref a4)]) F.1 F.2.1 dX7_reach_20 hl (by decide) rfl (fun ls hl => ?_)
      refine tw_iconst F dX7_reach_22 ki_0 (fun z9 hz9 => ?_)
      refine lv_istore (lv' := [(6, .int z9), (5, .ref o8), (0, .ref a0), (1, .int x1), (2, .int x2), (3, .int x3), (4, .ref a4)]) F.1 F.2.1 dX7_reach_23 hl (by decide) rfl (fun ls hl => ?_)
      have j_25 : ∀ (n25 : Nat) (f10 : Nat → va_E) (H : Heap) (locs : List Loc) (ls : Array Slot) (x6_25 : Int32), 0 ≤ x6_25.toInt → x6_25.toInt ≤ 6 → ((6 - x6_25.toInt)).toNat < n25 → tS D cy A s.heap L R (TT cy L R) f10 s H locs → DS f10 a0 3 b → DM L R f0 f10 b → SB L R O f10 a0 (x3.toInt.toNat) b → KO L R O (rfa f0 a0 12) f0 f10 → fr L R [(4, 1), (5, 4), (5, 5), (5, 6), (5, 7), (8, 1), (8, 2)] [4, 5, 8, 23, 34, 46, 51] f0 f10 → lv_has ls 9 [(0, .ref a0), (1, .int x1), (2, .int x2), (3, .int x3), (4, .ref a4), (5, .ref o8), (6, .int x6_25)] → W p l e rm_X7_reach_3 s m args below meth c H locs 0 0 Q (F0 m 25 ls []) := by
        intro n25
        induction n25 with
        | zero =>
          intro f10 H locs ls x6_25 b11 b12 b13 h hD hM hB hO hk hl
          exfalso
          omega
        | succ n25 ih25 =>
          intro f10 H locs ls x6_25 b11 b12 b13 h hD hM hB hO hk hl
          refine lv_iload F.1 F.2.1 dX7_reach_25 (lv_at hl 6 rfl) ?_
          refine lv_iload_n F.1 F.2.1 dX7_reach_27 rfl (lv_at hl 3 rfl) ?_
          refine tw_icmp_ge (tgt := 128) F dX7_reach_28 (by decide) (fun b14 => ?_) (fun b14 => ?_)
          · refine tw_iconst F dX7_reach_128 ki_0 (fun z15 hz15 => ?_)
            exact hret f10 _ _ _ _ z15 dX7_reach_129 (tw_nb (by omega)) ⟨hk, by omega, by omega, hO, hM⟩ h
          · refine lv_aload_n F.1 F.2.1 dX7_reach_31 rfl (lv_at hl 0 rfl) ?_
            refine g_7_11 F h m_a0 r_a0 dX7_reach_32 (fun o16 m_o16 r_o16 ho16 => ?_)
            refine lv_iload F.1 F.2.1 dX7_reach_35 (lv_at hl 6 rfl) ?_
            refine le_45 F h m_o16 r_o16 (by omega) dX7_reach_37 (fun o17 m_o17 r_o17 eo17 => ?_)
            have qE : elq f0 (rfa f0 a0 1) x6_25.toInt.toNat = some o17 := by rw [← SB_e1 hB0 hk (by decide +kernel) m_a0 r_a0]; exact elq_a ho16 eo17
            refine lv_astore (lv' := [(7, .ref o17), (0, .ref a0), (1, .int x1), (2, .int x2), (3, .int x3), (4, .ref a4), (5, .ref o8), (6, .int x6_25)]) F.1 F.2.1 dX7_reach_38 hl (by decide) rfl (fun ls hl => ?_)
            refine lv_aload_n F.1 F.2.1 dX7_reach_40 rfl (lv_at hl 1 rfl) ?_
            refine g_7_17 F h m_a0 r_a0 dX7_reach_41 (fun o18 m_o18 r_o18 ho18 => ?_)
            refine lv_iload_n F.1 F.2.1 dX7_reach_44 rfl (lv_at hl 2 rfl) ?_
            refine lv_iload F.1 F.2.1 dX7_reach_45 (lv_at hl 7 rfl) ?_
            refine st_46 F h m_o18 r_o18 (by omega) (by omega) dX7_reach_47 (fun f19 H locs hf19 h => ?_)
            have hD : DS f19 a0 3 b := DS_dm hD hB.1 (by decide) hf19 (by decide +kernel) (by decide +kernel) m_a0 r_a0 (DM_fr (hG.1.fr hk (by decide +kernel)) hf19 (by decide +kernel) (by decide +kernel) (by decide +kernel) m_b r_b)
            have hM : DM L R f0 f19 b := DM_tr hM (DM_fr (hG.1.fr hk (by decide +kernel)) hf19 (by decide +kernel) (by decide +kernel) (by decide +kernel) m_b r_b)
            have hB : SB L R O f19 a0 (x3.toInt.toNat) b := SB_fr hB (hG.1.fr hk (by decide +kernel)) hf19 (by decide +kernel) m_a0 r_a0 m_b r_b
            have hO : KO L R O (rfa f0 a0 12) f0 f19 := KO_fr hO hf19 (by decide +kernel)
            have hk : fr L R [(4, 1), (5, 4), (5, 5), (5, 6), (5, 7), (8, 1), (8, 2)] [4, 5, 8, 23, 34, 46, 51] f0 f19 := hk.tr hf19 rfl rfl
            refine lv_aload F.1 F.2.1 dX7_reach_48 (lv_at hl 6 rfl) ?_
            refine lv_aload_n F.1 F.2.1 dX7_reach_50 rfl (lv_at hl 1 rfl) ?_
            refine g_7_51 F h m_a0 r_a0 dX7_reach_51 (fun o20 m_o20 r_o20 ho20 => ?_)
            refine lv_iload_n F.1 F.2.1 dX7_reach_54 rfl (lv_at hl 2 rfl) ?_
            refine le_48 F h m_o20 r_o20 (by omega) dX7_reach_55 (fun o21 m_o21 r_o21 eo21 => ?_)
            have qC : elq f0 (rfa f0 a0 12) 3 = some o21 := by have q := elq_a ho20 eo21; rw [SB_e12 hB0 hk (by decide +kernel) m_a0 r_a0, (show x1.toInt.toNat = 3 by omega)] at q; exact q
            have qCO : O o21 = rfa f0 a0 12 := (hB0.1.2.2 3 o21 qC (by decide)).2.2
            have ow1 := (hG.1.fr hk (by decide +kernel))
            have hBo1 := hB
            have hDo1 := hD
            have hMo1 := hM
            have qc : DIG f19 o21 b := hD _ (by rw [SB_e12 hB0 hk (by decide +kernel) m_a0 r_a0]; exact qC)
            refine tw_Vv (As := [.ref o21]) F hZ h yk_X8_copy mw_1219 mw_1220 mw_1221 (s_X8_copy l D cy L R O f19 o8 m_o8 r_o8 o21 m_o21 r_o21) rfl rfl m_o8 r_o8 (fun e q => (T_8 e).mp q) rfl hl.1 rfl (Nat.le_of_ble_eq_true rfl) ⟨Nat.le_of_ble_eq_true rfl, Nat.le_of_ble_eq_true rfl⟩ ⟨Nat.le_of_ble_eq_true rfl, Nat.le_of_ble_eq_true rfl⟩ dX7_reach_56 (fun f22 H locs hp22 h => ?_)
            obtain ⟨hf22, hv23p0, hv23p1⟩ := hp22
            have hB : SB L R O f22 a0 (x3.toInt.toNat) b := SB_fr hB (hG.1.fr hk (by decide +kernel)) hf22 (by decide +kernel) m_a0 r_a0 m_b r_b
            have hk : fr L R [(4, 1), (5, 4), (5, 5), (5, 6), (5, 7), (8, 1), (8, 2)] [4, 5, 8, 23, 34, 46, 51] f0 f22 := hk.tr hf22 rfl rfl
            have eA1 : AC0 f22 b = AC0 f19 b := AC0_fr ow1 hf22 (by decide +kernel) (by decide +kernel) m_b r_b
            have hdn : DIG f22 o8 b := by have q := qc; unfold DIG dg at q ⊢; rw [hv23p0, eA1]; exact q
            have hMa : DM L R f19 f22 b := DM_ks ow1 hf22 (by decide +kernel) (by decide +kernel) hv23p1 hdn m_b r_b
            have hD : DS f22 a0 3 b := DS_dm hDo1 hBo1.1 (by decide) hf22 (by decide +kernel) (by decide +kernel) m_a0 r_a0 hMa
            have hM : DM L R f0 f22 b := DM_tr hMo1 hMa
            have hO : KO L R O (rfa f0 a0 12) f0 f22 := KO_ks hO hv23p1 qNO
            refine lv_aload_n F.1 F.2.1 dX7_reach_59 rfl (lv_at hl 1 rfl) ?_
            refine g_7_85 F h m_a0 r_a0 dX7_reach_60 (fun o24 m_o24 r_o24 ho24 => ?_)
            refine lv_aload F.1 F.2.1 dX7_reach_63 (lv_at hl 0 rfl) ?_
            refine lv_aload F.1 F.2.1 dX7_reach_65 (lv_at hl 6 rfl) ?_
            refine lv_aload F.1 F.2.1 dX7_reach_67 (lv_at hl 0 rfl) ?_
            refine g_7_97 F h m_o17 r_o17 dX7_reach_69 (fun o25 m_o25 r_o25 ho25 => ?_)
            refine lv_aload F.1 F.2.1 dX7_reach_72 (lv_at hl 0 rfl) ?_
            refine g_7_98 F h m_o17 r_o17 dX7_reach_74 (fun v26 hv26 hv26a hv26b => ?_)
            have qb : rfa f22 o17 0 = b := SB_b hB (by rw [SB_e1 hB0 hk (by decide +kernel) m_a0 r_a0]; exact qE) (by omega)
            have ow2 := (hG.1.fr hk (by decide +kernel))
            have hBo2 := hB
            have hDo2 := hD
            have hMo2 := hM
            refine tw_Vv (As := [.ref o17, .ref o8, .ref o25, .int v26]) F hZ h yk_X5_answer mw_1169 mw_959 mw_960 (s_X5_answer_a l D cy L R O f22 (hG.fr hk (by decide +kernel) (by decide +kernel)) o24 m_o24 r_o24 o17 m_o17 r_o17 o8 m_o8 r_o8 o25 m_o25 r_o25 v26 ⟨by omega, by omega⟩ (SB_p0 hB (by rw [SB_e1 hB0 hk (by decide +kernel) m_a0 r_a0]; exact qE) (by omega)) (by rw [qb]; exact hdn)) rfl rfl m_o24 r_o24 (fun e q => (T_5 e).mp q) rfl hl.1 rfl (Nat.le_of_ble_eq_true rfl) ⟨Nat.le_of_ble_eq_true rfl, Nat.le_of_ble_eq_true rfl⟩ ⟨Nat.le_of_ble_eq_true rfl, Nat.le_of_ble_eq_true rfl⟩ dX7_reach_77 (fun f27 H locs hp27 h => ?_)
            obtain ⟨hf27, hv28p0, hv28p1⟩ := hp27
            have hB : SB L R O f27 a0 (x3.toInt.toNat) b := SB_fr hB (hG.1.fr hk (by decide +kernel)) hf27 (by decide +kernel) m_a0 r_a0 m_b r_b
            have hk : fr L R [(4, 1), (5, 4), (5, 5), (5, 6), (5, 7), (8, 1), (8, 2)] [4, 5, 8, 23, 34, 46, 51] f0 f27 := hk.tr hf27 (by decide +kernel) (by decide +kernel)
            have e29 : fld f27 a0 0 = .ref o24 := (hf27.efl m_a0 r_a0 rfl).trans ho24
            have hdn : DIG f27 o8 b := by have q := hv28p0; rw [qb] at q; exact q
            have hMa : DM L R f22 f27 b := DM_ks ow2 hf27 (by decide +kernel) (by decide +kernel) hv28p1 hdn m_b r_b
            have hD : DS f27 a0 3 b := DS_dm hDo2 hBo2.1 (by decide) hf27 (by decide +kernel) (by decide +kernel) m_a0 r_a0 hMa
            have hM : DM L R f0 f27 b := DM_tr hMo2 hMa
            have hO : KO L R O (rfa f0 a0 12) f0 f27 := KO_ks hO hv28p1 qNO
            have hDn : DS f27 a0 4 b := DS_one (by rw [SB_e12 hB0 hk (by decide +kernel) m_a0 r_a0]; exact qN) hdn
            refine lv_iload_n F.1 F.2.1 dX7_reach_80 rfl (lv_at hl 2 rfl) ?_
            refine tw_iconst F dX7_reach_81 ki_1 (fun z30 hz30 => ?_)
            refine tu_iadd F dX7_reach_82 (by omega) (fun z31 hz31 => ?_)
            refine lv_iload_n F.1 F.2.1 dX7_reach_83 rfl (lv_at hl 3 rfl) ?_
            have j_113 : ∀ (f32 : Nat → va_E) (H : Heap) (locs : List Loc) (ls : Array Slot) (y0_113 : Int32), 0 ≤ y0_113.toInt → y0_113.toInt ≤ 1 → tS D cy A s.heap L R (TT cy L R) f32 s H locs → DS f32 a0 3 b → DM L R f0 f32 b → SB L R O f32 a0 (x3.toInt.toNat) b → KO L R O (rfa f0 a0 12) f0 f32 → fr L R [(4, 1), (5, 4), (5, 5), (5, 6), (5, 7), (8, 1), (8, 2)] [4, 5, 8, 23, 34, 46, 51] f0 f32 → fr L R [(4, 1), (5, 4), (5, 5), (5, 6), (5, 7), (8, 1), (8, 2)] [4, 5, 8, 23, 34, 46, 51] f27 f32 → lv_has ls 9 [(0, .ref a0), (1, .int x1), (2, .int x2), (3, .int x3), (4, .ref a4), (5, .ref o8), (6, .int x6_25)] → W p l e rm_X7_reach_3 s m args below meth c H locs 0 0 Q (F0 m 113 ls [.int y0_113]) := by
              intro f32 H locs ls y0_113 b33 b34 h hD hM hB hO hk hb113 hl
              have e35 : fld f32 a0 0 = .ref o24 := (hb113.efl m_a0 r_a0 rfl).trans e29
              refine lv_istore (lv' := [(8, .int y0_113), (0, .ref a0), (1, .int x1), (2, .int x2), (3, .int x3), (4, .ref a4), (5, .ref o8), (6, .int x6_25)]) F.1 F.2.1 dX7_reach_113 hl (by decide) rfl (fun ls hl => ?_)
              refine lv_iload F.1 F.2.1 dX7_reach_115 (lv_at hl 0 rfl) ?_
              refine tw_if_eq (tgt := 122) F dX7_reach_117 (by decide) (fun b36 => ?_) (fun b36 => ?_)
              · refine tu_iinc F dX7_reach_122 hl (k := 7) rfl (by decide) ki_1 (by omega) (fun z37 ls hz37 hl => ?_)
                have hl : lv_has ls 9 [(6, .int z37), (8, .int y0_113), (0, .ref a0), (1, .int x1), (2, .int x2), (3, .int x3), (4, .ref a4), (5, .ref o8)] := hl
                refine lv_goto (tgt := 25) F.1 F.2.1 dX7_reach_125 (by decide) ?_
                exact ih25 f32 _ _ _ z37 (by omega) (by omega) (by omega) h hD hM hB hO hk (lv_sub hl [2, 3, 4, 5, 6, 7, 0] rfl)
              · refine tw_iconst F dX7_reach_120 ki_1 (fun z38 hz38 => ?_)
                exact hret f32 _ _ _ _ z38 dX7_reach_121 (tw_nb (by omega)) ⟨hk, by omega, by omega, hO, hM⟩ h
            have hb113 : fr L R [(4, 1), (5, 4), (5, 5), (5, 6), (5, 7), (8, 1), (8, 2)] [4, 5, 8, 23, 34, 46, 51] f27 f27 := fr.rf
            refine tw_icmp_ne (tgt := 102) F dX7_reach_84 (by decide) (fun b39 => ?_) (fun b39 => ?_)
            · refine lv_aload_n F.1 F.2.1 dX7_reach_102 rfl (lv_at hl 1 rfl) ?_
              refine lv_iload_n F.1 F.2.1 dX7_reach_103 rfl (lv_at hl 2 rfl) ?_
              refine tw_iconst F dX7_reach_104 ki_1 (fun z40 hz40 => ?_)
              refine tu_iadd F dX7_reach_105 (by omega) (fun z41 hz41 => ?_)
              refine lv_iload_n F.1 F.2.1 dX7_reach_106 rfl (lv_at hl 3 rfl) ?_
              refine lv_iload_n F.1 F.2.1 dX7_reach_107 rfl (lv_at hl 4 rfl) ?_
              refine lv_aload F.1 F.2.1 dX7_reach_108 (lv_at hl 5 rfl) ?_
              have hk0r : rfa f27 a0 12 = rfa f0 a0 12 := hk.erf m_a0 r_a0 (by decide +kernel)
              have hBo3 := hB
              have hDo3 := hD
              have hMo3 := hM
              refine tw_Vi (As := [.int z41, .int x2, .int x3, .ref a4]) F hZ h yk_X7_reach mw_1215 mw_1216 mw_1217 (s_X7_reach_4 l D cy L R O f27 (hG.fr hk (by decide +kernel) (by decide +kernel)) a0 m_a0 r_a0 z41 ⟨by omega, by omega⟩ x2 ⟨by omega, by omega⟩ x3 ⟨by omega, by omega⟩ a4 m_a4 r_a4 b m_b r_b hB hDn) rfl rfl m_a0 r_a0 (fun e q => (T_7 e).mp q) rfl hl.1 rfl (Nat.le_of_ble_eq_true rfl) ⟨Nat.le_of_ble_eq_true rfl, Nat.le_of_ble_eq_true rfl⟩ ⟨Nat.le_of_ble_eq_true rfl, Nat.le_of_ble_eq_true rfl⟩ dX7_reach_110 (fun v43 f42 H locs hp42 h => ?_)
              obtain ⟨hf42, hv43a, hv43b, hv43p0, hv43p1⟩ := hp42
              have hB : SB L R O f42 a0 (x3.toInt.toNat) b := SB_fr hB (hG.1.fr hk (by decide +kernel)) hf42 (by decide +kernel) m_a0 r_a0 m_b r_b
              have hk : fr L R [(4, 1), (5, 4), (5, 5), (5, 6), (5, 7), (8, 1), (8, 2)] [4, 5, 8, 23, 34, 46, 51] f0 f42 := hk.tr hf42 (by decide +kernel) (by decide +kernel)
              have hb113 : fr L R [(4, 1), (5, 4), (5, 5), (5, 6), (5, 7), (8, 1), (8, 2)] [4, 5, 8, 23, 34, 46, 51] f27 f42 := hb113.tr hf42 (by decide +kernel) (by decide +kernel)
              have e44 : fld f42 a0 0 = .ref o24 := (hf42.efl m_a0 r_a0 rfl).trans e29
              have hD : DS f42 a0 3 b := DS_dm hDo3 hBo3.1 (by decide) hf42 (by decide +kernel) (by decide +kernel) m_a0 r_a0 hv43p1
              have hM : DM L R f0 f42 b := DM_tr hMo3 hv43p1
              have hO : KO L R O (rfa f0 a0 12) f0 f42 := hO.tr (by have q := hv43p0; rw [hk0r] at q; exact q)
              exact j_113 f42 _ _ _ v43 (by omega) (by omega) h hD hM hB hO hk hb113 (lv_sub hl [1, 2, 3, 4, 5, 6, 7] rfl)
            · refine lv_aload_n F.1 F.2.1 dX7_reach_87 rfl (lv_at hl 1 rfl) ?_
              refine g_7_85 F h m_a0 r_a0 dX7_reach_88 (fun o45 m_o45 r_o45 ho45 => ?_)
              obtain rfl := (fld_inj e29 ho45).symm
              refine g_7_108 F h m_o24 r_o24 dX7_reach_91 (fun o46 m_o46 r_o46 ho46 => ?_)
              refine lv_aload F.1 F.2.1 dX7_reach_94 (lv_at hl 5 rfl) ?_
              refine tw_Vi (As := [.ref a4]) F hZ h yk_X4_same mw_1223 mw_1224 mw_1225 (s_X4_same l D cy L R O f27 o46 m_o46 r_o46 a4 m_a4 r_a4) rfl rfl m_o46 r_o46 (fun e q => (T_4 e).mp q) rfl hl.1 rfl (Nat.le_of_ble_eq_true rfl) ⟨Nat.le_of_ble_eq_true rfl, Nat.le_of_ble_eq_true rfl⟩ ⟨Nat.le_of_ble_eq_true rfl, Nat.le_of_ble_eq_true rfl⟩ dX7_reach_96 (fun v48 f47 H locs hp47 h => ?_)
              obtain ⟨rfl, hv48a, hv48b⟩ := hp47
              refine lv_goto (tgt := 113) F.1 F.2.1 dX7_reach_99 (by decide) ?_
              exact j_113 f27 _ _ _ v48 (by omega) (by omega) h hD hM hB hO hk hb113 (lv_sub hl [1, 2, 3, 4, 5, 6, 7] rfl)
      exact j_25 (((6 - z9.toInt)).toNat + 1) f0 _ _ _ z9 (by omega) (by omega) (by omega) h hD hM hB hO hk (lv_sub hl [2, 3, 4, 5, 6, 1, 0] rfl)
    · exfalso
      omega
def rm_X7_reach_2 : Room := { frames := 7, cells := 0, slots := 0, locals := 184 }
set_option maxHeartbeats 4000000 in
set_option maxRecDepth 100000 in
theorem s_X7_reach_2 (l : Launch) (D : va_G) (cy : Nat → ClassId) (L : List Nat) (R O : Nat → Nat) (f0 : Nat → va_E) (hG : GG L R O f0) (a0 : Nat) (m_a0 : a0 ∈ L) (r_a0 : R a0 = 7) (x1 : Int32) (b1 : 2 ≤ x1.toInt ∧ x1.toInt ≤ 2) (x2 : Int32) (b2 : 1 ≤ x2.toInt ∧ x2.toInt ≤ 5) (x3 : Int32) (b3 : 0 ≤ x3.toInt ∧ x3.toInt ≤ 6) (a4 : Nat) (m_a4 : a4 ∈ L) (r_a4 : R a4 = 4) (b : Nat) (m_b : b ∈ L) (r_b : R b = 6) (pre0 : SB L R O f0 a0 (x3.toInt.toNat) b) (pre1 : DS f0 a0 2 b) : ∀ sz, Met l yX7_reach (Cond.code yX7_reach cX7_reach 9 (some .boolean) :: wsL_law) rm_X7_reach_2 (va_Pc [.ref a0, .int x1, .int x2, .int x3, .ref a4] (tPZ D cy L R (TT cy L R) f0 sz)) (va_Qi (fun (r : Int32) f1 => fr L R [(4, 1), (5, 4), (5, 5), (5, 6), (5, 7), (8, 1), (8, 2)] [4, 5, 8, 23, 34, 46, 51] f0 f1 ∧ 0 ≤ r.toInt ∧ r.toInt ≤ 1 ∧ KO L R O (rfa f0 a0 12) f0 f1 ∧ DM L R f0 f1 b) (tB D (tA L sz) L R (TT cy L R)) (tA L sz)) 0 0 (tA L sz) := by
  refine tw_enteri (by decide +kernel) rfl (Nat.le_of_ble_eq_true rfl) ?_
  intro p e s m below meth c A ls args Q F hZ h hl hret
  have hl : lv_has ls 9 [(0, .ref a0), (1, .int x1), (2, .int x2), (3, .int x3), (4, .ref a4)] := hl
  have hk : fr L R [(4, 1), (5, 4), (5, 5), (5, 6), (5, 7), (8, 1), (8, 2)] [4, 5, 8, 23, 34, 46, 51] f0 f0 := fr.rf
  have hB := pre0
  have hB0 := hB
  have hD := pre1
  have hM : DM L R f0 f0 b := DM_rf
  have hO : KO L R O (rfa f0 a0 12) f0 f0 := KO.rf
  refine lv_iload_n F.1 F.2.1 dX7_reach_0 rfl (lv_at hl 1 rfl) ?_
  refine lv_iload_n F.1 F.2.1 dX7_reach_1 rfl (lv_at hl 2 rfl) ?_
  refine tw_icmp_ge (tgt := 10) F dX7_reach_2 (by decide) (fun b1 => ?_) (fun b1 => ?_)
  · refine tw_iconst F dX7_reach_10 ki_0 (fun z2 hz2 => ?_)
    exact hret f0 _ _ _ _ z2 dX7_reach_11 (tw_nb (by omega)) ⟨hk, by omega, by omega, hO, hM⟩ h
  · refine lv_iload_n F.1 F.2.1 dX7_reach_5 rfl (lv_at hl 1 rfl) ?_
    refine tw_iconst F dX7_reach_6 ki_5 (fun z3 hz3 => ?_)
    refine tw_icmp_lt (tgt := 12) F dX7_reach_7 (by decide) (fun b4 => ?_) (fun b4 => ?_)
    · refine lv_aload_n F.1 F.2.1 dX7_reach_12 rfl (lv_at hl 0 rfl) ?_
      refine g_7_51 F h m_a0 r_a0 dX7_reach_13 (fun o5 m_o5 r_o5 ho5 => ?_)
      refine lv_iload_n F.1 F.2.1 dX7_reach_16 rfl (lv_at hl 1 rfl) ?_
      refine tw_iconst F dX7_reach_17 ki_1 (fun z6 hz6 => ?_)
      refine tu_iadd F dX7_reach_18 (by omega) (fun z7 hz7 => ?_)
      refine le_48 F h m_o5 r_o5 (by omega) dX7_reach_19 (fun o8 m_o8 r_o8 eo8 => ?_)
      have qN : elq f0 (rfa f0 a0 12) 3 = some o8 := by have q := elq_a ho5 eo8; rw [SB_e12 hB0 hk (by decide +kernel) m_a0 r_a0, (show z7.toInt.toNat = 3 by omega)] at q; exact q
      have qNO : O o8 = rfa f0 a0 12 := (hB0.1.2.2 3 o8 qN (by decide)).2.2
      refine lv_astore (lv' := [(5, .ref o8), (0, .ref a0), (1, .int x1), (2, .int x2), (3, .int x3), (4, .ref a4)]) F.1 F.2.1 dX7_reach_20 hl (by decide) rfl (fun ls hl => ?_)
      refine tw_iconst F dX7_reach_22 ki_0 (fun z9 hz9 => ?_)
      refine lv_istore (lv' := [(6, .int z9), (5, .ref o8), (0, .ref a0), (1, .int x1), (2, .int x2), (3, .int x3), (4, .ref a4)]) F.1 F.2.1 dX7_reach_23 hl (by decide) rfl (fun ls hl => ?_)
      have j_25 : ∀ (n25 : Nat) (f10 : Nat → va_E) (H : Heap) (locs : List Loc) (ls : Array Slot) (x6_25 : Int32), 0 ≤ x6_25.toInt → x6_25.toInt ≤ 6 → ((6 - x6_25.toInt)).toNat < n25 → tS D cy A s.heap L R (TT cy L R) f10 s H locs → DS f10 a0 2 b → DM L R f0 f10 b → SB L R O f10 a0 (x3.toInt.toNat) b → KO L R O (rfa f0 a0 12) f0 f10 → fr L R [(4, 1), (5, 4), (5, 5), (5, 6), (5, 7), (8, 1), (8, 2)] [4, 5, 8, 23, 34, 46, 51] f0 f10 → lv_has ls 9 [(0, .ref a0), (1, .int x1), (2, .int x2), (3, .int x3), (4, .ref a4), (5, .ref o8), (6, .int x6_25)] → W p l e rm_X7_reach_2 s m args below meth c H locs 0 0 Q (F0 m 25 ls []) := by
        intro n25
        induction n25 with
        | zero =>
          intro f10 H locs ls x6_25 b11 b12 b13 h hD hM hB hO hk hl
          exfalso
          omega
        | succ n25 ih25 =>
          intro f10 H locs ls x6_25 b11 b12 b13 h hD hM hB hO hk hl
          refine lv_iload F.1 F.2.1 dX7_reach_25 (lv_at hl 6 rfl) ?_
          refine lv_iload_n F.1 F.2.1 dX7_reach_27 rfl (lv_at hl 3 rfl) ?_
          refine tw_icmp_ge (tgt := 128) F dX7_reach_28 (by decide) (fun b14 => ?_) (fun b14 => ?_)
          · refine tw_iconst F dX7_reach_128 ki_0 (fun z15 hz15 => ?_)
            exact hret f10 _ _ _ _ z15 dX7_reach_129 (tw_nb (by omega)) ⟨hk, by omega, by omega, hO, hM⟩ h
          · refine lv_aload_n F.1 F.2.1 dX7_reach_31 rfl (lv_at hl 0 rfl) ?_
            refine g_7_11 F h m_a0 r_a0 dX7_reach_32 (fun o16 m_o16 r_o16 ho16 => ?_)
            refine lv_iload F.1 F.2.1 dX7_reach_35 (lv_at hl 6 rfl) ?_
            refine le_45 F h m_o16 r_o16 (by omega) dX7_reach_37 (fun o17 m_o17 r_o17 eo17 => ?_)
            have qE : elq f0 (rfa f0 a0 1) x6_25.toInt.toNat = some o17 := by rw [← SB_e1 hB0 hk (by decide +kernel) m_a0 r_a0]; exact elq_a ho16 eo17
            refine lv_astore (lv' := [(7, .ref o17), (0, .ref a0), (1, .int x1), (2, .int x2), (3, .int x3), (4, .ref a4), (5, .ref o8), (6, .int x6_25)]) F.1 F.2.1 dX7_reach_38 hl (by decide) rfl (fun ls hl => ?_)
            refine lv_aload_n F.1 F.2.1 dX7_reach_40 rfl (lv_at hl 1 rfl) ?_
            refine g_7_17 F h m_a0 r_a0 dX7_reach_41 (fun o18 m_o18 r_o18 ho18 => ?_)
            refine lv_iload_n F.1 F.2.1 dX7_reach_44 rfl (lv_at hl 2 rfl) ?_
            refine lv_iload F.1 F.2.1 dX7_reach_45 (lv_at hl 7 rfl) ?_
            refine st_46 F h m_o18 r_o18 (by omega) (by omega) dX7_reach_47 (fun f19 H locs hf19 h => ?_)
            have hD : DS f19 a0 2 b := DS_dm hD hB.1 (by decide) hf19 (by decide +kernel) (by decide +kernel) m_a0 r_a0 (DM_fr (hG.1.fr hk (by decide +kernel)) hf19 (by decide +kernel) (by decide +kernel) (by decide +kernel) m_b r_b)
            have hM : DM L R f0 f19 b := DM_tr hM (DM_fr (hG.1.fr hk (by decide +kernel)) hf19 (by decide +kernel) (by decide +kernel) (by decide +kernel) m_b r_b)
            have hB : SB L R O f19 a0 (x3.toInt.toNat) b := SB_fr hB (hG.1.fr hk (by decide +kernel)) hf19 (by decide +kernel) m_a0 r_a0 m_b r_b
            have hO : KO L R O (rfa f0 a0 12) f0 f19 := KO_fr hO hf19 (by decide +kernel)
            have hk : fr L R [(4, 1), (5, 4), (5, 5), (5, 6), (5, 7), (8, 1), (8, 2)] [4, 5, 8, 23, 34, 46, 51] f0 f19 := hk.tr hf19 rfl rfl
            refine lv_aload F.1 F.2.1 dX7_reach_48 (lv_at hl 6 rfl) ?_
            refine lv_aload_n F.1 F.2.1 dX7_reach_50 rfl (lv_at hl 1 rfl) ?_
            refine g_7_51 F h m_a0 r_a0 dX7_reach_51 (fun o20 m_o20 r_o20 ho20 => ?_)
            refine lv_iload_n F.1 F.2.1 dX7_reach_54 rfl (lv_at hl 2 rfl) ?_
            refine le_48 F h m_o20 r_o20 (by omega) dX7_reach_55 (fun o21 m_o21 r_o21 eo21 => ?_)
            have qC : elq f0 (rfa f0 a0 12) 2 = some o21 := by have q := elq_a ho20 eo21; rw [SB_e12 hB0 hk (by decide +kernel) m_a0 r_a0, (show x1.toInt.toNat = 2 by omega)] at q; exact q
            have qCO : O o21 = rfa f0 a0 12 := (hB0.1.2.2 2 o21 qC (by decide)).2.2
            have ow1 := (hG.1.fr hk (by decide +kernel))
            have hBo1 := hB
            have hDo1 := hD
            have hMo1 := hM
            have qc : DIG f19 o21 b := hD _ (by rw [SB_e12 hB0 hk (by decide +kernel) m_a0 r_a0]; exact qC)
            refine tw_Vv (As := [.ref o21]) F hZ h yk_X8_copy mw_1219 mw_1220 mw_1221 (s_X8_copy l D cy L R O f19 o8 m_o8 r_o8 o21 m_o21 r_o21) rfl rfl m_o8 r_o8 (fun e q => (T_8 e).mp q) rfl hl.1 rfl (Nat.le_of_ble_eq_true rfl) ⟨Nat.le_of_ble_eq_true rfl, Nat.le_of_ble_eq_true rfl⟩ ⟨Nat.le_of_ble_eq_true rfl, Nat.le_of_ble_eq_true rfl⟩ dX7_reach_56 (fun f22 H locs hp22 h => ?_)
            obtain ⟨hf22, hv23p0, hv23p1⟩ := hp22
            have hB : SB L R O f22 a0 (x3.toInt.toNat) b := SB_fr hB (hG.1.fr hk (by decide +kernel)) hf22 (by decide +kernel) m_a0 r_a0 m_b r_b
            have hk : fr L R [(4, 1), (5, 4), (5, 5), (5, 6), (5, 7), (8, 1), (8, 2)] [4, 5, 8, 23, 34, 46, 51] f0 f22 := hk.tr hf22 rfl rfl
            have eA1 : AC0 f22 b = AC0 f19 b := AC0_fr ow1 hf22 (by decide +kernel) (by decide +kernel) m_b r_b
            have hdn : DIG f22 o8 b := by have q := qc; unfold DIG dg at q ⊢; rw [hv23p0, eA1]; exact q
            have hMa : DM L R f19 f22 b := DM_ks ow1 hf22 (by decide +kernel) (by decide +kernel) hv23p1 hdn m_b r_b
            have hD : DS f22 a0 2 b := DS_dm hDo1 hBo1.1 (by decide) hf22 (by decide +kernel) (by decide +kernel) m_a0 r_a0 hMa
            have hM : DM L R f0 f22 b := DM_tr hMo1 hMa
            have hO : KO L R O (rfa f0 a0 12) f0 f22 := KO_ks hO hv23p1 qNO
            refine lv_aload_n F.1 F.2.1 dX7_reach_59 rfl (lv_at hl 1 rfl) ?_
            refine g_7_85 F h m_a0 r_a0 dX7_reach_60 (fun o24 m_o24 r_o24 ho24 => ?_)
            refine lv_aload F.1 F.2.1 dX7_reach_63 (lv_at hl 0 rfl) ?_
            refine lv_aload F.1 F.2.1 dX7_reach_65 (lv_at hl 6 rfl) ?_
            refine lv_aload F.1 F.2.1 dX7_reach_67 (lv_at hl 0 rfl) ?_
            refine g_7_97 F h m_o17 r_o17 dX7_reach_69 (fun o25 m_o25 r_o25 ho25 => ?_)
            refine lv_aload F.1 F.2.1 dX7_reach_72 (lv_at hl 0 rfl) ?_
            refine g_7_98 F h m_o17 r_o17 dX7_reach_74 (fun v26 hv26 hv26a hv26b => ?_)
            have qb : rfa f22 o17 0 = b := SB_b hB (by rw [SB_e1 hB0 hk (by decide +kernel) m_a0 r_a0]; exact qE) (by omega)
            have ow2 := (hG.1.fr hk (by decide +kernel))
            have hBo2 := hB
            have hDo2 := hD
            have hMo2 := hM
            refine tw_Vv (As := [.ref o17, .ref o8, .ref o25, .int v26]) F hZ h yk_X5_answer mw_1169 mw_959 mw_960 (s_X5_answer_a l D cy L R O f22 (hG.fr hk (by decide +kernel) (by decide +kernel)) o24 m_o24 r_o24 o17 m_o17 r_o17 o8 m_o8 r_o8 o25 m_o25 r_o25 v26 ⟨by omega, by omega⟩ (SB_p0 hB (by rw [SB_e1 hB0 hk (by decide +kernel) m_a0 r_a0]; exact qE) (by omega)) (by rw [qb]; exact hdn)) rfl rfl m_o24 r_o24 (fun e q => (T_5 e).mp q) rfl hl.1 rfl (Nat.le_of_ble_eq_true rfl) ⟨Nat.le_of_ble_eq_true rfl, Nat.le_of_ble_eq_true rfl⟩ ⟨Nat.le_of_ble_eq_true rfl, Nat.le_of_ble_eq_true rfl⟩ dX7_reach_77 (fun f27 H locs hp27 h => ?_)
            obtain ⟨hf27, hv28p0, hv28p1⟩ := hp27
            have hB : SB L R O f27 a0 (x3.toInt.toNat) b := SB_fr hB (hG.1.fr hk (by decide +kernel)) hf27 (by decide +kernel) m_a0 r_a0 m_b r_b
            have hk : fr L R [(4, 1), (5, 4), (5, 5), (5, 6), (5, 7), (8, 1), (8, 2)] [4, 5, 8, 23, 34, 46, 51] f0 f27 := hk.tr hf27 (by decide +kernel) (by decide +kernel)
            have e29 : fld f27 a0 0 = .ref o24 := (hf27.efl m_a0 r_a0 rfl).trans ho24
            have hdn : DIG f27 o8 b := by have q := hv28p0; rw [qb] at q; exact q
            have hMa : DM L R f22 f27 b := DM_ks ow2 hf27 (by decide +kernel) (by decide +kernel) hv28p1 hdn m_b r_b
            have hD : DS f27 a0 2 b := DS_dm hDo2 hBo2.1 (by decide) hf27 (by decide +kernel) (by decide +kernel) m_a0 r_a0 hMa
            have hM : DM L R f0 f27 b := DM_tr hMo2 hMa
            have hO : KO L R O (rfa f0 a0 12) f0 f27 := KO_ks hO hv28p1 qNO
            have hDn : DS f27 a0 3 b := DS_one (by rw [SB_e12 hB0 hk (by decide +kernel) m_a0 r_a0]; exact qN) hdn
            refine lv_iload_n F.1 F.2.1 dX7_reach_80 rfl (lv_at hl 2 rfl) ?_
            refine tw_iconst F dX7_reach_81 ki_1 (fun z30 hz30 => ?_)
            refine tu_iadd F dX7_reach_82 (by omega) (fun z31 hz31 => ?_)
            refine lv_iload_n F.1 F.2.1 dX7_reach_83 rfl (lv_at hl 3 rfl) ?_
            have j_113 : ∀ (f32 : Nat → va_E) (H : Heap) (locs : List Loc) (ls : Array Slot) (y0_113 : Int32), 0 ≤ y0_113.toInt → y0_113.toInt ≤ 1 → tS D cy A s.heap L R (TT cy L R) f32 s H locs → DS f32 a0 2 b → DM L R f0 f32 b → SB L R O f32 a0 (x3.toInt.toNat) b → KO L R O (rfa f0 a0 12) f0 f32 → fr L R [(4, 1), (5, 4), (5, 5), (5, 6), (5, 7), (8, 1), (8, 2)] [4, 5, 8, 23, 34, 46, 51] f0 f32 → fr L R [(4, 1), (5, 4), (5, 5), (5, 6), (5, 7), (8, 1), (8, 2)] [4, 5, 8, 23, 34, 46, 51] f27 f32 → lv_has ls 9 [(0, .ref a0), (1, .int x1), (2, .int x2), (3, .int x3), (4, .ref a4), (5, .ref o8), (6, .int x6_25)] → W p l e rm_X7_reach_2 s m args below meth c H locs 0 0 Q (F0 m 113 ls [.int y0_113]) := by
              intro f32 H locs ls y0_113 b33 b34 h hD hM hB hO hk hb113 hl
              have e35 : fld f32 a0 0 = .ref o24 := (hb113.efl m_a0 r_a0 rfl).trans e29
              refine lv_istore (lv' := [(8, .int y0_113), (0, .ref a0), (1, .int x1), (2, .int x2), (3, .int x3), (4, .ref a4), (5, .ref o8), (6, .int x6_25)]) F.1 F.2.1 dX7_reach_113 hl (by decide) rfl (fun ls hl => ?_)
              refine lv_iload F.1 F.2.1 dX7_reach_115 (lv_at hl 0 rfl) ?_
              refine tw_if_eq (tgt := 122) F dX7_reach_117 (by decide) (fun b36 => ?_) (fun b36 => ?_)
              · refine tu_iinc F dX7_reach_122 hl (k := 7) rfl (by decide) ki_1 (by omega) (fun z37 ls hz37 hl => ?_)
                have hl : lv_has ls 9 [(6, .int z37), (8, .int y0_113), (0, .ref a0), (1, .int x1), (2, .int x2), (3, .int x3), (4, .ref a4), (5, .ref o8)] := hl
                refine lv_goto (tgt := 25) F.1 F.2.1 dX7_reach_125 (by decide) ?_
                exact ih25 f32 _ _ _ z37 (by omega) (by omega) (by omega) h hD hM hB hO hk (lv_sub hl [2, 3, 4, 5, 6, 7, 0] rfl)
              · refine tw_iconst F dX7_reach_120 ki_1 (fun z38 hz38 => ?_)
                exact hret f32 _ _ _ _ z38 dX7_reach_121 (tw_nb (by omega)) ⟨hk, by omega, by omega, hO, hM⟩ h
            have hb113 : fr L R [(4, 1), (5, 4), (5, 5), (5, 6), (5, 7), (8, 1), (8, 2)] [4, 5, 8, 23, 34, 46, 51] f27 f27 := fr.rf
            refine tw_icmp_ne (tgt := 102) F dX7_reach_84 (by decide) (fun b39 => ?_) (fun b39 => ?_)
            · refine lv_aload_n F.1 F.2.1 dX7_reach_102 rfl (lv_at hl 1 rfl) ?_
              refine lv_iload_n F.1 F.2.1 dX7_reach_103 rfl (lv_at hl 2 rfl) ?_
              refine tw_iconst F dX7_reach_104 ki_1 (fun z40 hz40 => ?_)
              refine tu_iadd F dX7_reach_105 (by omega) (fun z41 hz41 => ?_)
              refine lv_iload_n F.1 F.2.1 dX7_reach_106 rfl (lv_at hl 3 rfl) ?_
              refine lv_iload_n F.1 F.2.1 dX7_reach_107 rfl (lv_at hl 4 rfl) ?_
              refine lv_aload F.1 F.2.1 dX7_reach_108 (lv_at hl 5 rfl) ?_
              have hk0r : rfa f27 a0 12 = rfa f0 a0 12 := hk.erf m_a0 r_a0 (by decide +kernel)
              have hBo3 := hB
              have hDo3 := hD
              have hMo3 := hM
              refine tw_Vi (As := [.int z41, .int x2, .int x3, .ref a4]) F hZ h yk_X7_reach mw_1215 mw_1216 mw_1217 (s_X7_reach_3 l D cy L R O f27 (hG.fr hk (by decide +kernel) (by decide +kernel)) a0 m_a0 r_a0 z41 ⟨by omega, by omega⟩ x2 ⟨by omega, by omega⟩ x3 ⟨by omega, by omega⟩ a4 m_a4 r_a4 b m_b r_b hB hDn) rfl rfl m_a0 r_a0 (fun e q => (T_7 e).mp q) rfl hl.1 rfl (Nat.le_of_ble_eq_true rfl) ⟨Nat.le_of_ble_eq_true rfl, Nat.le_of_ble_eq_true rfl⟩ ⟨Nat.le_of_ble_eq_true rfl, Nat.le_of_ble_eq_true rfl⟩ dX7_reach_110 (fun v43 f42 H locs hp42 h => ?_)
              obtain ⟨hf42, hv43a, hv43b, hv43p0, hv43p1⟩ := hp42
              have hB : SB L R O f42 a0 (x3.toInt.toNat) b := SB_fr hB (hG.1.fr hk (by decide +kernel)) hf42 (by decide +kernel) m_a0 r_a0 m_b r_b
              have hk : fr L R [(4, 1), (5, 4), (5, 5), (5, 6), (5, 7), (8, 1), (8, 2)] [4, 5, 8, 23, 34, 46, 51] f0 f42 := hk.tr hf42 (by decide +kernel) (by decide +kernel)
              have hb113 : fr L R [(4, 1), (5, 4), (5, 5), (5, 6), (5, 7), (8, 1), (8, 2)] [4, 5, 8, 23, 34, 46, 51] f27 f42 := hb113.tr hf42 (by decide +kernel) (by decide +kernel)
              have e44 : fld f42 a0 0 = .ref o24 := (hf42.efl m_a0 r_a0 rfl).trans e29
              have hD : DS f42 a0 2 b := DS_dm hDo3 hBo3.1 (by decide) hf42 (by decide +kernel) (by decide +kernel) m_a0 r_a0 hv43p1
              have hM : DM L R f0 f42 b := DM_tr hMo3 hv43p1
              have hO : KO L R O (rfa f0 a0 12) f0 f42 := hO.tr (by have q := hv43p0; rw [hk0r] at q; exact q)
              exact j_113 f42 _ _ _ v43 (by omega) (by omega) h hD hM hB hO hk hb113 (lv_sub hl [1, 2, 3, 4, 5, 6, 7] rfl)
            · refine lv_aload_n F.1 F.2.1 dX7_reach_87 rfl (lv_at hl 1 rfl) ?_
              refine g_7_85 F h m_a0 r_a0 dX7_reach_88 (fun o45 m_o45 r_o45 ho45 => ?_)
              obtain rfl := (fld_inj e29 ho45).symm
              refine g_7_108 F h m_o24 r_o24 dX7_reach_91 (fun o46 m_o46 r_o46 ho46 => ?_)
              refine lv_aload F.1 F.2.1 dX7_reach_94 (lv_at hl 5 rfl) ?_
              refine tw_Vi (As := [.ref a4]) F hZ h yk_X4_same mw_1223 mw_1224 mw_1225 (s_X4_same l D cy L R O f27 o46 m_o46 r_o46 a4 m_a4 r_a4) rfl rfl m_o46 r_o46 (fun e q => (T_4 e).mp q) rfl hl.1 rfl (Nat.le_of_ble_eq_true rfl) ⟨Nat.le_of_ble_eq_true rfl, Nat.le_of_ble_eq_true rfl⟩ ⟨Nat.le_of_ble_eq_true rfl, Nat.le_of_ble_eq_true rfl⟩ dX7_reach_96 (fun v48 f47 H locs hp47 h => ?_)
              obtain ⟨rfl, hv48a, hv48b⟩ := hp47
              refine lv_goto (tgt := 113) F.1 F.2.1 dX7_reach_99 (by decide) ?_
              exact j_113 f27 _ _ _ v48 (by omega) (by omega) h hD hM hB hO hk hb113 (lv_sub hl [1, 2, 3, 4, 5, 6, 7] rfl)
      exact j_25 (((6 - z9.toInt)).toNat + 1) f0 _ _ _ z9 (by omega) (by omega) (by omega) h hD hM hB hO hk (lv_sub hl [2, 3, 4, 5, 6, 1, 0] rfl)
    · exfalso
      omega
def rm_X7_reach_1 : Room := { frames := 8, cells := 0, slots := 0, locals := 212 }
set_option maxHeartbeats 4000000 in
set_option maxRecDepth 100000 in
theorem s_X7_reach_1 (l : Launch) (D : va_G) (cy : Nat → ClassId) (L : List Nat) (R O : Nat → Nat) (f0 : Nat → va_E) (hG : GG L R O f0) (a0 : Nat) (m_a0 : a0 ∈ L) (r_a0 : R a0 = 7) (x1 : Int32) (b1 : 1 ≤ x1.toInt ∧ x1.toInt ≤ 1) (x2 : Int32) (b2 : 1 ≤ x2.toInt ∧ x2.toInt ≤ 5) (x3 : Int32) (b3 : 0 ≤ x3.toInt ∧ x3.toInt ≤ 6) (a4 : Nat) (m_a4 : a4 ∈ L) (r_a4 : R a4 = 4) (b : Nat) (m_b : b ∈ L) (r_b : R b = 6) (pre0 : SB L R O f0 a0 (x3.toInt.toNat) b) (pre1 : DS f0 a0 1 b) : ∀ sz, Met l yX7_reach (Cond.code yX7_reach cX7_reach 9 (some .boolean) :: wsL_law) rm_X7_reach_1 (va_Pc [.ref a0, .int x1, .int x2, .int x3, .ref a4] (tPZ D cy L R (TT cy L R) f0 sz)) (va_Qi (fun (r : Int32) f1 => fr L R [(4, 1), (5, 4), (5, 5), (5, 6), (5, 7), (8, 1), (8, 2)] [4, 5, 8, 23, 34, 46, 51] f0 f1 ∧ 0 ≤ r.toInt ∧ r.toInt ≤ 1 ∧ KO L R O (rfa f0 a0 12) f0 f1 ∧ DM L R f0 f1 b) (tB D (tA L sz) L R (TT cy L R)) (tA L sz)) 0 0 (tA L sz) := by
  refine tw_enteri (by decide +kernel) rfl (Nat.le_of_ble_eq_true rfl) ?_
  intro p e s m below meth c A ls args Q F hZ h hl hret
  have hl : lv_has ls 9 [(0, .ref a0), (1, .int x1), (2, .int x2), (3, .int x3), (4, .ref a4)] := hl
  have hk : fr L R [(4, 1), (5, 4), (5, 5), (5, 6), (5, 7), (8, 1), (8, 2)] [4, 5, 8, 23, 34, 46, 51] f0 f0 := fr.rf
  have hB := pre0
  have hB0 := hB
  have hD := pre1
  have hM : DM L R f0 f0 b := DM_rf
  have hO : KO L R O (rfa f0 a0 12) f0 f0 := KO.rf
  refine lv_iload_n F.1 F.2.1 dX7_reach_0 rfl (lv_at hl 1 rfl) ?_
  refine lv_iload_n F.1 F.2.1 dX7_reach_1 rfl (lv_at hl 2 rfl) ?_
  refine tw_icmp_ge (tgt := 10) F dX7_reach_2 (by decide) (fun b1 => ?_) (fun b1 => ?_)
  · refine tw_iconst F dX7_reach_10 ki_0 (fun z2 hz2 => ?_)
    exact hret f0 _ _ _ _ z2 dX7_reach_11 (tw_nb (by omega)) ⟨hk, by omega, by omega, hO, hM⟩ h
  · refine lv_iload_n F.1 F.2.1 dX7_reach_5 rfl (lv_at hl 1 rfl) ?_
    refine tw_iconst F dX7_reach_6 ki_5 (fun z3 hz3 => ?_)
    refine tw_icmp_lt (tgt := 12) F dX7_reach_7 (by decide) (fun b4 => ?_) (fun b4 => ?_)
    · refine lv_aload_n F.1 F.2.1 dX7_reach_12 rfl (lv_at hl 0 rfl) ?_
      refine g_7_51 F h m_a0 r_a0 dX7_reach_13 (fun o5 m_o5 r_o5 ho5 => ?_)
      refine lv_iload_n F.1 F.2.1 dX7_reach_16 rfl (lv_at hl 1 rfl) ?_
      refine tw_iconst F dX7_reach_17 ki_1 (fun z6 hz6 => ?_)
      refine tu_iadd F dX7_reach_18 (by omega) (fun z7 hz7 => ?_)
      refine le_48 F h m_o5 r_o5 (by omega) dX7_reach_19 (fun o8 m_o8 r_o8 eo8 => ?_)
      have qN : elq f0 (rfa f0 a0 12) 2 = some o8 := by have q := elq_a ho5 eo8; rw [SB_e12 hB0 hk (by decide +kernel) m_a0 r_a0, (show z7.toInt.toNat = 2 by omega)] at q; exact q
      have qNO : O o8 = rfa f0 a0 12 := (hB0.1.2.2 2 o8 qN (by decide)).2.2
      refine lv_astore (lv' := [(5, .ref o8), (0, .ref a0), (1, .int x1), (2, .int x2), (3, .int x3), (4, .ref a4)]) F.1 F.2.1 dX7_reach_20 hl (by decide) rfl (fun ls hl => ?_)
      refine tw_iconst F dX7_reach_22 ki_0 (fun z9 hz9 => ?_)
      refine lv_istore (lv' := [(6, .int z9), (5, .ref o8), (0, .ref a0), (1, .int x1), (2, .int x2), (3, .int x3), (4, .ref a4)]) F.1 F.2.1 dX7_reach_23 hl (by decide) rfl (fun ls hl => ?_)
      have j_25 : ∀ (n25 : Nat) (f10 : Nat → va_E) (H : Heap) (locs : List Loc) (ls : Array Slot) (x6_25 : Int32), 0 ≤ x6_25.toInt → x6_25.toInt ≤ 6 → ((6 - x6_25.toInt)).toNat < n25 → tS D cy A s.heap L R (TT cy L R) f10 s H locs → DS f10 a0 1 b → DM L R f0 f10 b → SB L R O f10 a0 (x3.toInt.toNat) b → KO L R O (rfa f0 a0 12) f0 f10 → fr L R [(4, 1), (5, 4), (5, 5), (5, 6), (5, 7), (8, 1), (8, 2)] [4, 5, 8, 23, 34, 46, 51] f0 f10 → lv_has ls 9 [(0, .ref a0), (1, .int x1), (2, .int x2), (3, .int x3), (4, .ref a4), (5, .ref o8), (6, .int x6_25)] → W p l e rm_X7_reach_1 s m args below meth c H locs 0 0 Q (F0 m 25 ls []) := by
        intro n25
        induction n25 with
        | zero =>
          intro f10 H locs ls x6_25 b11 b12 b13 h hD hM hB hO hk hl
          exfalso
          omega
        | succ n25 ih25 =>
          intro f10 H locs ls x6_25 b11 b12 b13 h hD hM hB hO hk hl
          refine lv_iload F.1 F.2.1 dX7_reach_25 (lv_at hl 6 rfl) ?_
          refine lv_iload_n F.1 F.2.1 dX7_reach_27 rfl (lv_at hl 3 rfl) ?_
          refine tw_icmp_ge (tgt := 128) F dX7_reach_28 (by decide) (fun b14 => ?_) (fun b14 => ?_)
          · refine tw_iconst F dX7_reach_128 ki_0 (fun z15 hz15 => ?_)
            exact hret f10 _ _ _ _ z15 dX7_reach_129 (tw_nb (by omega)) ⟨hk, by omega, by omega, hO, hM⟩ h
          · refine lv_aload_n F.1 F.2.1 dX7_reach_31 rfl (lv_at hl 0 rfl) ?_
            refine g_7_11 F h m_a0 r_a0 dX7_reach_32 (fun o16 m_o16 r_o16 ho16 => ?_)
            refine lv_iload F.1 F.2.1 dX7_reach_35 (lv_at hl 6 rfl) ?_
            refine le_45 F h m_o16 r_o16 (by omega) dX7_reach_37 (fun o17 m_o17 r_o17 eo17 => ?_)
            have qE : elq f0 (rfa f0 a0 1) x6_25.toInt.toNat = some o17 := by rw [← SB_e1 hB0 hk (by decide +kernel) m_a0 r_a0]; exact elq_a ho16 eo17
            refine lv_astore (lv' := [(7, .ref o17), (0, .ref a0), (1, .int x1), (2, .int x2), (3, .int x3), (4, .ref a4), (5, .ref o8), (6, .int x6_25)]) F.1 F.2.1 dX7_reach_38 hl (by decide) rfl (fun ls hl => ?_)
            refine lv_aload_n F.1 F.2.1 dX7_reach_40 rfl (lv_at hl 1 rfl) ?_
            refine g_7_17 F h m_a0 r_a0 dX7_reach_41 (fun o18 m_o18 r_o18 ho18 => ?_)
            refine lv_iload_n F.1 F.2.1 dX7_reach_44 rfl (lv_at hl 2 rfl) ?_
            refine lv_iload F.1 F.2.1 dX7_reach_45 (lv_at hl 7 rfl) ?_
            refine st_46 F h m_o18 r_o18 (by omega) (by omega) dX7_reach_47 (fun f19 H locs hf19 h => ?_)
            have hD : DS f19 a0 1 b := DS_dm hD hB.1 (by decide) hf19 (by decide +kernel) (by decide +kernel) m_a0 r_a0 (DM_fr (hG.1.fr hk (by decide +kernel)) hf19 (by decide +kernel) (by decide +kernel) (by decide +kernel) m_b r_b)
            have hM : DM L R f0 f19 b := DM_tr hM (DM_fr (hG.1.fr hk (by decide +kernel)) hf19 (by decide +kernel) (by decide +kernel) (by decide +kernel) m_b r_b)
            have hB : SB L R O f19 a0 (x3.toInt.toNat) b := SB_fr hB (hG.1.fr hk (by decide +kernel)) hf19 (by decide +kernel) m_a0 r_a0 m_b r_b
            have hO : KO L R O (rfa f0 a0 12) f0 f19 := KO_fr hO hf19 (by decide +kernel)
            have hk : fr L R [(4, 1), (5, 4), (5, 5), (5, 6), (5, 7), (8, 1), (8, 2)] [4, 5, 8, 23, 34, 46, 51] f0 f19 := hk.tr hf19 rfl rfl
            refine lv_aload F.1 F.2.1 dX7_reach_48 (lv_at hl 6 rfl) ?_
            refine lv_aload_n F.1 F.2.1 dX7_reach_50 rfl (lv_at hl 1 rfl) ?_
            refine g_7_51 F h m_a0 r_a0 dX7_reach_51 (fun o20 m_o20 r_o20 ho20 => ?_)
            refine lv_iload_n F.1 F.2.1 dX7_reach_54 rfl (lv_at hl 2 rfl) ?_
            refine le_48 F h m_o20 r_o20 (by omega) dX7_reach_55 (fun o21 m_o21 r_o21 eo21 => ?_)
            have qC : elq f0 (rfa f0 a0 12) 1 = some o21 := by have q := elq_a ho20 eo21; rw [SB_e12 hB0 hk (by decide +kernel) m_a0 r_a0, (show x1.toInt.toNat = 1 by omega)] at q; exact q
            have qCO : O o21 = rfa f0 a0 12 := (hB0.1.2.2 1 o21 qC (by decide)).2.2
            have ow1 := (hG.1.fr hk (by decide +kernel))
            have hBo1 := hB
            have hDo1 := hD
            have hMo1 := hM
            have qc : DIG f19 o21 b := hD _ (by rw [SB_e12 hB0 hk (by decide +kernel) m_a0 r_a0]; exact qC)
            refine tw_Vv (As := [.ref o21]) F hZ h yk_X8_copy mw_1219 mw_1220 mw_1221 (s_X8_copy l D cy L R O f19 o8 m_o8 r_o8 o21 m_o21 r_o21) rfl rfl m_o8 r_o8 (fun e q => (T_8 e).mp q) rfl hl.1 rfl (Nat.le_of_ble_eq_true rfl) ⟨Nat.le_of_ble_eq_true rfl, Nat.le_of_ble_eq_true rfl⟩ ⟨Nat.le_of_ble_eq_true rfl, Nat.le_of_ble_eq_true rfl⟩ dX7_reach_56 (fun f22 H locs hp22 h => ?_)
            obtain ⟨hf22, hv23p0, hv23p1⟩ := hp22
            have hB : SB L R O f22 a0 (x3.toInt.toNat) b := SB_fr hB (hG.1.fr hk (by decide +kernel)) hf22 (by decide +kernel) m_a0 r_a0 m_b r_b
            have hk : fr L R [(4, 1), (5, 4), (5, 5), (5, 6), (5, 7), (8, 1), (8, 2)] [4, 5, 8, 23, 34, 46, 51] f0 f22 := hk.tr hf22 rfl rfl
            have eA1 : AC0 f22 b = AC0 f19 b := AC0_fr ow1 hf22 (by decide +kernel) (by decide +kernel) m_b r_b
            have hdn : DIG f22 o8 b := by have q := qc; unfold DIG dg at q ⊢; rw [hv23p0, eA1]; exact q
            have hMa : DM L R f19 f22 b := DM_ks ow1 hf22 (by decide +kernel) (by decide +kernel) hv23p1 hdn m_b r_b
            have hD : DS f22 a0 1 b := DS_dm hDo1 hBo1.1 (by decide) hf22 (by decide +kernel) (by decide +kernel) m_a0 r_a0 hMa
            have hM : DM L R f0 f22 b := DM_tr hMo1 hMa
            have hO : KO L R O (rfa f0 a0 12) f0 f22 := KO_ks hO hv23p1 qNO
            refine lv_aload_n F.1 F.2.1 dX7_reach_59 rfl (lv_at hl 1 rfl) ?_
            refine g_7_85 F h m_a0 r_a0 dX7_reach_60 (fun o24 m_o24 r_o24 ho24 => ?_)
            refine lv_aload F.1 F.2.1 dX7_reach_63 (lv_at hl 0 rfl) ?_
            refine lv_aload F.1 F.2.1 dX7_reach_65 (lv_at hl 6 rfl) ?_
            refine lv_aload F.1 F.2.1 dX7_reach_67 (lv_at hl 0 rfl) ?_
            refine g_7_97 F h m_o17 r_o17 dX7_reach_69 (fun o25 m_o25 r_o25 ho25 => ?_)
            refine lv_aload F.1 F.2.1 dX7_reach_72 (lv_at hl 0 rfl) ?_
            refine g_7_98 F h m_o17 r_o17 dX7_reach_74 (fun v26 hv26 hv26a hv26b => ?_)
            have qb : rfa f22 o17 0 = b := SB_b hB (by rw [SB_e1 hB0 hk (by decide +kernel) m_a0 r_a0]; exact qE) (by omega)
            have ow2 := (hG.1.fr hk (by decide +kernel))
            have hBo2 := hB
            have hDo2 := hD
            have hMo2 := hM
            refine tw_Vv (As := [.ref o17, .ref o8, .ref o25, .int v26]) F hZ h yk_X5_answer mw_1169 mw_959 mw_960 (s_X5_answer_a l D cy L R O f22 (hG.fr hk (by decide +kernel) (by decide +kernel)) o24 m_o24 r_o24 o17 m_o17 r_o17 o8 m_o8 r_o8 o25 m_o25 r_o25 v26 ⟨by omega, by omega⟩ (SB_p0 hB (by rw [SB_e1 hB0 hk (by decide +kernel) m_a0 r_a0]; exact qE) (by omega)) (by rw [qb]; exact hdn)) rfl rfl m_o24 r_o24 (fun e q => (T_5 e).mp q) rfl hl.1 rfl (Nat.le_of_ble_eq_true rfl) ⟨Nat.le_of_ble_eq_true rfl, Nat.le_of_ble_eq_true rfl⟩ ⟨Nat.le_of_ble_eq_true rfl, Nat.le_of_ble_eq_true rfl⟩ dX7_reach_77 (fun f27 H locs hp27 h => ?_)
            obtain ⟨hf27, hv28p0, hv28p1⟩ := hp27
            have hB : SB L R O f27 a0 (x3.toInt.toNat) b := SB_fr hB (hG.1.fr hk (by decide +kernel)) hf27 (by decide +kernel) m_a0 r_a0 m_b r_b
            have hk : fr L R [(4, 1), (5, 4), (5, 5), (5, 6), (5, 7), (8, 1), (8, 2)] [4, 5, 8, 23, 34, 46, 51] f0 f27 := hk.tr hf27 (by decide +kernel) (by decide +kernel)
            have e29 : fld f27 a0 0 = .ref o24 := (hf27.efl m_a0 r_a0 rfl).trans ho24
            have hdn : DIG f27 o8 b := by have q := hv28p0; rw [qb] at q; exact q
            have hMa : DM L R f22 f27 b := DM_ks ow2 hf27 (by decide +kernel) (by decide +kernel) hv28p1 hdn m_b r_b
            have hD : DS f27 a0 1 b := DS_dm hDo2 hBo2.1 (by decide) hf27 (by decide +kernel) (by decide +kernel) m_a0 r_a0 hMa
            have hM : DM L R f0 f27 b := DM_tr hMo2 hMa
            have hO : KO L R O (rfa f0 a0 12) f0 f27 := KO_ks hO hv28p1 qNO
            have hDn : DS f27 a0 2 b := DS_one (by rw [SB_e12 hB0 hk (by decide +kernel) m_a0 r_a0]; exact qN) hdn
            refine lv_iload_n F.1 F.2.1 dX7_reach_80 rfl (lv_at hl 2 rfl) ?_
            refine tw_iconst F dX7_reach_81 ki_1 (fun z30 hz30 => ?_)
            refine tu_iadd F dX7_reach_82 (by omega) (fun z31 hz31 => ?_)
            refine lv_iload_n F.1 F.2.1 dX7_reach_83 rfl (lv_at hl 3 rfl) ?_
            have j_113 : ∀ (f32 : Nat → va_E) (H : Heap) (locs : List Loc) (ls : Array Slot) (y0_113 : Int32), 0 ≤ y0_113.toInt → y0_113.toInt ≤ 1 → tS D cy A s.heap L R (TT cy L R) f32 s H locs → DS f32 a0 1 b → DM L R f0 f32 b → SB L R O f32 a0 (x3.toInt.toNat) b → KO L R O (rfa f0 a0 12) f0 f32 → fr L R [(4, 1), (5, 4), (5, 5), (5, 6), (5, 7), (8, 1), (8, 2)] [4, 5, 8, 23, 34, 46, 51] f0 f32 → fr L R [(4, 1), (5, 4), (5, 5), (5, 6), (5, 7), (8, 1), (8, 2)] [4, 5, 8, 23, 34, 46, 51] f27 f32 → lv_has ls 9 [(0, .ref a0), (1, .int x1), (2, .int x2), (3, .int x3), (4, .ref a4), (5, .ref o8), (6, .int x6_25)] → W p l e rm_X7_reach_1 s m args below meth c H locs 0 0 Q (F0 m 113 ls [.int y0_113]) := by
              intro f32 H locs ls y0_113 b33 b34 h hD hM hB hO hk hb113 hl
              have e35 : fld f32 a0 0 = .ref o24 := (hb113.efl m_a0 r_a0 rfl).trans e29
              refine lv_istore (lv' := [(8, .int y0_113), (0, .ref a0), (1, .int x1), (2, .int x2), (3, .int x3), (4, .ref a4), (5, .ref o8), (6, .int x6_25)]) F.1 F.2.1 dX7_reach_113 hl (by decide) rfl (fun ls hl => ?_)
              refine lv_iload F.1 F.2.1 dX7_reach_115 (lv_at hl 0 rfl) ?_
              refine tw_if_eq (tgt := 122) F dX7_reach_117 (by decide) (fun b36 => ?_) (fun b36 => ?_)
              · refine tu_iinc F dX7_reach_122 hl (k := 7) rfl (by decide) ki_1 (by omega) (fun z37 ls hz37 hl => ?_)
                have hl : lv_has ls 9 [(6, .int z37), (8, .int y0_113), (0, .ref a0), (1, .int x1), (2, .int x2), (3, .int x3), (4, .ref a4), (5, .ref o8)] := hl
                refine lv_goto (tgt := 25) F.1 F.2.1 dX7_reach_125 (by decide) ?_
                exact ih25 f32 _ _ _ z37 (by omega) (by omega) (by omega) h hD hM hB hO hk (lv_sub hl [2, 3, 4, 5, 6, 7, 0] rfl)
              · refine tw_iconst F dX7_reach_120 ki_1 (fun z38 hz38 => ?_)
                exact hret f32 _ _ _ _ z38 dX7_reach_121 (tw_nb (by omega)) ⟨hk, by omega, by omega, hO, hM⟩ h
            have hb113 : fr L R [(4, 1), (5, 4), (5, 5), (5, 6), (5, 7), (8, 1), (8, 2)] [4, 5, 8, 23, 34, 46, 51] f27 f27 := fr.rf
            refine tw_icmp_ne (tgt := 102) F dX7_reach_84 (by decide) (fun b39 => ?_) (fun b39 => ?_)
            · refine lv_aload_n F.1 F.2.1 dX7_reach_102 rfl (lv_at hl 1 rfl) ?_
              refine lv_iload_n F.1 F.2.1 dX7_reach_103 rfl (lv_at hl 2 rfl) ?_
              refine tw_iconst F dX7_reach_104 ki_1 (fun z40 hz40 => ?_)
              refine tu_iadd F dX7_reach_105 (by omega) (fun z41 hz41 => ?_)
              refine lv_iload_n F.1 F.2.1 dX7_reach_106 rfl (lv_at hl 3 rfl) ?_
              refine lv_iload_n F.1 F.2.1 dX7_reach_107 rfl (lv_at hl 4 rfl) ?_
              refine lv_aload F.1 F.2.1 dX7_reach_108 (lv_at hl 5 rfl) ?_
              have hk0r : rfa f27 a0 12 = rfa f0 a0 12 := hk.erf m_a0 r_a0 (by decide +kernel)
              have hBo3 := hB
              have hDo3 := hD
              have hMo3 := hM
              refine tw_Vi (As := [.int z41, .int x2, .int x3, .ref a4]) F hZ h yk_X7_reach mw_1215 mw_1216 mw_1217 (s_X7_reach_2 l D cy L R O f27 (hG.fr hk (by decide +kernel) (by decide +kernel)) a0 m_a0 r_a0 z41 ⟨by omega, by omega⟩ x2 ⟨by omega, by omega⟩ x3 ⟨by omega, by omega⟩ a4 m_a4 r_a4 b m_b r_b hB hDn) rfl rfl m_a0 r_a0 (fun e q => (T_7 e).mp q) rfl hl.1 rfl (Nat.le_of_ble_eq_true rfl) ⟨Nat.le_of_ble_eq_true rfl, Nat.le_of_ble_eq_true rfl⟩ ⟨Nat.le_of_ble_eq_true rfl, Nat.le_of_ble_eq_true rfl⟩ dX7_reach_110 (fun v43 f42 H locs hp42 h => ?_)
              obtain ⟨hf42, hv43a, hv43b, hv43p0, hv43p1⟩ := hp42
              have hB : SB L R O f42 a0 (x3.toInt.toNat) b := SB_fr hB (hG.1.fr hk (by decide +kernel)) hf42 (by decide +kernel) m_a0 r_a0 m_b r_b
              have hk : fr L R [(4, 1), (5, 4), (5, 5), (5, 6), (5, 7), (8, 1), (8, 2)] [4, 5, 8, 23, 34, 46, 51] f0 f42 := hk.tr hf42 (by decide +kernel) (by decide +kernel)
              have hb113 : fr L R [(4, 1), (5, 4), (5, 5), (5, 6), (5, 7), (8, 1), (8, 2)] [4, 5, 8, 23, 34, 46, 51] f27 f42 := hb113.tr hf42 (by decide +kernel) (by decide +kernel)
              have e44 : fld f42 a0 0 = .ref o24 := (hf42.efl m_a0 r_a0 rfl).trans e29
              have hD : DS f42 a0 1 b := DS_dm hDo3 hBo3.1 (by decide) hf42 (by decide +kernel) (by decide +kernel) m_a0 r_a0 hv43p1
              have hM : DM L R f0 f42 b := DM_tr hMo3 hv43p1
              have hO : KO L R O (rfa f0 a0 12) f0 f42 := hO.tr (by have q := hv43p0; rw [hk0r] at q; exact q)
              exact j_113 f42 _ _ _ v43 (by omega) (by omega) h hD hM hB hO hk hb113 (lv_sub hl [1, 2, 3, 4, 5, 6, 7] rfl)
            · refine lv_aload_n F.1 F.2.1 dX7_reach_87 rfl (lv_at hl 1 rfl) ?_
              refine g_7_85 F h m_a0 r_a0 dX7_reach_88 (fun o45 m_o45 r_o45 ho45 => ?_)
              obtain rfl := (fld_inj e29 ho45).symm
              refine g_7_108 F h m_o24 r_o24 dX7_reach_91 (fun o46 m_o46 r_o46 ho46 => ?_)
              refine lv_aload F.1 F.2.1 dX7_reach_94 (lv_at hl 5 rfl) ?_
              refine tw_Vi (As := [.ref a4]) F hZ h yk_X4_same mw_1223 mw_1224 mw_1225 (s_X4_same l D cy L R O f27 o46 m_o46 r_o46 a4 m_a4 r_a4) rfl rfl m_o46 r_o46 (fun e q => (T_4 e).mp q) rfl hl.1 rfl (Nat.le_of_ble_eq_true rfl) ⟨Nat.le_of_ble_eq_true rfl, Nat.le_of_ble_eq_true rfl⟩ ⟨Nat.le_of_ble_eq_true rfl, Nat.le_of_ble_eq_true rfl⟩ dX7_reach_96 (fun v48 f47 H locs hp47 h => ?_)
              obtain ⟨rfl, hv48a, hv48b⟩ := hp47
              refine lv_goto (tgt := 113) F.1 F.2.1 dX7_reach_99 (by decide) ?_
              exact j_113 f27 _ _ _ v48 (by omega) (by omega) h hD hM hB hO hk hb113 (lv_sub hl [1, 2, 3, 4, 5, 6, 7] rfl)
      exact j_25 (((6 - z9.toInt)).toNat + 1) f0 _ _ _ z9 (by omega) (by omega) (by omega) h hD hM hB hO hk (lv_sub hl [2, 3, 4, 5, 6, 1, 0] rfl)
    · exfalso
      omega
def rm_X7_reach_0 : Room := { frames := 9, cells := 0, slots := 0, locals := 240 }
set_option maxHeartbeats 4000000 in
set_option maxRecDepth 100000 in
theorem s_X7_reach_0 (l : Launch) (D : va_G) (cy : Nat → ClassId) (L : List Nat) (R O : Nat → Nat) (f0 : Nat → va_E) (hG : GG L R O f0) (a0 : Nat) (m_a0 : a0 ∈ L) (r_a0 : R a0 = 7) (x1 : Int32) (b1 : 0 ≤ x1.toInt ∧ x1.toInt ≤ 0) (x2 : Int32) (b2 : 1 ≤ x2.toInt ∧ x2.toInt ≤ 5) (x3 : Int32) (b3 : 0 ≤ x3.toInt ∧ x3.toInt ≤ 6) (a4 : Nat) (m_a4 : a4 ∈ L) (r_a4 : R a4 = 4) (b : Nat) (m_b : b ∈ L) (r_b : R b = 6) (pre0 : SB L R O f0 a0 (x3.toInt.toNat) b) (pre1 : DS f0 a0 0 b) : ∀ sz, Met l yX7_reach (Cond.code yX7_reach cX7_reach 9 (some .boolean) :: wsL_law) rm_X7_reach_0 (va_Pc [.ref a0, .int x1, .int x2, .int x3, .ref a4] (tPZ D cy L R (TT cy L R) f0 sz)) (va_Qi (fun (r : Int32) f1 => fr L R [(4, 1), (5, 4), (5, 5), (5, 6), (5, 7), (8, 1), (8, 2)] [4, 5, 8, 23, 34, 46, 51] f0 f1 ∧ 0 ≤ r.toInt ∧ r.toInt ≤ 1 ∧ KO L R O (rfa f0 a0 12) f0 f1 ∧ DM L R f0 f1 b) (tB D (tA L sz) L R (TT cy L R)) (tA L sz)) 0 0 (tA L sz) := by
  refine tw_enteri (by decide +kernel) rfl (Nat.le_of_ble_eq_true rfl) ?_
  intro p e s m below meth c A ls args Q F hZ h hl hret
  have hl : lv_has ls 9 [(0, .ref a0), (1, .int x1), (2, .int x2), (3, .int x3), (4, .ref a4)] := hl
  have hk : fr L R [(4, 1), (5, 4), (5, 5), (5, 6), (5, 7), (8, 1), (8, 2)] [4, 5, 8, 23, 34, 46, 51] f0 f0 := fr.rf
  have hB := pre0
  have hB0 := hB
  have hD := pre1
  have hM : DM L R f0 f0 b := DM_rf
  have hO : KO L R O (rfa f0 a0 12) f0 f0 := KO.rf
  refine lv_iload_n F.1 F.2.1 dX7_reach_0 rfl (lv_at hl 1 rfl) ?_
  refine lv_iload_n F.1 F.2.1 dX7_reach_1 rfl (lv_at hl 2 rfl) ?_
  refine tw_icmp_ge (tgt := 10) F dX7_reach_2 (by decide) (fun b1 => ?_) (fun b1 => ?_)
  · exfalso
    omega
  · refine lv_iload_n F.1 F.2.1 dX7_reach_5 rfl (lv_at hl 1 rfl) ?_
    refine tw_iconst F dX7_reach_6 ki_5 (fun z2 hz2 => ?_)
    refine tw_icmp_lt (tgt := 12) F dX7_reach_7 (by decide) (fun b3 => ?_) (fun b3 => ?_)
    · refine lv_aload_n F.1 F.2.1 dX7_reach_12 rfl (lv_at hl 0 rfl) ?_
      refine g_7_51 F h m_a0 r_a0 dX7_reach_13 (fun o4 m_o4 r_o4 ho4 => ?_)
      refine lv_iload_n F.1 F.2.1 dX7_reach_16 rfl (lv_at hl 1 rfl) ?_
      refine tw_iconst F dX7_reach_17 ki_1 (fun z5 hz5 => ?_)
      refine tu_iadd F dX7_reach_18 (by omega) (fun z6 hz6 => ?_)
      refine le_48 F h m_o4 r_o4 (by omega) dX7_reach_19 (fun o7 m_o7 r_o7 eo7 => ?_)
      have qN : elq f0 (rfa f0 a0 12) 1 = some o7 := by have q := elq_a ho4 eo7; rw [SB_e12 hB0 hk (by decide +kernel) m_a0 r_a0, (show z6.toInt.toNat = 1 by omega)] at q; exact q
      have qNO : O o7 = rfa f0 a0 12 := (hB0.1.2.2 1 o7 qN (by decide)).2.2
      refine lv_astore (lv' := [(5, .ref o7), (0, .ref a0), (1, .int x1), (2, .int x2), (3, .int x3), (4, .ref a4)]) F.1 F.2.1 dX7_reach_20 hl (by decide) rfl (fun ls hl => ?_)
      refine tw_iconst F dX7_reach_22 ki_0 (fun z8 hz8 => ?_)
      refine lv_istore (lv' := [(6, .int z8), (5, .ref o7), (0, .ref a0), (1, .int x1), (2, .int x2), (3, .int x3), (4, .ref a4)]) F.1 F.2.1 dX7_reach_23 hl (by decide) rfl (fun ls hl => ?_)
      have j_25 : ∀ (n25 : Nat) (f9 : Nat → va_E) (H : Heap) (locs : List Loc) (ls : Array Slot) (x6_25 : Int32), 0 ≤ x6_25.toInt → x6_25.toInt ≤ 6 → ((6 - x6_25.toInt)).toNat < n25 → tS D cy A s.heap L R (TT cy L R) f9 s H locs → DS f9 a0 0 b → DM L R f0 f9 b → SB L R O f9 a0 (x3.toInt.toNat) b → KO L R O (rfa f0 a0 12) f0 f9 → fr L R [(4, 1), (5, 4), (5, 5), (5, 6), (5, 7), (8, 1), (8, 2)] [4, 5, 8, 23, 34, 46, 51] f0 f9 → lv_has ls 9 [(0, .ref a0), (1, .int x1), (2, .int x2), (3, .int x3), (4, .ref a4), (5, .ref o7), (6, .int x6_25)] → W p l e rm_X7_reach_0 s m args below meth c H locs 0 0 Q (F0 m 25 ls []) := by
        intro n25
        induction n25 with
        | zero =>
          intro f9 H locs ls x6_25 b10 b11 b12 h hD hM hB hO hk hl
          exfalso
          omega
        | succ n25 ih25 =>
          intro f9 H locs ls x6_25 b10 b11 b12 h hD hM hB hO hk hl
          refine lv_iload F.1 F.2.1 dX7_reach_25 (lv_at hl 6 rfl) ?_
          refine lv_iload_n F.1 F.2.1 dX7_reach_27 rfl (lv_at hl 3 rfl) ?_
          refine tw_icmp_ge (tgt := 128) F dX7_reach_28 (by decide) (fun b13 => ?_) (fun b13 => ?_)
          · refine tw_iconst F dX7_reach_128 ki_0 (fun z14 hz14 => ?_)
            exact hret f9 _ _ _ _ z14 dX7_reach_129 (tw_nb (by omega)) ⟨hk, by omega, by omega, hO, hM⟩ h
          · refine lv_aload_n F.1 F.2.1 dX7_reach_31 rfl (lv_at hl 0 rfl) ?_
            refine g_7_11 F h m_a0 r_a0 dX7_reach_32 (fun o15 m_o15 r_o15 ho15 => ?_)
            refine lv_iload F.1 F.2.1 dX7_reach_35 (lv_at hl 6 rfl) ?_
            refine le_45 F h m_o15 r_o15 (by omega) dX7_reach_37 (fun o16 m_o16 r_o16 eo16 => ?_)
            have qE : elq f0 (rfa f0 a0 1) x6_25.toInt.toNat = some o16 := by rw [← SB_e1 hB0 hk (by decide +kernel) m_a0 r_a0]; exact elq_a ho15 eo16
            refine lv_astore (lv' := [(7, .ref o16), (0, .ref a0), (1, .int x1), (2, .int x2), (3, .int x3), (4, .ref a4), (5, .ref o7), (6, .int x6_25)]) F.1 F.2.1 dX7_reach_38 hl (by decide) rfl (fun ls hl => ?_)
            refine lv_aload_n F.1 F.2.1 dX7_reach_40 rfl (lv_at hl 1 rfl) ?_
            refine g_7_17 F h m_a0 r_a0 dX7_reach_41 (fun o17 m_o17 r_o17 ho17 => ?_)
            refine lv_iload_n F.1 F.2.1 dX7_reach_44 rfl (lv_at hl 2 rfl) ?_
            refine lv_iload F.1 F.2.1 dX7_reach_45 (lv_at hl 7 rfl) ?_
            refine st_46 F h m_o17 r_o17 (by omega) (by omega) dX7_reach_47 (fun f18 H locs hf18 h => ?_)
            have hD : DS f18 a0 0 b := DS_dm hD hB.1 (by decide) hf18 (by decide +kernel) (by decide +kernel) m_a0 r_a0 (DM_fr (hG.1.fr hk (by decide +kernel)) hf18 (by decide +kernel) (by decide +kernel) (by decide +kernel) m_b r_b)
            have hM : DM L R f0 f18 b := DM_tr hM (DM_fr (hG.1.fr hk (by decide +kernel)) hf18 (by decide +kernel) (by decide +kernel) (by decide +kernel) m_b r_b)
            have hB : SB L R O f18 a0 (x3.toInt.toNat) b := SB_fr hB (hG.1.fr hk (by decide +kernel)) hf18 (by decide +kernel) m_a0 r_a0 m_b r_b
            have hO : KO L R O (rfa f0 a0 12) f0 f18 := KO_fr hO hf18 (by decide +kernel)
            have hk : fr L R [(4, 1), (5, 4), (5, 5), (5, 6), (5, 7), (8, 1), (8, 2)] [4, 5, 8, 23, 34, 46, 51] f0 f18 := hk.tr hf18 rfl rfl
            refine lv_aload F.1 F.2.1 dX7_reach_48 (lv_at hl 6 rfl) ?_
            refine lv_aload_n F.1 F.2.1 dX7_reach_50 rfl (lv_at hl 1 rfl) ?_
            refine g_7_51 F h m_a0 r_a0 dX7_reach_51 (fun o19 m_o19 r_o19 ho19 => ?_)
            refine lv_iload_n F.1 F.2.1 dX7_reach_54 rfl (lv_at hl 2 rfl) ?_
            refine le_48 F h m_o19 r_o19 (by omega) dX7_reach_55 (fun o20 m_o20 r_o20 eo20 => ?_)
            have qC : elq f0 (rfa f0 a0 12) 0 = some o20 := by have q := elq_a ho19 eo20; rw [SB_e12 hB0 hk (by decide +kernel) m_a0 r_a0, (show x1.toInt.toNat = 0 by omega)] at q; exact q
            have qCO : O o20 = rfa f0 a0 12 := (hB0.1.2.2 0 o20 qC (by decide)).2.2
            have ow1 := (hG.1.fr hk (by decide +kernel))
            have hBo1 := hB
            have hDo1 := hD
            have hMo1 := hM
            have qc : DIG f18 o20 b := hD _ (by rw [SB_e12 hB0 hk (by decide +kernel) m_a0 r_a0]; exact qC)
            refine tw_Vv (As := [.ref o20]) F hZ h yk_X8_copy mw_1219 mw_1220 mw_1221 (s_X8_copy l D cy L R O f18 o7 m_o7 r_o7 o20 m_o20 r_o20) rfl rfl m_o7 r_o7 (fun e q => (T_8 e).mp q) rfl hl.1 rfl (Nat.le_of_ble_eq_true rfl) ⟨Nat.le_of_ble_eq_true rfl, Nat.le_of_ble_eq_true rfl⟩ ⟨Nat.le_of_ble_eq_true rfl, Nat.le_of_ble_eq_true rfl⟩ dX7_reach_56 (fun f21 H locs hp21 h => ?_)
            obtain ⟨hf21, hv22p0, hv22p1⟩ := hp21
            have hB : SB L R O f21 a0 (x3.toInt.toNat) b := SB_fr hB (hG.1.fr hk (by decide +kernel)) hf21 (by decide +kernel) m_a0 r_a0 m_b r_b
            have hk : fr L R [(4, 1), (5, 4), (5, 5), (5, 6), (5, 7), (8, 1), (8, 2)] [4, 5, 8, 23, 34, 46, 51] f0 f21 := hk.tr hf21 rfl rfl
            have eA1 : AC0 f21 b = AC0 f18 b := AC0_fr ow1 hf21 (by decide +kernel) (by decide +kernel) m_b r_b
            have hdn : DIG f21 o7 b := by have q := qc; unfold DIG dg at q ⊢; rw [hv22p0, eA1]; exact q
            have hMa : DM L R f18 f21 b := DM_ks ow1 hf21 (by decide +kernel) (by decide +kernel) hv22p1 hdn m_b r_b
            have hD : DS f21 a0 0 b := DS_dm hDo1 hBo1.1 (by decide) hf21 (by decide +kernel) (by decide +kernel) m_a0 r_a0 hMa
            have hM : DM L R f0 f21 b := DM_tr hMo1 hMa
            have hO : KO L R O (rfa f0 a0 12) f0 f21 := KO_ks hO hv22p1 qNO
            refine lv_aload_n F.1 F.2.1 dX7_reach_59 rfl (lv_at hl 1 rfl) ?_
            refine g_7_85 F h m_a0 r_a0 dX7_reach_60 (fun o23 m_o23 r_o23 ho23 => ?_)
            refine lv_aload F.1 F.2.1 dX7_reach_63 (lv_at hl 0 rfl) ?_
            refine lv_aload F.1 F.2.1 dX7_reach_65 (lv_at hl 6 rfl) ?_
            refine lv_aload F.1 F.2.1 dX7_reach_67 (lv_at hl 0 rfl) ?_
            refine g_7_97 F h m_o16 r_o16 dX7_reach_69 (fun o24 m_o24 r_o24 ho24 => ?_)
            refine lv_aload F.1 F.2.1 dX7_reach_72 (lv_at hl 0 rfl) ?_
            refine g_7_98 F h m_o16 r_o16 dX7_reach_74 (fun v25 hv25 hv25a hv25b => ?_)
            have qb : rfa f21 o16 0 = b := SB_b hB (by rw [SB_e1 hB0 hk (by decide +kernel) m_a0 r_a0]; exact qE) (by omega)
            have ow2 := (hG.1.fr hk (by decide +kernel))
            have hBo2 := hB
            have hDo2 := hD
            have hMo2 := hM
            refine tw_Vv (As := [.ref o16, .ref o7, .ref o24, .int v25]) F hZ h yk_X5_answer mw_1169 mw_959 mw_960 (s_X5_answer_a l D cy L R O f21 (hG.fr hk (by decide +kernel) (by decide +kernel)) o23 m_o23 r_o23 o16 m_o16 r_o16 o7 m_o7 r_o7 o24 m_o24 r_o24 v25 ⟨by omega, by omega⟩ (SB_p0 hB (by rw [SB_e1 hB0 hk (by decide +kernel) m_a0 r_a0]; exact qE) (by omega)) (by rw [qb]; exact hdn)) rfl rfl m_o23 r_o23 (fun e q => (T_5 e).mp q) rfl hl.1 rfl (Nat.le_of_ble_eq_true rfl) ⟨Nat.le_of_ble_eq_true rfl, Nat.le_of_ble_eq_true rfl⟩ ⟨Nat.le_of_ble_eq_true rfl, Nat.le_of_ble_eq_true rfl⟩ dX7_reach_77 (fun f26 H locs hp26 h => ?_)
            obtain ⟨hf26, hv27p0, hv27p1⟩ := hp26
            have hB : SB L R O f26 a0 (x3.toInt.toNat) b := SB_fr hB (hG.1.fr hk (by decide +kernel)) hf26 (by decide +kernel) m_a0 r_a0 m_b r_b
            have hk : fr L R [(4, 1), (5, 4), (5, 5), (5, 6), (5, 7), (8, 1), (8, 2)] [4, 5, 8, 23, 34, 46, 51] f0 f26 := hk.tr hf26 (by decide +kernel) (by decide +kernel)
            have e28 : fld f26 a0 0 = .ref o23 := (hf26.efl m_a0 r_a0 rfl).trans ho23
            have hdn : DIG f26 o7 b := by have q := hv27p0; rw [qb] at q; exact q
            have hMa : DM L R f21 f26 b := DM_ks ow2 hf26 (by decide +kernel) (by decide +kernel) hv27p1 hdn m_b r_b
            have hD : DS f26 a0 0 b := DS_dm hDo2 hBo2.1 (by decide) hf26 (by decide +kernel) (by decide +kernel) m_a0 r_a0 hMa
            have hM : DM L R f0 f26 b := DM_tr hMo2 hMa
            have hO : KO L R O (rfa f0 a0 12) f0 f26 := KO_ks hO hv27p1 qNO
            have hDn : DS f26 a0 1 b := DS_one (by rw [SB_e12 hB0 hk (by decide +kernel) m_a0 r_a0]; exact qN) hdn
            refine lv_iload_n F.1 F.2.1 dX7_reach_80 rfl (lv_at hl 2 rfl) ?_
            refine tw_iconst F dX7_reach_81 ki_1 (fun z29 hz29 => ?_)
            refine tu_iadd F dX7_reach_82 (by omega) (fun z30 hz30 => ?_)
            refine lv_iload_n F.1 F.2.1 dX7_reach_83 rfl (lv_at hl 3 rfl) ?_
            have j_113 : ∀ (f31 : Nat → va_E) (H : Heap) (locs : List Loc) (ls : Array Slot) (y0_113 : Int32), 0 ≤ y0_113.toInt → y0_113.toInt ≤ 1 → tS D cy A s.heap L R (TT cy L R) f31 s H locs → DS f31 a0 0 b → DM L R f0 f31 b → SB L R O f31 a0 (x3.toInt.toNat) b → KO L R O (rfa f0 a0 12) f0 f31 → fr L R [(4, 1), (5, 4), (5, 5), (5, 6), (5, 7), (8, 1), (8, 2)] [4, 5, 8, 23, 34, 46, 51] f0 f31 → fr L R [(4, 1), (5, 4), (5, 5), (5, 6), (5, 7), (8, 1), (8, 2)] [4, 5, 8, 23, 34, 46, 51] f26 f31 → lv_has ls 9 [(0, .ref a0), (1, .int x1), (2, .int x2), (3, .int x3), (4, .ref a4), (5, .ref o7), (6, .int x6_25)] → W p l e rm_X7_reach_0 s m args below meth c H locs 0 0 Q (F0 m 113 ls [.int y0_113]) := by
              intro f31 H locs ls y0_113 b32 b33 h hD hM hB hO hk hb113 hl
              have e34 : fld f31 a0 0 = .ref o23 := (hb113.efl m_a0 r_a0 rfl).trans e28
              refine lv_istore (lv' := [(8, .int y0_113), (0, .ref a0), (1, .int x1), (2, .int x2), (3, .int x3), (4, .ref a4), (5, .ref o7), (6, .int x6_25)]) F.1 F.2.1 dX7_reach_113 hl (by decide) rfl (fun ls hl => ?_)
              refine lv_iload F.1 F.2.1 dX7_reach_115 (lv_at hl 0 rfl) ?_
              refine tw_if_eq (tgt := 122) F dX7_reach_117 (by decide) (fun b35 => ?_) (fun b35 => ?_)
              · refine tu_iinc F dX7_reach_122 hl (k := 7) rfl (by decide) ki_1 (by omega) (fun z36 ls hz36 hl => ?_)
                have hl : lv_has ls 9 [(6, .int z36), (8, .int y0_113), (0, .ref a0), (1, .int x1), (2, .int x2), (3, .int x3), (4, .ref a4), (5, .ref o7)] := hl
                refine lv_goto (tgt := 25) F.1 F.2.1 dX7_reach_125 (by decide) ?_
                exact ih25 f31 _ _ _ z36 (by omega) (by omega) (by omega) h hD hM hB hO hk (lv_sub hl [2, 3, 4, 5, 6, 7, 0] rfl)
              · refine tw_iconst F dX7_reach_120 ki_1 (fun z37 hz37 => ?_)
                exact hret f31 _ _ _ _ z37 dX7_reach_121 (tw_nb (by omega)) ⟨hk, by omega, by omega, hO, hM⟩ h
            have hb113 : fr L R [(4, 1), (5, 4), (5, 5), (5, 6), (5, 7), (8, 1), (8, 2)] [4, 5, 8, 23, 34, 46, 51] f26 f26 := fr.rf
            refine tw_icmp_ne (tgt := 102) F dX7_reach_84 (by decide) (fun b38 => ?_) (fun b38 => ?_)
            · refine lv_aload_n F.1 F.2.1 dX7_reach_102 rfl (lv_at hl 1 rfl) ?_
              refine lv_iload_n F.1 F.2.1 dX7_reach_103 rfl (lv_at hl 2 rfl) ?_
              refine tw_iconst F dX7_reach_104 ki_1 (fun z39 hz39 => ?_)
              refine tu_iadd F dX7_reach_105 (by omega) (fun z40 hz40 => ?_)
              refine lv_iload_n F.1 F.2.1 dX7_reach_106 rfl (lv_at hl 3 rfl) ?_
              refine lv_iload_n F.1 F.2.1 dX7_reach_107 rfl (lv_at hl 4 rfl) ?_
              refine lv_aload F.1 F.2.1 dX7_reach_108 (lv_at hl 5 rfl) ?_
              have hk0r : rfa f26 a0 12 = rfa f0 a0 12 := hk.erf m_a0 r_a0 (by decide +kernel)
              have hBo3 := hB
              have hDo3 := hD
              have hMo3 := hM
              refine tw_Vi (As := [.int z40, .int x2, .int x3, .ref a4]) F hZ h yk_X7_reach mw_1215 mw_1216 mw_1217 (s_X7_reach_1 l D cy L R O f26 (hG.fr hk (by decide +kernel) (by decide +kernel)) a0 m_a0 r_a0 z40 ⟨by omega, by omega⟩ x2 ⟨by omega, by omega⟩ x3 ⟨by omega, by omega⟩ a4 m_a4 r_a4 b m_b r_b hB hDn) rfl rfl m_a0 r_a0 (fun e q => (T_7 e).mp q) rfl hl.1 rfl (Nat.le_of_ble_eq_true rfl) ⟨Nat.le_of_ble_eq_true rfl, Nat.le_of_ble_eq_true rfl⟩ ⟨Nat.le_of_ble_eq_true rfl, Nat.le_of_ble_eq_true rfl⟩ dX7_reach_110 (fun v42 f41 H locs hp41 h => ?_)
              obtain ⟨hf41, hv42a, hv42b, hv42p0, hv42p1⟩ := hp41
              have hB : SB L R O f41 a0 (x3.toInt.toNat) b := SB_fr hB (hG.1.fr hk (by decide +kernel)) hf41 (by decide +kernel) m_a0 r_a0 m_b r_b
              have hk : fr L R [(4, 1), (5, 4), (5, 5), (5, 6), (5, 7), (8, 1), (8, 2)] [4, 5, 8, 23, 34, 46, 51] f0 f41 := hk.tr hf41 (by decide +kernel) (by decide +kernel)
              have hb113 : fr L R [(4, 1), (5, 4), (5, 5), (5, 6), (5, 7), (8, 1), (8, 2)] [4, 5, 8, 23, 34, 46, 51] f26 f41 := hb113.tr hf41 (by decide +kernel) (by decide +kernel)
              have e43 : fld f41 a0 0 = .ref o23 := (hf41.efl m_a0 r_a0 rfl).trans e28
              have hD : DS f41 a0 0 b := DS_dm hDo3 hBo3.1 (by decide) hf41 (by decide +kernel) (by decide +kernel) m_a0 r_a0 hv42p1
              have hM : DM L R f0 f41 b := DM_tr hMo3 hv42p1
              have hO : KO L R O (rfa f0 a0 12) f0 f41 := hO.tr (by have q := hv42p0; rw [hk0r] at q; exact q)
              exact j_113 f41 _ _ _ v42 (by omega) (by omega) h hD hM hB hO hk hb113 (lv_sub hl [1, 2, 3, 4, 5, 6, 7] rfl)
            · refine lv_aload_n F.1 F.2.1 dX7_reach_87 rfl (lv_at hl 1 rfl) ?_
              refine g_7_85 F h m_a0 r_a0 dX7_reach_88 (fun o44 m_o44 r_o44 ho44 => ?_)
              obtain rfl := (fld_inj e28 ho44).symm
              refine g_7_108 F h m_o23 r_o23 dX7_reach_91 (fun o45 m_o45 r_o45 ho45 => ?_)
              refine lv_aload F.1 F.2.1 dX7_reach_94 (lv_at hl 5 rfl) ?_
              refine tw_Vi (As := [.ref a4]) F hZ h yk_X4_same mw_1223 mw_1224 mw_1225 (s_X4_same l D cy L R O f26 o45 m_o45 r_o45 a4 m_a4 r_a4) rfl rfl m_o45 r_o45 (fun e q => (T_4 e).mp q) rfl hl.1 rfl (Nat.le_of_ble_eq_true rfl) ⟨Nat.le_of_ble_eq_true rfl, Nat.le_of_ble_eq_true rfl⟩ ⟨Nat.le_of_ble_eq_true rfl, Nat.le_of_ble_eq_true rfl⟩ dX7_reach_96 (fun v47 f46 H locs hp46 h => ?_)
              obtain ⟨rfl, hv47a, hv47b⟩ := hp46
              refine lv_goto (tgt := 113) F.1 F.2.1 dX7_reach_99 (by decide) ?_
              exact j_113 f26 _ _ _ v47 (by omega) (by omega) h hD hM hB hO hk hb113 (lv_sub hl [1, 2, 3, 4, 5, 6, 7] rfl)
      exact j_25 (((6 - z8.toInt)).toNat + 1) f0 _ _ _ z8 (by omega) (by omega) (by omega) h hD hM hB hO hk (lv_sub hl [2, 3, 4, 5, 6, 1, 0] rfl)
    · exfalso
      omega
theorem dX7_shortest_0 : decode cX7_shortest 0 = .ok (.aload_n 0, 1) := by decide +kernel
theorem dX7_shortest_1 : decode cX7_shortest 1 = .ok (.getfield 51, 3) := by decide +kernel
theorem dX7_shortest_4 : decode cX7_shortest 4 = .ok (.iconst 0, 1) := by decide +kernel
theorem dX7_shortest_5 : decode cX7_shortest 5 = .ok (.aaload, 1) := by decide +kernel
theorem dX7_shortest_6 : decode cX7_shortest 6 = .ok (.invokevirtual 94, 3) := by decide +kernel
theorem dX7_shortest_9 : decode cX7_shortest 9 = .ok (.iconst 1, 1) := by decide +kernel
theorem dX7_shortest_10 : decode cX7_shortest 10 = .ok (.istore_n 3, 1) := by decide +kernel
theorem dX7_shortest_11 : decode cX7_shortest 11 = .ok (.iload_n 3, 1) := by decide +kernel
theorem dX7_shortest_12 : decode cX7_shortest 12 = .ok (.iconst 5, 1) := by decide +kernel
theorem dX7_shortest_13 : decode cX7_shortest 13 = .ok (.if_icmp .gt 22, 3) := by decide +kernel
theorem dX7_shortest_35 : decode cX7_shortest 35 = .ok (.iconst (-1), 1) := by decide +kernel
theorem dX7_shortest_36 : decode cX7_shortest 36 = .ok (.ireturn, 1) := by decide +kernel
theorem dX7_shortest_16 : decode cX7_shortest 16 = .ok (.aload_n 0, 1) := by decide +kernel
theorem dX7_shortest_17 : decode cX7_shortest 17 = .ok (.iconst 0, 1) := by decide +kernel
theorem dX7_shortest_18 : decode cX7_shortest 18 = .ok (.iload_n 3, 1) := by decide +kernel
theorem dX7_shortest_19 : decode cX7_shortest 19 = .ok (.iload_n 1, 1) := by decide +kernel
theorem dX7_shortest_20 : decode cX7_shortest 20 = .ok (.aload_n 2, 1) := by decide +kernel
theorem dX7_shortest_21 : decode cX7_shortest 21 = .ok (.invokevirtual 118, 3) := by decide +kernel
theorem dX7_shortest_24 : decode cX7_shortest 24 = .ok (.ifCond .eq 5, 3) := by decide +kernel
theorem dX7_shortest_29 : decode cX7_shortest 29 = .ok (.iinc 3 1, 3) := by decide +kernel
theorem dX7_shortest_32 : decode cX7_shortest 32 = .ok (.goto (-21), 3) := by decide +kernel
theorem dX7_shortest_27 : decode cX7_shortest 27 = .ok (.iload_n 3, 1) := by decide +kernel
theorem dX7_shortest_28 : decode cX7_shortest 28 = .ok (.ireturn, 1) := by decide +kernel
def rm_X7_shortest : Room := { frames := 10, cells := 0, slots := 0, locals := 268 }
set_option maxHeartbeats 4000000 in
set_option maxRecDepth 100000 in
theorem s_X7_shortest (l : Launch) (D : va_G) (cy : Nat → ClassId) (L : List Nat) (R O : Nat → Nat) (f0 : Nat → va_E) (hG : GG L R O f0) (a0 : Nat) (m_a0 : a0 ∈ L) (r_a0 : R a0 = 7) (x1 : Int32) (b1 : 0 ≤ x1.toInt ∧ x1.toInt ≤ 6) (a2 : Nat) (m_a2 : a2 ∈ L) (r_a2 : R a2 = 4) (pre0 : ∃ b, b ∈ L ∧ R b = 6 ∧ SB L R O f0 a0 (x1.toInt.toNat) b) : ∀ sz, Met l yX7_shortest (Cond.code yX7_shortest cX7_shortest 4 (some .int) :: wsL_law) rm_X7_shortest (va_Pc [.ref a0, .int x1, .ref a2] (tPZ D cy L R (TT cy L R) f0 sz)) (va_Qi (fun (r : Int32) f1 => fr L R [(4, 1), (5, 4), (5, 5), (5, 6), (5, 7), (8, 1), (8, 2)] [4, 5, 8, 23, 34, 46, 51] f0 f1 ∧ (-1) ≤ r.toInt ∧ r.toInt ≤ 5 ∧ KO L R O (rfa f0 a0 12) f0 f1) (tB D (tA L sz) L R (TT cy L R)) (tA L sz)) 0 0 (tA L sz) := by
  refine tw_enteri (by decide +kernel) rfl (Nat.le_of_ble_eq_true rfl) ?_
  intro p e s m below meth c A ls args Q F hZ h hl hret
  have hl : lv_has ls 4 [(0, .ref a0), (1, .int x1), (2, .ref a2)] := hl
  have hk : fr L R [(4, 1), (5, 4), (5, 5), (5, 6), (5, 7), (8, 1), (8, 2)] [4, 5, 8, 23, 34, 46, 51] f0 f0 := fr.rf
  obtain ⟨b, m_b, r_b, hB⟩ := pre0
  have hB0 := hB
  have hO : KO L R O (rfa f0 a0 12) f0 f0 := KO.rf
  refine lv_aload_n F.1 F.2.1 dX7_shortest_0 rfl (lv_at hl 0 rfl) ?_
  refine g_7_51 F h m_a0 r_a0 dX7_shortest_1 (fun o1 m_o1 r_o1 ho1 => ?_)
  refine tw_iconst F dX7_shortest_4 ki_0 (fun z2 hz2 => ?_)
  refine le_48 F h m_o1 r_o1 (by omega) dX7_shortest_5 (fun o3 m_o3 r_o3 eo3 => ?_)
  have qS : elq f0 (rfa f0 a0 12) 0 = some o3 := by have q := elq_a ho1 eo3; rw [SB_e12 hB0 hk (by decide +kernel) m_a0 r_a0, (show z2.toInt.toNat = 0 by omega)] at q; exact q
  have qSO : O o3 = rfa f0 a0 12 := (hB0.1.2.2 0 o3 qS (by decide)).2.2
  refine tw_Vv (As := []) F hZ h yk_X8_refresh mw_1168 mw_627 mw_628 (s_X8_refresh l D cy L R O f0 o3 m_o3 r_o3) rfl rfl m_o3 r_o3 (fun e q => (T_8 e).mp q) rfl hl.1 rfl (Nat.le_of_ble_eq_true rfl) ⟨Nat.le_of_ble_eq_true rfl, Nat.le_of_ble_eq_true rfl⟩ ⟨Nat.le_of_ble_eq_true rfl, Nat.le_of_ble_eq_true rfl⟩ dX7_shortest_6 (fun f4 H locs hp4 h => ?_)
  obtain ⟨hf4, hv5p0, hv5p1⟩ := hp4
  have hB : SB L R O f4 a0 (x1.toInt.toNat) b := SB_fr hB hG.1 hf4 (by decide +kernel) m_a0 r_a0 m_b r_b
  have hk : fr L R [(4, 1), (5, 4), (5, 5), (5, 6), (5, 7), (8, 1), (8, 2)] [4, 5, 8, 23, 34, 46, 51] f0 f4 := hk.tr hf4 rfl rfl
  have hD : DS f4 a0 0 b := DS_one (by rw [SB_e12 hB0 hk (by decide +kernel) m_a0 r_a0]; exact qS) (dg0_DIG hv5p0)
  have hO : KO L R O (rfa f0 a0 12) f0 f4 := KO_ks hO hv5p1 qSO
  refine tw_iconst F dX7_shortest_9 ki_1 (fun z6 hz6 => ?_)
  refine lv_istore_n (lv' := [(3, .int z6), (0, .ref a0), (1, .int x1), (2, .ref a2)]) F.1 F.2.1 dX7_shortest_10 rfl hl (by decide) rfl (fun ls hl => ?_)
  have j_11 : ∀ (n11 : Nat) (f7 : Nat → va_E) (H : Heap) (locs : List Loc) (ls : Array Slot) (x3_11 : Int32), 1 ≤ x3_11.toInt → x3_11.toInt ≤ 6 → ((6 - x3_11.toInt)).toNat < n11 → tS D cy A s.heap L R (TT cy L R) f7 s H locs → DS f7 a0 0 b → SB L R O f7 a0 (x1.toInt.toNat) b → KO L R O (rfa f0 a0 12) f0 f7 → fr L R [(4, 1), (5, 4), (5, 5), (5, 6), (5, 7), (8, 1), (8, 2)] [4, 5, 8, 23, 34, 46, 51] f0 f7 → lv_has ls 4 [(0, .ref a0), (1, .int x1), (2, .ref a2), (3, .int x3_11)] → W p l e rm_X7_shortest s m args below meth c H locs 0 0 Q (F0 m 11 ls []) := by
    intro n11
    induction n11 with
    | zero =>
      intro f7 H locs ls x3_11 b8 b9 b10 h hD hB hO hk hl
      exfalso
      omega
    | succ n11 ih11 =>
      intro f7 H locs ls x3_11 b8 b9 b10 h hD hB hO hk hl
      refine lv_iload_n F.1 F.2.1 dX7_shortest_11 rfl (lv_at hl 3 rfl) ?_
      refine tw_iconst F dX7_shortest_12 ki_5 (fun z11 hz11 => ?_)
      refine tw_icmp_gt (tgt := 35) F dX7_shortest_13 (by decide) (fun b12 => ?_) (fun b12 => ?_)
      · refine tw_iconst F dX7_shortest_35 ki_m1 (fun z13 hz13 => ?_)
        exact hret f7 _ _ _ _ z13 dX7_shortest_36 rfl ⟨hk, by omega, by omega, hO⟩ h
      · refine lv_aload_n F.1 F.2.1 dX7_shortest_16 rfl (lv_at hl 0 rfl) ?_
        refine tw_iconst F dX7_shortest_17 ki_0 (fun z14 hz14 => ?_)
        refine lv_iload_n F.1 F.2.1 dX7_shortest_18 rfl (lv_at hl 3 rfl) ?_
        refine lv_iload_n F.1 F.2.1 dX7_shortest_19 rfl (lv_at hl 1 rfl) ?_
        refine lv_aload_n F.1 F.2.1 dX7_shortest_20 rfl (lv_at hl 2 rfl) ?_
        have hk0r : rfa f7 a0 12 = rfa f0 a0 12 := hk.erf m_a0 r_a0 (by decide +kernel)
        have hBo3 := hB
        have hDo3 := hD
        refine tw_Vi (As := [.int z14, .int x3_11, .int x1, .ref a2]) F hZ h yk_X7_reach mw_1215 mw_1216 mw_1217 (s_X7_reach_0 l D cy L R O f7 (hG.fr hk (by decide +kernel) (by decide +kernel)) a0 m_a0 r_a0 z14 ⟨by omega, by omega⟩ x3_11 ⟨by omega, by omega⟩ x1 ⟨by omega, by omega⟩ a2 m_a2 r_a2 b m_b r_b hB hD) rfl rfl m_a0 r_a0 (fun e q => (T_7 e).mp q) rfl hl.1 rfl (Nat.le_of_ble_eq_true rfl) ⟨Nat.le_of_ble_eq_true rfl, Nat.le_of_ble_eq_true rfl⟩ ⟨Nat.le_of_ble_eq_true rfl, Nat.le_of_ble_eq_true rfl⟩ dX7_shortest_21 (fun v16 f15 H locs hp15 h => ?_)
        obtain ⟨hf15, hv16a, hv16b, hv16p0, hv16p1⟩ := hp15
        have hB : SB L R O f15 a0 (x1.toInt.toNat) b := SB_fr hB (hG.1.fr hk (by decide +kernel)) hf15 (by decide +kernel) m_a0 r_a0 m_b r_b
        have hk : fr L R [(4, 1), (5, 4), (5, 5), (5, 6), (5, 7), (8, 1), (8, 2)] [4, 5, 8, 23, 34, 46, 51] f0 f15 := hk.tr hf15 (by decide +kernel) (by decide +kernel)
        have hD : DS f15 a0 0 b := DS_dm hDo3 hBo3.1 (by decide) hf15 (by decide +kernel) (by decide +kernel) m_a0 r_a0 hv16p1
        have hO : KO L R O (rfa f0 a0 12) f0 f15 := hO.tr (by have q := hv16p0; rw [hk0r] at q; exact q)
        refine tw_if_eq (tgt := 29) F dX7_shortest_24 (by decide) (fun b17 => ?_) (fun b17 => ?_)
        · refine tu_iinc F dX7_shortest_29 hl (k := 3) rfl (by decide) ki_1 (by omega) (fun z18 ls hz18 hl => ?_)
          have hl : lv_has ls 4 [(3, .int z18), (0, .ref a0), (1, .int x1), (2, .ref a2)] := hl
          refine lv_goto (tgt := 11) F.1 F.2.1 dX7_shortest_32 (by decide) ?_
          exact ih11 f15 _ _ _ z18 (by omega) (by omega) (by omega) h hD hB hO hk (lv_sub hl [1, 2, 3, 0] rfl)
        · refine lv_iload_n F.1 F.2.1 dX7_shortest_27 rfl (lv_at hl 3 rfl) ?_
          exact hret f15 _ _ _ _ x3_11 dX7_shortest_28 rfl ⟨hk, by omega, by omega, hO⟩ h
  exact j_11 (((6 - z6.toInt)).toNat + 1) f4 _ _ _ z6 (by omega) (by omega) (by omega) h hD hB hO hk (lv_sub hl [1, 2, 3, 0] rfl)
theorem dJ6_bitCount_0f7a4_0 : decode cJ6_bitCount_0f7a4 0 = .ok (.iload_n 0, 1) := by decide +kernel
theorem dJ6_bitCount_0f7a4_1 : decode cJ6_bitCount_0f7a4 1 = .ok (.iload_n 0, 1) := by decide +kernel
theorem dJ6_bitCount_0f7a4_2 : decode cJ6_bitCount_0f7a4 2 = .ok (.iconst 1, 1) := by decide +kernel
theorem dJ6_bitCount_0f7a4_3 : decode cJ6_bitCount_0f7a4 3 = .ok (.iushr, 1) := by decide +kernel
theorem dJ6_bitCount_0f7a4_4 : decode cJ6_bitCount_0f7a4 4 = .ok (.ldc_w 265, 3) := by decide +kernel
theorem mw_1459 : Cond.constant RJ6 265 (1431655765) ∈ wsL_law := inr_61 _ (List.mem_of_getElem? (i := 19) rfl)
theorem kc_1431655765 : (1431655765 : Int32).toInt = 1431655765 := by decide
theorem dJ6_bitCount_0f7a4_7 : decode cJ6_bitCount_0f7a4 7 = .ok (.iand, 1) := by decide +kernel
theorem dJ6_bitCount_0f7a4_8 : decode cJ6_bitCount_0f7a4 8 = .ok (.isub, 1) := by decide +kernel
theorem dJ6_bitCount_0f7a4_9 : decode cJ6_bitCount_0f7a4 9 = .ok (.istore_n 0, 1) := by decide +kernel
theorem dJ6_bitCount_0f7a4_10 : decode cJ6_bitCount_0f7a4 10 = .ok (.iload_n 0, 1) := by decide +kernel
theorem dJ6_bitCount_0f7a4_11 : decode cJ6_bitCount_0f7a4 11 = .ok (.ldc_w 266, 3) := by decide +kernel
theorem mw_1460 : Cond.constant RJ6 266 (858993459) ∈ wsL_law := inr_61 _ (List.mem_of_getElem? (i := 20) rfl)
theorem kc_858993459 : (858993459 : Int32).toInt = 858993459 := by decide
theorem dJ6_bitCount_0f7a4_14 : decode cJ6_bitCount_0f7a4 14 = .ok (.iand, 1) := by decide +kernel
theorem dJ6_bitCount_0f7a4_15 : decode cJ6_bitCount_0f7a4 15 = .ok (.iload_n 0, 1) := by decide +kernel
theorem dJ6_bitCount_0f7a4_16 : decode cJ6_bitCount_0f7a4 16 = .ok (.iconst 2, 1) := by decide +kernel
theorem dJ6_bitCount_0f7a4_17 : decode cJ6_bitCount_0f7a4 17 = .ok (.iushr, 1) := by decide +kernel
theorem dJ6_bitCount_0f7a4_18 : decode cJ6_bitCount_0f7a4 18 = .ok (.ldc_w 266, 3) := by decide +kernel
theorem dJ6_bitCount_0f7a4_21 : decode cJ6_bitCount_0f7a4 21 = .ok (.iand, 1) := by decide +kernel
theorem dJ6_bitCount_0f7a4_22 : decode cJ6_bitCount_0f7a4 22 = .ok (.iadd, 1) := by decide +kernel
theorem dJ6_bitCount_0f7a4_23 : decode cJ6_bitCount_0f7a4 23 = .ok (.istore_n 0, 1) := by decide +kernel
theorem dJ6_bitCount_0f7a4_24 : decode cJ6_bitCount_0f7a4 24 = .ok (.iload_n 0, 1) := by decide +kernel
theorem dJ6_bitCount_0f7a4_25 : decode cJ6_bitCount_0f7a4 25 = .ok (.iload_n 0, 1) := by decide +kernel
theorem dJ6_bitCount_0f7a4_26 : decode cJ6_bitCount_0f7a4 26 = .ok (.iconst 4, 1) := by decide +kernel
theorem dJ6_bitCount_0f7a4_27 : decode cJ6_bitCount_0f7a4 27 = .ok (.iushr, 1) := by decide +kernel
theorem dJ6_bitCount_0f7a4_28 : decode cJ6_bitCount_0f7a4 28 = .ok (.iadd, 1) := by decide +kernel
theorem dJ6_bitCount_0f7a4_29 : decode cJ6_bitCount_0f7a4 29 = .ok (.ldc_w 267, 3) := by decide +kernel
theorem mw_1461 : Cond.constant RJ6 267 (252645135) ∈ wsL_law := inr_61 _ (List.mem_of_getElem? (i := 21) rfl)
theorem kc_252645135 : (252645135 : Int32).toInt = 252645135 := by decide
theorem dJ6_bitCount_0f7a4_32 : decode cJ6_bitCount_0f7a4 32 = .ok (.iand, 1) := by decide +kernel
theorem dJ6_bitCount_0f7a4_33 : decode cJ6_bitCount_0f7a4 33 = .ok (.istore_n 0, 1) := by decide +kernel
theorem dJ6_bitCount_0f7a4_34 : decode cJ6_bitCount_0f7a4 34 = .ok (.iload_n 0, 1) := by decide +kernel
theorem dJ6_bitCount_0f7a4_35 : decode cJ6_bitCount_0f7a4 35 = .ok (.iload_n 0, 1) := by decide +kernel
theorem dJ6_bitCount_0f7a4_36 : decode cJ6_bitCount_0f7a4 36 = .ok (.bipush 8, 2) := by decide +kernel
theorem dJ6_bitCount_0f7a4_38 : decode cJ6_bitCount_0f7a4 38 = .ok (.iushr, 1) := by decide +kernel
theorem dJ6_bitCount_0f7a4_39 : decode cJ6_bitCount_0f7a4 39 = .ok (.iadd, 1) := by decide +kernel
theorem dJ6_bitCount_0f7a4_40 : decode cJ6_bitCount_0f7a4 40 = .ok (.istore_n 0, 1) := by decide +kernel
theorem dJ6_bitCount_0f7a4_41 : decode cJ6_bitCount_0f7a4 41 = .ok (.iload_n 0, 1) := by decide +kernel
theorem dJ6_bitCount_0f7a4_42 : decode cJ6_bitCount_0f7a4 42 = .ok (.iload_n 0, 1) := by decide +kernel
theorem dJ6_bitCount_0f7a4_43 : decode cJ6_bitCount_0f7a4 43 = .ok (.bipush 16, 2) := by decide +kernel
theorem dJ6_bitCount_0f7a4_45 : decode cJ6_bitCount_0f7a4 45 = .ok (.iushr, 1) := by decide +kernel
theorem dJ6_bitCount_0f7a4_46 : decode cJ6_bitCount_0f7a4 46 = .ok (.iadd, 1) := by decide +kernel
theorem dJ6_bitCount_0f7a4_47 : decode cJ6_bitCount_0f7a4 47 = .ok (.istore_n 0, 1) := by decide +kernel
theorem dJ6_bitCount_0f7a4_48 : decode cJ6_bitCount_0f7a4 48 = .ok (.iload_n 0, 1) := by decide +kernel
theorem dJ6_bitCount_0f7a4_49 : decode cJ6_bitCount_0f7a4 49 = .ok (.bipush 63, 2) := by decide +kernel
theorem kb_63 : (Int8.ofInt 63).toInt32.toInt = 63 := by decide
theorem dJ6_bitCount_0f7a4_51 : decode cJ6_bitCount_0f7a4 51 = .ok (.iand, 1) := by decide +kernel
theorem dJ6_bitCount_0f7a4_52 : decode cJ6_bitCount_0f7a4 52 = .ok (.ireturn, 1) := by decide +kernel
def rm_J6_bitCount_0f7a4 : Room := { frames := 0, cells := 0, slots := 0, locals := 0 }
set_option maxHeartbeats 4000000 in
set_option maxRecDepth 100000 in
theorem s_J6_bitCount_0f7a4 (l : Launch) (D : va_G) (cy : Nat → ClassId) (L : List Nat) (R O : Nat → Nat) (f0 : Nat → va_E) (x0 : Int32) (b0 : 0 ≤ x0.toInt ∧ x0.toInt ≤ 2147483646) : ∀ sz, Met l yJ6_bitCount_0f7a4 (Cond.code yJ6_bitCount_0f7a4 cJ6_bitCount_0f7a4 1 (some .int) :: wsL_law) rm_J6_bitCount_0f7a4 (va_Pc [.int x0] (tPZ D cy L R (TT cy L R) f0 sz)) (va_Qi (fun (r : Int32) f1 => f0 = f1 ∧ 0 ≤ r.toInt ∧ r.toInt ≤ 63) (tB D (tA L sz) L R (TT cy L R)) (tA L sz)) 0 0 (tA L sz) := by
  refine tw_enteri (by decide +kernel) rfl (Nat.le_of_ble_eq_true rfl) ?_
  intro p e s m below meth c A ls args Q F hZ h hl hret
  have hl : lv_has ls 1 [(0, .int x0)] := hl
  refine lv_iload_n F.1 F.2.1 dJ6_bitCount_0f7a4_0 rfl (lv_at hl 0 rfl) ?_
  refine lv_iload_n F.1 F.2.1 dJ6_bitCount_0f7a4_1 rfl (lv_at hl 0 rfl) ?_
  refine tw_iconst F dJ6_bitCount_0f7a4_2 ki_1 (fun z1 hz1 => ?_)
  refine lv_iushr F.1 F.2.1 dJ6_bitCount_0f7a4_3 rfl ?_
  refine lv_topi (fun z2 _ => ?_)
  refine tu_ldcw F mw_1459 dJ6_bitCount_0f7a4_4 kc_1431655765 (fun z3 hz3 => ?_)
  refine tu_iand F dJ6_bitCount_0f7a4_7 (by omega) (fun z4 hz4a hz4b => ?_)
  refine tu_isub F dJ6_bitCount_0f7a4_8 (by omega) (fun z5 hz5 => ?_)
  refine lv_istore_n (lv' := [(0, .int z5)]) F.1 F.2.1 dJ6_bitCount_0f7a4_9 rfl hl (by decide) rfl (fun ls hl => ?_)
  refine lv_iload_n F.1 F.2.1 dJ6_bitCount_0f7a4_10 rfl (lv_at hl 0 rfl) ?_
  refine tu_ldcw F mw_1460 dJ6_bitCount_0f7a4_11 kc_858993459 (fun z6 hz6 => ?_)
  refine tu_iand F dJ6_bitCount_0f7a4_14 (by omega) (fun z7 hz7a hz7b => ?_)
  refine lv_iload_n F.1 F.2.1 dJ6_bitCount_0f7a4_15 rfl (lv_at hl 0 rfl) ?_
  refine tw_iconst F dJ6_bitCount_0f7a4_16 ki_2 (fun z8 hz8 => ?_)
  refine lv_iushr F.1 F.2.1 dJ6_bitCount_0f7a4_17 rfl ?_
  refine lv_topi (fun z9 _ => ?_)
  refine tu_ldcw F mw_1460 dJ6_bitCount_0f7a4_18 kc_858993459 (fun z10 hz10 => ?_)
  refine tu_iand F dJ6_bitCount_0f7a4_21 (by omega) (fun z11 hz11a hz11b => ?_)
  refine tu_iadd F dJ6_bitCount_0f7a4_22 (by omega) (fun z12 hz12 => ?_)
  refine lv_istore_n (lv' := [(0, .int z12)]) F.1 F.2.1 dJ6_bitCount_0f7a4_23 rfl hl (by decide) rfl (fun ls hl => ?_)
  refine lv_iload_n F.1 F.2.1 dJ6_bitCount_0f7a4_24 rfl (lv_at hl 0 rfl) ?_
  refine lv_iload_n F.1 F.2.1 dJ6_bitCount_0f7a4_25 rfl (lv_at hl 0 rfl) ?_
  refine tw_iconst F dJ6_bitCount_0f7a4_26 ki_4 (fun z13 hz13 => ?_)
  refine lv_iushr F.1 F.2.1 dJ6_bitCount_0f7a4_27 rfl ?_
  refine lv_topi (fun z14 _ => ?_)
  refine lv_iadd F.1 F.2.1 dJ6_bitCount_0f7a4_28 ?_
  refine lv_topi (fun z15 _ => ?_)
  refine tu_ldcw F mw_1461 dJ6_bitCount_0f7a4_29 kc_252645135 (fun z16 hz16 => ?_)
  refine tu_iand F dJ6_bitCount_0f7a4_32 (by omega) (fun z17 hz17a hz17b => ?_)
  refine lv_istore_n (lv' := [(0, .int z17)]) F.1 F.2.1 dJ6_bitCount_0f7a4_33 rfl hl (by decide) rfl (fun ls hl => ?_)
  refine lv_iload_n F.1 F.2.1 dJ6_bitCount_0f7a4_34 rfl (lv_at hl 0 rfl) ?_
  refine lv_iload_n F.1 F.2.1 dJ6_bitCount_0f7a4_35 rfl (lv_at hl 0 rfl) ?_
  refine tw_bipush F dJ6_bitCount_0f7a4_36 kb_8 (fun z18 hz18 => ?_)
  refine lv_iushr F.1 F.2.1 dJ6_bitCount_0f7a4_38 rfl ?_
  refine lv_topi (fun z19 _ => ?_)
  refine lv_iadd F.1 F.2.1 dJ6_bitCount_0f7a4_39 ?_
  refine lv_topi (fun z20 _ => ?_)
  refine lv_istore_n (lv' := [(0, .int z20)]) F.1 F.2.1 dJ6_bitCount_0f7a4_40 rfl hl (by decide) rfl (fun ls hl => ?_)
  refine lv_iload_n F.1 F.2.1 dJ6_bitCount_0f7a4_41 rfl (lv_at hl 0 rfl) ?_
  refine lv_iload_n F.1 F.2.1 dJ6_bitCount_0f7a4_42 rfl (lv_at hl 0 rfl) ?_
  refine tw_bipush F dJ6_bitCount_0f7a4_43 kb_16 (fun z21 hz21 => ?_)
  refine lv_iushr F.1 F.2.1 dJ6_bitCount_0f7a4_45 rfl ?_
  refine lv_topi (fun z22 _ => ?_)
  refine lv_iadd F.1 F.2.1 dJ6_bitCount_0f7a4_46 ?_
  refine lv_topi (fun z23 _ => ?_)
  refine lv_istore_n (lv' := [(0, .int z23)]) F.1 F.2.1 dJ6_bitCount_0f7a4_47 rfl hl (by decide) rfl (fun ls hl => ?_)
  refine lv_iload_n F.1 F.2.1 dJ6_bitCount_0f7a4_48 rfl (lv_at hl 0 rfl) ?_
  refine tw_bipush F dJ6_bitCount_0f7a4_49 kb_63 (fun z24 hz24 => ?_)
  refine tu_iand F dJ6_bitCount_0f7a4_51 (by omega) (fun z25 hz25a hz25b => ?_)
  exact hret f0 _ _ _ _ z25 dJ6_bitCount_0f7a4_52 rfl ⟨rfl, by omega, by omega⟩ h
theorem dX7_fewest_0 : decode cX7_fewest 0 = .ok (.iconst 0, 1) := by decide +kernel
theorem dX7_fewest_1 : decode cX7_fewest 1 = .ok (.istore_n 3, 1) := by decide +kernel
theorem dX7_fewest_2 : decode cX7_fewest 2 = .ok (.aload_n 0, 1) := by decide +kernel
theorem dX7_fewest_3 : decode cX7_fewest 3 = .ok (.getfield 51, 3) := by decide +kernel
theorem dX7_fewest_6 : decode cX7_fewest 6 = .ok (.iconst 0, 1) := by decide +kernel
theorem dX7_fewest_7 : decode cX7_fewest 7 = .ok (.aaload, 1) := by decide +kernel
theorem dX7_fewest_8 : decode cX7_fewest 8 = .ok (.invokevirtual 94, 3) := by decide +kernel
theorem dX7_fewest_11 : decode cX7_fewest 11 = .ok (.iconst 0, 1) := by decide +kernel
theorem dX7_fewest_12 : decode cX7_fewest 12 = .ok (.istore 4, 2) := by decide +kernel
theorem dX7_fewest_14 : decode cX7_fewest 14 = .ok (.iload 4, 2) := by decide +kernel
theorem dX7_fewest_16 : decode cX7_fewest 16 = .ok (.iload_n 1, 1) := by decide +kernel
theorem dX7_fewest_17 : decode cX7_fewest 17 = .ok (.if_icmp .ge 68, 3) := by decide +kernel
theorem dX7_fewest_85 : decode cX7_fewest 85 = .ok (.iconst 1, 1) := by decide +kernel
theorem dX7_fewest_86 : decode cX7_fewest 86 = .ok (.iload_n 2, 1) := by decide +kernel
theorem dX7_fewest_87 : decode cX7_fewest 87 = .ok (.ishl, 1) := by decide +kernel
theorem dX7_fewest_88 : decode cX7_fewest 88 = .ok (.istore 4, 2) := by decide +kernel
theorem dX7_fewest_90 : decode cX7_fewest 90 = .ok (.iconst 0, 1) := by decide +kernel
theorem dX7_fewest_91 : decode cX7_fewest 91 = .ok (.istore 5, 2) := by decide +kernel
theorem dX7_fewest_93 : decode cX7_fewest 93 = .ok (.iload 5, 2) := by decide +kernel
theorem dX7_fewest_95 : decode cX7_fewest 95 = .ok (.iload_n 2, 1) := by decide +kernel
theorem dX7_fewest_96 : decode cX7_fewest 96 = .ok (.if_icmp .gt 65, 3) := by decide +kernel
theorem dX7_fewest_161 : decode cX7_fewest 161 = .ok (.iconst (-1), 1) := by decide +kernel
theorem dX7_fewest_162 : decode cX7_fewest 162 = .ok (.ireturn, 1) := by decide +kernel
theorem dX7_fewest_99 : decode cX7_fewest 99 = .ok (.iconst 0, 1) := by decide +kernel
theorem dX7_fewest_100 : decode cX7_fewest 100 = .ok (.istore 6, 2) := by decide +kernel
theorem dX7_fewest_102 : decode cX7_fewest 102 = .ok (.iload 6, 2) := by decide +kernel
theorem dX7_fewest_104 : decode cX7_fewest 104 = .ok (.iload 4, 2) := by decide +kernel
theorem dX7_fewest_106 : decode cX7_fewest 106 = .ok (.if_icmp .ge 49, 3) := by decide +kernel
theorem dX7_fewest_155 : decode cX7_fewest 155 = .ok (.iinc 5 1, 3) := by decide +kernel
theorem dX7_fewest_158 : decode cX7_fewest 158 = .ok (.goto (-65), 3) := by decide +kernel
theorem dX7_fewest_109 : decode cX7_fewest 109 = .ok (.iload 6, 2) := by decide +kernel
theorem dX7_fewest_111 : decode cX7_fewest 111 = .ok (.invokestatic 172, 3) := by decide +kernel
theorem mw_1455 : Cond.methodLink RX7 172 yJ6_bitCount_0f7a4 ∈ wsL_law := inr_61 _ (List.mem_of_getElem? (i := 15) rfl)
theorem mw_1457 : Cond.initialized RJ6 ∈ wsL_law := inr_61 _ (List.mem_of_getElem? (i := 17) rfl)
theorem mw_1458 : Cond.code yJ6_bitCount_0f7a4 cJ6_bitCount_0f7a4 1 (some .int) ∈ wsL_law := inr_61 _ (List.mem_of_getElem? (i := 18) rfl)
theorem yk_J6_bitCount_0f7a4 : xY yJ6_bitCount_0f7a4 RJ6 cJ6_bitCount_0f7a4 1 (some .int) 1 := ⟨⟨rfl, by decide +kernel, by decide +kernel, by decide +kernel⟩, mw_1457, mw_1458⟩
theorem mw_1456 : Cond.static yJ6_bitCount_0f7a4 ∈ wsL_law := inr_61 _ (List.mem_of_getElem? (i := 16) rfl)
theorem dX7_fewest_114 : decode cX7_fewest 114 = .ok (.iload 5, 2) := by decide +kernel
theorem dX7_fewest_149 : decode cX7_fewest 149 = .ok (.iinc 6 1, 3) := by decide +kernel
theorem dX7_fewest_152 : decode cX7_fewest 152 = .ok (.goto (-50), 3) := by decide +kernel
theorem dX7_fewest_116 : decode cX7_fewest 116 = .ok (.if_icmp .ne 33, 3) := by decide +kernel
theorem dX7_fewest_119 : decode cX7_fewest 119 = .ok (.iload 6, 2) := by decide +kernel
theorem dX7_fewest_121 : decode cX7_fewest 121 = .ok (.iload_n 3, 1) := by decide +kernel
theorem dX7_fewest_122 : decode cX7_fewest 122 = .ok (.iconst (-1), 1) := by decide +kernel
theorem dX7_fewest_123 : decode cX7_fewest 123 = .ok (.ixor, 1) := by decide +kernel
theorem dX7_fewest_124 : decode cX7_fewest 124 = .ok (.iand, 1) := by decide +kernel
theorem dX7_fewest_125 : decode cX7_fewest 125 = .ok (.ifCond .ne 24, 3) := by decide +kernel
theorem dX7_fewest_128 : decode cX7_fewest 128 = .ok (.aload_n 0, 1) := by decide +kernel
theorem dX7_fewest_129 : decode cX7_fewest 129 = .ok (.iload_n 1, 1) := by decide +kernel
theorem dX7_fewest_130 : decode cX7_fewest 130 = .ok (.iload 6, 2) := by decide +kernel
theorem dX7_fewest_132 : decode cX7_fewest 132 = .ok (.iconst (-1), 1) := by decide +kernel
theorem dX7_fewest_133 : decode cX7_fewest 133 = .ok (.ixor, 1) := by decide +kernel
theorem dX7_fewest_134 : decode cX7_fewest 134 = .ok (.invokevirtual 178, 3) := by decide +kernel
theorem mw_1462 : Cond.methodLink RX7 178 yX7_saysWanted ∈ wsL_law := inr_61 _ (List.mem_of_getElem? (i := 22) rfl)
theorem mw_1465 : Cond.code yX7_saysWanted cX7_saysWanted 6 (some .boolean) ∈ wsL_law := inr_62 _ (List.mem_of_getElem? (i := 1) rfl)
theorem yk_X7_saysWanted : xY yX7_saysWanted RX7 cX7_saysWanted 6 (some .boolean) 2 := ⟨⟨rfl, by decide +kernel, by decide +kernel, by decide +kernel⟩, mw_32, mw_1465⟩
theorem mw_1463 : Cond.instanceMethod yX7_saysWanted ∈ wsL_law := inr_61 _ (List.mem_of_getElem? (i := 23) rfl)
theorem mw_1464 : Cond.selects RX7 yX7_saysWanted yX7_saysWanted ∈ wsL_law := inr_62 _ (List.mem_of_getElem? (i := 0) rfl)
theorem dX7_fewest_137 : decode cX7_fewest 137 = .ok (.ifCond .eq 12, 3) := by decide +kernel
theorem dX7_fewest_140 : decode cX7_fewest 140 = .ok (.aload_n 0, 1) := by decide +kernel
theorem dX7_fewest_141 : decode cX7_fewest 141 = .ok (.iload 6, 2) := by decide +kernel
theorem dX7_fewest_143 : decode cX7_fewest 143 = .ok (.putfield 40, 3) := by decide +kernel
theorem mw_147 : Cond.fieldLink RX7 40 "AskBack$Search" "leastRules" "I" ∈ wsL_law := inr_7 _ (List.mem_of_getElem? (i := 3) rfl)
section
variable {p : Program} {l : Launch} {e : Env} {R0 : Room} {s : State} {m : MethodId} {args : Array Value} {below : List Frame} {meth : Method} {c : Code} {H H0 : Heap} {locs : List Loc} {cells slots : Nat} {Q : State → Prop} {cc : ByteArray} {nL : Nat} {D : va_G} {cy : Nat → ClassId} {A : Nat → Prop} {L : List Nat} {R : Nat → Nat} {f : Nat → va_E} {pc : Nat} {ls : Array Slot} {rest : List Value} {a : Nat}
theorem p_7_40 (F : CallFix p m c cc nL s args wsL_law RX7) (h : tS D cy A H0 L R (TT cy L R) f s H locs) {x : Int32} (ha : a ∈ L) (hr : R a = 7) (hdg : decode cc pc = .ok (.putfield 40, 3)) (kk : ∀ (f1 : Nat → va_E) (H1 : Heap) (locs1 : List Loc), fi f1 a 9 = x.toInt → fr L R [(7, 9)] [7] f f1 → tS D cy A H0 L R (TT cy L R) f1 s H1 locs1 → W p l e R0 s m args below meth c H1 locs1 cells slots Q (F0 m (pc + 3) ls (rest))) : W p l e R0 s m args below meth c H locs cells slots Q (F0 m pc ls (.int x :: .ref a :: rest)) := tu_puti (k := 9) F h ha hr T_7 rfl (tb_i x).1 (tb_i x).2 inlX7 tyX7_ok nmX7 rfl (Nat.le_of_ble_eq_true rfl) mw_147 rfl rfl rfl hdg kk
end
theorem dX7_fewest_146 : decode cX7_fewest 146 = .ok (.iload 5, 2) := by decide +kernel
theorem dX7_fewest_148 : decode cX7_fewest 148 = .ok (.ireturn, 1) := by decide +kernel
theorem dX7_fewest_20 : decode cX7_fewest 20 = .ok (.aload_n 0, 1) := by decide +kernel
theorem dX7_fewest_21 : decode cX7_fewest 21 = .ok (.getfield 11, 3) := by decide +kernel
theorem dX7_fewest_24 : decode cX7_fewest 24 = .ok (.iload 4, 2) := by decide +kernel
theorem dX7_fewest_26 : decode cX7_fewest 26 = .ok (.aaload, 1) := by decide +kernel
theorem dX7_fewest_27 : decode cX7_fewest 27 = .ok (.astore 5, 2) := by decide +kernel
theorem dX7_fewest_29 : decode cX7_fewest 29 = .ok (.iload_n 3, 1) := by decide +kernel
theorem dX7_fewest_30 : decode cX7_fewest 30 = .ok (.aload 5, 2) := by decide +kernel
theorem dX7_fewest_32 : decode cX7_fewest 32 = .ok (.getfield 169, 3) := by decide +kernel
theorem mw_1454 : Cond.fieldLink RX7 169 "AskBack$Ear" "fitting" "I" ∈ wsL_law := inr_61 _ (List.mem_of_getElem? (i := 14) rfl)
section
variable {p : Program} {l : Launch} {e : Env} {R0 : Room} {s : State} {m : MethodId} {args : Array Value} {below : List Frame} {meth : Method} {c : Code} {H H0 : Heap} {locs : List Loc} {cells slots : Nat} {Q : State → Prop} {cc : ByteArray} {nL : Nat} {D : va_G} {cy : Nat → ClassId} {A : Nat → Prop} {L : List Nat} {R : Nat → Nat} {f : Nat → va_E} {pc : Nat} {ls : Array Slot} {rest : List Value} {a : Nat}
theorem g_7_169 (F : CallFix p m c cc nL s args wsL_law RX7) (h : tS D cy A H0 L R (TT cy L R) f s H locs) (ha : a ∈ L) (hr : R a = 1) (hdg : decode cc pc = .ok (.getfield 169, 3)) (kk : ∀ x : Int32, x.toInt = fi f a 2 → W p l e R0 s m args below meth c H locs cells slots Q (F0 m (pc + 3) ls (.int x :: rest))) : W p l e R0 s m args below meth c H locs cells slots Q (F0 m pc ls (.ref a :: rest)) := tu_geti F h ha hr (fun e q => (T_1 e).mp q) rfl inlX1 rfl (Nat.le_of_ble_eq_true rfl) mw_1454 hdg (fun x h1 h2 h3 => kk x h1)
end
theorem dX7_fewest_35 : decode cX7_fewest 35 = .ok (.ior, 1) := by decide +kernel
theorem dX7_fewest_36 : decode cX7_fewest 36 = .ok (.istore_n 3, 1) := by decide +kernel
theorem dX7_fewest_37 : decode cX7_fewest 37 = .ok (.aload_n 0, 1) := by decide +kernel
theorem dX7_fewest_38 : decode cX7_fewest 38 = .ok (.getfield 85, 3) := by decide +kernel
theorem dX7_fewest_41 : decode cX7_fewest 41 = .ok (.aload 5, 2) := by decide +kernel
theorem dX7_fewest_43 : decode cX7_fewest 43 = .ok (.aload_n 0, 1) := by decide +kernel
theorem dX7_fewest_44 : decode cX7_fewest 44 = .ok (.getfield 51, 3) := by decide +kernel
theorem dX7_fewest_47 : decode cX7_fewest 47 = .ok (.iconst 0, 1) := by decide +kernel
theorem dX7_fewest_48 : decode cX7_fewest 48 = .ok (.aaload, 1) := by decide +kernel
theorem dX7_fewest_49 : decode cX7_fewest 49 = .ok (.aload 5, 2) := by decide +kernel
theorem dX7_fewest_51 : decode cX7_fewest 51 = .ok (.getfield 97, 3) := by decide +kernel
theorem dX7_fewest_54 : decode cX7_fewest 54 = .ok (.aload 5, 2) := by decide +kernel
theorem dX7_fewest_56 : decode cX7_fewest 56 = .ok (.getfield 98, 3) := by decide +kernel
theorem dX7_fewest_59 : decode cX7_fewest 59 = .ok (.invokevirtual 101, 3) := by decide +kernel
theorem dX7_fewest_62 : decode cX7_fewest 62 = .ok (.aload_n 0, 1) := by decide +kernel
theorem dX7_fewest_63 : decode cX7_fewest 63 = .ok (.getfield 57, 3) := by decide +kernel
theorem dX7_fewest_66 : decode cX7_fewest 66 = .ok (.iload 4, 2) := by decide +kernel
theorem dX7_fewest_68 : decode cX7_fewest 68 = .ok (.aaload, 1) := by decide +kernel
theorem dX7_fewest_69 : decode cX7_fewest 69 = .ok (.aload_n 0, 1) := by decide +kernel
theorem dX7_fewest_70 : decode cX7_fewest 70 = .ok (.getfield 85, 3) := by decide +kernel
theorem dX7_fewest_73 : decode cX7_fewest 73 = .ok (.getfield 108, 3) := by decide +kernel
theorem dX7_fewest_76 : decode cX7_fewest 76 = .ok (.invokevirtual 134, 3) := by decide +kernel
theorem mw_1267 : Cond.methodLink RX7 134 yX4_copy ∈ wsL_law := inr_53 _ (List.mem_of_getElem? (i := 19) rfl)
theorem dX7_fewest_79 : decode cX7_fewest 79 = .ok (.iinc 4 1, 3) := by decide +kernel
theorem dX7_fewest_82 : decode cX7_fewest 82 = .ok (.goto (-68), 3) := by decide +kernel
def rm_X7_fewest : Room := { frames := 6, cells := 0, slots := 0, locals := 153 }
set_option maxHeartbeats 4000000 in
set_option maxRecDepth 100000 in
theorem s_X7_fewest (l : Launch) (D : va_G) (cy : Nat → ClassId) (L : List Nat) (R O : Nat → Nat) (f0 : Nat → va_E) (hG : GG L R O f0) (a0 : Nat) (m_a0 : a0 ∈ L) (r_a0 : R a0 = 7) (x1 : Int32) (b1 : 0 ≤ x1.toInt ∧ x1.toInt ≤ 15) (x2 : Int32) (b2 : 0 ≤ x2.toInt ∧ x2.toInt ≤ 24) (pre0 : ∃ b, b ∈ L ∧ R b = 6 ∧ SB L R O f0 a0 (x1.toInt.toNat) b) : ∀ sz, Met l yX7_fewest (Cond.code yX7_fewest cX7_fewest 7 (some .int) :: wsL_law) rm_X7_fewest (va_Pc [.ref a0, .int x1, .int x2] (tPZ D cy L R (TT cy L R) f0 sz)) (va_Qi (fun (r : Int32) f1 => fr L R [(4, 1), (5, 2), (5, 4), (5, 5), (5, 6), (5, 7), (7, 9), (8, 1), (8, 2)] [4, 5, 7, 8, 23, 34, 51] f0 f1 ∧ (-1) ≤ r.toInt ∧ r.toInt ≤ 24 ∧ KO L R O (rfa f0 a0 12) f0 f1) (tB D (tA L sz) L R (TT cy L R)) (tA L sz)) 0 0 (tA L sz) := by
  refine tw_enteri (by decide +kernel) rfl (Nat.le_of_ble_eq_true rfl) ?_
  intro p e s m below meth c A ls args Q F hZ h hl hret
  have hl : lv_has ls 7 [(0, .ref a0), (1, .int x1), (2, .int x2)] := hl
  have hk : fr L R [(4, 1), (5, 2), (5, 4), (5, 5), (5, 6), (5, 7), (7, 9), (8, 1), (8, 2)] [4, 5, 7, 8, 23, 34, 51] f0 f0 := fr.rf
  obtain ⟨b, m_b, r_b, hB⟩ := pre0
  have hB0 := hB
  have hO : KO L R O (rfa f0 a0 12) f0 f0 := KO.rf
  refine tw_iconst F dX7_fewest_0 ki_0 (fun z1 hz1 => ?_)
  refine lv_istore_n (lv' := [(3, .int z1), (0, .ref a0), (1, .int x1), (2, .int x2)]) F.1 F.2.1 dX7_fewest_1 rfl hl (by decide) rfl (fun ls hl => ?_)
  refine lv_aload_n F.1 F.2.1 dX7_fewest_2 rfl (lv_at hl 1 rfl) ?_
  refine g_7_51 F h m_a0 r_a0 dX7_fewest_3 (fun o2 m_o2 r_o2 ho2 => ?_)
  refine tw_iconst F dX7_fewest_6 ki_0 (fun z3 hz3 => ?_)
  refine le_48 F h m_o2 r_o2 (by omega) dX7_fewest_7 (fun o4 m_o4 r_o4 eo4 => ?_)
  have qS : elq f0 (rfa f0 a0 12) 0 = some o4 := by have q := elq_a ho2 eo4; rw [SB_e12 hB0 hk (by decide +kernel) m_a0 r_a0, (show z3.toInt.toNat = 0 by omega)] at q; exact q
  have qSO : O o4 = rfa f0 a0 12 := (hB0.1.2.2 0 o4 qS (by decide)).2.2
  refine tw_Vv (As := []) F hZ h yk_X8_refresh mw_1168 mw_627 mw_628 (s_X8_refresh l D cy L R O f0 o4 m_o4 r_o4) rfl rfl m_o4 r_o4 (fun e q => (T_8 e).mp q) rfl hl.1 rfl (Nat.le_of_ble_eq_true rfl) ⟨Nat.le_of_ble_eq_true rfl, Nat.le_of_ble_eq_true rfl⟩ ⟨Nat.le_of_ble_eq_true rfl, Nat.le_of_ble_eq_true rfl⟩ dX7_fewest_8 (fun f5 H locs hp5 h => ?_)
  obtain ⟨hf5, hv6p0, hv6p1⟩ := hp5
  have hB : SB L R O f5 a0 (x1.toInt.toNat) b := SB_fr hB hG.1 hf5 (by decide +kernel) m_a0 r_a0 m_b r_b
  have hk : fr L R [(4, 1), (5, 2), (5, 4), (5, 5), (5, 6), (5, 7), (7, 9), (8, 1), (8, 2)] [4, 5, 7, 8, 23, 34, 51] f0 f5 := hk.tr hf5 rfl rfl
  have hD : DS f5 a0 0 b := DS_one (by rw [SB_e12 hB0 hk (by decide +kernel) m_a0 r_a0]; exact qS) (dg0_DIG hv6p0)
  have hO : KO L R O (rfa f0 a0 12) f0 f5 := KO_ks hO hv6p1 qSO
  refine tw_iconst F dX7_fewest_11 ki_0 (fun z7 hz7 => ?_)
  refine lv_istore (lv' := [(4, .int z7), (3, .int z1), (0, .ref a0), (1, .int x1), (2, .int x2)]) F.1 F.2.1 dX7_fewest_12 hl (by decide) rfl (fun ls hl => ?_)
  have j_14 : ∀ (n14 : Nat) (f8 : Nat → va_E) (H : Heap) (locs : List Loc) (ls : Array Slot) (x3_14 : Int32) (x4_14 : Int32), 0 ≤ x4_14.toInt → x4_14.toInt ≤ 15 → ((15 - x4_14.toInt)).toNat < n14 → tS D cy A s.heap L R (TT cy L R) f8 s H locs → DS f8 a0 0 b → SB L R O f8 a0 (x1.toInt.toNat) b → KO L R O (rfa f0 a0 12) f0 f8 → fr L R [(4, 1), (5, 2), (5, 4), (5, 5), (5, 6), (5, 7), (7, 9), (8, 1), (8, 2)] [4, 5, 7, 8, 23, 34, 51] f0 f8 → lv_has ls 7 [(0, .ref a0), (1, .int x1), (2, .int x2), (3, .int x3_14), (4, .int x4_14)] → W p l e rm_X7_fewest s m args below meth c H locs 0 0 Q (F0 m 14 ls []) := by
    intro n14
    induction n14 with
    | zero =>
      intro f8 H locs ls x3_14 x4_14 b9 b10 b11 h hD hB hO hk hl
      exfalso
      omega
    | succ n14 ih14 =>
      intro f8 H locs ls x3_14 x4_14 b9 b10 b11 h hD hB hO hk hl
      refine lv_iload F.1 F.2.1 dX7_fewest_14 (lv_at hl 4 rfl) ?_
      refine lv_iload_n F.1 F.2.1 dX7_fewest_16 rfl (lv_at hl 1 rfl) ?_
      refine tw_icmp_ge (tgt := 85) F dX7_fewest_17 (by decide) (fun b12 => ?_) (fun b12 => ?_)
      · refine tw_iconst F dX7_fewest_85 ki_1 (fun z13 hz13 => ?_)
        refine lv_iload_n F.1 F.2.1 dX7_fewest_86 rfl (lv_at hl 2 rfl) ?_
        refine lv_ishl F.1 F.2.1 dX7_fewest_87 ?_
        refine lv_topi (fun z14 _ => ?_)
        refine lv_istore (lv' := [(4, .int z14), (0, .ref a0), (1, .int x1), (2, .int x2), (3, .int x3_14)]) F.1 F.2.1 dX7_fewest_88 hl (by decide) rfl (fun ls hl => ?_)
        refine tw_iconst F dX7_fewest_90 ki_0 (fun z15 hz15 => ?_)
        refine lv_istore (lv' := [(5, .int z15), (4, .int z14), (0, .ref a0), (1, .int x1), (2, .int x2), (3, .int x3_14)]) F.1 F.2.1 dX7_fewest_91 hl (by decide) rfl (fun ls hl => ?_)
        have j_93 : ∀ (n93 : Nat) (f16 : Nat → va_E) (H : Heap) (locs : List Loc) (ls : Array Slot) (x5_93 : Int32), 0 ≤ x5_93.toInt → x5_93.toInt ≤ 25 → ((25 - x5_93.toInt)).toNat < n93 → tS D cy A s.heap L R (TT cy L R) f16 s H locs → SB L R O f16 a0 (x1.toInt.toNat) b → KO L R O (rfa f0 a0 12) f0 f16 → fr L R [(4, 1), (5, 2), (5, 4), (5, 5), (5, 6), (5, 7), (7, 9), (8, 1), (8, 2)] [4, 5, 7, 8, 23, 34, 51] f0 f16 → lv_has ls 7 [(0, .ref a0), (1, .int x1), (2, .int x2), (3, .int x3_14), (4, .int z14), (5, .int x5_93)] → W p l e rm_X7_fewest s m args below meth c H locs 0 0 Q (F0 m 93 ls []) := by
          intro n93
          induction n93 with
          | zero =>
            intro f16 H locs ls x5_93 b17 b18 b19 h hB hO hk hl
            exfalso
            omega
          | succ n93 ih93 =>
            intro f16 H locs ls x5_93 b17 b18 b19 h hB hO hk hl
            refine lv_iload F.1 F.2.1 dX7_fewest_93 (lv_at hl 5 rfl) ?_
            refine lv_iload_n F.1 F.2.1 dX7_fewest_95 rfl (lv_at hl 2 rfl) ?_
            refine tw_icmp_gt (tgt := 161) F dX7_fewest_96 (by decide) (fun b20 => ?_) (fun b20 => ?_)
            · refine tw_iconst F dX7_fewest_161 ki_m1 (fun z21 hz21 => ?_)
              exact hret f16 _ _ _ _ z21 dX7_fewest_162 rfl ⟨hk, by omega, by omega, hO⟩ h
            · refine tw_iconst F dX7_fewest_99 ki_0 (fun z22 hz22 => ?_)
              refine lv_istore (lv' := [(6, .int z22), (0, .ref a0), (1, .int x1), (2, .int x2), (3, .int x3_14), (4, .int z14), (5, .int x5_93)]) F.1 F.2.1 dX7_fewest_100 hl (by decide) rfl (fun ls hl => ?_)
              have j_102 : ∀ (n102 : Nat) (f23 : Nat → va_E) (H : Heap) (locs : List Loc) (ls : Array Slot) (x6_102 : Int32), 0 ≤ x6_102.toInt → 0 ≤ x6_102.toInt → ((2147483647 - x6_102.toInt)).toNat < n102 → tS D cy A s.heap L R (TT cy L R) f23 s H locs → SB L R O f23 a0 (x1.toInt.toNat) b → KO L R O (rfa f0 a0 12) f0 f23 → fr L R [(4, 1), (5, 2), (5, 4), (5, 5), (5, 6), (5, 7), (7, 9), (8, 1), (8, 2)] [4, 5, 7, 8, 23, 34, 51] f0 f23 → lv_has ls 7 [(0, .ref a0), (1, .int x1), (2, .int x2), (3, .int x3_14), (4, .int z14), (5, .int x5_93), (6, .int x6_102)] → W p l e rm_X7_fewest s m args below meth c H locs 0 0 Q (F0 m 102 ls []) := by
                intro n102
                induction n102 with
                | zero =>
                  intro f23 H locs ls x6_102 b24 b25 b26 h hB hO hk hl
                  exfalso
                  omega
                | succ n102 ih102 =>
                  intro f23 H locs ls x6_102 b24 b25 b26 h hB hO hk hl
                  refine lv_iload F.1 F.2.1 dX7_fewest_102 (lv_at hl 6 rfl) ?_
                  refine lv_iload F.1 F.2.1 dX7_fewest_104 (lv_at hl 4 rfl) ?_
                  have tb4 := tb_i z14
                  refine tw_icmp_ge (tgt := 155) F dX7_fewest_106 (by decide) (fun b27 => ?_) (fun b27 => ?_)
                  · refine tu_iinc F dX7_fewest_155 hl (k := 5) rfl (by decide) ki_1 (by omega) (fun z28 ls hz28 hl => ?_)
                    have hl : lv_has ls 7 [(5, .int z28), (0, .ref a0), (1, .int x1), (2, .int x2), (3, .int x3_14), (4, .int z14), (6, .int x6_102)] := hl
                    refine lv_goto (tgt := 93) F.1 F.2.1 dX7_fewest_158 (by decide) ?_
                    exact ih93 f23 _ _ _ z28 (by omega) (by omega) (by omega) h hB hO hk (lv_sub hl [1, 2, 3, 4, 5, 0] rfl)
                  · refine lv_iload F.1 F.2.1 dX7_fewest_109 (lv_at hl 6 rfl) ?_
                    refine tw_Si (As := [.int x6_102]) F hZ h yk_J6_bitCount_0f7a4 mw_1455 mw_1456 (s_J6_bitCount_0f7a4 l D cy L R O f23 x6_102 ⟨by omega, by omega⟩) rfl rfl hl.1 rfl (Nat.le_of_ble_eq_true rfl) ⟨Nat.le_of_ble_eq_true rfl, Nat.le_of_ble_eq_true rfl⟩ ⟨Nat.le_of_ble_eq_true rfl, Nat.le_of_ble_eq_true rfl⟩ dX7_fewest_111 (fun v30 f29 H locs hp29 h => ?_)
                    obtain ⟨rfl, hv30a, hv30b⟩ := hp29
                    refine lv_iload F.1 F.2.1 dX7_fewest_114 (lv_at hl 5 rfl) ?_
                    have j_149 : ∀ (f31 : Nat → va_E) (H : Heap) (locs : List Loc) (ls : Array Slot), tS D cy A s.heap L R (TT cy L R) f31 s H locs → SB L R O f31 a0 (x1.toInt.toNat) b → KO L R O (rfa f0 a0 12) f0 f31 → fr L R [(4, 1), (5, 2), (5, 4), (5, 5), (5, 6), (5, 7), (7, 9), (8, 1), (8, 2)] [4, 5, 7, 8, 23, 34, 51] f0 f31 → lv_has ls 7 [(0, .ref a0), (1, .int x1), (2, .int x2), (3, .int x3_14), (4, .int z14), (5, .int x5_93), (6, .int x6_102)] → W p l e rm_X7_fewest s m args below meth c H locs 0 0 Q (F0 m 149 ls []) := by
                      intro f31 H locs ls h hB hO hk hl
                      refine tu_iinc F dX7_fewest_149 hl (k := 6) rfl (by decide) ki_1 (by omega) (fun z32 ls hz32 hl => ?_)
                      have hl : lv_has ls 7 [(6, .int z32), (0, .ref a0), (1, .int x1), (2, .int x2), (3, .int x3_14), (4, .int z14), (5, .int x5_93)] := hl
                      refine lv_goto (tgt := 102) F.1 F.2.1 dX7_fewest_152 (by decide) ?_
                      exact ih102 f31 _ _ _ z32 (by omega) (by omega) (by omega) h hB hO hk (lv_sub hl [1, 2, 3, 4, 5, 6, 0] rfl)
                    refine tw_icmp_ne (tgt := 149) F dX7_fewest_116 (by decide) (fun b33 => ?_) (fun b33 => ?_)
                    · exact j_149 f23 _ _ _ h hB hO hk (lv_sub hl [0, 1, 2, 3, 4, 5, 6] rfl)
                    · refine lv_iload F.1 F.2.1 dX7_fewest_119 (lv_at hl 6 rfl) ?_
                      refine lv_iload_n F.1 F.2.1 dX7_fewest_121 rfl (lv_at hl 3 rfl) ?_
                      refine tw_iconst F dX7_fewest_122 ki_m1 (fun z34 hz34 => ?_)
                      refine lv_ixor F.1 F.2.1 dX7_fewest_123 ?_
                      refine lv_topi (fun z35 _ => ?_)
                      refine lv_iand F.1 F.2.1 dX7_fewest_124 ?_
                      refine lv_topi (fun z36 _ => ?_)
                      refine tw_if_ne (tgt := 149) F dX7_fewest_125 (by decide) (fun b37 => ?_) (fun b37 => ?_)
                      · exact j_149 f23 _ _ _ h hB hO hk (lv_sub hl [0, 1, 2, 3, 4, 5, 6] rfl)
                      · refine lv_aload_n F.1 F.2.1 dX7_fewest_128 rfl (lv_at hl 0 rfl) ?_
                        refine lv_iload_n F.1 F.2.1 dX7_fewest_129 rfl (lv_at hl 1 rfl) ?_
                        refine lv_iload F.1 F.2.1 dX7_fewest_130 (lv_at hl 6 rfl) ?_
                        refine tw_iconst F dX7_fewest_132 ki_m1 (fun z38 hz38 => ?_)
                        refine lv_ixor F.1 F.2.1 dX7_fewest_133 ?_
                        refine lv_topi (fun z39 _ => ?_)
                        have hk0_134 : rfa f23 a0 12 = rfa f0 a0 12 := hk.erf m_a0 r_a0 (by decide +kernel)
                        refine tw_Vi (As := [.int x1, .int z39]) F hZ h yk_X7_saysWanted mw_1462 mw_1463 mw_1464 (s_X7_saysWanted l D cy L R O f23 (hG.fr hk (by decide +kernel) (by decide +kernel)) a0 m_a0 r_a0 x1 ⟨by omega, by omega⟩ z39 ⟨b, m_b, r_b, hB⟩) rfl rfl m_a0 r_a0 (fun e q => (T_7 e).mp q) rfl hl.1 rfl (Nat.le_of_ble_eq_true rfl) ⟨Nat.le_of_ble_eq_true rfl, Nat.le_of_ble_eq_true rfl⟩ ⟨Nat.le_of_ble_eq_true rfl, Nat.le_of_ble_eq_true rfl⟩ dX7_fewest_134 (fun v41 f40 H locs hp40 h => ?_)
                        obtain ⟨hf40, hv41a, hv41b, hv41p0⟩ := hp40
                        have hB : SB L R O f40 a0 (x1.toInt.toNat) b := SB_fr hB (hG.1.fr hk (by decide +kernel)) hf40 (by decide +kernel) m_a0 r_a0 m_b r_b
                        have hk : fr L R [(4, 1), (5, 2), (5, 4), (5, 5), (5, 6), (5, 7), (7, 9), (8, 1), (8, 2)] [4, 5, 7, 8, 23, 34, 51] f0 f40 := hk.tr hf40 (by decide +kernel) (by decide +kernel)
                        have hO : KO L R O (rfa f0 a0 12) f0 f40 := hO.tr (by have q := hv41p0; rw [hk0_134] at q; exact q)
                        refine tw_if_eq (tgt := 149) F dX7_fewest_137 (by decide) (fun b42 => ?_) (fun b42 => ?_)
                        · exact j_149 f40 _ _ _ h hB hO hk (lv_sub hl [0, 1, 2, 3, 4, 5, 6] rfl)
                        · refine lv_aload_n F.1 F.2.1 dX7_fewest_140 rfl (lv_at hl 0 rfl) ?_
                          refine lv_iload F.1 F.2.1 dX7_fewest_141 (lv_at hl 6 rfl) ?_
                          refine p_7_40 F h m_a0 r_a0 dX7_fewest_143 (fun f43 H locs e43p hf43 h => ?_)
                          have hB : SB L R O f43 a0 (x1.toInt.toNat) b := SB_fr hB (hG.1.fr hk (by decide +kernel)) hf43 (by decide +kernel) m_a0 r_a0 m_b r_b
                          have hO : KO L R O (rfa f0 a0 12) f0 f43 := KO_fr hO hf43 (by decide +kernel)
                          have hk : fr L R [(4, 1), (5, 2), (5, 4), (5, 5), (5, 6), (5, 7), (7, 9), (8, 1), (8, 2)] [4, 5, 7, 8, 23, 34, 51] f0 f43 := hk.tr hf43 rfl rfl
                          refine lv_iload F.1 F.2.1 dX7_fewest_146 (lv_at hl 5 rfl) ?_
                          exact hret f43 _ _ _ _ x5_93 dX7_fewest_148 rfl ⟨hk, by omega, by omega, hO⟩ h
              exact j_102 (((2147483647 - z22.toInt)).toNat + 1) f16 _ _ _ z22 (by omega) (by omega) (by omega) h hB hO hk (lv_sub hl [1, 2, 3, 4, 5, 6, 0] rfl)
        exact j_93 (((25 - z15.toInt)).toNat + 1) f8 _ _ _ z15 (by omega) (by omega) (by omega) h hB hO hk (lv_sub hl [2, 3, 4, 5, 1, 0] rfl)
      · refine lv_aload_n F.1 F.2.1 dX7_fewest_20 rfl (lv_at hl 0 rfl) ?_
        refine g_7_11 F h m_a0 r_a0 dX7_fewest_21 (fun o44 m_o44 r_o44 ho44 => ?_)
        refine lv_iload F.1 F.2.1 dX7_fewest_24 (lv_at hl 4 rfl) ?_
        refine le_45 F h m_o44 r_o44 (by omega) dX7_fewest_26 (fun o45 m_o45 r_o45 eo45 => ?_)
        have qE : elq f0 (rfa f0 a0 1) x4_14.toInt.toNat = some o45 := by rw [← SB_e1 hB0 hk (by decide +kernel) m_a0 r_a0]; exact elq_a ho44 eo45
        refine lv_astore (lv' := [(5, .ref o45), (0, .ref a0), (1, .int x1), (2, .int x2), (3, .int x3_14), (4, .int x4_14)]) F.1 F.2.1 dX7_fewest_27 hl (by decide) rfl (fun ls hl => ?_)
        refine lv_iload_n F.1 F.2.1 dX7_fewest_29 rfl (lv_at hl 4 rfl) ?_
        refine lv_aload F.1 F.2.1 dX7_fewest_30 (lv_at hl 0 rfl) ?_
        refine g_7_169 F h m_o45 r_o45 dX7_fewest_32 (fun v46 hv46 => ?_)
        refine lv_ior F.1 F.2.1 dX7_fewest_35 ?_
        refine lv_topi (fun z47 _ => ?_)
        refine lv_istore_n (lv' := [(3, .int z47), (5, .ref o45), (0, .ref a0), (1, .int x1), (2, .int x2), (4, .int x4_14)]) F.1 F.2.1 dX7_fewest_36 rfl hl (by decide) rfl (fun ls hl => ?_)
        refine lv_aload_n F.1 F.2.1 dX7_fewest_37 rfl (lv_at hl 2 rfl) ?_
        refine g_7_85 F h m_a0 r_a0 dX7_fewest_38 (fun o48 m_o48 r_o48 ho48 => ?_)
        refine lv_aload F.1 F.2.1 dX7_fewest_41 (lv_at hl 1 rfl) ?_
        refine lv_aload_n F.1 F.2.1 dX7_fewest_43 rfl (lv_at hl 2 rfl) ?_
        refine g_7_51 F h m_a0 r_a0 dX7_fewest_44 (fun o49 m_o49 r_o49 ho49 => ?_)
        refine tw_iconst F dX7_fewest_47 ki_0 (fun z50 hz50 => ?_)
        refine le_48 F h m_o49 r_o49 (by omega) dX7_fewest_48 (fun o51 m_o51 r_o51 eo51 => ?_)
        have qT : elq f0 (rfa f0 a0 12) 0 = some o51 := by have q := elq_a ho49 eo51; rw [SB_e12 hB0 hk (by decide +kernel) m_a0 r_a0, (show z50.toInt.toNat = 0 by omega)] at q; exact q
        have qTO : O o51 = rfa f0 a0 12 := (hB0.1.2.2 0 o51 qT (by decide)).2.2
        refine lv_aload F.1 F.2.1 dX7_fewest_49 (lv_at hl 1 rfl) ?_
        refine g_7_97 F h m_o45 r_o45 dX7_fewest_51 (fun o52 m_o52 r_o52 ho52 => ?_)
        refine lv_aload F.1 F.2.1 dX7_fewest_54 (lv_at hl 1 rfl) ?_
        refine g_7_98 F h m_o45 r_o45 dX7_fewest_56 (fun v53 hv53 hv53a hv53b => ?_)
        have qb : rfa f8 o45 0 = b := SB_b hB (by rw [SB_e1 hB0 hk (by decide +kernel) m_a0 r_a0]; exact qE) (by omega)
        have ow := (hG.1.fr hk (by decide +kernel))
        have hBo := hB
        have hDo := hD
        refine tw_Vv (As := [.ref o45, .ref o51, .ref o52, .int v53]) F hZ h yk_X5_answer mw_1169 mw_959 mw_960 (s_X5_answer_a l D cy L R O f8 (hG.fr hk (by decide +kernel) (by decide +kernel)) o48 m_o48 r_o48 o45 m_o45 r_o45 o51 m_o51 r_o51 o52 m_o52 r_o52 v53 ⟨by omega, by omega⟩ (SB_p0 hB (by rw [SB_e1 hB0 hk (by decide +kernel) m_a0 r_a0]; exact qE) (by omega)) (by rw [qb]; exact hD _ (by rw [SB_e12 hB0 hk (by decide +kernel) m_a0 r_a0]; exact qT))) rfl rfl m_o48 r_o48 (fun e q => (T_5 e).mp q) rfl hl.1 rfl (Nat.le_of_ble_eq_true rfl) ⟨Nat.le_of_ble_eq_true rfl, Nat.le_of_ble_eq_true rfl⟩ ⟨Nat.le_of_ble_eq_true rfl, Nat.le_of_ble_eq_true rfl⟩ dX7_fewest_59 (fun f54 H locs hp54 h => ?_)
        obtain ⟨hf54, hv55p0, hv55p1⟩ := hp54
        have hB : SB L R O f54 a0 (x1.toInt.toNat) b := SB_fr hB (hG.1.fr hk (by decide +kernel)) hf54 (by decide +kernel) m_a0 r_a0 m_b r_b
        have hk : fr L R [(4, 1), (5, 2), (5, 4), (5, 5), (5, 6), (5, 7), (7, 9), (8, 1), (8, 2)] [4, 5, 7, 8, 23, 34, 51] f0 f54 := hk.tr hf54 (by decide +kernel) (by decide +kernel)
        have e56 : fld f54 a0 0 = .ref o48 := (hf54.efl m_a0 r_a0 rfl).trans ho48
        have hMa : DM L R f8 f54 b := DM_ks ow hf54 (by decide +kernel) (by decide +kernel) hv55p1 (by have q := hv55p0; rw [qb] at q; exact q) m_b r_b
        have hD : DS f54 a0 0 b := DS_dm hDo hBo.1 (by decide) hf54 (by decide +kernel) (by decide +kernel) m_a0 r_a0 hMa
        have hO : KO L R O (rfa f0 a0 12) f0 f54 := KO_ks hO hv55p1 qTO
        refine lv_aload_n F.1 F.2.1 dX7_fewest_62 rfl (lv_at hl 2 rfl) ?_
        refine g_7_57 F h m_a0 r_a0 dX7_fewest_63 (fun o57 m_o57 r_o57 ho57 => ?_)
        refine lv_iload F.1 F.2.1 dX7_fewest_66 (lv_at hl 5 rfl) ?_
        refine ld_49 F h m_o57 r_o57 (by omega) dX7_fewest_68 (fun o58 m_o58 r_o58 => ?_)
        refine lv_aload_n F.1 F.2.1 dX7_fewest_69 rfl (lv_at hl 2 rfl) ?_
        refine g_7_85 F h m_a0 r_a0 dX7_fewest_70 (fun o59 m_o59 r_o59 ho59 => ?_)
        obtain rfl := (fld_inj e56 ho59).symm
        refine g_7_108 F h m_o48 r_o48 dX7_fewest_73 (fun o60 m_o60 r_o60 ho60 => ?_)
        refine tw_Vv (As := [.ref o60]) F hZ h yk_X4_copy mw_1267 mw_438 mw_439 (s_X4_copy l D cy L R O f54 o58 m_o58 r_o58 o60 m_o60 r_o60) rfl rfl m_o58 r_o58 (fun e q => (T_4 e).mp q) rfl hl.1 rfl (Nat.le_of_ble_eq_true rfl) ⟨Nat.le_of_ble_eq_true rfl, Nat.le_of_ble_eq_true rfl⟩ ⟨Nat.le_of_ble_eq_true rfl, Nat.le_of_ble_eq_true rfl⟩ dX7_fewest_76 (fun f61 H locs hp61 h => ?_)
        have hf61 := hp61
        have hD : DS f61 a0 0 b := DS_dm hD hB.1 (by decide) hf61 (by decide +kernel) (by decide +kernel) m_a0 r_a0 (DM_fr (hG.1.fr hk (by decide +kernel)) hf61 (by decide +kernel) (by decide +kernel) (by decide +kernel) m_b r_b)
        have hB : SB L R O f61 a0 (x1.toInt.toNat) b := SB_fr hB (hG.1.fr hk (by decide +kernel)) hf61 (by decide +kernel) m_a0 r_a0 m_b r_b
        have hO : KO L R O (rfa f0 a0 12) f0 f61 := KO_fr hO hf61 (by decide +kernel)
        have hk : fr L R [(4, 1), (5, 2), (5, 4), (5, 5), (5, 6), (5, 7), (7, 9), (8, 1), (8, 2)] [4, 5, 7, 8, 23, 34, 51] f0 f61 := hk.tr hf61 rfl rfl
        have e63 : fld f61 a0 0 = .ref o48 := (hf61.efl m_a0 r_a0 rfl).trans e56
        refine tu_iinc F dX7_fewest_79 hl (k := 5) rfl (by decide) ki_1 (by omega) (fun z64 ls hz64 hl => ?_)
        have hl : lv_has ls 7 [(4, .int z64), (3, .int z47), (5, .ref o45), (0, .ref a0), (1, .int x1), (2, .int x2)] := hl
        refine lv_goto (tgt := 14) F.1 F.2.1 dX7_fewest_82 (by decide) ?_
        exact ih14 f61 _ _ _ z47 z64 (by omega) (by omega) (by omega) h hD hB hO hk (lv_sub hl [3, 4, 5, 1, 0] rfl)
  exact j_14 (((15 - z7.toInt)).toNat + 1) f5 _ _ _ z1 z7 (by omega) (by omega) (by omega) h hD hB hO hk (lv_sub hl [2, 3, 4, 1, 0] rfl)
