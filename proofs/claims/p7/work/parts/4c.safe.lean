theorem dX11_rowStatus_0 : decode cX11_rowStatus 0 = .ok (.aload_n 0, 1) := by decide +kernel
theorem dX11_rowStatus_1 : decode cX11_rowStatus 1 = .ok (.getfield 11, 3) := by decide +kernel
theorem dX11_rowStatus_4 : decode cX11_rowStatus 4 = .ok (.iload_n 1, 1) := by decide +kernel
theorem dX11_rowStatus_5 : decode cX11_rowStatus 5 = .ok (.aaload, 1) := by decide +kernel
section
variable {p : Program} {l : Launch} {e : Env} {R0 : Room} {s : State} {m : MethodId} {args : Array Value} {below : List Frame} {meth : Method} {c : Code} {H H0 : Heap} {locs : List Loc} {cells slots : Nat} {Q : State → Prop} {cc : ByteArray} {nL : Nat} {D : va_G} {cy : Nat → ClassId} {A : Nat → Prop} {L : List Nat} {R : Nat → Nat} {f : Nat → va_E} {pc : Nat} {ls : Array Slot} {rest : List Value} {a : Nat}
theorem le_55 {own : String} (F : CallFix p m c cc nL s args wsL_law own) (h : tS D cy A H0 L R (TT cy L R) f s H locs) {i : Int32} (ha : a ∈ L) (hr : R a = 55) (hb : 0 ≤ i.toInt ∧ i.toInt < 4) (hdg : decode cc pc = .ok (.aaload, 1)) (kk : ∀ b : Nat, b ∈ L → R b = 10 → elq f a i.toInt.toNat = some b → W p l e R0 s m args below meth c H locs cells slots Q (F0 m (pc + 1) ls (.ref b :: rest))) : W p l e R0 s m args below meth c H locs cells slots Q (F0 m pc ls (.int i :: .ref a :: rest)) := tu_aaldE (t0 := 9) F h ha hr (fun e q => (T_55 e).mp q) rfl hb.1 hb.2 hdg kk
end
theorem dX11_rowStatus_6 : decode cX11_rowStatus 6 = .ok (.astore_n 3, 1) := by decide +kernel
theorem dX11_rowStatus_7 : decode cX11_rowStatus 7 = .ok (.aload_n 3, 1) := by decide +kernel
theorem dX11_rowStatus_8 : decode cX11_rowStatus 8 = .ok (.invokevirtual 115, 3) := by decide +kernel
theorem dX11_rowStatus_11 : decode cX11_rowStatus 11 = .ok (.ifCond .eq 5, 3) := by decide +kernel
theorem dX11_rowStatus_16 : decode cX11_rowStatus 16 = .ok (.aload_n 3, 1) := by decide +kernel
theorem dX11_rowStatus_17 : decode cX11_rowStatus 17 = .ok (.iconst 0, 1) := by decide +kernel
theorem dX11_rowStatus_18 : decode cX11_rowStatus 18 = .ok (.iload_n 2, 1) := by decide +kernel
theorem dX11_rowStatus_19 : decode cX11_rowStatus 19 = .ok (.invokevirtual 122, 3) := by decide +kernel
theorem dX11_rowStatus_22 : decode cX11_rowStatus 22 = .ok (.ifCond .ne 5, 3) := by decide +kernel
theorem dX11_rowStatus_27 : decode cX11_rowStatus 27 = .ok (.iconst 0, 1) := by decide +kernel
theorem dX11_rowStatus_28 : decode cX11_rowStatus 28 = .ok (.istore 4, 2) := by decide +kernel
theorem dX11_rowStatus_30 : decode cX11_rowStatus 30 = .ok (.iload 4, 2) := by decide +kernel
theorem dX11_rowStatus_32 : decode cX11_rowStatus 32 = .ok (.iload_n 2, 1) := by decide +kernel
theorem dX11_rowStatus_33 : decode cX11_rowStatus 33 = .ok (.if_icmp .ge 24, 3) := by decide +kernel
theorem dX11_rowStatus_57 : decode cX11_rowStatus 57 = .ok (.iconst 0, 1) := by decide +kernel
theorem dX11_rowStatus_58 : decode cX11_rowStatus 58 = .ok (.ireturn, 1) := by decide +kernel
theorem dX11_rowStatus_36 : decode cX11_rowStatus 36 = .ok (.aload_n 0, 1) := by decide +kernel
theorem dX11_rowStatus_37 : decode cX11_rowStatus 37 = .ok (.aload_n 3, 1) := by decide +kernel
theorem dX11_rowStatus_38 : decode cX11_rowStatus 38 = .ok (.iload 4, 2) := by decide +kernel
theorem dX11_rowStatus_40 : decode cX11_rowStatus 40 = .ok (.invokevirtual 109, 3) := by decide +kernel
theorem dX11_rowStatus_43 : decode cX11_rowStatus 43 = .ok (.invokevirtual 201, 3) := by decide +kernel
theorem dX11_rowStatus_46 : decode cX11_rowStatus 46 = .ok (.ifCond .ne 5, 3) := by decide +kernel
theorem dX11_rowStatus_51 : decode cX11_rowStatus 51 = .ok (.iinc 4 1, 3) := by decide +kernel
theorem dX11_rowStatus_54 : decode cX11_rowStatus 54 = .ok (.goto (-24), 3) := by decide +kernel
theorem dX11_rowStatus_49 : decode cX11_rowStatus 49 = .ok (.iconst 1, 1) := by decide +kernel
theorem dX11_rowStatus_50 : decode cX11_rowStatus 50 = .ok (.ireturn, 1) := by decide +kernel
theorem dX11_rowStatus_25 : decode cX11_rowStatus 25 = .ok (.iconst 3, 1) := by decide +kernel
theorem dX11_rowStatus_26 : decode cX11_rowStatus 26 = .ok (.ireturn, 1) := by decide +kernel
theorem dX11_rowStatus_14 : decode cX11_rowStatus 14 = .ok (.iconst 2, 1) := by decide +kernel
theorem dX11_rowStatus_15 : decode cX11_rowStatus 15 = .ok (.ireturn, 1) := by decide +kernel
def rm_X11_rowStatus : Room := { frames := 2, cells := 0, slots := 0, locals := 43 }
set_option maxHeartbeats 4000000 in
set_option maxRecDepth 100000 in
theorem s_X11_rowStatus (l : Launch) (D : va_G) (cy : Nat → ClassId) (L : List Nat) (R O : Nat → Nat) (f0 : Nat → va_E) (a0 : Nat) (m_a0 : a0 ∈ L) (r_a0 : R a0 = 11) (x1 : Int32) (b1 : 0 ≤ x1.toInt ∧ x1.toInt ≤ 3) (x2 : Int32) (b2 : 1 ≤ x2.toInt ∧ x2.toInt ≤ 16) : ∀ sz, Met l yX11_rowStatus (Cond.code yX11_rowStatus cX11_rowStatus 5 (some .int) :: wsL_law) rm_X11_rowStatus (va_Pc [.ref a0, .int x1, .int x2] (tPZ D cy L R (TT cy L R) f0 sz)) (va_Qi (fun (r : Int32) f1 => f0 = f1 ∧ 0 ≤ r.toInt ∧ r.toInt ≤ 3 ∧ (r.toInt ≠ 0 ∨ LN f0 a0 x1.toInt.toNat x2.toInt.toNat)) (tB D (tA L sz) L R (TT cy L R)) (tA L sz)) 0 0 (tA L sz) := by
  refine tw_enteri (by decide +kernel) rfl (Nat.le_of_ble_eq_true rfl) ?_
  intro p e s m below meth c A ls args Q F hZ h hl hret
  have hl : lv_has ls 5 [(0, .ref a0), (1, .int x1), (2, .int x2)] := hl
  refine lv_aload_n F.1 F.2.1 dX11_rowStatus_0 rfl (lv_at hl 0 rfl) ?_
  refine g_11_11 F h m_a0 r_a0 dX11_rowStatus_1 (fun o1 m_o1 r_o1 ho1 => ?_)
  refine lv_iload_n F.1 F.2.1 dX11_rowStatus_4 rfl (lv_at hl 1 rfl) ?_
  refine le_55 F h m_o1 r_o1 (by omega) dX11_rowStatus_5 (fun o2 m_o2 r_o2 eo2 => ?_)
  refine lv_astore_n (lv' := [(3, .ref o2), (0, .ref a0), (1, .int x1), (2, .int x2)]) F.1 F.2.1 dX11_rowStatus_6 rfl hl (by decide) rfl (fun ls hl => ?_)
  refine lv_aload_n F.1 F.2.1 dX11_rowStatus_7 rfl (lv_at hl 0 rfl) ?_
  refine tw_Vi (As := []) F hZ h yk_X10_isMissing mw_298 mw_299 mw_300 (s_X10_isMissing l D cy L R O f0 o2 m_o2 r_o2) rfl rfl m_o2 r_o2 (fun e q => (T_10 e).mp q) rfl hl.1 rfl (Nat.le_of_ble_eq_true rfl) ⟨Nat.le_of_ble_eq_true rfl, Nat.le_of_ble_eq_true rfl⟩ ⟨Nat.le_of_ble_eq_true rfl, Nat.le_of_ble_eq_true rfl⟩ dX11_rowStatus_8 (fun v4 f3 H locs hp3 h => ?_)
  obtain ⟨rfl, hv4a, hv4b⟩ := hp3
  refine tw_if_eq (tgt := 16) F dX11_rowStatus_11 (by decide) (fun b5 => ?_) (fun b5 => ?_)
  · refine lv_aload_n F.1 F.2.1 dX11_rowStatus_16 rfl (lv_at hl 0 rfl) ?_
    refine tw_iconst F dX11_rowStatus_17 ki_0 (fun z6 hz6 => ?_)
    refine lv_iload_n F.1 F.2.1 dX11_rowStatus_18 rfl (lv_at hl 3 rfl) ?_
    refine tw_Vi (As := [.int z6, .int x2]) F hZ h yk_X10_holds mw_302 mw_303 mw_304 (s_X10_holds l D cy L R O f0 o2 m_o2 r_o2 z6 x2 (by omega)) rfl rfl m_o2 r_o2 (fun e q => (T_10 e).mp q) rfl hl.1 rfl (Nat.le_of_ble_eq_true rfl) ⟨Nat.le_of_ble_eq_true rfl, Nat.le_of_ble_eq_true rfl⟩ ⟨Nat.le_of_ble_eq_true rfl, Nat.le_of_ble_eq_true rfl⟩ dX11_rowStatus_19 (fun v8 f7 H locs hp7 h => ?_)
    obtain ⟨rfl, hv8a, hv8b, hv8p0, hv8p1⟩ := hp7
    refine tw_if_ne (tgt := 27) F dX11_rowStatus_22 (by decide) (fun b9 => ?_) (fun b9 => ?_)
    · refine tw_iconst F dX11_rowStatus_27 ki_0 (fun z10 hz10 => ?_)
      refine lv_istore (lv' := [(4, .int z10), (3, .ref o2), (0, .ref a0), (1, .int x1), (2, .int x2)]) F.1 F.2.1 dX11_rowStatus_28 hl (by decide) rfl (fun ls hl => ?_)
      have j_30 : ∀ (n30 : Nat) (H : Heap) (locs : List Loc) (ls : Array Slot) (x4_30 : Int32), 0 ≤ x4_30.toInt → x4_30.toInt ≤ 16 → (∀ i : Nat, i < x4_30.toInt.toNat → 0 ≤ elj f0 (rfa f0 o2 0) i ∧ elj f0 (rfa f0 o2 0) i ≤ 15) → ((16 - x4_30.toInt)).toNat < n30 → tS D cy A s.heap L R (TT cy L R) f0 s H locs → lv_has ls 5 [(0, .ref a0), (2, .int x2), (3, .ref o2), (4, .int x4_30)] → W p l e rm_X11_rowStatus s m args below meth c H locs 0 0 Q (F0 m 30 ls []) := by
        intro n30
        induction n30 with
        | zero =>
          intro H locs ls x4_30 b11 b12 ip30_0 b13 h hl
          exfalso
          omega
        | succ n30 ih30 =>
          intro H locs ls x4_30 b11 b12 ip30_0 b13 h hl
          refine lv_iload F.1 F.2.1 dX11_rowStatus_30 (lv_at hl 3 rfl) ?_
          refine lv_iload_n F.1 F.2.1 dX11_rowStatus_32 rfl (lv_at hl 1 rfl) ?_
          refine tw_icmp_ge (tgt := 57) F dX11_rowStatus_33 (by decide) (fun b14 => ?_) (fun b14 => ?_)
          · have hLN : LN f0 a0 x1.toInt.toNat x2.toInt.toNat := ⟨o2, elq_a ho1 eo2, by omega, fun i hi => ip30_0 i (by omega)⟩
            refine tw_iconst F dX11_rowStatus_57 ki_0 (fun z15 hz15 => ?_)
            exact hret f0 _ _ _ _ z15 dX11_rowStatus_58 rfl ⟨rfl, by omega, by omega, Or.inr hLN⟩ h
          · refine lv_aload_n F.1 F.2.1 dX11_rowStatus_36 rfl (lv_at hl 0 rfl) ?_
            refine lv_aload_n F.1 F.2.1 dX11_rowStatus_37 rfl (lv_at hl 2 rfl) ?_
            refine lv_iload F.1 F.2.1 dX11_rowStatus_38 (lv_at hl 3 rfl) ?_
            refine tw_Vl (As := [.int x4_30]) F hZ h yk_X10_at mw_331 mw_332 mw_333 (s_X10_at l D cy L R O f0 o2 m_o2 r_o2 x4_30) rfl rfl m_o2 r_o2 (fun e q => (T_10 e).mp q) rfl hl.1 rfl (Nat.le_of_ble_eq_true rfl) ⟨Nat.le_of_ble_eq_true rfl, Nat.le_of_ble_eq_true rfl⟩ ⟨Nat.le_of_ble_eq_true rfl, Nat.le_of_ble_eq_true rfl⟩ dX11_rowStatus_40 (fun v17 f16 H locs hp16 h => ?_)
            obtain ⟨rfl, hv17p0⟩ := hp16
            refine tw_Vi (As := [.long v17]) F hZ h yk_X11_isLine mw_779 mw_780 mw_781 (s_X11_isLine l D cy L R O f0 a0 m_a0 r_a0 v17) rfl rfl m_a0 r_a0 (fun e q => (T_11 e).mp q) rfl hl.1 rfl (Nat.le_of_ble_eq_true rfl) ⟨Nat.le_of_ble_eq_true rfl, Nat.le_of_ble_eq_true rfl⟩ ⟨Nat.le_of_ble_eq_true rfl, Nat.le_of_ble_eq_true rfl⟩ dX11_rowStatus_43 (fun v19 f18 H locs hp18 h => ?_)
            obtain ⟨rfl, hv19a, hv19b, hv19p0⟩ := hp18
            refine tw_if_ne (tgt := 51) F dX11_rowStatus_46 (by decide) (fun b20 => ?_) (fun b20 => ?_)
            · refine tu_iinc F dX11_rowStatus_51 hl (k := 3) rfl (by decide) ki_1 (by omega) (fun z21 ls hz21 hl => ?_)
              have hl : lv_has ls 5 [(4, .int z21), (0, .ref a0), (2, .int x2), (3, .ref o2)] := hl
              refine lv_goto (tgt := 30) F.1 F.2.1 dX11_rowStatus_54 (by decide) ?_
              exact ih30 _ _ _ z21 (by omega) (by omega) ((fun i hi => if e : i = x4_30.toInt.toNat then (by rw [e]; have q := hv17p0 (by omega) (by omega); omega) else ip30_0 i (by omega))) (by omega) h (lv_sub hl [1, 2, 3, 0] rfl)
            · refine tw_iconst F dX11_rowStatus_49 ki_1 (fun z22 hz22 => ?_)
              exact hret f0 _ _ _ _ z22 dX11_rowStatus_50 rfl ⟨rfl, by omega, by omega, Or.inl (by omega)⟩ h
      exact j_30 (((16 - z10.toInt)).toNat + 1) _ _ _ z10 (by omega) (by omega) ((fun i hi => by omega)) (by omega) h (lv_sub hl [2, 4, 1, 0] rfl)
    · refine tw_iconst F dX11_rowStatus_25 ki_3 (fun z23 hz23 => ?_)
      exact hret f0 _ _ _ _ z23 dX11_rowStatus_26 rfl ⟨rfl, by omega, by omega, Or.inl (by omega)⟩ h
  · refine tw_iconst F dX11_rowStatus_14 ki_2 (fun z24 hz24 => ?_)
    exact hret f0 _ _ _ _ z24 dX11_rowStatus_15 rfl ⟨rfl, by omega, by omega, Or.inl (by omega)⟩ h
theorem dX11_linesStatus_0 : decode cX11_linesStatus 0 = .ok (.iload_n 1, 1) := by decide +kernel
theorem dX11_linesStatus_1 : decode cX11_linesStatus 1 = .ok (.iload_n 2, 1) := by decide +kernel
theorem dX11_linesStatus_2 : decode cX11_linesStatus 2 = .ok (.iload_n 3, 1) := by decide +kernel
theorem dX11_linesStatus_3 : decode cX11_linesStatus 3 = .ok (.iload 4, 2) := by decide +kernel
theorem dX11_linesStatus_5 : decode cX11_linesStatus 5 = .ok (.invokestatic 376, 3) := by decide +kernel
theorem mw_1144 : Cond.methodLink RX11 376 yX11_askedStatus ∈ wsL_law := inr_48 _ (List.mem_of_getElem? (i := 16) rfl)
theorem mw_1146 : Cond.code yX11_askedStatus cX11_askedStatus 4 (some .int) ∈ wsL_law := inr_48 _ (List.mem_of_getElem? (i := 18) rfl)
theorem yk_X11_askedStatus : xY yX11_askedStatus RX11 cX11_askedStatus 4 (some .int) 4 := ⟨⟨rfl, by decide +kernel, by decide +kernel, by decide +kernel⟩, mw_2, mw_1146⟩
theorem mw_1145 : Cond.static yX11_askedStatus ∈ wsL_law := inr_48 _ (List.mem_of_getElem? (i := 17) rfl)
theorem dX11_linesStatus_8 : decode cX11_linesStatus 8 = .ok (.istore 5, 2) := by decide +kernel
theorem dX11_linesStatus_10 : decode cX11_linesStatus 10 = .ok (.iload 5, 2) := by decide +kernel
theorem dX11_linesStatus_12 : decode cX11_linesStatus 12 = .ok (.ifCond .ne 12, 3) := by decide +kernel
theorem dX11_linesStatus_24 : decode cX11_linesStatus 24 = .ok (.iload 5, 2) := by decide +kernel
theorem dX11_linesStatus_26 : decode cX11_linesStatus 26 = .ok (.ireturn, 1) := by decide +kernel
theorem dX11_linesStatus_15 : decode cX11_linesStatus 15 = .ok (.aload_n 0, 1) := by decide +kernel
theorem dX11_linesStatus_16 : decode cX11_linesStatus 16 = .ok (.iload_n 2, 1) := by decide +kernel
theorem dX11_linesStatus_17 : decode cX11_linesStatus 17 = .ok (.iload_n 3, 1) := by decide +kernel
theorem dX11_linesStatus_18 : decode cX11_linesStatus 18 = .ok (.invokevirtual 379, 3) := by decide +kernel
theorem mw_1147 : Cond.methodLink RX11 379 yX11_rowStatus ∈ wsL_law := inr_48 _ (List.mem_of_getElem? (i := 19) rfl)
theorem mw_1150 : Cond.code yX11_rowStatus cX11_rowStatus 5 (some .int) ∈ wsL_law := inr_48 _ (List.mem_of_getElem? (i := 22) rfl)
theorem yk_X11_rowStatus : xY yX11_rowStatus RX11 cX11_rowStatus 5 (some .int) 2 := ⟨⟨rfl, by decide +kernel, by decide +kernel, by decide +kernel⟩, mw_2, mw_1150⟩
theorem mw_1148 : Cond.instanceMethod yX11_rowStatus ∈ wsL_law := inr_48 _ (List.mem_of_getElem? (i := 20) rfl)
theorem mw_1149 : Cond.selects RX11 yX11_rowStatus yX11_rowStatus ∈ wsL_law := inr_48 _ (List.mem_of_getElem? (i := 21) rfl)
theorem dX11_linesStatus_21 : decode cX11_linesStatus 21 = .ok (.goto 5, 3) := by decide +kernel
def rm_X11_linesStatus : Room := { frames := 3, cells := 0, slots := 0, locals := 67 }
set_option maxHeartbeats 4000000 in
set_option maxRecDepth 100000 in
theorem s_X11_linesStatus (l : Launch) (D : va_G) (cy : Nat → ClassId) (L : List Nat) (R O : Nat → Nat) (f0 : Nat → va_E) (a0 : Nat) (m_a0 : a0 ∈ L) (r_a0 : R a0 = 11) (x1 : Int32) (x2 : Int32) (x3 : Int32) (x4 : Int32) (b4 : 6 ≤ x4.toInt ∧ x4.toInt ≤ 16) : ∀ sz, Met l yX11_linesStatus (Cond.code yX11_linesStatus cX11_linesStatus 6 (some .int) :: wsL_law) rm_X11_linesStatus (va_Pc [.ref a0, .int x1, .int x2, .int x3, .int x4] (tPZ D cy L R (TT cy L R) f0 sz)) (va_Qi (fun (r : Int32) f1 => f0 = f1 ∧ 0 ≤ r.toInt ∧ r.toInt ≤ 3 ∧ (r.toInt ≠ 0 ∨ (LN f0 a0 x2.toInt.toNat x3.toInt.toNat ∧ 0 ≤ x1.toInt ∧ x1.toInt ≤ 2 ∧ 0 ≤ x2.toInt ∧ x2.toInt ≤ 3 ∧ 1 ≤ x3.toInt ∧ x3.toInt ≤ x4.toInt))) (tB D (tA L sz) L R (TT cy L R)) (tA L sz)) 0 0 (tA L sz) := by
  refine tw_enteri (by decide +kernel) rfl (Nat.le_of_ble_eq_true rfl) ?_
  intro p e s m below meth c A ls args Q F hZ h hl hret
  have hl : lv_has ls 6 [(0, .ref a0), (1, .int x1), (2, .int x2), (3, .int x3), (4, .int x4)] := hl
  refine lv_iload_n F.1 F.2.1 dX11_linesStatus_0 rfl (lv_at hl 1 rfl) ?_
  refine lv_iload_n F.1 F.2.1 dX11_linesStatus_1 rfl (lv_at hl 2 rfl) ?_
  refine lv_iload_n F.1 F.2.1 dX11_linesStatus_2 rfl (lv_at hl 3 rfl) ?_
  refine lv_iload F.1 F.2.1 dX11_linesStatus_3 (lv_at hl 4 rfl) ?_
  refine tw_Si (As := [.int x1, .int x2, .int x3, .int x4]) F hZ h yk_X11_askedStatus mw_1144 mw_1145 (s_X11_askedStatus l D cy L R O f0 x1 x2 x3 x4 ⟨by omega, by omega⟩) rfl rfl hl.1 rfl (Nat.le_of_ble_eq_true rfl) ⟨Nat.le_of_ble_eq_true rfl, Nat.le_of_ble_eq_true rfl⟩ ⟨Nat.le_of_ble_eq_true rfl, Nat.le_of_ble_eq_true rfl⟩ dX11_linesStatus_5 (fun v2 f1 H locs hp1 h => ?_)
  obtain ⟨rfl, hv2a, hv2b, hv2p0⟩ := hp1
  refine lv_istore (lv' := [(5, .int v2), (0, .ref a0), (1, .int x1), (2, .int x2), (3, .int x3), (4, .int x4)]) F.1 F.2.1 dX11_linesStatus_8 hl (by decide) rfl (fun ls hl => ?_)
  refine lv_iload F.1 F.2.1 dX11_linesStatus_10 (lv_at hl 0 rfl) ?_
  refine tw_if_ne (tgt := 24) F dX11_linesStatus_12 (by decide) (fun b3 => ?_) (fun b3 => ?_)
  · refine lv_iload F.1 F.2.1 dX11_linesStatus_24 (lv_at hl 0 rfl) ?_
    exact hret f0 _ _ _ _ v2 dX11_linesStatus_26 rfl ⟨rfl, by omega, by omega, Or.inl (by omega)⟩ h
  · refine lv_aload_n F.1 F.2.1 dX11_linesStatus_15 rfl (lv_at hl 1 rfl) ?_
    refine lv_iload_n F.1 F.2.1 dX11_linesStatus_16 rfl (lv_at hl 3 rfl) ?_
    refine lv_iload_n F.1 F.2.1 dX11_linesStatus_17 rfl (lv_at hl 4 rfl) ?_
    refine tw_Vi (As := [.int x2, .int x3]) F hZ h yk_X11_rowStatus mw_1147 mw_1148 mw_1149 (s_X11_rowStatus l D cy L R O f0 a0 m_a0 r_a0 x2 ⟨by omega, by omega⟩ x3 ⟨by omega, by omega⟩) rfl rfl m_a0 r_a0 (fun e q => (T_11 e).mp q) rfl hl.1 rfl (Nat.le_of_ble_eq_true rfl) ⟨Nat.le_of_ble_eq_true rfl, Nat.le_of_ble_eq_true rfl⟩ ⟨Nat.le_of_ble_eq_true rfl, Nat.le_of_ble_eq_true rfl⟩ dX11_linesStatus_18 (fun v5 f4 H locs hp4 h => ?_)
    obtain ⟨rfl, hv5a, hv5b, hv5p0⟩ := hp4
    refine lv_goto (tgt := 26) F.1 F.2.1 dX11_linesStatus_21 (by decide) ?_
    exact hret f0 _ _ _ _ v5 dX11_linesStatus_26 rfl ⟨rfl, by omega, by omega, if q : v5.toInt = 0 then Or.inr ⟨hv5p0.resolve_left (by omega), by omega⟩ else Or.inl q⟩ h
theorem dX11_listenTo_0 : decode cX11_listenTo 0 = .ok (.iconst 0, 1) := by decide +kernel
theorem dX11_listenTo_1 : decode cX11_listenTo 1 = .ok (.istore 4, 2) := by decide +kernel
theorem dX11_listenTo_3 : decode cX11_listenTo 3 = .ok (.iload 4, 2) := by decide +kernel
theorem dX11_listenTo_5 : decode cX11_listenTo 5 = .ok (.iload_n 3, 1) := by decide +kernel
theorem dX11_listenTo_6 : decode cX11_listenTo 6 = .ok (.if_icmp .ge 55, 3) := by decide +kernel
theorem dX11_listenTo_61 : decode cX11_listenTo 61 = .ok (.return_, 1) := by decide +kernel
theorem dX11_listenTo_9 : decode cX11_listenTo 9 = .ok (.aload_n 0, 1) := by decide +kernel
theorem dX11_listenTo_10 : decode cX11_listenTo 10 = .ok (.getfield 11, 3) := by decide +kernel
theorem dX11_listenTo_13 : decode cX11_listenTo 13 = .ok (.iload_n 2, 1) := by decide +kernel
theorem dX11_listenTo_14 : decode cX11_listenTo 14 = .ok (.aaload, 1) := by decide +kernel
theorem dX11_listenTo_15 : decode cX11_listenTo 15 = .ok (.iload 4, 2) := by decide +kernel
theorem dX11_listenTo_17 : decode cX11_listenTo 17 = .ok (.invokevirtual 109, 3) := by decide +kernel
theorem dX11_listenTo_20 : decode cX11_listenTo 20 = .ok (.l2i, 1) := by decide +kernel
theorem dX11_listenTo_21 : decode cX11_listenTo 21 = .ok (.istore 5, 2) := by decide +kernel
theorem dX11_listenTo_23 : decode cX11_listenTo 23 = .ok (.aload_n 0, 1) := by decide +kernel
theorem dX11_listenTo_24 : decode cX11_listenTo 24 = .ok (.getfield 47, 3) := by decide +kernel
theorem dX11_listenTo_27 : decode cX11_listenTo 27 = .ok (.getfield 237, 3) := by decide +kernel
theorem dX11_listenTo_30 : decode cX11_listenTo 30 = .ok (.iload 4, 2) := by decide +kernel
theorem dX11_listenTo_32 : decode cX11_listenTo 32 = .ok (.aaload, 1) := by decide +kernel
theorem dX11_listenTo_33 : decode cX11_listenTo 33 = .ok (.aload_n 0, 1) := by decide +kernel
theorem dX11_listenTo_34 : decode cX11_listenTo 34 = .ok (.getfield 29, 3) := by decide +kernel
theorem dX11_listenTo_37 : decode cX11_listenTo 37 = .ok (.getfield 167, 3) := by decide +kernel
theorem dX11_listenTo_40 : decode cX11_listenTo 40 = .ok (.iload_n 1, 1) := by decide +kernel
theorem dX11_listenTo_41 : decode cX11_listenTo 41 = .ok (.aaload, 1) := by decide +kernel
section
variable {p : Program} {l : Launch} {e : Env} {R0 : Room} {s : State} {m : MethodId} {args : Array Value} {below : List Frame} {meth : Method} {c : Code} {H H0 : Heap} {locs : List Loc} {cells slots : Nat} {Q : State → Prop} {cc : ByteArray} {nL : Nat} {D : va_G} {cy : Nat → ClassId} {A : Nat → Prop} {L : List Nat} {R : Nat → Nat} {f : Nat → va_E} {pc : Nat} {ls : Array Slot} {rest : List Value} {a : Nat}
theorem le_20 {own : String} (F : CallFix p m c cc nL s args wsL_law own) (h : tS D cy A H0 L R (TT cy L R) f s H locs) {i : Int32} (ha : a ∈ L) (hr : R a = 20) (hb : 0 ≤ i.toInt ∧ i.toInt < 3) (hdg : decode cc pc = .ok (.aaload, 1)) (kk : ∀ b : Nat, b ∈ L → R b = 6 → elq f a i.toInt.toNat = some b → W p l e R0 s m args below meth c H locs cells slots Q (F0 m (pc + 1) ls (.ref b :: rest))) : W p l e R0 s m args below meth c H locs cells slots Q (F0 m pc ls (.int i :: .ref a :: rest)) := tu_aaldE (t0 := 7) F h ha hr (fun e q => (T_20 e).mp q) rfl hb.1 hb.2 hdg kk
end
theorem dX11_listenTo_42 : decode cX11_listenTo 42 = .ok (.aload_n 0, 1) := by decide +kernel
theorem dX11_listenTo_43 : decode cX11_listenTo 43 = .ok (.getfield 29, 3) := by decide +kernel
theorem dX11_listenTo_46 : decode cX11_listenTo 46 = .ok (.getfield 205, 3) := by decide +kernel
theorem dX11_listenTo_49 : decode cX11_listenTo 49 = .ok (.iload 5, 2) := by decide +kernel
theorem dX11_listenTo_51 : decode cX11_listenTo 51 = .ok (.aaload, 1) := by decide +kernel
theorem dX11_listenTo_52 : decode cX11_listenTo 52 = .ok (.invokevirtual 241, 3) := by decide +kernel
theorem dX11_listenTo_55 : decode cX11_listenTo 55 = .ok (.iinc 4 1, 3) := by decide +kernel
theorem dX11_listenTo_58 : decode cX11_listenTo 58 = .ok (.goto (-55), 3) := by decide +kernel
def rm_X11_listenTo : Room := { frames := 3, cells := 0, slots := 0, locals := 76 }
set_option maxHeartbeats 4000000 in
set_option maxRecDepth 100000 in
theorem s_X11_listenTo (l : Launch) (D : va_G) (cy : Nat → ClassId) (L : List Nat) (R O : Nat → Nat) (f0 : Nat → va_E) (hG : GG L R O f0) (a0 : Nat) (m_a0 : a0 ∈ L) (r_a0 : R a0 = 11) (x1 : Int32) (b1 : 0 ≤ x1.toInt ∧ x1.toInt ≤ 2) (x2 : Int32) (b2 : 0 ≤ x2.toInt ∧ x2.toInt ≤ 3) (x3 : Int32) (b3 : 1 ≤ x3.toInt ∧ x3.toInt ≤ 16) (pre0 : PI L R O f0 a0) (pre1 : LN f0 a0 x2.toInt.toNat x3.toInt.toNat) : ∀ sz, Met l yX11_listenTo (Cond.code yX11_listenTo cX11_listenTo 6 none :: wsL_law) rm_X11_listenTo (va_Pc [.ref a0, .int x1, .int x2, .int x3] (tPZ D cy L R (TT cy L R) f0 sz)) (va_Qv (fun f1 => fr L R [(1, 0), (1, 1), (1, 2), (1, 3), (1, 5)] [1, 24, 25, 26, 27] f0 f1 ∧ ∃ b, b ∈ L ∧ R b = 6 ∧ elq f0 (rfa f0 (rfa f0 a0 3) 0) x1.toInt.toNat = some b ∧ SB L R O f1 (rfa f0 a0 6) x3.toInt.toNat b) (tB D (tA L sz) L R (TT cy L R)) (tA L sz)) 0 0 (tA L sz) := by
  refine tw_enterv (by decide +kernel) rfl (Nat.le_of_ble_eq_true rfl) ?_
  intro p e s m below meth c A ls args Q F hZ h hl hret
  have hl : lv_has ls 6 [(0, .ref a0), (1, .int x1), (2, .int x2), (3, .int x3)] := hl
  have hk : fr L R [(1, 0), (1, 1), (1, 2), (1, 3), (1, 5)] [1, 24, 25, 26, 27] f0 f0 := fr.rf
  obtain ⟨a0_trays, m_a0_trays, r_a0_trays, t_a0_trays⟩ := h.rf m_a0 r_a0 (fun e q => (T_11 e).mp q) (k := 0) rfl
  obtain ⟨a0_search, m_a0_search, r_a0_search, t_a0_search⟩ := h.rf m_a0 r_a0 (fun e q => (T_11 e).mp q) (k := 6) rfl
  obtain ⟨a0_search_ears, m_a0_search_ears, r_a0_search_ears, t_a0_search_ears⟩ := h.rf m_a0_search r_a0_search (fun e q => (T_7 e).mp q) (k := 1) rfl
  obtain ⟨a0_book, m_a0_book, r_a0_book, t_a0_book⟩ := h.rf m_a0 r_a0 (fun e q => (T_11 e).mp q) (k := 3) rfl
  obtain ⟨a0_book_scripts, m_a0_book_scripts, r_a0_book_scripts, t_a0_book_scripts⟩ := h.rf m_a0_book r_a0_book (fun e q => (T_0 e).mp q) (k := 0) rfl
  have hs6 := rfa_of t_a0_search
  have hs3 := rfa_of t_a0_book
  unfold PI at pre0
  rw [hs6, hs3] at pre0
  obtain ⟨hSO, ⟨pb1, pb2, pb3⟩, hBD⟩ := pre0
  obtain ⟨tb, ln1, ln2, ln3⟩ := pre1
  have pt0 := rfa_of t_a0_trays
  have pm0 : rfa f0 a0 0 ∈ L := by rw [pt0]; exact m_a0_trays
  have pr0 : R (rfa f0 a0 0) = 55 := by rw [pt0]; exact r_a0_trays
  obtain ⟨tb1, tq1, tq2, tq3⟩ := tS_elq h m_a0_trays r_a0_trays (fun e q => (T_55 e).mp q) (show x2.toInt.toNat < 4 by omega)
  obtain rfl : tb = tb1 := Option.some.inj (ln1.symm.trans (by rw [pt0]; exact tq1))
  obtain ⟨nb, nm0, nr0, nq0⟩ := h.rf tq2 tq3 (fun e q => (T_10 e).mp q) (k := 0) rfl
  have tm0 : rfa f0 tb 0 ∈ L := by rw [rfa_of nq0]; exact nm0
  have tr0 : R (rfa f0 tb 0) = 54 := by rw [rfa_of nq0]; exact nr0
  obtain ⟨b, qb0, m_b, r_b⟩ := tS_elq h pb1 pb2 (fun e q => (T_20 e).mp q) (show x1.toInt.toNat < 3 by omega)
  have acb := (pb3 _ b qb0 (by omega)).2.2
  refine tw_iconst F dX11_listenTo_0 ki_0 (fun z1 hz1 => ?_)
  refine lv_istore (lv' := [(4, .int z1), (0, .ref a0), (1, .int x1), (2, .int x2), (3, .int x3)]) F.1 F.2.1 dX11_listenTo_1 hl (by decide) rfl (fun ls hl => ?_)
  have j_3 : ∀ (n3 : Nat) (f2 : Nat → va_E) (H : Heap) (locs : List Loc) (ls : Array Slot) (x4_3 : Int32), 0 ≤ x4_3.toInt → x4_3.toInt ≤ 16 → x4_3.toInt ≤ x3.toInt → (HB L R f2 a0_search x4_3.toInt.toNat b) → ((16 - x4_3.toInt)).toNat < n3 → tS D cy A s.heap L R (TT cy L R) f2 s H locs → fr L R [(1, 0), (1, 1), (1, 2), (1, 3), (1, 5)] [1, 24, 25, 26, 27] f0 f2 → fr L R [(1, 0), (1, 1), (1, 2), (1, 3), (1, 5)] [1, 24, 25, 26, 27] f0 f2 → lv_has ls 6 [(0, .ref a0), (1, .int x1), (2, .int x2), (3, .int x3), (4, .int x4_3)] → W p l e rm_X11_listenTo s m args below meth c H locs 0 0 Q (F0 m 3 ls []) := by
    intro n3
    induction n3 with
    | zero =>
      intro f2 H locs ls x4_3 b3 b4 b5 ip3_0 b6 h hk hb3 hl
      exfalso
      omega
    | succ n3 ih3 =>
      intro f2 H locs ls x4_3 b3 b4 b5 ip3_0 b6 h hk hb3 hl
      have e7 : fld f2 a0 0 = .ref a0_trays := (hb3.efl m_a0 r_a0 rfl).trans t_a0_trays
      have e8 : fld f2 a0 6 = .ref a0_search := (hb3.efl m_a0 r_a0 rfl).trans t_a0_search
      have e9 : fld f2 a0_search 1 = .ref a0_search_ears := (hb3.efl m_a0_search r_a0_search rfl).trans t_a0_search_ears
      have e10 : fld f2 a0 3 = .ref a0_book := (hb3.efl m_a0 r_a0 rfl).trans t_a0_book
      have e11 : fld f2 a0_book 0 = .ref a0_book_scripts := (hb3.efl m_a0_book r_a0_book rfl).trans t_a0_book_scripts
      refine lv_iload F.1 F.2.1 dX11_listenTo_3 (lv_at hl 4 rfl) ?_
      refine lv_iload_n F.1 F.2.1 dX11_listenTo_5 rfl (lv_at hl 3 rfl) ?_
      refine tw_icmp_ge (tgt := 61) F dX11_listenTo_6 (by decide) (fun b12 => ?_) (fun b12 => ?_)
      · exact hret f2 _ _ _ _ dX11_listenTo_61 ⟨hk, ⟨b, m_b, r_b, by rw [hs3]; exact qb0, by rw [hs6]; exact ⟨SO_fr hSO hk (by decide +kernel) (by decide +kernel) m_a0_search r_a0_search, (by rw [show x3.toInt.toNat = x4_3.toInt.toNat by omega]; exact ip3_0)⟩⟩⟩ h
      · refine lv_aload_n F.1 F.2.1 dX11_listenTo_9 rfl (lv_at hl 0 rfl) ?_
        refine g_11_11 F h m_a0 r_a0 dX11_listenTo_10 (fun o13 m_o13 r_o13 ho13 => ?_)
        obtain rfl := (fld_inj e7 ho13).symm
        refine lv_iload_n F.1 F.2.1 dX11_listenTo_13 rfl (lv_at hl 2 rfl) ?_
        refine le_55 F h m_a0_trays r_a0_trays (by omega) dX11_listenTo_14 (fun o14 m_o14 r_o14 eo14 => ?_)
        refine lv_iload F.1 F.2.1 dX11_listenTo_15 (lv_at hl 4 rfl) ?_
        have e14s : o14 = tb := by have q := elq_a e7 eo14; rw [hk.erf m_a0 r_a0 (by decide +kernel), hk.eelq pm0 pr0 (by decide +kernel)] at q; exact Option.some.inj (q.symm.trans ln1)
        have e14b : fi f2 o14 1 = fi f0 tb 1 := by rw [hk.efi m_o14 r_o14 (by decide +kernel), e14s]
        have e14 : elj f0 (rfa f0 tb 0) x4_3.toInt.toNat = elj f2 (rfa f2 o14 0) x4_3.toInt.toNat := by rw [hk.erf m_o14 r_o14 (by decide +kernel), e14s]; exact (hk.eelj tm0 tr0 (by decide +kernel) _).symm
        refine tw_Vl (As := [.int x4_3]) F hZ h yk_X10_at mw_331 mw_332 mw_333 (s_X10_at l D cy L R O f2 o14 m_o14 r_o14 x4_3) rfl rfl m_o14 r_o14 (fun e q => (T_10 e).mp q) rfl hl.1 rfl (Nat.le_of_ble_eq_true rfl) ⟨Nat.le_of_ble_eq_true rfl, Nat.le_of_ble_eq_true rfl⟩ ⟨Nat.le_of_ble_eq_true rfl, Nat.le_of_ble_eq_true rfl⟩ dX11_listenTo_17 (fun v16 f15 H locs hp15 h => ?_)
        obtain ⟨rfl, hv16p0⟩ := hp15
        have hl1 : 0 ≤ v16.toInt ∧ v16.toInt ≤ 15 := by have q1 := hv16p0 (by omega) (by rw [e14b]; omega); have q2 := ln3 x4_3.toInt.toNat (by omega); rw [e14] at q2; omega
        refine tw_l2i F dX11_listenTo_20 (by omega) (by omega) (fun z17 hz17 => ?_)
        refine lv_istore (lv' := [(5, .int z17), (0, .ref a0), (1, .int x1), (2, .int x2), (3, .int x3), (4, .int x4_3)]) F.1 F.2.1 dX11_listenTo_21 hl (by decide) rfl (fun ls hl => ?_)
        refine lv_aload_n F.1 F.2.1 dX11_listenTo_23 rfl (lv_at hl 1 rfl) ?_
        refine g_11_47 F h m_a0 r_a0 dX11_listenTo_24 (fun o18 m_o18 r_o18 ho18 => ?_)
        obtain rfl := (fld_inj e8 ho18).symm
        refine g_11_237 F h m_a0_search r_a0_search dX11_listenTo_27 (fun o19 m_o19 r_o19 ho19 => ?_)
        obtain rfl := (fld_inj e9 ho19).symm
        refine lv_iload F.1 F.2.1 dX11_listenTo_30 (lv_at hl 5 rfl) ?_
        refine le_45 F h m_a0_search_ears r_a0_search_ears (by omega) dX11_listenTo_32 (fun o20 m_o20 r_o20 eo20 => ?_)
        refine lv_aload_n F.1 F.2.1 dX11_listenTo_33 rfl (lv_at hl 1 rfl) ?_
        refine g_11_29 F h m_a0 r_a0 dX11_listenTo_34 (fun o21 m_o21 r_o21 ho21 => ?_)
        obtain rfl := (fld_inj e10 ho21).symm
        refine g_11_167 F h m_a0_book r_a0_book dX11_listenTo_37 (fun o22 m_o22 r_o22 ho22 => ?_)
        obtain rfl := (fld_inj e11 ho22).symm
        refine lv_iload_n F.1 F.2.1 dX11_listenTo_40 rfl (lv_at hl 2 rfl) ?_
        refine le_20 F h m_a0_book_scripts r_a0_book_scripts (by omega) dX11_listenTo_41 (fun o23 m_o23 r_o23 eo23 => ?_)
        refine lv_aload_n F.1 F.2.1 dX11_listenTo_42 rfl (lv_at hl 1 rfl) ?_
        refine g_11_29 F h m_a0 r_a0 dX11_listenTo_43 (fun o24 m_o24 r_o24 ho24 => ?_)
        obtain rfl := (fld_inj e10 ho24).symm
        refine g_11_205 F h m_a0_book r_a0_book dX11_listenTo_46 (fun o25 m_o25 r_o25 ho25 => ?_)
        refine lv_iload F.1 F.2.1 dX11_listenTo_49 (lv_at hl 0 rfl) ?_
        refine ld_22 F h m_o25 r_o25 (by omega) dX11_listenTo_51 (fun o26 m_o26 r_o26 => ?_)
        have hsb : o23 = b := by have q := elq_a e11 eo23; rw [hk.erf m_a0_book r_a0_book (by decide +kernel), hk.eelq pb1 pb2 (by decide +kernel)] at q; exact Option.some.inj (q.symm.trans qb0)
        have heE : elq f2 (rfa f2 a0_search 1) x4_3.toInt.toNat = some o20 := elq_a e9 eo20
        have ow := (hG.1.fr hk (by decide +kernel))
        have hH := ip3_0
        refine tw_Vv (As := [.ref o23, .ref o26]) F hZ h yk_X1_listen mw_843 mw_844 mw_845 (s_X1_listen l D cy L R O f2 (hG.fr hk (by decide +kernel) (by decide +kernel)) o20 m_o20 r_o20 o23 m_o23 r_o23 o26 m_o26 r_o26) rfl rfl m_o20 r_o20 (fun e q => (T_1 e).mp q) rfl hl.1 rfl (Nat.le_of_ble_eq_true rfl) ⟨Nat.le_of_ble_eq_true rfl, Nat.le_of_ble_eq_true rfl⟩ ⟨Nat.le_of_ble_eq_true rfl, Nat.le_of_ble_eq_true rfl⟩ dX11_listenTo_52 (fun f27 H locs hp27 h => ?_)
        obtain ⟨hf27, hv28p0, hv28p1, hv28p2⟩ := hp27
        have hk : fr L R [(1, 0), (1, 1), (1, 2), (1, 3), (1, 5)] [1, 24, 25, 26, 27] f0 f27 := hk.tr hf27 rfl rfl
        have hb3 : fr L R [(1, 0), (1, 1), (1, 2), (1, 3), (1, 5)] [1, 24, 25, 26, 27] f0 f27 := hb3.tr hf27 rfl rfl
        have e29 : fld f27 a0 0 = .ref a0_trays := (hf27.efl m_a0 r_a0 rfl).trans e7
        have e30 : fld f27 a0 6 = .ref a0_search := (hf27.efl m_a0 r_a0 rfl).trans e8
        have e31 : fld f27 a0_search 1 = .ref a0_search_ears := (hf27.efl m_a0_search r_a0_search rfl).trans e9
        have e32 : fld f27 a0 3 = .ref a0_book := (hf27.efl m_a0 r_a0 rfl).trans e10
        have e33 : fld f27 a0_book 0 = .ref a0_book_scripts := (hf27.efl m_a0_book r_a0_book rfl).trans e11
        have hv1 : fi f27 o20 2 = 0 ∨ VAL f27 b := by have q := hv28p1; rw [hsb, hk.efi m_b r_b (by decide +kernel)] at q; exact q.imp id (fun q => (acb q).fr hG.1 hk (by decide +kernel) (by decide +kernel) m_b r_b)
        have hHn : HB L R f27 a0_search (x4_3.toInt.toNat + 1) b := HB_step hH ow hf27 (by decide +kernel) (by decide +kernel) (by decide +kernel) (by decide +kernel) hv28p2 heE (by have q := hv28p0; rw [hsb] at q; exact q) hv1 m_a0_search r_a0_search m_b r_b m_o20 r_o20
        refine tu_iinc F dX11_listenTo_55 hl (k := 5) rfl (by decide) ki_1 (by omega) (fun z34 ls hz34 hl => ?_)
        have hl : lv_has ls 6 [(4, .int z34), (5, .int z17), (0, .ref a0), (1, .int x1), (2, .int x2), (3, .int x3)] := hl
        refine lv_goto (tgt := 3) F.1 F.2.1 dX11_listenTo_58 (by decide) ?_
        exact ih3 f27 _ _ _ z34 (by omega) (by omega) (by omega) ((by rw [show z34.toInt.toNat = x4_3.toInt.toNat + 1 by omega]; exact hHn)) (by omega) h hk hb3 (lv_sub hl [2, 3, 4, 5, 0] rfl)
  have hb3 : fr L R [(1, 0), (1, 1), (1, 2), (1, 3), (1, 5)] [1, 24, 25, 26, 27] f0 f0 := fr.rf
  exact j_3 (((16 - z1.toInt)).toNat + 1) f0 _ _ _ z1 (by omega) (by omega) (by omega) (HB_0 t_a0_search_ears m_a0_search_ears r_a0_search_ears (by omega)) (by omega) h hk hb3 (lv_sub hl [1, 2, 3, 4, 0] rfl)
theorem dX11_talk_0 : decode cX11_talk 0 = .ok (.aload_n 0, 1) := by decide +kernel
theorem dX11_talk_1 : decode cX11_talk 1 = .ok (.iload_n 1, 1) := by decide +kernel
theorem dX11_talk_2 : decode cX11_talk 2 = .ok (.iload_n 2, 1) := by decide +kernel
theorem dX11_talk_3 : decode cX11_talk 3 = .ok (.iload_n 3, 1) := by decide +kernel
theorem dX11_talk_4 : decode cX11_talk 4 = .ok (.bipush 15, 2) := by decide +kernel
theorem dX11_talk_6 : decode cX11_talk 6 = .ok (.invokevirtual 297, 3) := by decide +kernel
theorem mw_1140 : Cond.methodLink RX11 297 yX11_linesStatus ∈ wsL_law := inr_48 _ (List.mem_of_getElem? (i := 12) rfl)
theorem mw_1143 : Cond.code yX11_linesStatus cX11_linesStatus 6 (some .int) ∈ wsL_law := inr_48 _ (List.mem_of_getElem? (i := 15) rfl)
theorem yk_X11_linesStatus : xY yX11_linesStatus RX11 cX11_linesStatus 6 (some .int) 4 := ⟨⟨rfl, by decide +kernel, by decide +kernel, by decide +kernel⟩, mw_2, mw_1143⟩
theorem mw_1141 : Cond.instanceMethod yX11_linesStatus ∈ wsL_law := inr_48 _ (List.mem_of_getElem? (i := 13) rfl)
theorem mw_1142 : Cond.selects RX11 yX11_linesStatus yX11_linesStatus ∈ wsL_law := inr_48 _ (List.mem_of_getElem? (i := 14) rfl)
theorem dX11_talk_9 : decode cX11_talk 9 = .ok (.istore 4, 2) := by decide +kernel
theorem dX11_talk_11 : decode cX11_talk 11 = .ok (.iload 4, 2) := by decide +kernel
theorem dX11_talk_13 : decode cX11_talk 13 = .ok (.ifCond .eq 10, 3) := by decide +kernel
theorem dX11_talk_23 : decode cX11_talk 23 = .ok (.aload_n 0, 1) := by decide +kernel
theorem dX11_talk_24 : decode cX11_talk 24 = .ok (.iload_n 1, 1) := by decide +kernel
theorem dX11_talk_25 : decode cX11_talk 25 = .ok (.iload_n 2, 1) := by decide +kernel
theorem dX11_talk_26 : decode cX11_talk 26 = .ok (.iload_n 3, 1) := by decide +kernel
theorem dX11_talk_27 : decode cX11_talk 27 = .ok (.invokevirtual 301, 3) := by decide +kernel
theorem mw_1151 : Cond.methodLink RX11 301 yX11_listenTo ∈ wsL_law := inr_48 _ (List.mem_of_getElem? (i := 23) rfl)
theorem mw_1154 : Cond.code yX11_listenTo cX11_listenTo 6 none ∈ wsL_law := inr_49 _ (List.mem_of_getElem? (i := 2) rfl)
theorem yk_X11_listenTo : xY yX11_listenTo RX11 cX11_listenTo 6 none 3 := ⟨⟨rfl, by decide +kernel, by decide +kernel, by decide +kernel⟩, mw_2, mw_1154⟩
theorem mw_1152 : Cond.instanceMethod yX11_listenTo ∈ wsL_law := inr_49 _ (List.mem_of_getElem? (i := 0) rfl)
theorem mw_1153 : Cond.selects RX11 yX11_listenTo yX11_listenTo ∈ wsL_law := inr_49 _ (List.mem_of_getElem? (i := 1) rfl)
theorem dX11_talk_30 : decode cX11_talk 30 = .ok (.aload_n 0, 1) := by decide +kernel
theorem dX11_talk_31 : decode cX11_talk 31 = .ok (.getfield 47, 3) := by decide +kernel
theorem dX11_talk_34 : decode cX11_talk 34 = .ok (.aload_n 0, 1) := by decide +kernel
theorem dX11_talk_35 : decode cX11_talk 35 = .ok (.getfield 40, 3) := by decide +kernel
theorem dX11_talk_38 : decode cX11_talk 38 = .ok (.iload_n 3, 1) := by decide +kernel
theorem dX11_talk_39 : decode cX11_talk 39 = .ok (.invokevirtual 305, 3) := by decide +kernel
theorem mw_1155 : Cond.methodLink RX11 305 yX7_hold ∈ wsL_law := inr_49 _ (List.mem_of_getElem? (i := 3) rfl)
theorem mw_1158 : Cond.code yX7_hold cX7_hold 5 none ∈ wsL_law := inr_49 _ (List.mem_of_getElem? (i := 6) rfl)
theorem yk_X7_hold : xY yX7_hold RX7 cX7_hold 5 none 2 := ⟨⟨rfl, by decide +kernel, by decide +kernel, by decide +kernel⟩, mw_32, mw_1158⟩
theorem mw_1156 : Cond.instanceMethod yX7_hold ∈ wsL_law := inr_49 _ (List.mem_of_getElem? (i := 4) rfl)
theorem mw_1157 : Cond.selects RX7 yX7_hold yX7_hold ∈ wsL_law := inr_49 _ (List.mem_of_getElem? (i := 5) rfl)
theorem dX11_talk_42 : decode cX11_talk 42 = .ok (.aload_n 0, 1) := by decide +kernel
theorem dX11_talk_43 : decode cX11_talk 43 = .ok (.aload_n 0, 1) := by decide +kernel
theorem dX11_talk_44 : decode cX11_talk 44 = .ok (.getfield 40, 3) := by decide +kernel
theorem dX11_talk_47 : decode cX11_talk 47 = .ok (.iconst 0, 1) := by decide +kernel
theorem dX11_talk_48 : decode cX11_talk 48 = .ok (.invokevirtual 309, 3) := by decide +kernel
theorem mw_1175 : Cond.methodLink RX11 309 yX9_ofKind ∈ wsL_law := inr_49 _ (List.mem_of_getElem? (i := 23) rfl)
theorem mw_1178 : Cond.code yX9_ofKind cX9_ofKind 4 (some .int) ∈ wsL_law := inr_50 _ (List.mem_of_getElem? (i := 2) rfl)
theorem yk_X9_ofKind : xY yX9_ofKind RX9 cX9_ofKind 4 (some .int) 1 := ⟨⟨rfl, by decide +kernel, by decide +kernel, by decide +kernel⟩, mw_28, mw_1178⟩
theorem mw_1176 : Cond.instanceMethod yX9_ofKind ∈ wsL_law := inr_50 _ (List.mem_of_getElem? (i := 0) rfl)
theorem mw_1177 : Cond.selects RX9 yX9_ofKind yX9_ofKind ∈ wsL_law := inr_50 _ (List.mem_of_getElem? (i := 1) rfl)
theorem dX11_talk_51 : decode cX11_talk 51 = .ok (.invokevirtual 158, 3) := by decide +kernel
theorem dX11_talk_54 : decode cX11_talk 54 = .ok (.ireturn, 1) := by decide +kernel
theorem dX11_talk_16 : decode cX11_talk 16 = .ok (.aload_n 0, 1) := by decide +kernel
theorem dX11_talk_17 : decode cX11_talk 17 = .ok (.iload 4, 2) := by decide +kernel
theorem dX11_talk_19 : decode cX11_talk 19 = .ok (.invokevirtual 140, 3) := by decide +kernel
theorem dX11_talk_22 : decode cX11_talk 22 = .ok (.ireturn, 1) := by decide +kernel
def rm_X11_talk : Room := { frames := 6, cells := 0, slots := 0, locals := 152 }
set_option maxHeartbeats 4000000 in
set_option maxRecDepth 100000 in
theorem s_X11_talk (l : Launch) (D : va_G) (cy : Nat → ClassId) (L : List Nat) (R O : Nat → Nat) (f0 : Nat → va_E) (hG : GG L R O f0) (a0 : Nat) (m_a0 : a0 ∈ L) (r_a0 : R a0 = 11) (x1 : Int32) (x2 : Int32) (x3 : Int32) (pre0 : PI L R O f0 a0) : ∀ sz, Met l yX11_talk (Cond.code yX11_talk cX11_talk 5 (some .int) :: wsL_law) rm_X11_talk (va_Pc [.ref a0, .int x1, .int x2, .int x3] (tPZ D cy L R (TT cy L R) f0 sz)) (va_Qi (fun (r : Int32) f1 => fr L R [(1, 0), (1, 1), (1, 2), (1, 3), (1, 5), (4, 1), (5, 4), (5, 5), (5, 6), (5, 7), (8, 1), (8, 2), (9, 4), (11, 14)] [1, 4, 5, 8, 9, 11, 23, 24, 25, 26, 27, 34, 51, 52, 53] f0 f1 ∧ KO L R O (rfa f0 (rfa f0 a0 6) 12) f0 f1) (tB D (tA L sz) L R (TT cy L R)) (tA L sz)) 0 0 (tA L sz) := by
  refine tw_enteri (by decide +kernel) rfl (Nat.le_of_ble_eq_true rfl) ?_
  intro p e s m below meth c A ls args Q F hZ h hl hret
  have hl : lv_has ls 5 [(0, .ref a0), (1, .int x1), (2, .int x2), (3, .int x3)] := hl
  have hk : fr L R [(1, 0), (1, 1), (1, 2), (1, 3), (1, 5), (4, 1), (5, 4), (5, 5), (5, 6), (5, 7), (8, 1), (8, 2), (9, 4), (11, 14)] [1, 4, 5, 8, 9, 11, 23, 24, 25, 26, 27, 34, 51, 52, 53] f0 f0 := fr.rf
  obtain ⟨a0_search, m_a0_search, r_a0_search, t_a0_search⟩ := h.rf m_a0 r_a0 (fun e q => (T_11 e).mp q) (k := 6) rfl
  obtain ⟨a0_book, m_a0_book, r_a0_book, t_a0_book⟩ := h.rf m_a0 r_a0 (fun e q => (T_11 e).mp q) (k := 3) rfl
  have pre0c := pre0
  have hs6 := rfa_of t_a0_search
  have hs3 := rfa_of t_a0_book
  unfold PI at pre0
  rw [hs6, hs3] at pre0
  have hO : KO L R O (rfa f0 a0_search 12) f0 f0 := KO.rf
  refine lv_aload_n F.1 F.2.1 dX11_talk_0 rfl (lv_at hl 0 rfl) ?_
  refine lv_iload_n F.1 F.2.1 dX11_talk_1 rfl (lv_at hl 1 rfl) ?_
  refine lv_iload_n F.1 F.2.1 dX11_talk_2 rfl (lv_at hl 2 rfl) ?_
  refine lv_iload_n F.1 F.2.1 dX11_talk_3 rfl (lv_at hl 3 rfl) ?_
  refine tw_bipush F dX11_talk_4 kb_15 (fun z1 hz1 => ?_)
  refine tw_Vi (As := [.int x1, .int x2, .int x3, .int z1]) F hZ h yk_X11_linesStatus mw_1140 mw_1141 mw_1142 (s_X11_linesStatus l D cy L R O f0 a0 m_a0 r_a0 x1 x2 x3 z1 ⟨by omega, by omega⟩) rfl rfl m_a0 r_a0 (fun e q => (T_11 e).mp q) rfl hl.1 rfl (Nat.le_of_ble_eq_true rfl) ⟨Nat.le_of_ble_eq_true rfl, Nat.le_of_ble_eq_true rfl⟩ ⟨Nat.le_of_ble_eq_true rfl, Nat.le_of_ble_eq_true rfl⟩ dX11_talk_6 (fun v3 f2 H locs hp2 h => ?_)
  obtain ⟨rfl, hv3a, hv3b, hv3p0⟩ := hp2
  refine lv_istore (lv' := [(4, .int v3), (0, .ref a0), (1, .int x1), (2, .int x2), (3, .int x3)]) F.1 F.2.1 dX11_talk_9 hl (by decide) rfl (fun ls hl => ?_)
  refine lv_iload F.1 F.2.1 dX11_talk_11 (lv_at hl 0 rfl) ?_
  refine tw_if_eq (tgt := 23) F dX11_talk_13 (by decide) (fun b4 => ?_) (fun b4 => ?_)
  · have lsn := (hv3p0.resolve_left (by omega)).2
    refine lv_aload_n F.1 F.2.1 dX11_talk_23 rfl (lv_at hl 1 rfl) ?_
    refine lv_iload_n F.1 F.2.1 dX11_talk_24 rfl (lv_at hl 2 rfl) ?_
    refine lv_iload_n F.1 F.2.1 dX11_talk_25 rfl (lv_at hl 3 rfl) ?_
    refine lv_iload_n F.1 F.2.1 dX11_talk_26 rfl (lv_at hl 4 rfl) ?_
    refine tw_Vv (As := [.int x1, .int x2, .int x3]) F hZ h yk_X11_listenTo mw_1151 mw_1152 mw_1153 (s_X11_listenTo l D cy L R O f0 hG a0 m_a0 r_a0 x1 ⟨by omega, by omega⟩ x2 ⟨by omega, by omega⟩ x3 ⟨by omega, by omega⟩ pre0c (hv3p0.resolve_left (by omega)).1) rfl rfl m_a0 r_a0 (fun e q => (T_11 e).mp q) rfl hl.1 rfl (Nat.le_of_ble_eq_true rfl) ⟨Nat.le_of_ble_eq_true rfl, Nat.le_of_ble_eq_true rfl⟩ ⟨Nat.le_of_ble_eq_true rfl, Nat.le_of_ble_eq_true rfl⟩ dX11_talk_27 (fun f5 H locs hp5 h => ?_)
    obtain ⟨hf5, hv6p0⟩ := hp5
    have hO : KO L R O (rfa f0 a0_search 12) f0 f5 := KO_fr hO hf5 (by decide +kernel)
    have hk : fr L R [(1, 0), (1, 1), (1, 2), (1, 3), (1, 5), (4, 1), (5, 4), (5, 5), (5, 6), (5, 7), (8, 1), (8, 2), (9, 4), (11, 14)] [1, 4, 5, 8, 9, 11, 23, 24, 25, 26, 27, 34, 51, 52, 53] f0 f5 := hk.tr hf5 (by decide +kernel) (by decide +kernel)
    have e7 : fld f5 a0 6 = .ref a0_search := (hf5.efl m_a0 r_a0 rfl).trans t_a0_search
    have e8 : fld f5 a0 3 = .ref a0_book := (hf5.efl m_a0 r_a0 rfl).trans t_a0_book
    obtain ⟨b, m_b, r_b, -, hB⟩ := hv6p0
    rw [hs6] at hB
    refine lv_aload_n F.1 F.2.1 dX11_talk_30 rfl (lv_at hl 1 rfl) ?_
    refine g_11_47 F h m_a0 r_a0 dX11_talk_31 (fun o9 m_o9 r_o9 ho9 => ?_)
    obtain rfl := (fld_inj e7 ho9).symm
    refine lv_aload_n F.1 F.2.1 dX11_talk_34 rfl (lv_at hl 1 rfl) ?_
    refine g_11_40 F h m_a0 r_a0 dX11_talk_35 (fun o10 m_o10 r_o10 ho10 => ?_)
    refine lv_iload_n F.1 F.2.1 dX11_talk_38 rfl (lv_at hl 4 rfl) ?_
    have hk0_39 : rfa f5 a0_search 12 = rfa f0 a0_search 12 := hk.erf m_a0_search r_a0_search (by decide +kernel)
    refine tw_Vv (As := [.ref o10, .int x3]) F hZ h yk_X7_hold mw_1155 mw_1156 mw_1157 (s_X7_hold l D cy L R O f5 (hG.fr hk (by decide +kernel) (by decide +kernel)) a0_search m_a0_search r_a0_search o10 m_o10 r_o10 x3 ⟨by omega, by omega⟩ ⟨b, m_b, r_b, hB⟩) rfl rfl m_a0_search r_a0_search (fun e q => (T_7 e).mp q) rfl hl.1 rfl (Nat.le_of_ble_eq_true rfl) ⟨Nat.le_of_ble_eq_true rfl, Nat.le_of_ble_eq_true rfl⟩ ⟨Nat.le_of_ble_eq_true rfl, Nat.le_of_ble_eq_true rfl⟩ dX11_talk_39 (fun f11 H locs hp11 h => ?_)
    obtain ⟨hf11, hv12p0⟩ := hp11
    have hB : SB L R O f11 a0_search (x3.toInt.toNat) b := SB_fr hB (hG.1.fr hk (by decide +kernel)) hf11 (by decide +kernel) m_a0_search r_a0_search m_b r_b
    have hk : fr L R [(1, 0), (1, 1), (1, 2), (1, 3), (1, 5), (4, 1), (5, 4), (5, 5), (5, 6), (5, 7), (8, 1), (8, 2), (9, 4), (11, 14)] [1, 4, 5, 8, 9, 11, 23, 24, 25, 26, 27, 34, 51, 52, 53] f0 f11 := hk.tr hf11 (by decide +kernel) (by decide +kernel)
    have e13 : fld f11 a0 6 = .ref a0_search := (hf11.efl m_a0 r_a0 rfl).trans e7
    have e14 : fld f11 a0 3 = .ref a0_book := (hf11.efl m_a0 r_a0 rfl).trans e8
    have e15 : fld f11 a0 5 = .ref o10 := (hf11.efl m_a0 r_a0 rfl).trans ho10
    have hO : KO L R O (rfa f0 a0_search 12) f0 f11 := hO.tr (by have q := hv12p0; rw [hk0_39] at q; exact q)
    refine lv_aload_n F.1 F.2.1 dX11_talk_42 rfl (lv_at hl 1 rfl) ?_
    refine lv_aload_n F.1 F.2.1 dX11_talk_43 rfl (lv_at hl 1 rfl) ?_
    refine g_11_40 F h m_a0 r_a0 dX11_talk_44 (fun o16 m_o16 r_o16 ho16 => ?_)
    obtain rfl := (fld_inj e15 ho16).symm
    refine tw_iconst F dX11_talk_47 ki_0 (fun z17 hz17 => ?_)
    refine tw_Vi (As := [.int z17]) F hZ h yk_X9_ofKind mw_1175 mw_1176 mw_1177 (s_X9_ofKind l D cy L R O f11 o10 m_o10 r_o10 z17 ⟨by omega, by omega⟩) rfl rfl m_o10 r_o10 (fun e q => (T_9 e).mp q) rfl hl.1 rfl (Nat.le_of_ble_eq_true rfl) ⟨Nat.le_of_ble_eq_true rfl, Nat.le_of_ble_eq_true rfl⟩ ⟨Nat.le_of_ble_eq_true rfl, Nat.le_of_ble_eq_true rfl⟩ dX11_talk_48 (fun v19 f18 H locs hp18 h => ?_)
    obtain rfl := hp18
    refine tw_Vi (As := [.int v19]) F hZ h yk_X11_grant mw_442 mw_443 mw_444 (s_X11_grant l D cy L R O f11 a0 m_a0 r_a0 v19) rfl rfl m_a0 r_a0 (fun e q => (T_11 e).mp q) rfl hl.1 rfl (Nat.le_of_ble_eq_true rfl) ⟨Nat.le_of_ble_eq_true rfl, Nat.le_of_ble_eq_true rfl⟩ ⟨Nat.le_of_ble_eq_true rfl, Nat.le_of_ble_eq_true rfl⟩ dX11_talk_51 (fun v21 f20 H locs hp20 h => ?_)
    have hf20 := hp20
    have hB : SB L R O f20 a0_search (x3.toInt.toNat) b := SB_fr hB (hG.1.fr hk (by decide +kernel)) hf20 (by decide +kernel) m_a0_search r_a0_search m_b r_b
    have hO : KO L R O (rfa f0 a0_search 12) f0 f20 := KO_fr hO hf20 (by decide +kernel)
    have hk : fr L R [(1, 0), (1, 1), (1, 2), (1, 3), (1, 5), (4, 1), (5, 4), (5, 5), (5, 6), (5, 7), (8, 1), (8, 2), (9, 4), (11, 14)] [1, 4, 5, 8, 9, 11, 23, 24, 25, 26, 27, 34, 51, 52, 53] f0 f20 := hk.tr hf20 rfl rfl
    have e22 : fld f20 a0 6 = .ref a0_search := (hf20.efl m_a0 r_a0 rfl).trans e13
    have e23 : fld f20 a0 3 = .ref a0_book := (hf20.efl m_a0 r_a0 rfl).trans e14
    have e24 : fld f20 a0 5 = .ref o10 := (hf20.efl m_a0 r_a0 rfl).trans e15
    exact hret f20 _ _ _ _ v21 dX11_talk_54 rfl ⟨hk, by rw [hs6]; exact hO⟩ h
  · refine lv_aload_n F.1 F.2.1 dX11_talk_16 rfl (lv_at hl 1 rfl) ?_
    refine lv_iload F.1 F.2.1 dX11_talk_17 (lv_at hl 0 rfl) ?_
    refine tw_Vi (As := [.int v3]) F hZ h yk_X11_refuse mw_378 mw_379 mw_380 (s_X11_refuse l D cy L R O f0 a0 m_a0 r_a0 v3 ⟨by omega, by omega⟩) rfl rfl m_a0 r_a0 (fun e q => (T_11 e).mp q) rfl hl.1 rfl (Nat.le_of_ble_eq_true rfl) ⟨Nat.le_of_ble_eq_true rfl, Nat.le_of_ble_eq_true rfl⟩ ⟨Nat.le_of_ble_eq_true rfl, Nat.le_of_ble_eq_true rfl⟩ dX11_talk_19 (fun v26 f25 H locs hp25 h => ?_)
    obtain ⟨hf25, hv26a, hv26b⟩ := hp25
    have hO : KO L R O (rfa f0 a0_search 12) f0 f25 := KO_fr hO hf25 (by decide +kernel)
    have hk : fr L R [(1, 0), (1, 1), (1, 2), (1, 3), (1, 5), (4, 1), (5, 4), (5, 5), (5, 6), (5, 7), (8, 1), (8, 2), (9, 4), (11, 14)] [1, 4, 5, 8, 9, 11, 23, 24, 25, 26, 27, 34, 51, 52, 53] f0 f25 := hk.tr hf25 rfl rfl
    have e27 : fld f25 a0 6 = .ref a0_search := (hf25.efl m_a0 r_a0 rfl).trans t_a0_search
    have e28 : fld f25 a0 3 = .ref a0_book := (hf25.efl m_a0 r_a0 rfl).trans t_a0_book
    exact hret f25 _ _ _ _ v26 dX11_talk_22 rfl ⟨hk, by rw [hs6]; exact hO⟩ h
theorem dX11_broke_0 : decode cX11_broke 0 = .ok (.aload_n 0, 1) := by decide +kernel
theorem dX11_broke_1 : decode cX11_broke 1 = .ok (.iload_n 1, 1) := by decide +kernel
theorem dX11_broke_2 : decode cX11_broke 2 = .ok (.iload_n 2, 1) := by decide +kernel
theorem dX11_broke_3 : decode cX11_broke 3 = .ok (.iload_n 3, 1) := by decide +kernel
theorem dX11_broke_4 : decode cX11_broke 4 = .ok (.bipush 16, 2) := by decide +kernel
theorem dX11_broke_6 : decode cX11_broke 6 = .ok (.invokevirtual 297, 3) := by decide +kernel
theorem dX11_broke_9 : decode cX11_broke 9 = .ok (.istore 4, 2) := by decide +kernel
theorem dX11_broke_11 : decode cX11_broke 11 = .ok (.iload 4, 2) := by decide +kernel
theorem dX11_broke_13 : decode cX11_broke 13 = .ok (.ifCond .eq 10, 3) := by decide +kernel
theorem dX11_broke_23 : decode cX11_broke 23 = .ok (.aload_n 0, 1) := by decide +kernel
theorem dX11_broke_24 : decode cX11_broke 24 = .ok (.iload_n 1, 1) := by decide +kernel
theorem dX11_broke_25 : decode cX11_broke 25 = .ok (.iload_n 2, 1) := by decide +kernel
theorem dX11_broke_26 : decode cX11_broke 26 = .ok (.iload_n 3, 1) := by decide +kernel
theorem dX11_broke_27 : decode cX11_broke 27 = .ok (.invokevirtual 301, 3) := by decide +kernel
theorem dX11_broke_30 : decode cX11_broke 30 = .ok (.aload_n 0, 1) := by decide +kernel
theorem dX11_broke_31 : decode cX11_broke 31 = .ok (.aload_n 0, 1) := by decide +kernel
theorem dX11_broke_32 : decode cX11_broke 32 = .ok (.getfield 47, 3) := by decide +kernel
theorem dX11_broke_35 : decode cX11_broke 35 = .ok (.aload_n 0, 1) := by decide +kernel
theorem dX11_broke_36 : decode cX11_broke 36 = .ok (.getfield 29, 3) := by decide +kernel
theorem dX11_broke_39 : decode cX11_broke 39 = .ok (.iload_n 3, 1) := by decide +kernel
theorem dX11_broke_40 : decode cX11_broke 40 = .ok (.invokevirtual 342, 3) := by decide +kernel
theorem mw_1341 : Cond.methodLink RX11 342 yX7_firstBroke ∈ wsL_law := inr_56 _ (List.mem_of_getElem? (i := 21) rfl)
theorem dX11_broke_43 : decode cX11_broke 43 = .ok (.invokevirtual 158, 3) := by decide +kernel
theorem dX11_broke_46 : decode cX11_broke 46 = .ok (.ireturn, 1) := by decide +kernel
theorem dX11_broke_16 : decode cX11_broke 16 = .ok (.aload_n 0, 1) := by decide +kernel
theorem dX11_broke_17 : decode cX11_broke 17 = .ok (.iload 4, 2) := by decide +kernel
theorem dX11_broke_19 : decode cX11_broke 19 = .ok (.invokevirtual 140, 3) := by decide +kernel
theorem dX11_broke_22 : decode cX11_broke 22 = .ok (.ireturn, 1) := by decide +kernel
def rm_X11_broke : Room := { frames := 6, cells := 0, slots := 0, locals := 152 }
set_option maxHeartbeats 4000000 in
set_option maxRecDepth 100000 in
theorem s_X11_broke (l : Launch) (D : va_G) (cy : Nat → ClassId) (L : List Nat) (R O : Nat → Nat) (f0 : Nat → va_E) (hG : GG L R O f0) (a0 : Nat) (m_a0 : a0 ∈ L) (r_a0 : R a0 = 11) (x1 : Int32) (x2 : Int32) (x3 : Int32) (pre0 : PI L R O f0 a0) : ∀ sz, Met l yX11_broke (Cond.code yX11_broke cX11_broke 5 (some .int) :: wsL_law) rm_X11_broke (va_Pc [.ref a0, .int x1, .int x2, .int x3] (tPZ D cy L R (TT cy L R) f0 sz)) (va_Qi (fun (r : Int32) f1 => fr L R [(1, 0), (1, 1), (1, 2), (1, 3), (1, 5), (4, 1), (5, 4), (5, 5), (5, 6), (5, 7), (8, 1), (8, 2), (11, 14)] [1, 4, 5, 8, 11, 23, 24, 25, 26, 27, 34, 51] f0 f1 ∧ KO L R O (rfa f0 (rfa f0 a0 6) 12) f0 f1) (tB D (tA L sz) L R (TT cy L R)) (tA L sz)) 0 0 (tA L sz) := by
  refine tw_enteri (by decide +kernel) rfl (Nat.le_of_ble_eq_true rfl) ?_
  intro p e s m below meth c A ls args Q F hZ h hl hret
  have hl : lv_has ls 5 [(0, .ref a0), (1, .int x1), (2, .int x2), (3, .int x3)] := hl
  have hk : fr L R [(1, 0), (1, 1), (1, 2), (1, 3), (1, 5), (4, 1), (5, 4), (5, 5), (5, 6), (5, 7), (8, 1), (8, 2), (11, 14)] [1, 4, 5, 8, 11, 23, 24, 25, 26, 27, 34, 51] f0 f0 := fr.rf
  obtain ⟨a0_search, m_a0_search, r_a0_search, t_a0_search⟩ := h.rf m_a0 r_a0 (fun e q => (T_11 e).mp q) (k := 6) rfl
  obtain ⟨a0_book, m_a0_book, r_a0_book, t_a0_book⟩ := h.rf m_a0 r_a0 (fun e q => (T_11 e).mp q) (k := 3) rfl
  have pre0c := pre0
  have hs6 := rfa_of t_a0_search
  have hs3 := rfa_of t_a0_book
  unfold PI at pre0
  rw [hs6, hs3] at pre0
  have hO : KO L R O (rfa f0 a0_search 12) f0 f0 := KO.rf
  refine lv_aload_n F.1 F.2.1 dX11_broke_0 rfl (lv_at hl 0 rfl) ?_
  refine lv_iload_n F.1 F.2.1 dX11_broke_1 rfl (lv_at hl 1 rfl) ?_
  refine lv_iload_n F.1 F.2.1 dX11_broke_2 rfl (lv_at hl 2 rfl) ?_
  refine lv_iload_n F.1 F.2.1 dX11_broke_3 rfl (lv_at hl 3 rfl) ?_
  refine tw_bipush F dX11_broke_4 kb_16 (fun z1 hz1 => ?_)
  refine tw_Vi (As := [.int x1, .int x2, .int x3, .int z1]) F hZ h yk_X11_linesStatus mw_1140 mw_1141 mw_1142 (s_X11_linesStatus l D cy L R O f0 a0 m_a0 r_a0 x1 x2 x3 z1 ⟨by omega, by omega⟩) rfl rfl m_a0 r_a0 (fun e q => (T_11 e).mp q) rfl hl.1 rfl (Nat.le_of_ble_eq_true rfl) ⟨Nat.le_of_ble_eq_true rfl, Nat.le_of_ble_eq_true rfl⟩ ⟨Nat.le_of_ble_eq_true rfl, Nat.le_of_ble_eq_true rfl⟩ dX11_broke_6 (fun v3 f2 H locs hp2 h => ?_)
  obtain ⟨rfl, hv3a, hv3b, hv3p0⟩ := hp2
  refine lv_istore (lv' := [(4, .int v3), (0, .ref a0), (1, .int x1), (2, .int x2), (3, .int x3)]) F.1 F.2.1 dX11_broke_9 hl (by decide) rfl (fun ls hl => ?_)
  refine lv_iload F.1 F.2.1 dX11_broke_11 (lv_at hl 0 rfl) ?_
  refine tw_if_eq (tgt := 23) F dX11_broke_13 (by decide) (fun b4 => ?_) (fun b4 => ?_)
  · have lsn := (hv3p0.resolve_left (by omega)).2
    refine lv_aload_n F.1 F.2.1 dX11_broke_23 rfl (lv_at hl 1 rfl) ?_
    refine lv_iload_n F.1 F.2.1 dX11_broke_24 rfl (lv_at hl 2 rfl) ?_
    refine lv_iload_n F.1 F.2.1 dX11_broke_25 rfl (lv_at hl 3 rfl) ?_
    refine lv_iload_n F.1 F.2.1 dX11_broke_26 rfl (lv_at hl 4 rfl) ?_
    refine tw_Vv (As := [.int x1, .int x2, .int x3]) F hZ h yk_X11_listenTo mw_1151 mw_1152 mw_1153 (s_X11_listenTo l D cy L R O f0 hG a0 m_a0 r_a0 x1 ⟨by omega, by omega⟩ x2 ⟨by omega, by omega⟩ x3 ⟨by omega, by omega⟩ pre0c (hv3p0.resolve_left (by omega)).1) rfl rfl m_a0 r_a0 (fun e q => (T_11 e).mp q) rfl hl.1 rfl (Nat.le_of_ble_eq_true rfl) ⟨Nat.le_of_ble_eq_true rfl, Nat.le_of_ble_eq_true rfl⟩ ⟨Nat.le_of_ble_eq_true rfl, Nat.le_of_ble_eq_true rfl⟩ dX11_broke_27 (fun f5 H locs hp5 h => ?_)
    obtain ⟨hf5, hv6p0⟩ := hp5
    have hO : KO L R O (rfa f0 a0_search 12) f0 f5 := KO_fr hO hf5 (by decide +kernel)
    have hk : fr L R [(1, 0), (1, 1), (1, 2), (1, 3), (1, 5), (4, 1), (5, 4), (5, 5), (5, 6), (5, 7), (8, 1), (8, 2), (11, 14)] [1, 4, 5, 8, 11, 23, 24, 25, 26, 27, 34, 51] f0 f5 := hk.tr hf5 (by decide +kernel) (by decide +kernel)
    have e7 : fld f5 a0 6 = .ref a0_search := (hf5.efl m_a0 r_a0 rfl).trans t_a0_search
    have e8 : fld f5 a0 3 = .ref a0_book := (hf5.efl m_a0 r_a0 rfl).trans t_a0_book
    obtain ⟨b, m_b, r_b, -, hB⟩ := hv6p0
    rw [hs6] at hB
    refine lv_aload_n F.1 F.2.1 dX11_broke_30 rfl (lv_at hl 1 rfl) ?_
    refine lv_aload_n F.1 F.2.1 dX11_broke_31 rfl (lv_at hl 1 rfl) ?_
    refine g_11_47 F h m_a0 r_a0 dX11_broke_32 (fun o9 m_o9 r_o9 ho9 => ?_)
    obtain rfl := (fld_inj e7 ho9).symm
    refine lv_aload_n F.1 F.2.1 dX11_broke_35 rfl (lv_at hl 1 rfl) ?_
    refine g_11_29 F h m_a0 r_a0 dX11_broke_36 (fun o10 m_o10 r_o10 ho10 => ?_)
    obtain rfl := (fld_inj e8 ho10).symm
    refine lv_iload_n F.1 F.2.1 dX11_broke_39 rfl (lv_at hl 4 rfl) ?_
    have hk0_40 : rfa f5 a0_search 12 = rfa f0 a0_search 12 := hk.erf m_a0_search r_a0_search (by decide +kernel)
    refine tw_Vi (As := [.ref a0_book, .int x3]) F hZ h yk_X7_firstBroke mw_1341 mw_1342 mw_1343 (s_X7_firstBroke l D cy L R O f5 (hG.fr hk (by decide +kernel) (by decide +kernel)) a0_search m_a0_search r_a0_search a0_book m_a0_book r_a0_book x3 ⟨by omega, by omega⟩ ⟨b, m_b, r_b, hB⟩) rfl rfl m_a0_search r_a0_search (fun e q => (T_7 e).mp q) rfl hl.1 rfl (Nat.le_of_ble_eq_true rfl) ⟨Nat.le_of_ble_eq_true rfl, Nat.le_of_ble_eq_true rfl⟩ ⟨Nat.le_of_ble_eq_true rfl, Nat.le_of_ble_eq_true rfl⟩ dX11_broke_40 (fun v12 f11 H locs hp11 h => ?_)
    obtain ⟨hf11, hv12a, hv12b, hv12p0⟩ := hp11
    have hB : SB L R O f11 a0_search (x3.toInt.toNat) b := SB_fr hB (hG.1.fr hk (by decide +kernel)) hf11 (by decide +kernel) m_a0_search r_a0_search m_b r_b
    have hk : fr L R [(1, 0), (1, 1), (1, 2), (1, 3), (1, 5), (4, 1), (5, 4), (5, 5), (5, 6), (5, 7), (8, 1), (8, 2), (11, 14)] [1, 4, 5, 8, 11, 23, 24, 25, 26, 27, 34, 51] f0 f11 := hk.tr hf11 (by decide +kernel) (by decide +kernel)
    have e13 : fld f11 a0 6 = .ref a0_search := (hf11.efl m_a0 r_a0 rfl).trans e7
    have e14 : fld f11 a0 3 = .ref a0_book := (hf11.efl m_a0 r_a0 rfl).trans e8
    have hO : KO L R O (rfa f0 a0_search 12) f0 f11 := hO.tr (by have q := hv12p0; rw [hk0_40] at q; exact q)
    refine tw_Vi (As := [.int v12]) F hZ h yk_X11_grant mw_442 mw_443 mw_444 (s_X11_grant l D cy L R O f11 a0 m_a0 r_a0 v12) rfl rfl m_a0 r_a0 (fun e q => (T_11 e).mp q) rfl hl.1 rfl (Nat.le_of_ble_eq_true rfl) ⟨Nat.le_of_ble_eq_true rfl, Nat.le_of_ble_eq_true rfl⟩ ⟨Nat.le_of_ble_eq_true rfl, Nat.le_of_ble_eq_true rfl⟩ dX11_broke_43 (fun v16 f15 H locs hp15 h => ?_)
    have hf15 := hp15
    have hB : SB L R O f15 a0_search (x3.toInt.toNat) b := SB_fr hB (hG.1.fr hk (by decide +kernel)) hf15 (by decide +kernel) m_a0_search r_a0_search m_b r_b
    have hO : KO L R O (rfa f0 a0_search 12) f0 f15 := KO_fr hO hf15 (by decide +kernel)
    have hk : fr L R [(1, 0), (1, 1), (1, 2), (1, 3), (1, 5), (4, 1), (5, 4), (5, 5), (5, 6), (5, 7), (8, 1), (8, 2), (11, 14)] [1, 4, 5, 8, 11, 23, 24, 25, 26, 27, 34, 51] f0 f15 := hk.tr hf15 rfl rfl
    have e17 : fld f15 a0 6 = .ref a0_search := (hf15.efl m_a0 r_a0 rfl).trans e13
    have e18 : fld f15 a0 3 = .ref a0_book := (hf15.efl m_a0 r_a0 rfl).trans e14
    exact hret f15 _ _ _ _ v16 dX11_broke_46 rfl ⟨hk, by rw [hs6]; exact hO⟩ h
  · refine lv_aload_n F.1 F.2.1 dX11_broke_16 rfl (lv_at hl 1 rfl) ?_
    refine lv_iload F.1 F.2.1 dX11_broke_17 (lv_at hl 0 rfl) ?_
    refine tw_Vi (As := [.int v3]) F hZ h yk_X11_refuse mw_378 mw_379 mw_380 (s_X11_refuse l D cy L R O f0 a0 m_a0 r_a0 v3 ⟨by omega, by omega⟩) rfl rfl m_a0 r_a0 (fun e q => (T_11 e).mp q) rfl hl.1 rfl (Nat.le_of_ble_eq_true rfl) ⟨Nat.le_of_ble_eq_true rfl, Nat.le_of_ble_eq_true rfl⟩ ⟨Nat.le_of_ble_eq_true rfl, Nat.le_of_ble_eq_true rfl⟩ dX11_broke_19 (fun v20 f19 H locs hp19 h => ?_)
    obtain ⟨hf19, hv20a, hv20b⟩ := hp19
    have hO : KO L R O (rfa f0 a0_search 12) f0 f19 := KO_fr hO hf19 (by decide +kernel)
    have hk : fr L R [(1, 0), (1, 1), (1, 2), (1, 3), (1, 5), (4, 1), (5, 4), (5, 5), (5, 6), (5, 7), (8, 1), (8, 2), (11, 14)] [1, 4, 5, 8, 11, 23, 24, 25, 26, 27, 34, 51] f0 f19 := hk.tr hf19 rfl rfl
    have e21 : fld f19 a0 6 = .ref a0_search := (hf19.efl m_a0 r_a0 rfl).trans t_a0_search
    have e22 : fld f19 a0 3 = .ref a0_book := (hf19.efl m_a0 r_a0 rfl).trans t_a0_book
    exact hret f19 _ _ _ _ v20 dX11_broke_22 rfl ⟨hk, by rw [hs6]; exact hO⟩ h
theorem dX11_mend_0 : decode cX11_mend 0 = .ok (.iload 4, 2) := by decide +kernel
theorem dX11_mend_2 : decode cX11_mend 2 = .ok (.ifCond .lt 9, 3) := by decide +kernel
theorem dX11_mend_11 : decode cX11_mend 11 = .ok (.aload_n 0, 1) := by decide +kernel
theorem dX11_mend_12 : decode cX11_mend 12 = .ok (.iconst 1, 1) := by decide +kernel
theorem dX11_mend_13 : decode cX11_mend 13 = .ok (.invokevirtual 140, 3) := by decide +kernel
theorem dX11_mend_16 : decode cX11_mend 16 = .ok (.ireturn, 1) := by decide +kernel
theorem dX11_mend_5 : decode cX11_mend 5 = .ok (.iload 4, 2) := by decide +kernel
theorem dX11_mend_7 : decode cX11_mend 7 = .ok (.iconst 3, 1) := by decide +kernel
theorem dX11_mend_8 : decode cX11_mend 8 = .ok (.if_icmp .le 9, 3) := by decide +kernel
theorem dX11_mend_17 : decode cX11_mend 17 = .ok (.aload_n 0, 1) := by decide +kernel
theorem dX11_mend_18 : decode cX11_mend 18 = .ok (.iload_n 1, 1) := by decide +kernel
theorem dX11_mend_19 : decode cX11_mend 19 = .ok (.iload_n 2, 1) := by decide +kernel
theorem dX11_mend_20 : decode cX11_mend 20 = .ok (.iload_n 3, 1) := by decide +kernel
theorem dX11_mend_21 : decode cX11_mend 21 = .ok (.bipush 16, 2) := by decide +kernel
theorem dX11_mend_23 : decode cX11_mend 23 = .ok (.invokevirtual 297, 3) := by decide +kernel
theorem dX11_mend_26 : decode cX11_mend 26 = .ok (.istore 5, 2) := by decide +kernel
theorem dX11_mend_28 : decode cX11_mend 28 = .ok (.iload 5, 2) := by decide +kernel
theorem dX11_mend_30 : decode cX11_mend 30 = .ok (.ifCond .eq 10, 3) := by decide +kernel
theorem dX11_mend_40 : decode cX11_mend 40 = .ok (.aload_n 0, 1) := by decide +kernel
theorem dX11_mend_41 : decode cX11_mend 41 = .ok (.iload_n 1, 1) := by decide +kernel
theorem dX11_mend_42 : decode cX11_mend 42 = .ok (.iload_n 2, 1) := by decide +kernel
theorem dX11_mend_43 : decode cX11_mend 43 = .ok (.iload_n 3, 1) := by decide +kernel
theorem dX11_mend_44 : decode cX11_mend 44 = .ok (.invokevirtual 301, 3) := by decide +kernel
theorem dX11_mend_47 : decode cX11_mend 47 = .ok (.aload_n 0, 1) := by decide +kernel
theorem dX11_mend_48 : decode cX11_mend 48 = .ok (.getfield 47, 3) := by decide +kernel
theorem dX11_mend_51 : decode cX11_mend 51 = .ok (.aload_n 0, 1) := by decide +kernel
theorem dX11_mend_52 : decode cX11_mend 52 = .ok (.getfield 29, 3) := by decide +kernel
theorem dX11_mend_55 : decode cX11_mend 55 = .ok (.iload_n 3, 1) := by decide +kernel
theorem dX11_mend_56 : decode cX11_mend 56 = .ok (.invokevirtual 342, 3) := by decide +kernel
theorem dX11_mend_59 : decode cX11_mend 59 = .ok (.iconst (-1), 1) := by decide +kernel
theorem dX11_mend_60 : decode cX11_mend 60 = .ok (.if_icmp .ne 10, 3) := by decide +kernel
theorem dX11_mend_70 : decode cX11_mend 70 = .ok (.iload 4, 2) := by decide +kernel
theorem dX11_mend_72 : decode cX11_mend 72 = .ok (.iconst 2, 1) := by decide +kernel
theorem dX11_mend_127 : decode cX11_mend 127 = .ok (.iload 4, 2) := by decide +kernel
theorem dX11_mend_129 : decode cX11_mend 129 = .ok (.ifCond .eq 9, 3) := by decide +kernel
theorem dX11_mend_138 : decode cX11_mend 138 = .ok (.aload_n 0, 1) := by decide +kernel
theorem dX11_mend_139 : decode cX11_mend 139 = .ok (.aload_n 0, 1) := by decide +kernel
theorem dX11_mend_140 : decode cX11_mend 140 = .ok (.getfield 47, 3) := by decide +kernel
theorem dX11_mend_143 : decode cX11_mend 143 = .ok (.getfield 353, 3) := by decide +kernel
theorem mw_1367 : Cond.fieldLink RX11 353 "AskBack$Search" "mendCount" "I" ∈ wsL_law := inr_57 _ (List.mem_of_getElem? (i := 23) rfl)
section
variable {p : Program} {l : Launch} {e : Env} {R0 : Room} {s : State} {m : MethodId} {args : Array Value} {below : List Frame} {meth : Method} {c : Code} {H H0 : Heap} {locs : List Loc} {cells slots : Nat} {Q : State → Prop} {cc : ByteArray} {nL : Nat} {D : va_G} {cy : Nat → ClassId} {A : Nat → Prop} {L : List Nat} {R : Nat → Nat} {f : Nat → va_E} {pc : Nat} {ls : Array Slot} {rest : List Value} {a : Nat}
theorem g_11_353 (F : CallFix p m c cc nL s args wsL_law RX11) (h : tS D cy A H0 L R (TT cy L R) f s H locs) (ha : a ∈ L) (hr : R a = 7) (hdg : decode cc pc = .ok (.getfield 353, 3)) (kk : ∀ x : Int32, x.toInt = fi f a 7 → W p l e R0 s m args below meth c H locs cells slots Q (F0 m (pc + 3) ls (.int x :: rest))) : W p l e R0 s m args below meth c H locs cells slots Q (F0 m pc ls (.ref a :: rest)) := tu_geti F h ha hr (fun e q => (T_7 e).mp q) rfl inlX7 rfl (Nat.le_of_ble_eq_true rfl) mw_1367 hdg (fun x h1 h2 h3 => kk x h1)
end
theorem dX11_mend_146 : decode cX11_mend 146 = .ok (.invokevirtual 158, 3) := by decide +kernel
theorem dX11_mend_149 : decode cX11_mend 149 = .ok (.ireturn, 1) := by decide +kernel
theorem dX11_mend_132 : decode cX11_mend 132 = .ok (.iload 4, 2) := by decide +kernel
theorem dX11_mend_134 : decode cX11_mend 134 = .ok (.iconst 2, 1) := by decide +kernel
theorem dX11_mend_135 : decode cX11_mend 135 = .ok (.if_icmp .ne 15, 3) := by decide +kernel
theorem dX11_mend_150 : decode cX11_mend 150 = .ok (.aload_n 0, 1) := by decide +kernel
theorem dX11_mend_151 : decode cX11_mend 151 = .ok (.getfield 47, 3) := by decide +kernel
theorem dX11_mend_154 : decode cX11_mend 154 = .ok (.getfield 356, 3) := by decide +kernel
theorem mw_1368 : Cond.fieldLink RX11 356 "AskBack$Search" "mendFirst" "I" ∈ wsL_law := inr_58 _ (List.mem_of_getElem? (i := 0) rfl)
section
variable {p : Program} {l : Launch} {e : Env} {R0 : Room} {s : State} {m : MethodId} {args : Array Value} {below : List Frame} {meth : Method} {c : Code} {H H0 : Heap} {locs : List Loc} {cells slots : Nat} {Q : State → Prop} {cc : ByteArray} {nL : Nat} {D : va_G} {cy : Nat → ClassId} {A : Nat → Prop} {L : List Nat} {R : Nat → Nat} {f : Nat → va_E} {pc : Nat} {ls : Array Slot} {rest : List Value} {a : Nat}
theorem g_11_356 (F : CallFix p m c cc nL s args wsL_law RX11) (h : tS D cy A H0 L R (TT cy L R) f s H locs) (ha : a ∈ L) (hr : R a = 7) (hdg : decode cc pc = .ok (.getfield 356, 3)) (kk : ∀ x : Int32, x.toInt = fi f a 8 → W p l e R0 s m args below meth c H locs cells slots Q (F0 m (pc + 3) ls (.int x :: rest))) : W p l e R0 s m args below meth c H locs cells slots Q (F0 m pc ls (.ref a :: rest)) := tu_geti F h ha hr (fun e q => (T_7 e).mp q) rfl inlX7 rfl (Nat.le_of_ble_eq_true rfl) mw_1368 hdg (fun x h1 h2 h3 => kk x h1)
end
theorem dX11_mend_157 : decode cX11_mend 157 = .ok (.iconst (-1), 1) := by decide +kernel
theorem dX11_mend_158 : decode cX11_mend 158 = .ok (.if_icmp .ne 12, 3) := by decide +kernel
theorem dX11_mend_170 : decode cX11_mend 170 = .ok (.aload_n 0, 1) := by decide +kernel
theorem dX11_mend_171 : decode cX11_mend 171 = .ok (.aload_n 0, 1) := by decide +kernel
theorem dX11_mend_172 : decode cX11_mend 172 = .ok (.getfield 47, 3) := by decide +kernel
theorem dX11_mend_175 : decode cX11_mend 175 = .ok (.getfield 356, 3) := by decide +kernel
theorem dX11_mend_178 : decode cX11_mend 178 = .ok (.invokevirtual 158, 3) := by decide +kernel
theorem dX11_mend_181 : decode cX11_mend 181 = .ok (.ireturn, 1) := by decide +kernel
theorem dX11_mend_161 : decode cX11_mend 161 = .ok (.aload_n 0, 1) := by decide +kernel
theorem dX11_mend_162 : decode cX11_mend 162 = .ok (.bipush 6, 2) := by decide +kernel
theorem dX11_mend_164 : decode cX11_mend 164 = .ok (.invokevirtual 140, 3) := by decide +kernel
theorem dX11_mend_167 : decode cX11_mend 167 = .ok (.goto 14, 3) := by decide +kernel
theorem dX11_mend_73 : decode cX11_mend 73 = .ok (.if_icmp .ge 30, 3) := by decide +kernel
theorem dX11_mend_103 : decode cX11_mend 103 = .ok (.aload_n 0, 1) := by decide +kernel
theorem dX11_mend_104 : decode cX11_mend 104 = .ok (.getfield 47, 3) := by decide +kernel
theorem dX11_mend_107 : decode cX11_mend 107 = .ok (.aload_n 0, 1) := by decide +kernel
theorem dX11_mend_108 : decode cX11_mend 108 = .ok (.getfield 29, 3) := by decide +kernel
theorem dX11_mend_111 : decode cX11_mend 111 = .ok (.iload_n 3, 1) := by decide +kernel
theorem dX11_mend_112 : decode cX11_mend 112 = .ok (.aload_n 0, 1) := by decide +kernel
theorem dX11_mend_113 : decode cX11_mend 113 = .ok (.getfield 29, 3) := by decide +kernel
theorem dX11_mend_116 : decode cX11_mend 116 = .ok (.getfield 167, 3) := by decide +kernel
theorem dX11_mend_119 : decode cX11_mend 119 = .ok (.iload_n 1, 1) := by decide +kernel
theorem dX11_mend_120 : decode cX11_mend 120 = .ok (.aaload, 1) := by decide +kernel
theorem dX11_mend_121 : decode cX11_mend 121 = .ok (.getfield 216, 3) := by decide +kernel
theorem dX11_mend_124 : decode cX11_mend 124 = .ok (.invokevirtual 350, 3) := by decide +kernel
theorem mw_1379 : Cond.methodLink RX11 350 yX7_mendByTurns ∈ wsL_law := inr_58 _ (List.mem_of_getElem? (i := 11) rfl)
theorem mw_1382 : Cond.code yX7_mendByTurns cX7_mendByTurns 5 none ∈ wsL_law := inr_58 _ (List.mem_of_getElem? (i := 14) rfl)
theorem yk_X7_mendByTurns : xY yX7_mendByTurns RX7 cX7_mendByTurns 5 none 3 := ⟨⟨rfl, by decide +kernel, by decide +kernel, by decide +kernel⟩, mw_32, mw_1382⟩
theorem mw_1380 : Cond.instanceMethod yX7_mendByTurns ∈ wsL_law := inr_58 _ (List.mem_of_getElem? (i := 12) rfl)
theorem mw_1381 : Cond.selects RX7 yX7_mendByTurns yX7_mendByTurns ∈ wsL_law := inr_58 _ (List.mem_of_getElem? (i := 13) rfl)
theorem dX11_mend_76 : decode cX11_mend 76 = .ok (.aload_n 0, 1) := by decide +kernel
theorem dX11_mend_77 : decode cX11_mend 77 = .ok (.getfield 47, 3) := by decide +kernel
theorem dX11_mend_80 : decode cX11_mend 80 = .ok (.aload_n 0, 1) := by decide +kernel
theorem dX11_mend_81 : decode cX11_mend 81 = .ok (.getfield 29, 3) := by decide +kernel
theorem dX11_mend_84 : decode cX11_mend 84 = .ok (.iload_n 3, 1) := by decide +kernel
theorem dX11_mend_85 : decode cX11_mend 85 = .ok (.aload_n 0, 1) := by decide +kernel
theorem dX11_mend_86 : decode cX11_mend 86 = .ok (.getfield 29, 3) := by decide +kernel
theorem dX11_mend_89 : decode cX11_mend 89 = .ok (.getfield 167, 3) := by decide +kernel
theorem dX11_mend_92 : decode cX11_mend 92 = .ok (.iload_n 1, 1) := by decide +kernel
theorem dX11_mend_93 : decode cX11_mend 93 = .ok (.aaload, 1) := by decide +kernel
theorem dX11_mend_94 : decode cX11_mend 94 = .ok (.getfield 184, 3) := by decide +kernel
theorem dX11_mend_97 : decode cX11_mend 97 = .ok (.invokevirtual 346, 3) := by decide +kernel
theorem mw_1369 : Cond.methodLink RX11 346 yX7_mendByRules ∈ wsL_law := inr_58 _ (List.mem_of_getElem? (i := 1) rfl)
theorem mw_1372 : Cond.code yX7_mendByRules cX7_mendByRules 5 none ∈ wsL_law := inr_58 _ (List.mem_of_getElem? (i := 4) rfl)
theorem yk_X7_mendByRules : xY yX7_mendByRules RX7 cX7_mendByRules 5 none 3 := ⟨⟨rfl, by decide +kernel, by decide +kernel, by decide +kernel⟩, mw_32, mw_1372⟩
theorem mw_1370 : Cond.instanceMethod yX7_mendByRules ∈ wsL_law := inr_58 _ (List.mem_of_getElem? (i := 2) rfl)
theorem mw_1371 : Cond.selects RX7 yX7_mendByRules yX7_mendByRules ∈ wsL_law := inr_58 _ (List.mem_of_getElem? (i := 3) rfl)
theorem dX11_mend_100 : decode cX11_mend 100 = .ok (.goto 27, 3) := by decide +kernel
theorem dX11_mend_63 : decode cX11_mend 63 = .ok (.aload_n 0, 1) := by decide +kernel
theorem dX11_mend_64 : decode cX11_mend 64 = .ok (.bipush 6, 2) := by decide +kernel
theorem dX11_mend_66 : decode cX11_mend 66 = .ok (.invokevirtual 140, 3) := by decide +kernel
theorem dX11_mend_69 : decode cX11_mend 69 = .ok (.ireturn, 1) := by decide +kernel
theorem dX11_mend_33 : decode cX11_mend 33 = .ok (.aload_n 0, 1) := by decide +kernel
theorem dX11_mend_34 : decode cX11_mend 34 = .ok (.iload 5, 2) := by decide +kernel
theorem dX11_mend_36 : decode cX11_mend 36 = .ok (.invokevirtual 140, 3) := by decide +kernel
theorem dX11_mend_39 : decode cX11_mend 39 = .ok (.ireturn, 1) := by decide +kernel
def rm_X11_mend : Room := { frames := 7, cells := 0, slots := 0, locals := 176 }
set_option maxHeartbeats 4000000 in
set_option maxRecDepth 100000 in
theorem s_X11_mend (l : Launch) (D : va_G) (cy : Nat → ClassId) (L : List Nat) (R O : Nat → Nat) (f0 : Nat → va_E) (hG : GG L R O f0) (a0 : Nat) (m_a0 : a0 ∈ L) (r_a0 : R a0 = 11) (x1 : Int32) (x2 : Int32) (x3 : Int32) (x4 : Int32) (pre0 : PI L R O f0 a0) : ∀ sz, Met l yX11_mend (Cond.code yX11_mend cX11_mend 6 (some .int) :: wsL_law) rm_X11_mend (va_Pc [.ref a0, .int x1, .int x2, .int x3, .int x4] (tPZ D cy L R (TT cy L R) f0 sz)) (va_Qi (fun (r : Int32) f1 => fr L R [(1, 0), (1, 1), (1, 2), (1, 3), (1, 5), (4, 1), (5, 2), (5, 3), (5, 4), (5, 5), (5, 6), (5, 7), (7, 7), (7, 8), (8, 1), (8, 2), (11, 14)] [1, 4, 5, 7, 8, 11, 23, 24, 25, 26, 27, 34, 51] f0 f1 ∧ KO L R O (rfa f0 (rfa f0 a0 6) 12) f0 f1) (tB D (tA L sz) L R (TT cy L R)) (tA L sz)) 0 0 (tA L sz) := by
  refine tw_enteri (by decide +kernel) rfl (Nat.le_of_ble_eq_true rfl) ?_
  intro p e s m below meth c A ls args Q F hZ h hl hret
  have hl : lv_has ls 6 [(0, .ref a0), (1, .int x1), (2, .int x2), (3, .int x3), (4, .int x4)] := hl
  have hk : fr L R [(1, 0), (1, 1), (1, 2), (1, 3), (1, 5), (4, 1), (5, 2), (5, 3), (5, 4), (5, 5), (5, 6), (5, 7), (7, 7), (7, 8), (8, 1), (8, 2), (11, 14)] [1, 4, 5, 7, 8, 11, 23, 24, 25, 26, 27, 34, 51] f0 f0 := fr.rf
  obtain ⟨a0_search, m_a0_search, r_a0_search, t_a0_search⟩ := h.rf m_a0 r_a0 (fun e q => (T_11 e).mp q) (k := 6) rfl
  obtain ⟨a0_book, m_a0_book, r_a0_book, t_a0_book⟩ := h.rf m_a0 r_a0 (fun e q => (T_11 e).mp q) (k := 3) rfl
  have pre0c := pre0
  have hs6 := rfa_of t_a0_search
  have hs3 := rfa_of t_a0_book
  unfold PI at pre0
  rw [hs6, hs3] at pre0
  have hO : KO L R O (rfa f0 a0_search 12) f0 f0 := KO.rf
  refine lv_iload F.1 F.2.1 dX11_mend_0 (lv_at hl 4 rfl) ?_
  refine tw_if_lt (tgt := 11) F dX11_mend_2 (by decide) (fun b1 => ?_) (fun b1 => ?_)
  · refine lv_aload_n F.1 F.2.1 dX11_mend_11 rfl (lv_at hl 0 rfl) ?_
    refine tw_iconst F dX11_mend_12 ki_1 (fun z2 hz2 => ?_)
    refine tw_Vi (As := [.int z2]) F hZ h yk_X11_refuse mw_378 mw_379 mw_380 (s_X11_refuse l D cy L R O f0 a0 m_a0 r_a0 z2 ⟨by omega, by omega⟩) rfl rfl m_a0 r_a0 (fun e q => (T_11 e).mp q) rfl hl.1 rfl (Nat.le_of_ble_eq_true rfl) ⟨Nat.le_of_ble_eq_true rfl, Nat.le_of_ble_eq_true rfl⟩ ⟨Nat.le_of_ble_eq_true rfl, Nat.le_of_ble_eq_true rfl⟩ dX11_mend_13 (fun v4 f3 H locs hp3 h => ?_)
    obtain ⟨hf3, hv4a, hv4b⟩ := hp3
    have hO : KO L R O (rfa f0 a0_search 12) f0 f3 := KO_fr hO hf3 (by decide +kernel)
    have hk : fr L R [(1, 0), (1, 1), (1, 2), (1, 3), (1, 5), (4, 1), (5, 2), (5, 3), (5, 4), (5, 5), (5, 6), (5, 7), (7, 7), (7, 8), (8, 1), (8, 2), (11, 14)] [1, 4, 5, 7, 8, 11, 23, 24, 25, 26, 27, 34, 51] f0 f3 := hk.tr hf3 rfl rfl
    have e5 : fld f3 a0 6 = .ref a0_search := (hf3.efl m_a0 r_a0 rfl).trans t_a0_search
    have e6 : fld f3 a0 3 = .ref a0_book := (hf3.efl m_a0 r_a0 rfl).trans t_a0_book
    exact hret f3 _ _ _ _ v4 dX11_mend_16 rfl ⟨hk, by rw [hs6]; exact hO⟩ h
  · refine lv_iload F.1 F.2.1 dX11_mend_5 (lv_at hl 4 rfl) ?_
    refine tw_iconst F dX11_mend_7 ki_3 (fun z7 hz7 => ?_)
    refine tw_icmp_le (tgt := 17) F dX11_mend_8 (by decide) (fun b8 => ?_) (fun b8 => ?_)
    · refine lv_aload_n F.1 F.2.1 dX11_mend_17 rfl (lv_at hl 0 rfl) ?_
      refine lv_iload_n F.1 F.2.1 dX11_mend_18 rfl (lv_at hl 1 rfl) ?_
      refine lv_iload_n F.1 F.2.1 dX11_mend_19 rfl (lv_at hl 2 rfl) ?_
      refine lv_iload_n F.1 F.2.1 dX11_mend_20 rfl (lv_at hl 3 rfl) ?_
      refine tw_bipush F dX11_mend_21 kb_16 (fun z9 hz9 => ?_)
      refine tw_Vi (As := [.int x1, .int x2, .int x3, .int z9]) F hZ h yk_X11_linesStatus mw_1140 mw_1141 mw_1142 (s_X11_linesStatus l D cy L R O f0 a0 m_a0 r_a0 x1 x2 x3 z9 ⟨by omega, by omega⟩) rfl rfl m_a0 r_a0 (fun e q => (T_11 e).mp q) rfl hl.1 rfl (Nat.le_of_ble_eq_true rfl) ⟨Nat.le_of_ble_eq_true rfl, Nat.le_of_ble_eq_true rfl⟩ ⟨Nat.le_of_ble_eq_true rfl, Nat.le_of_ble_eq_true rfl⟩ dX11_mend_23 (fun v11 f10 H locs hp10 h => ?_)
      obtain ⟨rfl, hv11a, hv11b, hv11p0⟩ := hp10
      refine lv_istore (lv' := [(5, .int v11), (0, .ref a0), (1, .int x1), (2, .int x2), (3, .int x3), (4, .int x4)]) F.1 F.2.1 dX11_mend_26 hl (by decide) rfl (fun ls hl => ?_)
      refine lv_iload F.1 F.2.1 dX11_mend_28 (lv_at hl 0 rfl) ?_
      refine tw_if_eq (tgt := 40) F dX11_mend_30 (by decide) (fun b12 => ?_) (fun b12 => ?_)
      · have lsn := (hv11p0.resolve_left (by omega)).2
        refine lv_aload_n F.1 F.2.1 dX11_mend_40 rfl (lv_at hl 1 rfl) ?_
        refine lv_iload_n F.1 F.2.1 dX11_mend_41 rfl (lv_at hl 2 rfl) ?_
        refine lv_iload_n F.1 F.2.1 dX11_mend_42 rfl (lv_at hl 3 rfl) ?_
        refine lv_iload_n F.1 F.2.1 dX11_mend_43 rfl (lv_at hl 4 rfl) ?_
        refine tw_Vv (As := [.int x1, .int x2, .int x3]) F hZ h yk_X11_listenTo mw_1151 mw_1152 mw_1153 (s_X11_listenTo l D cy L R O f0 hG a0 m_a0 r_a0 x1 ⟨by omega, by omega⟩ x2 ⟨by omega, by omega⟩ x3 ⟨by omega, by omega⟩ pre0c (hv11p0.resolve_left (by omega)).1) rfl rfl m_a0 r_a0 (fun e q => (T_11 e).mp q) rfl hl.1 rfl (Nat.le_of_ble_eq_true rfl) ⟨Nat.le_of_ble_eq_true rfl, Nat.le_of_ble_eq_true rfl⟩ ⟨Nat.le_of_ble_eq_true rfl, Nat.le_of_ble_eq_true rfl⟩ dX11_mend_44 (fun f13 H locs hp13 h => ?_)
        obtain ⟨hf13, hv14p0⟩ := hp13
        have hO : KO L R O (rfa f0 a0_search 12) f0 f13 := KO_fr hO hf13 (by decide +kernel)
        have hk : fr L R [(1, 0), (1, 1), (1, 2), (1, 3), (1, 5), (4, 1), (5, 2), (5, 3), (5, 4), (5, 5), (5, 6), (5, 7), (7, 7), (7, 8), (8, 1), (8, 2), (11, 14)] [1, 4, 5, 7, 8, 11, 23, 24, 25, 26, 27, 34, 51] f0 f13 := hk.tr hf13 (by decide +kernel) (by decide +kernel)
        have e15 : fld f13 a0 6 = .ref a0_search := (hf13.efl m_a0 r_a0 rfl).trans t_a0_search
        have e16 : fld f13 a0 3 = .ref a0_book := (hf13.efl m_a0 r_a0 rfl).trans t_a0_book
        obtain ⟨b, m_b, r_b, -, hB⟩ := hv14p0
        rw [hs6] at hB
        refine lv_aload_n F.1 F.2.1 dX11_mend_47 rfl (lv_at hl 1 rfl) ?_
        refine g_11_47 F h m_a0 r_a0 dX11_mend_48 (fun o17 m_o17 r_o17 ho17 => ?_)
        obtain rfl := (fld_inj e15 ho17).symm
        refine lv_aload_n F.1 F.2.1 dX11_mend_51 rfl (lv_at hl 1 rfl) ?_
        refine g_11_29 F h m_a0 r_a0 dX11_mend_52 (fun o18 m_o18 r_o18 ho18 => ?_)
        obtain rfl := (fld_inj e16 ho18).symm
        refine lv_iload_n F.1 F.2.1 dX11_mend_55 rfl (lv_at hl 4 rfl) ?_
        have hk0_56 : rfa f13 a0_search 12 = rfa f0 a0_search 12 := hk.erf m_a0_search r_a0_search (by decide +kernel)
        refine tw_Vi (As := [.ref a0_book, .int x3]) F hZ h yk_X7_firstBroke mw_1341 mw_1342 mw_1343 (s_X7_firstBroke l D cy L R O f13 (hG.fr hk (by decide +kernel) (by decide +kernel)) a0_search m_a0_search r_a0_search a0_book m_a0_book r_a0_book x3 ⟨by omega, by omega⟩ ⟨b, m_b, r_b, hB⟩) rfl rfl m_a0_search r_a0_search (fun e q => (T_7 e).mp q) rfl hl.1 rfl (Nat.le_of_ble_eq_true rfl) ⟨Nat.le_of_ble_eq_true rfl, Nat.le_of_ble_eq_true rfl⟩ ⟨Nat.le_of_ble_eq_true rfl, Nat.le_of_ble_eq_true rfl⟩ dX11_mend_56 (fun v20 f19 H locs hp19 h => ?_)
        obtain ⟨hf19, hv20a, hv20b, hv20p0⟩ := hp19
        have hB : SB L R O f19 a0_search (x3.toInt.toNat) b := SB_fr hB (hG.1.fr hk (by decide +kernel)) hf19 (by decide +kernel) m_a0_search r_a0_search m_b r_b
        have hk : fr L R [(1, 0), (1, 1), (1, 2), (1, 3), (1, 5), (4, 1), (5, 2), (5, 3), (5, 4), (5, 5), (5, 6), (5, 7), (7, 7), (7, 8), (8, 1), (8, 2), (11, 14)] [1, 4, 5, 7, 8, 11, 23, 24, 25, 26, 27, 34, 51] f0 f19 := hk.tr hf19 (by decide +kernel) (by decide +kernel)
        have e21 : fld f19 a0 6 = .ref a0_search := (hf19.efl m_a0 r_a0 rfl).trans e15
        have e22 : fld f19 a0 3 = .ref a0_book := (hf19.efl m_a0 r_a0 rfl).trans e16
        have hO : KO L R O (rfa f0 a0_search 12) f0 f19 := hO.tr (by have q := hv20p0; rw [hk0_56] at q; exact q)
        refine tw_iconst F dX11_mend_59 ki_m1 (fun z23 hz23 => ?_)
        refine tw_icmp_ne (tgt := 70) F dX11_mend_60 (by decide) (fun b24 => ?_) (fun b24 => ?_)
        · refine lv_iload F.1 F.2.1 dX11_mend_70 (lv_at hl 5 rfl) ?_
          refine tw_iconst F dX11_mend_72 ki_2 (fun z25 hz25 => ?_)
          have j_127 : ∀ (f26 : Nat → va_E) (H : Heap) (locs : List Loc) (ls : Array Slot), tS D cy A s.heap L R (TT cy L R) f26 s H locs → SB L R O f26 a0_search (x3.toInt.toNat) b → KO L R O (rfa f0 a0_search 12) f0 f26 → fr L R [(1, 0), (1, 1), (1, 2), (1, 3), (1, 5), (4, 1), (5, 2), (5, 3), (5, 4), (5, 5), (5, 6), (5, 7), (7, 7), (7, 8), (8, 1), (8, 2), (11, 14)] [1, 4, 5, 7, 8, 11, 23, 24, 25, 26, 27, 34, 51] f0 f26 → fr L R [(4, 1), (5, 2), (5, 3), (5, 4), (5, 5), (5, 6), (5, 7), (7, 7), (7, 8), (8, 1), (8, 2)] [4, 5, 7, 8, 23, 34, 51] f19 f26 → lv_has ls 6 [(0, .ref a0), (4, .int x4)] → W p l e rm_X11_mend s m args below meth c H locs 0 0 Q (F0 m 127 ls []) := by
            intro f26 H locs ls h hB hO hk hb127 hl
            have e27 : fld f26 a0 6 = .ref a0_search := (hb127.efl m_a0 r_a0 rfl).trans e21
            have e28 : fld f26 a0 3 = .ref a0_book := (hb127.efl m_a0 r_a0 rfl).trans e22
            refine lv_iload F.1 F.2.1 dX11_mend_127 (lv_at hl 1 rfl) ?_
            refine tw_if_eq (tgt := 138) F dX11_mend_129 (by decide) (fun b29 => ?_) (fun b29 => ?_)
            · refine lv_aload_n F.1 F.2.1 dX11_mend_138 rfl (lv_at hl 0 rfl) ?_
              refine lv_aload_n F.1 F.2.1 dX11_mend_139 rfl (lv_at hl 0 rfl) ?_
              refine g_11_47 F h m_a0 r_a0 dX11_mend_140 (fun o30 m_o30 r_o30 ho30 => ?_)
              obtain rfl := (fld_inj e27 ho30).symm
              refine g_11_353 F h m_a0_search r_a0_search dX11_mend_143 (fun v31 hv31 => ?_)
              refine tw_Vi (As := [.int v31]) F hZ h yk_X11_grant mw_442 mw_443 mw_444 (s_X11_grant l D cy L R O f26 a0 m_a0 r_a0 v31) rfl rfl m_a0 r_a0 (fun e q => (T_11 e).mp q) rfl hl.1 rfl (Nat.le_of_ble_eq_true rfl) ⟨Nat.le_of_ble_eq_true rfl, Nat.le_of_ble_eq_true rfl⟩ ⟨Nat.le_of_ble_eq_true rfl, Nat.le_of_ble_eq_true rfl⟩ dX11_mend_146 (fun v33 f32 H locs hp32 h => ?_)
              have hf32 := hp32
              have hB : SB L R O f32 a0_search (x3.toInt.toNat) b := SB_fr hB (hG.1.fr hk (by decide +kernel)) hf32 (by decide +kernel) m_a0_search r_a0_search m_b r_b
              have hO : KO L R O (rfa f0 a0_search 12) f0 f32 := KO_fr hO hf32 (by decide +kernel)
              have hk : fr L R [(1, 0), (1, 1), (1, 2), (1, 3), (1, 5), (4, 1), (5, 2), (5, 3), (5, 4), (5, 5), (5, 6), (5, 7), (7, 7), (7, 8), (8, 1), (8, 2), (11, 14)] [1, 4, 5, 7, 8, 11, 23, 24, 25, 26, 27, 34, 51] f0 f32 := hk.tr hf32 rfl rfl
              have e34 : fld f32 a0 6 = .ref a0_search := (hf32.efl m_a0 r_a0 rfl).trans e27
              have e35 : fld f32 a0 3 = .ref a0_book := (hf32.efl m_a0 r_a0 rfl).trans e28
              exact hret f32 _ _ _ _ v33 dX11_mend_149 rfl ⟨hk, by rw [hs6]; exact hO⟩ h
            · refine lv_iload F.1 F.2.1 dX11_mend_132 (lv_at hl 1 rfl) ?_
              refine tw_iconst F dX11_mend_134 ki_2 (fun z36 hz36 => ?_)
              refine tw_icmp_ne (tgt := 150) F dX11_mend_135 (by decide) (fun b37 => ?_) (fun b37 => ?_)
              · refine lv_aload_n F.1 F.2.1 dX11_mend_150 rfl (lv_at hl 0 rfl) ?_
                refine g_11_47 F h m_a0 r_a0 dX11_mend_151 (fun o38 m_o38 r_o38 ho38 => ?_)
                obtain rfl := (fld_inj e27 ho38).symm
                refine g_11_356 F h m_a0_search r_a0_search dX11_mend_154 (fun v39 hv39 => ?_)
                refine tw_iconst F dX11_mend_157 ki_m1 (fun z40 hz40 => ?_)
                refine tw_icmp_ne (tgt := 170) F dX11_mend_158 (by decide) (fun b41 => ?_) (fun b41 => ?_)
                · refine lv_aload_n F.1 F.2.1 dX11_mend_170 rfl (lv_at hl 0 rfl) ?_
                  refine lv_aload_n F.1 F.2.1 dX11_mend_171 rfl (lv_at hl 0 rfl) ?_
                  refine g_11_47 F h m_a0 r_a0 dX11_mend_172 (fun o42 m_o42 r_o42 ho42 => ?_)
                  obtain rfl := (fld_inj e27 ho42).symm
                  refine g_11_356 F h m_a0_search r_a0_search dX11_mend_175 (fun v43 hv43 => ?_)
                  refine tw_Vi (As := [.int v43]) F hZ h yk_X11_grant mw_442 mw_443 mw_444 (s_X11_grant l D cy L R O f26 a0 m_a0 r_a0 v43) rfl rfl m_a0 r_a0 (fun e q => (T_11 e).mp q) rfl hl.1 rfl (Nat.le_of_ble_eq_true rfl) ⟨Nat.le_of_ble_eq_true rfl, Nat.le_of_ble_eq_true rfl⟩ ⟨Nat.le_of_ble_eq_true rfl, Nat.le_of_ble_eq_true rfl⟩ dX11_mend_178 (fun v45 f44 H locs hp44 h => ?_)
                  have hf44 := hp44
                  have hB : SB L R O f44 a0_search (x3.toInt.toNat) b := SB_fr hB (hG.1.fr hk (by decide +kernel)) hf44 (by decide +kernel) m_a0_search r_a0_search m_b r_b
                  have hO : KO L R O (rfa f0 a0_search 12) f0 f44 := KO_fr hO hf44 (by decide +kernel)
                  have hk : fr L R [(1, 0), (1, 1), (1, 2), (1, 3), (1, 5), (4, 1), (5, 2), (5, 3), (5, 4), (5, 5), (5, 6), (5, 7), (7, 7), (7, 8), (8, 1), (8, 2), (11, 14)] [1, 4, 5, 7, 8, 11, 23, 24, 25, 26, 27, 34, 51] f0 f44 := hk.tr hf44 rfl rfl
                  have e46 : fld f44 a0 6 = .ref a0_search := (hf44.efl m_a0 r_a0 rfl).trans e27
                  have e47 : fld f44 a0 3 = .ref a0_book := (hf44.efl m_a0 r_a0 rfl).trans e28
                  have e48 : fi f44 a0_search 8 = fi f26 a0_search 8 := hf44.efi m_a0_search r_a0_search rfl
                  exact hret f44 _ _ _ _ v45 dX11_mend_181 rfl ⟨hk, by rw [hs6]; exact hO⟩ h
                · refine lv_aload_n F.1 F.2.1 dX11_mend_161 rfl (lv_at hl 0 rfl) ?_
                  refine tw_bipush F dX11_mend_162 kb_6 (fun z49 hz49 => ?_)
                  refine tw_Vi (As := [.int z49]) F hZ h yk_X11_refuse mw_378 mw_379 mw_380 (s_X11_refuse l D cy L R O f26 a0 m_a0 r_a0 z49 ⟨by omega, by omega⟩) rfl rfl m_a0 r_a0 (fun e q => (T_11 e).mp q) rfl hl.1 rfl (Nat.le_of_ble_eq_true rfl) ⟨Nat.le_of_ble_eq_true rfl, Nat.le_of_ble_eq_true rfl⟩ ⟨Nat.le_of_ble_eq_true rfl, Nat.le_of_ble_eq_true rfl⟩ dX11_mend_164 (fun v51 f50 H locs hp50 h => ?_)
                  obtain ⟨hf50, hv51a, hv51b⟩ := hp50
                  have hB : SB L R O f50 a0_search (x3.toInt.toNat) b := SB_fr hB (hG.1.fr hk (by decide +kernel)) hf50 (by decide +kernel) m_a0_search r_a0_search m_b r_b
                  have hO : KO L R O (rfa f0 a0_search 12) f0 f50 := KO_fr hO hf50 (by decide +kernel)
                  have hk : fr L R [(1, 0), (1, 1), (1, 2), (1, 3), (1, 5), (4, 1), (5, 2), (5, 3), (5, 4), (5, 5), (5, 6), (5, 7), (7, 7), (7, 8), (8, 1), (8, 2), (11, 14)] [1, 4, 5, 7, 8, 11, 23, 24, 25, 26, 27, 34, 51] f0 f50 := hk.tr hf50 rfl rfl
                  have e52 : fld f50 a0 6 = .ref a0_search := (hf50.efl m_a0 r_a0 rfl).trans e27
                  have e53 : fld f50 a0 3 = .ref a0_book := (hf50.efl m_a0 r_a0 rfl).trans e28
                  have e54 : fi f50 a0_search 8 = fi f26 a0_search 8 := hf50.efi m_a0_search r_a0_search rfl
                  refine lv_goto (tgt := 181) F.1 F.2.1 dX11_mend_167 (by decide) ?_
                  exact hret f50 _ _ _ _ v51 dX11_mend_181 rfl ⟨hk, by rw [hs6]; exact hO⟩ h
              · refine lv_aload_n F.1 F.2.1 dX11_mend_138 rfl (lv_at hl 0 rfl) ?_
                refine lv_aload_n F.1 F.2.1 dX11_mend_139 rfl (lv_at hl 0 rfl) ?_
                refine g_11_47 F h m_a0 r_a0 dX11_mend_140 (fun o55 m_o55 r_o55 ho55 => ?_)
                obtain rfl := (fld_inj e27 ho55).symm
                refine g_11_353 F h m_a0_search r_a0_search dX11_mend_143 (fun v56 hv56 => ?_)
                refine tw_Vi (As := [.int v56]) F hZ h yk_X11_grant mw_442 mw_443 mw_444 (s_X11_grant l D cy L R O f26 a0 m_a0 r_a0 v56) rfl rfl m_a0 r_a0 (fun e q => (T_11 e).mp q) rfl hl.1 rfl (Nat.le_of_ble_eq_true rfl) ⟨Nat.le_of_ble_eq_true rfl, Nat.le_of_ble_eq_true rfl⟩ ⟨Nat.le_of_ble_eq_true rfl, Nat.le_of_ble_eq_true rfl⟩ dX11_mend_146 (fun v58 f57 H locs hp57 h => ?_)
                have hf57 := hp57
                have hB : SB L R O f57 a0_search (x3.toInt.toNat) b := SB_fr hB (hG.1.fr hk (by decide +kernel)) hf57 (by decide +kernel) m_a0_search r_a0_search m_b r_b
                have hO : KO L R O (rfa f0 a0_search 12) f0 f57 := KO_fr hO hf57 (by decide +kernel)
                have hk : fr L R [(1, 0), (1, 1), (1, 2), (1, 3), (1, 5), (4, 1), (5, 2), (5, 3), (5, 4), (5, 5), (5, 6), (5, 7), (7, 7), (7, 8), (8, 1), (8, 2), (11, 14)] [1, 4, 5, 7, 8, 11, 23, 24, 25, 26, 27, 34, 51] f0 f57 := hk.tr hf57 rfl rfl
                have e59 : fld f57 a0 6 = .ref a0_search := (hf57.efl m_a0 r_a0 rfl).trans e27
                have e60 : fld f57 a0 3 = .ref a0_book := (hf57.efl m_a0 r_a0 rfl).trans e28
                exact hret f57 _ _ _ _ v58 dX11_mend_149 rfl ⟨hk, by rw [hs6]; exact hO⟩ h
          have hb127 : fr L R [(4, 1), (5, 2), (5, 3), (5, 4), (5, 5), (5, 6), (5, 7), (7, 7), (7, 8), (8, 1), (8, 2)] [4, 5, 7, 8, 23, 34, 51] f19 f19 := fr.rf
          refine tw_icmp_ge (tgt := 103) F dX11_mend_73 (by decide) (fun b61 => ?_) (fun b61 => ?_)
          · refine lv_aload_n F.1 F.2.1 dX11_mend_103 rfl (lv_at hl 1 rfl) ?_
            refine g_11_47 F h m_a0 r_a0 dX11_mend_104 (fun o62 m_o62 r_o62 ho62 => ?_)
            obtain rfl := (fld_inj e21 ho62).symm
            refine lv_aload_n F.1 F.2.1 dX11_mend_107 rfl (lv_at hl 1 rfl) ?_
            refine g_11_29 F h m_a0 r_a0 dX11_mend_108 (fun o63 m_o63 r_o63 ho63 => ?_)
            obtain rfl := (fld_inj e22 ho63).symm
            refine lv_iload_n F.1 F.2.1 dX11_mend_111 rfl (lv_at hl 4 rfl) ?_
            refine lv_aload_n F.1 F.2.1 dX11_mend_112 rfl (lv_at hl 1 rfl) ?_
            refine g_11_29 F h m_a0 r_a0 dX11_mend_113 (fun o64 m_o64 r_o64 ho64 => ?_)
            obtain rfl := (fld_inj e22 ho64).symm
            refine g_11_167 F h m_a0_book r_a0_book dX11_mend_116 (fun o65 m_o65 r_o65 ho65 => ?_)
            refine lv_iload_n F.1 F.2.1 dX11_mend_119 rfl (lv_at hl 2 rfl) ?_
            refine ld_20 F h m_o65 r_o65 (by omega) dX11_mend_120 (fun o66 m_o66 r_o66 => ?_)
            refine g_11_216 F h m_o66 r_o66 dX11_mend_121 (fun v67 hv67 hv67a hv67b => ?_)
            have hk0_124 : rfa f19 a0_search 12 = rfa f0 a0_search 12 := hk.erf m_a0_search r_a0_search (by decide +kernel)
            refine tw_Vv (As := [.ref a0_book, .int x3, .int v67]) F hZ h yk_X7_mendByTurns mw_1379 mw_1380 mw_1381 (s_X7_mendByTurns l D cy L R O f19 (hG.fr hk (by decide +kernel) (by decide +kernel)) a0_search m_a0_search r_a0_search a0_book m_a0_book r_a0_book x3 ⟨by omega, by omega⟩ v67 ⟨by omega, by omega⟩ ⟨b, m_b, r_b, hB⟩) rfl rfl m_a0_search r_a0_search (fun e q => (T_7 e).mp q) rfl hl.1 rfl (Nat.le_of_ble_eq_true rfl) ⟨Nat.le_of_ble_eq_true rfl, Nat.le_of_ble_eq_true rfl⟩ ⟨Nat.le_of_ble_eq_true rfl, Nat.le_of_ble_eq_true rfl⟩ dX11_mend_124 (fun f68 H locs hp68 h => ?_)
            obtain ⟨hf68, hv69p0⟩ := hp68
            have hB : SB L R O f68 a0_search (x3.toInt.toNat) b := SB_fr hB (hG.1.fr hk (by decide +kernel)) hf68 (by decide +kernel) m_a0_search r_a0_search m_b r_b
            have hk : fr L R [(1, 0), (1, 1), (1, 2), (1, 3), (1, 5), (4, 1), (5, 2), (5, 3), (5, 4), (5, 5), (5, 6), (5, 7), (7, 7), (7, 8), (8, 1), (8, 2), (11, 14)] [1, 4, 5, 7, 8, 11, 23, 24, 25, 26, 27, 34, 51] f0 f68 := hk.tr hf68 (by decide +kernel) (by decide +kernel)
            have hb127 : fr L R [(4, 1), (5, 2), (5, 3), (5, 4), (5, 5), (5, 6), (5, 7), (7, 7), (7, 8), (8, 1), (8, 2)] [4, 5, 7, 8, 23, 34, 51] f19 f68 := hb127.tr hf68 (by decide +kernel) (by decide +kernel)
            have e70 : fld f68 a0 6 = .ref a0_search := (hf68.efl m_a0 r_a0 rfl).trans e21
            have e71 : fld f68 a0 3 = .ref a0_book := (hf68.efl m_a0 r_a0 rfl).trans e22
            have hO : KO L R O (rfa f0 a0_search 12) f0 f68 := hO.tr (by have q := hv69p0; rw [hk0_124] at q; exact q)
            exact j_127 f68 _ _ _ h hB hO hk hb127 (lv_sub hl [1, 5] rfl)
          · refine lv_aload_n F.1 F.2.1 dX11_mend_76 rfl (lv_at hl 1 rfl) ?_
            refine g_11_47 F h m_a0 r_a0 dX11_mend_77 (fun o72 m_o72 r_o72 ho72 => ?_)
            obtain rfl := (fld_inj e21 ho72).symm
            refine lv_aload_n F.1 F.2.1 dX11_mend_80 rfl (lv_at hl 1 rfl) ?_
            refine g_11_29 F h m_a0 r_a0 dX11_mend_81 (fun o73 m_o73 r_o73 ho73 => ?_)
            obtain rfl := (fld_inj e22 ho73).symm
            refine lv_iload_n F.1 F.2.1 dX11_mend_84 rfl (lv_at hl 4 rfl) ?_
            refine lv_aload_n F.1 F.2.1 dX11_mend_85 rfl (lv_at hl 1 rfl) ?_
            refine g_11_29 F h m_a0 r_a0 dX11_mend_86 (fun o74 m_o74 r_o74 ho74 => ?_)
            obtain rfl := (fld_inj e22 ho74).symm
            refine g_11_167 F h m_a0_book r_a0_book dX11_mend_89 (fun o75 m_o75 r_o75 ho75 => ?_)
            refine lv_iload_n F.1 F.2.1 dX11_mend_92 rfl (lv_at hl 2 rfl) ?_
            refine ld_20 F h m_o75 r_o75 (by omega) dX11_mend_93 (fun o76 m_o76 r_o76 => ?_)
            refine g_11_184 F h m_o76 r_o76 dX11_mend_94 (fun v77 hv77 hv77a hv77b => ?_)
            have hk0_97 : rfa f19 a0_search 12 = rfa f0 a0_search 12 := hk.erf m_a0_search r_a0_search (by decide +kernel)
            refine tw_Vv (As := [.ref a0_book, .int x3, .int v77]) F hZ h yk_X7_mendByRules mw_1369 mw_1370 mw_1371 (s_X7_mendByRules l D cy L R O f19 (hG.fr hk (by decide +kernel) (by decide +kernel)) a0_search m_a0_search r_a0_search a0_book m_a0_book r_a0_book x3 ⟨by omega, by omega⟩ v77 ⟨by omega, by omega⟩ ⟨b, m_b, r_b, hB⟩) rfl rfl m_a0_search r_a0_search (fun e q => (T_7 e).mp q) rfl hl.1 rfl (Nat.le_of_ble_eq_true rfl) ⟨Nat.le_of_ble_eq_true rfl, Nat.le_of_ble_eq_true rfl⟩ ⟨Nat.le_of_ble_eq_true rfl, Nat.le_of_ble_eq_true rfl⟩ dX11_mend_97 (fun f78 H locs hp78 h => ?_)
            obtain ⟨hf78, hv79p0⟩ := hp78
            have hB : SB L R O f78 a0_search (x3.toInt.toNat) b := SB_fr hB (hG.1.fr hk (by decide +kernel)) hf78 (by decide +kernel) m_a0_search r_a0_search m_b r_b
            have hk : fr L R [(1, 0), (1, 1), (1, 2), (1, 3), (1, 5), (4, 1), (5, 2), (5, 3), (5, 4), (5, 5), (5, 6), (5, 7), (7, 7), (7, 8), (8, 1), (8, 2), (11, 14)] [1, 4, 5, 7, 8, 11, 23, 24, 25, 26, 27, 34, 51] f0 f78 := hk.tr hf78 (by decide +kernel) (by decide +kernel)
            have hb127 : fr L R [(4, 1), (5, 2), (5, 3), (5, 4), (5, 5), (5, 6), (5, 7), (7, 7), (7, 8), (8, 1), (8, 2)] [4, 5, 7, 8, 23, 34, 51] f19 f78 := hb127.tr hf78 (by decide +kernel) (by decide +kernel)
            have e80 : fld f78 a0 6 = .ref a0_search := (hf78.efl m_a0 r_a0 rfl).trans e21
            have e81 : fld f78 a0 3 = .ref a0_book := (hf78.efl m_a0 r_a0 rfl).trans e22
            have hO : KO L R O (rfa f0 a0_search 12) f0 f78 := hO.tr (by have q := hv79p0; rw [hk0_97] at q; exact q)
            refine lv_goto (tgt := 127) F.1 F.2.1 dX11_mend_100 (by decide) ?_
            exact j_127 f78 _ _ _ h hB hO hk hb127 (lv_sub hl [1, 5] rfl)
        · refine lv_aload_n F.1 F.2.1 dX11_mend_63 rfl (lv_at hl 1 rfl) ?_
          refine tw_bipush F dX11_mend_64 kb_6 (fun z82 hz82 => ?_)
          refine tw_Vi (As := [.int z82]) F hZ h yk_X11_refuse mw_378 mw_379 mw_380 (s_X11_refuse l D cy L R O f19 a0 m_a0 r_a0 z82 ⟨by omega, by omega⟩) rfl rfl m_a0 r_a0 (fun e q => (T_11 e).mp q) rfl hl.1 rfl (Nat.le_of_ble_eq_true rfl) ⟨Nat.le_of_ble_eq_true rfl, Nat.le_of_ble_eq_true rfl⟩ ⟨Nat.le_of_ble_eq_true rfl, Nat.le_of_ble_eq_true rfl⟩ dX11_mend_66 (fun v84 f83 H locs hp83 h => ?_)
          obtain ⟨hf83, hv84a, hv84b⟩ := hp83
          have hB : SB L R O f83 a0_search (x3.toInt.toNat) b := SB_fr hB (hG.1.fr hk (by decide +kernel)) hf83 (by decide +kernel) m_a0_search r_a0_search m_b r_b
          have hO : KO L R O (rfa f0 a0_search 12) f0 f83 := KO_fr hO hf83 (by decide +kernel)
          have hk : fr L R [(1, 0), (1, 1), (1, 2), (1, 3), (1, 5), (4, 1), (5, 2), (5, 3), (5, 4), (5, 5), (5, 6), (5, 7), (7, 7), (7, 8), (8, 1), (8, 2), (11, 14)] [1, 4, 5, 7, 8, 11, 23, 24, 25, 26, 27, 34, 51] f0 f83 := hk.tr hf83 rfl rfl
          have e85 : fld f83 a0 6 = .ref a0_search := (hf83.efl m_a0 r_a0 rfl).trans e21
          have e86 : fld f83 a0 3 = .ref a0_book := (hf83.efl m_a0 r_a0 rfl).trans e22
          exact hret f83 _ _ _ _ v84 dX11_mend_69 rfl ⟨hk, by rw [hs6]; exact hO⟩ h
      · refine lv_aload_n F.1 F.2.1 dX11_mend_33 rfl (lv_at hl 1 rfl) ?_
        refine lv_iload F.1 F.2.1 dX11_mend_34 (lv_at hl 0 rfl) ?_
        refine tw_Vi (As := [.int v11]) F hZ h yk_X11_refuse mw_378 mw_379 mw_380 (s_X11_refuse l D cy L R O f0 a0 m_a0 r_a0 v11 ⟨by omega, by omega⟩) rfl rfl m_a0 r_a0 (fun e q => (T_11 e).mp q) rfl hl.1 rfl (Nat.le_of_ble_eq_true rfl) ⟨Nat.le_of_ble_eq_true rfl, Nat.le_of_ble_eq_true rfl⟩ ⟨Nat.le_of_ble_eq_true rfl, Nat.le_of_ble_eq_true rfl⟩ dX11_mend_36 (fun v88 f87 H locs hp87 h => ?_)
        obtain ⟨hf87, hv88a, hv88b⟩ := hp87
        have hO : KO L R O (rfa f0 a0_search 12) f0 f87 := KO_fr hO hf87 (by decide +kernel)
        have hk : fr L R [(1, 0), (1, 1), (1, 2), (1, 3), (1, 5), (4, 1), (5, 2), (5, 3), (5, 4), (5, 5), (5, 6), (5, 7), (7, 7), (7, 8), (8, 1), (8, 2), (11, 14)] [1, 4, 5, 7, 8, 11, 23, 24, 25, 26, 27, 34, 51] f0 f87 := hk.tr hf87 rfl rfl
        have e89 : fld f87 a0 6 = .ref a0_search := (hf87.efl m_a0 r_a0 rfl).trans t_a0_search
        have e90 : fld f87 a0 3 = .ref a0_book := (hf87.efl m_a0 r_a0 rfl).trans t_a0_book
        exact hret f87 _ _ _ _ v88 dX11_mend_39 rfl ⟨hk, by rw [hs6]; exact hO⟩ h
    · refine lv_aload_n F.1 F.2.1 dX11_mend_11 rfl (lv_at hl 0 rfl) ?_
      refine tw_iconst F dX11_mend_12 ki_1 (fun z91 hz91 => ?_)
      refine tw_Vi (As := [.int z91]) F hZ h yk_X11_refuse mw_378 mw_379 mw_380 (s_X11_refuse l D cy L R O f0 a0 m_a0 r_a0 z91 ⟨by omega, by omega⟩) rfl rfl m_a0 r_a0 (fun e q => (T_11 e).mp q) rfl hl.1 rfl (Nat.le_of_ble_eq_true rfl) ⟨Nat.le_of_ble_eq_true rfl, Nat.le_of_ble_eq_true rfl⟩ ⟨Nat.le_of_ble_eq_true rfl, Nat.le_of_ble_eq_true rfl⟩ dX11_mend_13 (fun v93 f92 H locs hp92 h => ?_)
      obtain ⟨hf92, hv93a, hv93b⟩ := hp92
      have hO : KO L R O (rfa f0 a0_search 12) f0 f92 := KO_fr hO hf92 (by decide +kernel)
      have hk : fr L R [(1, 0), (1, 1), (1, 2), (1, 3), (1, 5), (4, 1), (5, 2), (5, 3), (5, 4), (5, 5), (5, 6), (5, 7), (7, 7), (7, 8), (8, 1), (8, 2), (11, 14)] [1, 4, 5, 7, 8, 11, 23, 24, 25, 26, 27, 34, 51] f0 f92 := hk.tr hf92 rfl rfl
      have e94 : fld f92 a0 6 = .ref a0_search := (hf92.efl m_a0 r_a0 rfl).trans t_a0_search
      have e95 : fld f92 a0 3 = .ref a0_book := (hf92.efl m_a0 r_a0 rfl).trans t_a0_book
      exact hret f92 _ _ _ _ v93 dX11_mend_16 rfl ⟨hk, by rw [hs6]; exact hO⟩ h
theorem dX11_lead_0 : decode cX11_lead 0 = .ok (.aload_n 0, 1) := by decide +kernel
theorem dX11_lead_1 : decode cX11_lead 1 = .ok (.iload 4, 2) := by decide +kernel
theorem dX11_lead_3 : decode cX11_lead 3 = .ok (.i2l, 1) := by decide +kernel
theorem dX11_lead_4 : decode cX11_lead 4 = .ok (.invokevirtual 201, 3) := by decide +kernel
theorem dX11_lead_7 : decode cX11_lead 7 = .ok (.ifCond .ne 9, 3) := by decide +kernel
theorem dX11_lead_16 : decode cX11_lead 16 = .ok (.aload_n 0, 1) := by decide +kernel
theorem dX11_lead_17 : decode cX11_lead 17 = .ok (.iload_n 1, 1) := by decide +kernel
theorem dX11_lead_18 : decode cX11_lead 18 = .ok (.iload_n 2, 1) := by decide +kernel
theorem dX11_lead_19 : decode cX11_lead 19 = .ok (.iload_n 3, 1) := by decide +kernel
theorem dX11_lead_20 : decode cX11_lead 20 = .ok (.bipush 6, 2) := by decide +kernel
theorem dX11_lead_22 : decode cX11_lead 22 = .ok (.invokevirtual 297, 3) := by decide +kernel
theorem dX11_lead_25 : decode cX11_lead 25 = .ok (.istore 5, 2) := by decide +kernel
theorem dX11_lead_27 : decode cX11_lead 27 = .ok (.iload 5, 2) := by decide +kernel
theorem dX11_lead_29 : decode cX11_lead 29 = .ok (.ifCond .eq 10, 3) := by decide +kernel
theorem dX11_lead_39 : decode cX11_lead 39 = .ok (.aload_n 0, 1) := by decide +kernel
theorem dX11_lead_40 : decode cX11_lead 40 = .ok (.iload_n 1, 1) := by decide +kernel
theorem dX11_lead_41 : decode cX11_lead 41 = .ok (.iload_n 2, 1) := by decide +kernel
theorem dX11_lead_42 : decode cX11_lead 42 = .ok (.iload_n 3, 1) := by decide +kernel
theorem dX11_lead_43 : decode cX11_lead 43 = .ok (.invokevirtual 301, 3) := by decide +kernel
theorem dX11_lead_46 : decode cX11_lead 46 = .ok (.aload_n 0, 1) := by decide +kernel
theorem dX11_lead_47 : decode cX11_lead 47 = .ok (.getfield 47, 3) := by decide +kernel
theorem dX11_lead_50 : decode cX11_lead 50 = .ok (.iload_n 3, 1) := by decide +kernel
theorem dX11_lead_51 : decode cX11_lead 51 = .ok (.aload_n 0, 1) := by decide +kernel
theorem dX11_lead_52 : decode cX11_lead 52 = .ok (.getfield 29, 3) := by decide +kernel
theorem dX11_lead_55 : decode cX11_lead 55 = .ok (.getfield 205, 3) := by decide +kernel
theorem dX11_lead_58 : decode cX11_lead 58 = .ok (.iload 4, 2) := by decide +kernel
theorem dX11_lead_60 : decode cX11_lead 60 = .ok (.aaload, 1) := by decide +kernel
theorem dX11_lead_61 : decode cX11_lead 61 = .ok (.invokevirtual 315, 3) := by decide +kernel
theorem mw_1211 : Cond.methodLink RX11 315 yX7_shortest ∈ wsL_law := inr_51 _ (List.mem_of_getElem? (i := 11) rfl)
theorem mw_1214 : Cond.code yX7_shortest cX7_shortest 4 (some .int) ∈ wsL_law := inr_51 _ (List.mem_of_getElem? (i := 14) rfl)
theorem yk_X7_shortest : xY yX7_shortest RX7 cX7_shortest 4 (some .int) 2 := ⟨⟨rfl, by decide +kernel, by decide +kernel, by decide +kernel⟩, mw_32, mw_1214⟩
theorem mw_1212 : Cond.instanceMethod yX7_shortest ∈ wsL_law := inr_51 _ (List.mem_of_getElem? (i := 12) rfl)
theorem mw_1213 : Cond.selects RX7 yX7_shortest yX7_shortest ∈ wsL_law := inr_51 _ (List.mem_of_getElem? (i := 13) rfl)
theorem dX11_lead_64 : decode cX11_lead 64 = .ok (.istore 6, 2) := by decide +kernel
theorem dX11_lead_66 : decode cX11_lead 66 = .ok (.iload 6, 2) := by decide +kernel
theorem dX11_lead_68 : decode cX11_lead 68 = .ok (.iconst (-1), 1) := by decide +kernel
theorem dX11_lead_69 : decode cX11_lead 69 = .ok (.if_icmp .ne 10, 3) := by decide +kernel
theorem dX11_lead_79 : decode cX11_lead 79 = .ok (.iconst 0, 1) := by decide +kernel
theorem dX11_lead_80 : decode cX11_lead 80 = .ok (.istore 7, 2) := by decide +kernel
theorem dX11_lead_82 : decode cX11_lead 82 = .ok (.iload 7, 2) := by decide +kernel
theorem dX11_lead_84 : decode cX11_lead 84 = .ok (.iload 6, 2) := by decide +kernel
theorem dX11_lead_86 : decode cX11_lead 86 = .ok (.if_icmp .ge 39, 3) := by decide +kernel
theorem dX11_lead_125 : decode cX11_lead 125 = .ok (.aload_n 0, 1) := by decide +kernel
theorem dX11_lead_126 : decode cX11_lead 126 = .ok (.getfield 47, 3) := by decide +kernel
theorem dX11_lead_129 : decode cX11_lead 129 = .ok (.iload 6, 2) := by decide +kernel
theorem dX11_lead_131 : decode cX11_lead 131 = .ok (.putfield 325, 3) := by decide +kernel
section
variable {p : Program} {l : Launch} {e : Env} {R0 : Room} {s : State} {m : MethodId} {args : Array Value} {below : List Frame} {meth : Method} {c : Code} {H H0 : Heap} {locs : List Loc} {cells slots : Nat} {Q : State → Prop} {cc : ByteArray} {nL : Nat} {D : va_G} {cy : Nat → ClassId} {A : Nat → Prop} {L : List Nat} {R : Nat → Nat} {f : Nat → va_E} {pc : Nat} {ls : Array Slot} {rest : List Value} {a : Nat}
theorem p_11_325 (F : CallFix p m c cc nL s args wsL_law RX11) (h : tS D cy A H0 L R (TT cy L R) f s H locs) {x : Int32} (ha : a ∈ L) (hr : R a = 7) (hv : 0 ≤ x.toInt ∧ x.toInt ≤ 5) (hdg : decode cc pc = .ok (.putfield 325, 3)) (kk : ∀ (f1 : Nat → va_E) (H1 : Heap) (locs1 : List Loc), fi f1 a 4 = x.toInt → fr L R [(7, 4)] [7] f f1 → tS D cy A H0 L R (TT cy L R) f1 s H1 locs1 → W p l e R0 s m args below meth c H1 locs1 cells slots Q (F0 m (pc + 3) ls (rest))) : W p l e R0 s m args below meth c H locs cells slots Q (F0 m pc ls (.int x :: .ref a :: rest)) := tu_puti (k := 4) F h ha hr T_7 rfl hv.1 hv.2 inlX7 tyX7_ok nmX7 rfl (Nat.le_of_ble_eq_true rfl) mw_1210 rfl rfl rfl hdg kk
end
theorem dX11_lead_134 : decode cX11_lead 134 = .ok (.aload_n 0, 1) := by decide +kernel
theorem dX11_lead_135 : decode cX11_lead 135 = .ok (.iload 6, 2) := by decide +kernel
theorem dX11_lead_137 : decode cX11_lead 137 = .ok (.invokevirtual 158, 3) := by decide +kernel
theorem dX11_lead_140 : decode cX11_lead 140 = .ok (.ireturn, 1) := by decide +kernel
theorem dX11_lead_89 : decode cX11_lead 89 = .ok (.aload_n 0, 1) := by decide +kernel
theorem dX11_lead_90 : decode cX11_lead 90 = .ok (.getfield 47, 3) := by decide +kernel
theorem dX11_lead_93 : decode cX11_lead 93 = .ok (.getfield 319, 3) := by decide +kernel
theorem dX11_lead_96 : decode cX11_lead 96 = .ok (.iload 7, 2) := by decide +kernel
theorem dX11_lead_98 : decode cX11_lead 98 = .ok (.aload_n 0, 1) := by decide +kernel
theorem dX11_lead_99 : decode cX11_lead 99 = .ok (.getfield 11, 3) := by decide +kernel
theorem dX11_lead_102 : decode cX11_lead 102 = .ok (.iload_n 2, 1) := by decide +kernel
theorem dX11_lead_103 : decode cX11_lead 103 = .ok (.aaload, 1) := by decide +kernel
theorem dX11_lead_104 : decode cX11_lead 104 = .ok (.aload_n 0, 1) := by decide +kernel
theorem dX11_lead_105 : decode cX11_lead 105 = .ok (.getfield 47, 3) := by decide +kernel
theorem dX11_lead_108 : decode cX11_lead 108 = .ok (.getfield 322, 3) := by decide +kernel
theorem mw_1209 : Cond.fieldLink RX11 322 "AskBack$Search" "path" "[I" ∈ wsL_law := inr_51 _ (List.mem_of_getElem? (i := 9) rfl)
section
variable {p : Program} {l : Launch} {e : Env} {R0 : Room} {s : State} {m : MethodId} {args : Array Value} {below : List Frame} {meth : Method} {c : Code} {H H0 : Heap} {locs : List Loc} {cells slots : Nat} {Q : State → Prop} {cc : ByteArray} {nL : Nat} {D : va_G} {cy : Nat → ClassId} {A : Nat → Prop} {L : List Nat} {R : Nat → Nat} {f : Nat → va_E} {pc : Nat} {ls : Array Slot} {rest : List Value} {a : Nat}
theorem g_11_322 (F : CallFix p m c cc nL s args wsL_law RX11) (h : tS D cy A H0 L R (TT cy L R) f s H locs) (ha : a ∈ L) (hr : R a = 7) (hdg : decode cc pc = .ok (.getfield 322, 3)) (kk : ∀ b : Nat, b ∈ L → R b = 46 → fld f a 2 = .ref b → W p l e R0 s m args below meth c H locs cells slots Q (F0 m (pc + 3) ls (.ref b :: rest))) : W p l e R0 s m args below meth c H locs cells slots Q (F0 m pc ls (.ref a :: rest)) := tu_getr F h ha hr (fun e q => (T_7 e).mp q) rfl inlX7 rfl (Nat.le_of_ble_eq_true rfl) mw_1209 hdg kk
end
theorem dX11_lead_111 : decode cX11_lead 111 = .ok (.iload 7, 2) := by decide +kernel
theorem dX11_lead_113 : decode cX11_lead 113 = .ok (.iaload, 1) := by decide +kernel
section
variable {p : Program} {l : Launch} {e : Env} {R0 : Room} {s : State} {m : MethodId} {args : Array Value} {below : List Frame} {meth : Method} {c : Code} {H H0 : Heap} {locs : List Loc} {cells slots : Nat} {Q : State → Prop} {cc : ByteArray} {nL : Nat} {D : va_G} {cy : Nat → ClassId} {A : Nat → Prop} {L : List Nat} {R : Nat → Nat} {f : Nat → va_E} {pc : Nat} {ls : Array Slot} {rest : List Value} {a : Nat}
theorem ld_46 {own : String} (F : CallFix p m c cc nL s args wsL_law own) (h : tS D cy A H0 L R (TT cy L R) f s H locs) {i : Int32} (ha : a ∈ L) (hr : R a = 46) (hb : 0 ≤ i.toInt ∧ i.toInt < 5) (hdg : decode cc pc = .ok (.iaload, 1)) (kk : ∀ x : Int32, 0 ≤ x.toInt → x.toInt ≤ 5 → W p l e R0 s m args below meth c H locs cells slots Q (F0 m (pc + 1) ls (.int x :: rest))) : W p l e R0 s m args below meth c H locs cells slots Q (F0 m pc ls (.int i :: .ref a :: rest)) := tu_iald F h ha hr (fun e q => (T_46 e).mp q) hb.1 hb.2 hdg (fun x h1 h2 => kk x h1.1 h1.2)
end
theorem dX11_lead_114 : decode cX11_lead 114 = .ok (.invokevirtual 109, 3) := by decide +kernel
theorem dX11_lead_117 : decode cX11_lead 117 = .ok (.l2i, 1) := by decide +kernel
theorem dX11_lead_118 : decode cX11_lead 118 = .ok (.iastore, 1) := by decide +kernel
theorem dX11_lead_119 : decode cX11_lead 119 = .ok (.iinc 7 1, 3) := by decide +kernel
theorem dX11_lead_122 : decode cX11_lead 122 = .ok (.goto (-40), 3) := by decide +kernel
theorem dX11_lead_72 : decode cX11_lead 72 = .ok (.aload_n 0, 1) := by decide +kernel
theorem dX11_lead_73 : decode cX11_lead 73 = .ok (.bipush 6, 2) := by decide +kernel
theorem dX11_lead_75 : decode cX11_lead 75 = .ok (.invokevirtual 140, 3) := by decide +kernel
theorem dX11_lead_78 : decode cX11_lead 78 = .ok (.ireturn, 1) := by decide +kernel
theorem dX11_lead_32 : decode cX11_lead 32 = .ok (.aload_n 0, 1) := by decide +kernel
theorem dX11_lead_33 : decode cX11_lead 33 = .ok (.iload 5, 2) := by decide +kernel
theorem dX11_lead_35 : decode cX11_lead 35 = .ok (.invokevirtual 140, 3) := by decide +kernel
theorem dX11_lead_38 : decode cX11_lead 38 = .ok (.ireturn, 1) := by decide +kernel
theorem dX11_lead_10 : decode cX11_lead 10 = .ok (.aload_n 0, 1) := by decide +kernel
theorem dX11_lead_11 : decode cX11_lead 11 = .ok (.iconst 1, 1) := by decide +kernel
theorem dX11_lead_12 : decode cX11_lead 12 = .ok (.invokevirtual 140, 3) := by decide +kernel
theorem dX11_lead_15 : decode cX11_lead 15 = .ok (.ireturn, 1) := by decide +kernel
def rm_X11_lead : Room := { frames := 11, cells := 0, slots := 0, locals := 291 }
set_option maxHeartbeats 4000000 in
set_option maxRecDepth 100000 in
theorem s_X11_lead (l : Launch) (D : va_G) (cy : Nat → ClassId) (L : List Nat) (R O : Nat → Nat) (f0 : Nat → va_E) (hG : GG L R O f0) (a0 : Nat) (m_a0 : a0 ∈ L) (r_a0 : R a0 = 11) (x1 : Int32) (x2 : Int32) (x3 : Int32) (x4 : Int32) (pre0 : PI L R O f0 a0) : ∀ sz, Met l yX11_lead (Cond.code yX11_lead cX11_lead 8 (some .int) :: wsL_law) rm_X11_lead (va_Pc [.ref a0, .int x1, .int x2, .int x3, .int x4] (tPZ D cy L R (TT cy L R) f0 sz)) (va_Qi (fun (r : Int32) f1 => fr L R [(1, 0), (1, 1), (1, 2), (1, 3), (1, 5), (4, 1), (5, 4), (5, 5), (5, 6), (5, 7), (7, 4), (8, 1), (8, 2), (11, 14)] [1, 4, 5, 7, 8, 11, 23, 24, 25, 26, 27, 34, 46, 51] f0 f1 ∧ KO L R O (rfa f0 (rfa f0 a0 6) 12) f0 f1) (tB D (tA L sz) L R (TT cy L R)) (tA L sz)) 0 0 (tA L sz) := by
  refine tw_enteri (by decide +kernel) rfl (Nat.le_of_ble_eq_true rfl) ?_
  intro p e s m below meth c A ls args Q F hZ h hl hret
  have hl : lv_has ls 8 [(0, .ref a0), (1, .int x1), (2, .int x2), (3, .int x3), (4, .int x4)] := hl
  have hk : fr L R [(1, 0), (1, 1), (1, 2), (1, 3), (1, 5), (4, 1), (5, 4), (5, 5), (5, 6), (5, 7), (7, 4), (8, 1), (8, 2), (11, 14)] [1, 4, 5, 7, 8, 11, 23, 24, 25, 26, 27, 34, 46, 51] f0 f0 := fr.rf
  obtain ⟨a0_search, m_a0_search, r_a0_search, t_a0_search⟩ := h.rf m_a0 r_a0 (fun e q => (T_11 e).mp q) (k := 6) rfl
  obtain ⟨a0_book, m_a0_book, r_a0_book, t_a0_book⟩ := h.rf m_a0 r_a0 (fun e q => (T_11 e).mp q) (k := 3) rfl
  have pre0c := pre0
  have hs6 := rfa_of t_a0_search
  have hs3 := rfa_of t_a0_book
  unfold PI at pre0
  rw [hs6, hs3] at pre0
  have hO : KO L R O (rfa f0 a0_search 12) f0 f0 := KO.rf
  refine lv_aload_n F.1 F.2.1 dX11_lead_0 rfl (lv_at hl 0 rfl) ?_
  refine lv_iload F.1 F.2.1 dX11_lead_1 (lv_at hl 4 rfl) ?_
  refine tu_i2l F dX11_lead_3 (fun z1 hz1 hz1a hz1b => ?_)
  refine tw_Vi (As := [.long z1]) F hZ h yk_X11_isLine mw_779 mw_780 mw_781 (s_X11_isLine l D cy L R O f0 a0 m_a0 r_a0 z1) rfl rfl m_a0 r_a0 (fun e q => (T_11 e).mp q) rfl hl.1 rfl (Nat.le_of_ble_eq_true rfl) ⟨Nat.le_of_ble_eq_true rfl, Nat.le_of_ble_eq_true rfl⟩ ⟨Nat.le_of_ble_eq_true rfl, Nat.le_of_ble_eq_true rfl⟩ dX11_lead_4 (fun v3 f2 H locs hp2 h => ?_)
  obtain ⟨rfl, hv3a, hv3b, hv3p0⟩ := hp2
  refine tw_if_ne (tgt := 16) F dX11_lead_7 (by decide) (fun b4 => ?_) (fun b4 => ?_)
  · refine lv_aload_n F.1 F.2.1 dX11_lead_16 rfl (lv_at hl 0 rfl) ?_
    refine lv_iload_n F.1 F.2.1 dX11_lead_17 rfl (lv_at hl 1 rfl) ?_
    refine lv_iload_n F.1 F.2.1 dX11_lead_18 rfl (lv_at hl 2 rfl) ?_
    refine lv_iload_n F.1 F.2.1 dX11_lead_19 rfl (lv_at hl 3 rfl) ?_
    refine tw_bipush F dX11_lead_20 kb_6 (fun z5 hz5 => ?_)
    refine tw_Vi (As := [.int x1, .int x2, .int x3, .int z5]) F hZ h yk_X11_linesStatus mw_1140 mw_1141 mw_1142 (s_X11_linesStatus l D cy L R O f0 a0 m_a0 r_a0 x1 x2 x3 z5 ⟨by omega, by omega⟩) rfl rfl m_a0 r_a0 (fun e q => (T_11 e).mp q) rfl hl.1 rfl (Nat.le_of_ble_eq_true rfl) ⟨Nat.le_of_ble_eq_true rfl, Nat.le_of_ble_eq_true rfl⟩ ⟨Nat.le_of_ble_eq_true rfl, Nat.le_of_ble_eq_true rfl⟩ dX11_lead_22 (fun v7 f6 H locs hp6 h => ?_)
    obtain ⟨rfl, hv7a, hv7b, hv7p0⟩ := hp6
    refine lv_istore (lv' := [(5, .int v7), (0, .ref a0), (1, .int x1), (2, .int x2), (3, .int x3), (4, .int x4)]) F.1 F.2.1 dX11_lead_25 hl (by decide) rfl (fun ls hl => ?_)
    refine lv_iload F.1 F.2.1 dX11_lead_27 (lv_at hl 0 rfl) ?_
    refine tw_if_eq (tgt := 39) F dX11_lead_29 (by decide) (fun b8 => ?_) (fun b8 => ?_)
    · have lsn := (hv7p0.resolve_left (by omega)).2
      refine lv_aload_n F.1 F.2.1 dX11_lead_39 rfl (lv_at hl 1 rfl) ?_
      refine lv_iload_n F.1 F.2.1 dX11_lead_40 rfl (lv_at hl 2 rfl) ?_
      refine lv_iload_n F.1 F.2.1 dX11_lead_41 rfl (lv_at hl 3 rfl) ?_
      refine lv_iload_n F.1 F.2.1 dX11_lead_42 rfl (lv_at hl 4 rfl) ?_
      refine tw_Vv (As := [.int x1, .int x2, .int x3]) F hZ h yk_X11_listenTo mw_1151 mw_1152 mw_1153 (s_X11_listenTo l D cy L R O f0 hG a0 m_a0 r_a0 x1 ⟨by omega, by omega⟩ x2 ⟨by omega, by omega⟩ x3 ⟨by omega, by omega⟩ pre0c (hv7p0.resolve_left (by omega)).1) rfl rfl m_a0 r_a0 (fun e q => (T_11 e).mp q) rfl hl.1 rfl (Nat.le_of_ble_eq_true rfl) ⟨Nat.le_of_ble_eq_true rfl, Nat.le_of_ble_eq_true rfl⟩ ⟨Nat.le_of_ble_eq_true rfl, Nat.le_of_ble_eq_true rfl⟩ dX11_lead_43 (fun f9 H locs hp9 h => ?_)
      obtain ⟨hf9, hv10p0⟩ := hp9
      have hO : KO L R O (rfa f0 a0_search 12) f0 f9 := KO_fr hO hf9 (by decide +kernel)
      have hk : fr L R [(1, 0), (1, 1), (1, 2), (1, 3), (1, 5), (4, 1), (5, 4), (5, 5), (5, 6), (5, 7), (7, 4), (8, 1), (8, 2), (11, 14)] [1, 4, 5, 7, 8, 11, 23, 24, 25, 26, 27, 34, 46, 51] f0 f9 := hk.tr hf9 (by decide +kernel) (by decide +kernel)
      have e11 : fld f9 a0 6 = .ref a0_search := (hf9.efl m_a0 r_a0 rfl).trans t_a0_search
      have e12 : fld f9 a0 3 = .ref a0_book := (hf9.efl m_a0 r_a0 rfl).trans t_a0_book
      obtain ⟨b, m_b, r_b, -, hB⟩ := hv10p0
      rw [hs6] at hB
      refine lv_aload_n F.1 F.2.1 dX11_lead_46 rfl (lv_at hl 1 rfl) ?_
      refine g_11_47 F h m_a0 r_a0 dX11_lead_47 (fun o13 m_o13 r_o13 ho13 => ?_)
      obtain rfl := (fld_inj e11 ho13).symm
      refine lv_iload_n F.1 F.2.1 dX11_lead_50 rfl (lv_at hl 4 rfl) ?_
      refine lv_aload_n F.1 F.2.1 dX11_lead_51 rfl (lv_at hl 1 rfl) ?_
      refine g_11_29 F h m_a0 r_a0 dX11_lead_52 (fun o14 m_o14 r_o14 ho14 => ?_)
      obtain rfl := (fld_inj e12 ho14).symm
      refine g_11_205 F h m_a0_book r_a0_book dX11_lead_55 (fun o15 m_o15 r_o15 ho15 => ?_)
      refine lv_iload F.1 F.2.1 dX11_lead_58 (lv_at hl 5 rfl) ?_
      refine ld_22 F h m_o15 r_o15 (by omega) dX11_lead_60 (fun o16 m_o16 r_o16 => ?_)
      have hk0_61 : rfa f9 a0_search 12 = rfa f0 a0_search 12 := hk.erf m_a0_search r_a0_search (by decide +kernel)
      refine tw_Vi (As := [.int x3, .ref o16]) F hZ h yk_X7_shortest mw_1211 mw_1212 mw_1213 (s_X7_shortest l D cy L R O f9 (hG.fr hk (by decide +kernel) (by decide +kernel)) a0_search m_a0_search r_a0_search x3 ⟨by omega, by omega⟩ o16 m_o16 r_o16 ⟨b, m_b, r_b, hB⟩) rfl rfl m_a0_search r_a0_search (fun e q => (T_7 e).mp q) rfl hl.1 rfl (Nat.le_of_ble_eq_true rfl) ⟨Nat.le_of_ble_eq_true rfl, Nat.le_of_ble_eq_true rfl⟩ ⟨Nat.le_of_ble_eq_true rfl, Nat.le_of_ble_eq_true rfl⟩ dX11_lead_61 (fun v18 f17 H locs hp17 h => ?_)
      obtain ⟨hf17, hv18a, hv18b, hv18p0⟩ := hp17
      have hB : SB L R O f17 a0_search (x3.toInt.toNat) b := SB_fr hB (hG.1.fr hk (by decide +kernel)) hf17 (by decide +kernel) m_a0_search r_a0_search m_b r_b
      have hk : fr L R [(1, 0), (1, 1), (1, 2), (1, 3), (1, 5), (4, 1), (5, 4), (5, 5), (5, 6), (5, 7), (7, 4), (8, 1), (8, 2), (11, 14)] [1, 4, 5, 7, 8, 11, 23, 24, 25, 26, 27, 34, 46, 51] f0 f17 := hk.tr hf17 (by decide +kernel) (by decide +kernel)
      have e19 : fld f17 a0 6 = .ref a0_search := (hf17.efl m_a0 r_a0 rfl).trans e11
      have e20 : fld f17 a0 3 = .ref a0_book := (hf17.efl m_a0 r_a0 rfl).trans e12
      have hO : KO L R O (rfa f0 a0_search 12) f0 f17 := hO.tr (by have q := hv18p0; rw [hk0_61] at q; exact q)
      refine lv_istore (lv' := [(6, .int v18), (5, .int v7), (0, .ref a0), (1, .int x1), (2, .int x2), (3, .int x3), (4, .int x4)]) F.1 F.2.1 dX11_lead_64 hl (by decide) rfl (fun ls hl => ?_)
      refine lv_iload F.1 F.2.1 dX11_lead_66 (lv_at hl 0 rfl) ?_
      refine tw_iconst F dX11_lead_68 ki_m1 (fun z21 hz21 => ?_)
      refine tw_icmp_ne (tgt := 79) F dX11_lead_69 (by decide) (fun b22 => ?_) (fun b22 => ?_)
      · refine tw_iconst F dX11_lead_79 ki_0 (fun z23 hz23 => ?_)
        refine lv_istore (lv' := [(7, .int z23), (6, .int v18), (5, .int v7), (0, .ref a0), (1, .int x1), (2, .int x2), (3, .int x3), (4, .int x4)]) F.1 F.2.1 dX11_lead_80 hl (by decide) rfl (fun ls hl => ?_)
        have j_82 : ∀ (n82 : Nat) (f24 : Nat → va_E) (H : Heap) (locs : List Loc) (ls : Array Slot) (x7_82 : Int32), 0 ≤ x7_82.toInt → x7_82.toInt ≤ 5 → ((5 - x7_82.toInt)).toNat < n82 → tS D cy A s.heap L R (TT cy L R) f24 s H locs → SB L R O f24 a0_search (x3.toInt.toNat) b → KO L R O (rfa f0 a0_search 12) f0 f24 → fr L R [(1, 0), (1, 1), (1, 2), (1, 3), (1, 5), (4, 1), (5, 4), (5, 5), (5, 6), (5, 7), (7, 4), (8, 1), (8, 2), (11, 14)] [1, 4, 5, 7, 8, 11, 23, 24, 25, 26, 27, 34, 46, 51] f0 f24 → fr L R [] [34] f17 f24 → lv_has ls 8 [(0, .ref a0), (2, .int x2), (6, .int v18), (7, .int x7_82)] → W p l e rm_X11_lead s m args below meth c H locs 0 0 Q (F0 m 82 ls []) := by
          intro n82
          induction n82 with
          | zero =>
            intro f24 H locs ls x7_82 b25 b26 b27 h hB hO hk hb82 hl
            exfalso
            omega
          | succ n82 ih82 =>
            intro f24 H locs ls x7_82 b25 b26 b27 h hB hO hk hb82 hl
            have e28 : fld f24 a0 6 = .ref a0_search := (hb82.efl m_a0 r_a0 rfl).trans e19
            have e29 : fld f24 a0 3 = .ref a0_book := (hb82.efl m_a0 r_a0 rfl).trans e20
            refine lv_iload F.1 F.2.1 dX11_lead_82 (lv_at hl 3 rfl) ?_
            refine lv_iload F.1 F.2.1 dX11_lead_84 (lv_at hl 2 rfl) ?_
            refine tw_icmp_ge (tgt := 125) F dX11_lead_86 (by decide) (fun b30 => ?_) (fun b30 => ?_)
            · refine lv_aload_n F.1 F.2.1 dX11_lead_125 rfl (lv_at hl 0 rfl) ?_
              refine g_11_47 F h m_a0 r_a0 dX11_lead_126 (fun o31 m_o31 r_o31 ho31 => ?_)
              obtain rfl := (fld_inj e28 ho31).symm
              refine lv_iload F.1 F.2.1 dX11_lead_129 (lv_at hl 2 rfl) ?_
              refine p_11_325 F h m_a0_search r_a0_search (by omega) dX11_lead_131 (fun f32 H locs e32p hf32 h => ?_)
              have hB : SB L R O f32 a0_search (x3.toInt.toNat) b := SB_fr hB (hG.1.fr hk (by decide +kernel)) hf32 (by decide +kernel) m_a0_search r_a0_search m_b r_b
              have hO : KO L R O (rfa f0 a0_search 12) f0 f32 := KO_fr hO hf32 (by decide +kernel)
              have hk : fr L R [(1, 0), (1, 1), (1, 2), (1, 3), (1, 5), (4, 1), (5, 4), (5, 5), (5, 6), (5, 7), (7, 4), (8, 1), (8, 2), (11, 14)] [1, 4, 5, 7, 8, 11, 23, 24, 25, 26, 27, 34, 46, 51] f0 f32 := hk.tr hf32 rfl rfl
              have e33 : fld f32 a0 6 = .ref a0_search := (hf32.efl m_a0 r_a0 rfl).trans e28
              have e34 : fld f32 a0 3 = .ref a0_book := (hf32.efl m_a0 r_a0 rfl).trans e29
              refine lv_aload_n F.1 F.2.1 dX11_lead_134 rfl (lv_at hl 0 rfl) ?_
              refine lv_iload F.1 F.2.1 dX11_lead_135 (lv_at hl 2 rfl) ?_
              refine tw_Vi (As := [.int v18]) F hZ h yk_X11_grant mw_442 mw_443 mw_444 (s_X11_grant l D cy L R O f32 a0 m_a0 r_a0 v18) rfl rfl m_a0 r_a0 (fun e q => (T_11 e).mp q) rfl hl.1 rfl (Nat.le_of_ble_eq_true rfl) ⟨Nat.le_of_ble_eq_true rfl, Nat.le_of_ble_eq_true rfl⟩ ⟨Nat.le_of_ble_eq_true rfl, Nat.le_of_ble_eq_true rfl⟩ dX11_lead_137 (fun v36 f35 H locs hp35 h => ?_)
              have hf35 := hp35
              have hB : SB L R O f35 a0_search (x3.toInt.toNat) b := SB_fr hB (hG.1.fr hk (by decide +kernel)) hf35 (by decide +kernel) m_a0_search r_a0_search m_b r_b
              have hO : KO L R O (rfa f0 a0_search 12) f0 f35 := KO_fr hO hf35 (by decide +kernel)
              have hk : fr L R [(1, 0), (1, 1), (1, 2), (1, 3), (1, 5), (4, 1), (5, 4), (5, 5), (5, 6), (5, 7), (7, 4), (8, 1), (8, 2), (11, 14)] [1, 4, 5, 7, 8, 11, 23, 24, 25, 26, 27, 34, 46, 51] f0 f35 := hk.tr hf35 rfl rfl
              have e37 : fld f35 a0 6 = .ref a0_search := (hf35.efl m_a0 r_a0 rfl).trans e33
              have e38 : fld f35 a0 3 = .ref a0_book := (hf35.efl m_a0 r_a0 rfl).trans e34
              exact hret f35 _ _ _ _ v36 dX11_lead_140 rfl ⟨hk, by rw [hs6]; exact hO⟩ h
            · refine lv_aload_n F.1 F.2.1 dX11_lead_89 rfl (lv_at hl 0 rfl) ?_
              refine g_11_47 F h m_a0 r_a0 dX11_lead_90 (fun o39 m_o39 r_o39 ho39 => ?_)
              obtain rfl := (fld_inj e28 ho39).symm
              refine g_11_319 F h m_a0_search r_a0_search dX11_lead_93 (fun o40 m_o40 r_o40 ho40 => ?_)
              refine lv_iload F.1 F.2.1 dX11_lead_96 (lv_at hl 3 rfl) ?_
              refine lv_aload_n F.1 F.2.1 dX11_lead_98 rfl (lv_at hl 0 rfl) ?_
              refine g_11_11 F h m_a0 r_a0 dX11_lead_99 (fun o41 m_o41 r_o41 ho41 => ?_)
              refine lv_iload_n F.1 F.2.1 dX11_lead_102 rfl (lv_at hl 1 rfl) ?_
              refine ld_55 F h m_o41 r_o41 (by omega) dX11_lead_103 (fun o42 m_o42 r_o42 => ?_)
              refine lv_aload_n F.1 F.2.1 dX11_lead_104 rfl (lv_at hl 0 rfl) ?_
              refine g_11_47 F h m_a0 r_a0 dX11_lead_105 (fun o43 m_o43 r_o43 ho43 => ?_)
              obtain rfl := (fld_inj e28 ho43).symm
              refine g_11_322 F h m_a0_search r_a0_search dX11_lead_108 (fun o44 m_o44 r_o44 ho44 => ?_)
              refine lv_iload F.1 F.2.1 dX11_lead_111 (lv_at hl 3 rfl) ?_
              refine ld_46 F h m_o44 r_o44 (by omega) dX11_lead_113 (fun v45 hv45a hv45b => ?_)
              refine tw_Vl (As := [.int v45]) F hZ h yk_X10_at mw_331 mw_332 mw_333 (s_X10_at l D cy L R O f24 o42 m_o42 r_o42 v45) rfl rfl m_o42 r_o42 (fun e q => (T_10 e).mp q) rfl hl.1 rfl (Nat.le_of_ble_eq_true rfl) ⟨Nat.le_of_ble_eq_true rfl, Nat.le_of_ble_eq_true rfl⟩ ⟨Nat.le_of_ble_eq_true rfl, Nat.le_of_ble_eq_true rfl⟩ dX11_lead_114 (fun v47 f46 H locs hp46 h => ?_)
              obtain ⟨rfl, hv47p0⟩ := hp46
              refine lv_l2i F.1 F.2.1 dX11_lead_117 rfl ?_
              refine lv_topi (fun z48 _ => ?_)
              refine st_34 F h m_o40 r_o40 (by omega) dX11_lead_118 (fun f49 H locs hf49 h => ?_)
              have hB : SB L R O f49 a0_search (x3.toInt.toNat) b := SB_fr hB (hG.1.fr hk (by decide +kernel)) hf49 (by decide +kernel) m_a0_search r_a0_search m_b r_b
              have hO : KO L R O (rfa f0 a0_search 12) f0 f49 := KO_fr hO hf49 (by decide +kernel)
              have hk : fr L R [(1, 0), (1, 1), (1, 2), (1, 3), (1, 5), (4, 1), (5, 4), (5, 5), (5, 6), (5, 7), (7, 4), (8, 1), (8, 2), (11, 14)] [1, 4, 5, 7, 8, 11, 23, 24, 25, 26, 27, 34, 46, 51] f0 f49 := hk.tr hf49 rfl rfl
              have hb82 : fr L R [] [34] f17 f49 := hb82.tr hf49 rfl rfl
              have e50 : fld f49 a0 6 = .ref a0_search := (hf49.efl m_a0 r_a0 rfl).trans e28
              have e51 : fld f49 a0 3 = .ref a0_book := (hf49.efl m_a0 r_a0 rfl).trans e29
              refine tu_iinc F dX11_lead_119 hl (k := 3) rfl (by decide) ki_1 (by omega) (fun z52 ls hz52 hl => ?_)
              have hl : lv_has ls 8 [(7, .int z52), (0, .ref a0), (2, .int x2), (6, .int v18)] := hl
              refine lv_goto (tgt := 82) F.1 F.2.1 dX11_lead_122 (by decide) ?_
              exact ih82 f49 _ _ _ z52 (by omega) (by omega) (by omega) h hB hO hk hb82 (lv_sub hl [1, 2, 3, 0] rfl)
        have hb82 : fr L R [] [34] f17 f17 := fr.rf
        exact j_82 (((5 - z23.toInt)).toNat + 1) f17 _ _ _ z23 (by omega) (by omega) (by omega) h hB hO hk hb82 (lv_sub hl [3, 5, 1, 0] rfl)
      · refine lv_aload_n F.1 F.2.1 dX11_lead_72 rfl (lv_at hl 2 rfl) ?_
        refine tw_bipush F dX11_lead_73 kb_6 (fun z53 hz53 => ?_)
        refine tw_Vi (As := [.int z53]) F hZ h yk_X11_refuse mw_378 mw_379 mw_380 (s_X11_refuse l D cy L R O f17 a0 m_a0 r_a0 z53 ⟨by omega, by omega⟩) rfl rfl m_a0 r_a0 (fun e q => (T_11 e).mp q) rfl hl.1 rfl (Nat.le_of_ble_eq_true rfl) ⟨Nat.le_of_ble_eq_true rfl, Nat.le_of_ble_eq_true rfl⟩ ⟨Nat.le_of_ble_eq_true rfl, Nat.le_of_ble_eq_true rfl⟩ dX11_lead_75 (fun v55 f54 H locs hp54 h => ?_)
        obtain ⟨hf54, hv55a, hv55b⟩ := hp54
        have hB : SB L R O f54 a0_search (x3.toInt.toNat) b := SB_fr hB (hG.1.fr hk (by decide +kernel)) hf54 (by decide +kernel) m_a0_search r_a0_search m_b r_b
        have hO : KO L R O (rfa f0 a0_search 12) f0 f54 := KO_fr hO hf54 (by decide +kernel)
        have hk : fr L R [(1, 0), (1, 1), (1, 2), (1, 3), (1, 5), (4, 1), (5, 4), (5, 5), (5, 6), (5, 7), (7, 4), (8, 1), (8, 2), (11, 14)] [1, 4, 5, 7, 8, 11, 23, 24, 25, 26, 27, 34, 46, 51] f0 f54 := hk.tr hf54 rfl rfl
        have e56 : fld f54 a0 6 = .ref a0_search := (hf54.efl m_a0 r_a0 rfl).trans e19
        have e57 : fld f54 a0 3 = .ref a0_book := (hf54.efl m_a0 r_a0 rfl).trans e20
        exact hret f54 _ _ _ _ v55 dX11_lead_78 rfl ⟨hk, by rw [hs6]; exact hO⟩ h
    · refine lv_aload_n F.1 F.2.1 dX11_lead_32 rfl (lv_at hl 1 rfl) ?_
      refine lv_iload F.1 F.2.1 dX11_lead_33 (lv_at hl 0 rfl) ?_
      refine tw_Vi (As := [.int v7]) F hZ h yk_X11_refuse mw_378 mw_379 mw_380 (s_X11_refuse l D cy L R O f0 a0 m_a0 r_a0 v7 ⟨by omega, by omega⟩) rfl rfl m_a0 r_a0 (fun e q => (T_11 e).mp q) rfl hl.1 rfl (Nat.le_of_ble_eq_true rfl) ⟨Nat.le_of_ble_eq_true rfl, Nat.le_of_ble_eq_true rfl⟩ ⟨Nat.le_of_ble_eq_true rfl, Nat.le_of_ble_eq_true rfl⟩ dX11_lead_35 (fun v59 f58 H locs hp58 h => ?_)
      obtain ⟨hf58, hv59a, hv59b⟩ := hp58
      have hO : KO L R O (rfa f0 a0_search 12) f0 f58 := KO_fr hO hf58 (by decide +kernel)
      have hk : fr L R [(1, 0), (1, 1), (1, 2), (1, 3), (1, 5), (4, 1), (5, 4), (5, 5), (5, 6), (5, 7), (7, 4), (8, 1), (8, 2), (11, 14)] [1, 4, 5, 7, 8, 11, 23, 24, 25, 26, 27, 34, 46, 51] f0 f58 := hk.tr hf58 rfl rfl
      have e60 : fld f58 a0 6 = .ref a0_search := (hf58.efl m_a0 r_a0 rfl).trans t_a0_search
      have e61 : fld f58 a0 3 = .ref a0_book := (hf58.efl m_a0 r_a0 rfl).trans t_a0_book
      exact hret f58 _ _ _ _ v59 dX11_lead_38 rfl ⟨hk, by rw [hs6]; exact hO⟩ h
  · refine lv_aload_n F.1 F.2.1 dX11_lead_10 rfl (lv_at hl 0 rfl) ?_
    refine tw_iconst F dX11_lead_11 ki_1 (fun z62 hz62 => ?_)
    refine tw_Vi (As := [.int z62]) F hZ h yk_X11_refuse mw_378 mw_379 mw_380 (s_X11_refuse l D cy L R O f0 a0 m_a0 r_a0 z62 ⟨by omega, by omega⟩) rfl rfl m_a0 r_a0 (fun e q => (T_11 e).mp q) rfl hl.1 rfl (Nat.le_of_ble_eq_true rfl) ⟨Nat.le_of_ble_eq_true rfl, Nat.le_of_ble_eq_true rfl⟩ ⟨Nat.le_of_ble_eq_true rfl, Nat.le_of_ble_eq_true rfl⟩ dX11_lead_12 (fun v64 f63 H locs hp63 h => ?_)
    obtain ⟨hf63, hv64a, hv64b⟩ := hp63
    have hO : KO L R O (rfa f0 a0_search 12) f0 f63 := KO_fr hO hf63 (by decide +kernel)
    have hk : fr L R [(1, 0), (1, 1), (1, 2), (1, 3), (1, 5), (4, 1), (5, 4), (5, 5), (5, 6), (5, 7), (7, 4), (8, 1), (8, 2), (11, 14)] [1, 4, 5, 7, 8, 11, 23, 24, 25, 26, 27, 34, 46, 51] f0 f63 := hk.tr hf63 rfl rfl
    have e65 : fld f63 a0 6 = .ref a0_search := (hf63.efl m_a0 r_a0 rfl).trans t_a0_search
    have e66 : fld f63 a0 3 = .ref a0_book := (hf63.efl m_a0 r_a0 rfl).trans t_a0_book
    exact hret f63 _ _ _ _ v64 dX11_lead_15 rfl ⟨hk, by rw [hs6]; exact hO⟩ h
theorem dX11_least_0 : decode cX11_least 0 = .ok (.iload_n 1, 1) := by decide +kernel
theorem dX11_least_1 : decode cX11_least 1 = .ok (.iload_n 2, 1) := by decide +kernel
theorem dX11_least_2 : decode cX11_least 2 = .ok (.iload_n 3, 1) := by decide +kernel
theorem dX11_least_3 : decode cX11_least 3 = .ok (.bipush 15, 2) := by decide +kernel
theorem dX11_least_5 : decode cX11_least 5 = .ok (.invokestatic 376, 3) := by decide +kernel
theorem dX11_least_8 : decode cX11_least 8 = .ok (.istore 4, 2) := by decide +kernel
theorem dX11_least_10 : decode cX11_least 10 = .ok (.iload 4, 2) := by decide +kernel
theorem dX11_least_35 : decode cX11_least 35 = .ok (.iload 4, 2) := by decide +kernel
theorem dX11_least_48 : decode cX11_least 48 = .ok (.iload 4, 2) := by decide +kernel
theorem dX11_least_50 : decode cX11_least 50 = .ok (.ifCond .eq 10, 3) := by decide +kernel
theorem dX11_least_60 : decode cX11_least 60 = .ok (.aload_n 0, 1) := by decide +kernel
theorem dX11_least_61 : decode cX11_least 61 = .ok (.iload_n 1, 1) := by decide +kernel
theorem dX11_least_62 : decode cX11_least 62 = .ok (.iload_n 2, 1) := by decide +kernel
theorem dX11_least_63 : decode cX11_least 63 = .ok (.iload_n 3, 1) := by decide +kernel
theorem dX11_least_64 : decode cX11_least 64 = .ok (.invokevirtual 301, 3) := by decide +kernel
theorem dX11_least_67 : decode cX11_least 67 = .ok (.aload_n 0, 1) := by decide +kernel
theorem dX11_least_68 : decode cX11_least 68 = .ok (.aload_n 0, 1) := by decide +kernel
theorem dX11_least_69 : decode cX11_least 69 = .ok (.getfield 47, 3) := by decide +kernel
theorem dX11_least_72 : decode cX11_least 72 = .ok (.iload_n 3, 1) := by decide +kernel
theorem dX11_least_73 : decode cX11_least 73 = .ok (.aload_n 0, 1) := by decide +kernel
theorem dX11_least_74 : decode cX11_least 74 = .ok (.getfield 29, 3) := by decide +kernel
theorem dX11_least_77 : decode cX11_least 77 = .ok (.getfield 167, 3) := by decide +kernel
theorem dX11_least_80 : decode cX11_least 80 = .ok (.iload_n 1, 1) := by decide +kernel
theorem dX11_least_81 : decode cX11_least 81 = .ok (.aaload, 1) := by decide +kernel
theorem dX11_least_82 : decode cX11_least 82 = .ok (.getfield 184, 3) := by decide +kernel
theorem dX11_least_85 : decode cX11_least 85 = .ok (.invokevirtual 382, 3) := by decide +kernel
theorem mw_1450 : Cond.methodLink RX11 382 yX7_fewest ∈ wsL_law := inr_61 _ (List.mem_of_getElem? (i := 10) rfl)
theorem mw_1453 : Cond.code yX7_fewest cX7_fewest 7 (some .int) ∈ wsL_law := inr_61 _ (List.mem_of_getElem? (i := 13) rfl)
theorem yk_X7_fewest : xY yX7_fewest RX7 cX7_fewest 7 (some .int) 2 := ⟨⟨rfl, by decide +kernel, by decide +kernel, by decide +kernel⟩, mw_32, mw_1453⟩
theorem mw_1451 : Cond.instanceMethod yX7_fewest ∈ wsL_law := inr_61 _ (List.mem_of_getElem? (i := 11) rfl)
theorem mw_1452 : Cond.selects RX7 yX7_fewest yX7_fewest ∈ wsL_law := inr_61 _ (List.mem_of_getElem? (i := 12) rfl)
theorem dX11_least_88 : decode cX11_least 88 = .ok (.invokevirtual 158, 3) := by decide +kernel
theorem dX11_least_91 : decode cX11_least 91 = .ok (.ireturn, 1) := by decide +kernel
theorem dX11_least_53 : decode cX11_least 53 = .ok (.aload_n 0, 1) := by decide +kernel
theorem dX11_least_54 : decode cX11_least 54 = .ok (.iload 4, 2) := by decide +kernel
theorem dX11_least_56 : decode cX11_least 56 = .ok (.invokevirtual 140, 3) := by decide +kernel
theorem dX11_least_59 : decode cX11_least 59 = .ok (.ireturn, 1) := by decide +kernel
theorem dX11_least_37 : decode cX11_least 37 = .ok (.ifCond .ne 11, 3) := by decide +kernel
theorem dX11_least_40 : decode cX11_least 40 = .ok (.aload_n 0, 1) := by decide +kernel
theorem dX11_least_41 : decode cX11_least 41 = .ok (.iload_n 2, 1) := by decide +kernel
theorem dX11_least_42 : decode cX11_least 42 = .ok (.iload_n 3, 1) := by decide +kernel
theorem dX11_least_43 : decode cX11_least 43 = .ok (.invokevirtual 379, 3) := by decide +kernel
theorem dX11_least_46 : decode cX11_least 46 = .ok (.istore 4, 2) := by decide +kernel
theorem dX11_least_12 : decode cX11_least 12 = .ok (.ifCond .ne 23, 3) := by decide +kernel
theorem dX11_least_15 : decode cX11_least 15 = .ok (.aload_n 0, 1) := by decide +kernel
theorem dX11_least_16 : decode cX11_least 16 = .ok (.getfield 29, 3) := by decide +kernel
theorem dX11_least_19 : decode cX11_least 19 = .ok (.getfield 167, 3) := by decide +kernel
theorem dX11_least_22 : decode cX11_least 22 = .ok (.iload_n 1, 1) := by decide +kernel
theorem dX11_least_23 : decode cX11_least 23 = .ok (.aaload, 1) := by decide +kernel
theorem dX11_least_24 : decode cX11_least 24 = .ok (.getfield 184, 3) := by decide +kernel
theorem dX11_least_27 : decode cX11_least 27 = .ok (.bipush 12, 2) := by decide +kernel
theorem dX11_least_29 : decode cX11_least 29 = .ok (.if_icmp .le 6, 3) := by decide +kernel
theorem dX11_least_32 : decode cX11_least 32 = .ok (.iconst 4, 1) := by decide +kernel
theorem dX11_least_33 : decode cX11_least 33 = .ok (.istore 4, 2) := by decide +kernel
def rm_X11_least : Room := { frames := 7, cells := 0, slots := 0, locals := 179 }
set_option maxHeartbeats 4000000 in
set_option maxRecDepth 100000 in
theorem s_X11_least (l : Launch) (D : va_G) (cy : Nat → ClassId) (L : List Nat) (R O : Nat → Nat) (f0 : Nat → va_E) (hG : GG L R O f0) (a0 : Nat) (m_a0 : a0 ∈ L) (r_a0 : R a0 = 11) (x1 : Int32) (x2 : Int32) (x3 : Int32) (pre0 : PI L R O f0 a0) : ∀ sz, Met l yX11_least (Cond.code yX11_least cX11_least 5 (some .int) :: wsL_law) rm_X11_least (va_Pc [.ref a0, .int x1, .int x2, .int x3] (tPZ D cy L R (TT cy L R) f0 sz)) (va_Qi (fun (r : Int32) f1 => fr L R [(1, 0), (1, 1), (1, 2), (1, 3), (1, 5), (4, 1), (5, 2), (5, 4), (5, 5), (5, 6), (5, 7), (7, 9), (8, 1), (8, 2), (11, 14)] [1, 4, 5, 7, 8, 11, 23, 24, 25, 26, 27, 34, 51] f0 f1 ∧ KO L R O (rfa f0 (rfa f0 a0 6) 12) f0 f1) (tB D (tA L sz) L R (TT cy L R)) (tA L sz)) 0 0 (tA L sz) := by
  refine tw_enteri (by decide +kernel) rfl (Nat.le_of_ble_eq_true rfl) ?_
  intro p e s m below meth c A ls args Q F hZ h hl hret
  have hl : lv_has ls 5 [(0, .ref a0), (1, .int x1), (2, .int x2), (3, .int x3)] := hl
  have hk : fr L R [(1, 0), (1, 1), (1, 2), (1, 3), (1, 5), (4, 1), (5, 2), (5, 4), (5, 5), (5, 6), (5, 7), (7, 9), (8, 1), (8, 2), (11, 14)] [1, 4, 5, 7, 8, 11, 23, 24, 25, 26, 27, 34, 51] f0 f0 := fr.rf
  obtain ⟨a0_search, m_a0_search, r_a0_search, t_a0_search⟩ := h.rf m_a0 r_a0 (fun e q => (T_11 e).mp q) (k := 6) rfl
  obtain ⟨a0_book, m_a0_book, r_a0_book, t_a0_book⟩ := h.rf m_a0 r_a0 (fun e q => (T_11 e).mp q) (k := 3) rfl
  have pre0c := pre0
  have hs6 := rfa_of t_a0_search
  have hs3 := rfa_of t_a0_book
  unfold PI at pre0
  rw [hs6, hs3] at pre0
  have hO : KO L R O (rfa f0 a0_search 12) f0 f0 := KO.rf
  refine lv_iload_n F.1 F.2.1 dX11_least_0 rfl (lv_at hl 1 rfl) ?_
  refine lv_iload_n F.1 F.2.1 dX11_least_1 rfl (lv_at hl 2 rfl) ?_
  refine lv_iload_n F.1 F.2.1 dX11_least_2 rfl (lv_at hl 3 rfl) ?_
  refine tw_bipush F dX11_least_3 kb_15 (fun z1 hz1 => ?_)
  refine tw_Si (As := [.int x1, .int x2, .int x3, .int z1]) F hZ h yk_X11_askedStatus mw_1144 mw_1145 (s_X11_askedStatus l D cy L R O f0 x1 x2 x3 z1 ⟨by omega, by omega⟩) rfl rfl hl.1 rfl (Nat.le_of_ble_eq_true rfl) ⟨Nat.le_of_ble_eq_true rfl, Nat.le_of_ble_eq_true rfl⟩ ⟨Nat.le_of_ble_eq_true rfl, Nat.le_of_ble_eq_true rfl⟩ dX11_least_5 (fun v3 f2 H locs hp2 h => ?_)
  obtain ⟨rfl, hv3a, hv3b, hv3p0⟩ := hp2
  refine lv_istore (lv' := [(4, .int v3), (0, .ref a0), (1, .int x1), (2, .int x2), (3, .int x3)]) F.1 F.2.1 dX11_least_8 hl (by decide) rfl (fun ls hl => ?_)
  refine lv_iload F.1 F.2.1 dX11_least_10 (lv_at hl 0 rfl) ?_
  have j_35 : ∀ (ls : Array Slot) (x4_35 : Int32), 0 ≤ x4_35.toInt → x4_35.toInt ≤ 4 → (x4_35.toInt = 1 ∨ x4_35.toInt = 4 ∨ (x4_35.toInt = 0 ∧ 0 ≤ x1.toInt ∧ x1.toInt ≤ 2 ∧ 0 ≤ x2.toInt ∧ x2.toInt ≤ 3 ∧ 1 ≤ x3.toInt ∧ x3.toInt ≤ 15)) → lv_has ls 5 [(0, .ref a0), (1, .int x1), (2, .int x2), (3, .int x3), (4, .int x4_35)] → W p l e rm_X11_least s m args below meth c H locs 0 0 Q (F0 m 35 ls []) := by
    intro ls x4_35 b4 b5 b6 hl
    refine lv_iload F.1 F.2.1 dX11_least_35 (lv_at hl 4 rfl) ?_
    have j_48 : ∀ (H : Heap) (locs : List Loc) (ls : Array Slot) (x4_48 : Int32), 0 ≤ x4_48.toInt → x4_48.toInt ≤ 4 → (x4_48.toInt ≠ 0 ∨ (0 ≤ x1.toInt ∧ x1.toInt ≤ 2 ∧ 0 ≤ x2.toInt ∧ x2.toInt ≤ 3 ∧ 1 ≤ x3.toInt ∧ x3.toInt ≤ 15)) → ((x4_48.toInt ≠ 0 ∨ LN f0 a0 x2.toInt.toNat x3.toInt.toNat)) → tS D cy A s.heap L R (TT cy L R) f0 s H locs → lv_has ls 5 [(0, .ref a0), (1, .int x1), (2, .int x2), (3, .int x3), (4, .int x4_48)] → W p l e rm_X11_least s m args below meth c H locs 0 0 Q (F0 m 48 ls []) := by
      intro H locs ls x4_48 b7 b8 b9 ip48_0 h hl
      refine lv_iload F.1 F.2.1 dX11_least_48 (lv_at hl 4 rfl) ?_
      refine tw_if_eq (tgt := 60) F dX11_least_50 (by decide) (fun b10 => ?_) (fun b10 => ?_)
      · refine lv_aload_n F.1 F.2.1 dX11_least_60 rfl (lv_at hl 0 rfl) ?_
        refine lv_iload_n F.1 F.2.1 dX11_least_61 rfl (lv_at hl 1 rfl) ?_
        refine lv_iload_n F.1 F.2.1 dX11_least_62 rfl (lv_at hl 2 rfl) ?_
        refine lv_iload_n F.1 F.2.1 dX11_least_63 rfl (lv_at hl 3 rfl) ?_
        refine tw_Vv (As := [.int x1, .int x2, .int x3]) F hZ h yk_X11_listenTo mw_1151 mw_1152 mw_1153 (s_X11_listenTo l D cy L R O f0 hG a0 m_a0 r_a0 x1 ⟨by omega, by omega⟩ x2 ⟨by omega, by omega⟩ x3 ⟨by omega, by omega⟩ pre0c (ip48_0.resolve_left (by omega))) rfl rfl m_a0 r_a0 (fun e q => (T_11 e).mp q) rfl hl.1 rfl (Nat.le_of_ble_eq_true rfl) ⟨Nat.le_of_ble_eq_true rfl, Nat.le_of_ble_eq_true rfl⟩ ⟨Nat.le_of_ble_eq_true rfl, Nat.le_of_ble_eq_true rfl⟩ dX11_least_64 (fun f11 H locs hp11 h => ?_)
        obtain ⟨hf11, hv12p0⟩ := hp11
        have hO : KO L R O (rfa f0 a0_search 12) f0 f11 := KO_fr hO hf11 (by decide +kernel)
        have hk : fr L R [(1, 0), (1, 1), (1, 2), (1, 3), (1, 5), (4, 1), (5, 2), (5, 4), (5, 5), (5, 6), (5, 7), (7, 9), (8, 1), (8, 2), (11, 14)] [1, 4, 5, 7, 8, 11, 23, 24, 25, 26, 27, 34, 51] f0 f11 := hk.tr hf11 (by decide +kernel) (by decide +kernel)
        have e13 : fld f11 a0 6 = .ref a0_search := (hf11.efl m_a0 r_a0 rfl).trans t_a0_search
        have e14 : fld f11 a0 3 = .ref a0_book := (hf11.efl m_a0 r_a0 rfl).trans t_a0_book
        obtain ⟨b, m_b, r_b, -, hB⟩ := hv12p0
        rw [hs6] at hB
        refine lv_aload_n F.1 F.2.1 dX11_least_67 rfl (lv_at hl 0 rfl) ?_
        refine lv_aload_n F.1 F.2.1 dX11_least_68 rfl (lv_at hl 0 rfl) ?_
        refine g_11_47 F h m_a0 r_a0 dX11_least_69 (fun o15 m_o15 r_o15 ho15 => ?_)
        obtain rfl := (fld_inj e13 ho15).symm
        refine lv_iload_n F.1 F.2.1 dX11_least_72 rfl (lv_at hl 3 rfl) ?_
        refine lv_aload_n F.1 F.2.1 dX11_least_73 rfl (lv_at hl 0 rfl) ?_
        refine g_11_29 F h m_a0 r_a0 dX11_least_74 (fun o16 m_o16 r_o16 ho16 => ?_)
        obtain rfl := (fld_inj e14 ho16).symm
        refine g_11_167 F h m_a0_book r_a0_book dX11_least_77 (fun o17 m_o17 r_o17 ho17 => ?_)
        refine lv_iload_n F.1 F.2.1 dX11_least_80 rfl (lv_at hl 1 rfl) ?_
        refine ld_20 F h m_o17 r_o17 (by omega) dX11_least_81 (fun o18 m_o18 r_o18 => ?_)
        refine g_11_184 F h m_o18 r_o18 dX11_least_82 (fun v19 hv19 hv19a hv19b => ?_)
        have hk0_85 : rfa f11 a0_search 12 = rfa f0 a0_search 12 := hk.erf m_a0_search r_a0_search (by decide +kernel)
        refine tw_Vi (As := [.int x3, .int v19]) F hZ h yk_X7_fewest mw_1450 mw_1451 mw_1452 (s_X7_fewest l D cy L R O f11 (hG.fr hk (by decide +kernel) (by decide +kernel)) a0_search m_a0_search r_a0_search x3 ⟨by omega, by omega⟩ v19 ⟨by omega, by omega⟩ ⟨b, m_b, r_b, hB⟩) rfl rfl m_a0_search r_a0_search (fun e q => (T_7 e).mp q) rfl hl.1 rfl (Nat.le_of_ble_eq_true rfl) ⟨Nat.le_of_ble_eq_true rfl, Nat.le_of_ble_eq_true rfl⟩ ⟨Nat.le_of_ble_eq_true rfl, Nat.le_of_ble_eq_true rfl⟩ dX11_least_85 (fun v21 f20 H locs hp20 h => ?_)
        obtain ⟨hf20, hv21a, hv21b, hv21p0⟩ := hp20
        have hB : SB L R O f20 a0_search (x3.toInt.toNat) b := SB_fr hB (hG.1.fr hk (by decide +kernel)) hf20 (by decide +kernel) m_a0_search r_a0_search m_b r_b
        have hk : fr L R [(1, 0), (1, 1), (1, 2), (1, 3), (1, 5), (4, 1), (5, 2), (5, 4), (5, 5), (5, 6), (5, 7), (7, 9), (8, 1), (8, 2), (11, 14)] [1, 4, 5, 7, 8, 11, 23, 24, 25, 26, 27, 34, 51] f0 f20 := hk.tr hf20 (by decide +kernel) (by decide +kernel)
        have e22 : fld f20 a0 6 = .ref a0_search := (hf20.efl m_a0 r_a0 rfl).trans e13
        have e23 : fld f20 a0 3 = .ref a0_book := (hf20.efl m_a0 r_a0 rfl).trans e14
        have e24 : fi f20 o18 17 = fi f11 o18 17 := hf20.efi m_o18 r_o18 rfl
        have hO : KO L R O (rfa f0 a0_search 12) f0 f20 := hO.tr (by have q := hv21p0; rw [hk0_85] at q; exact q)
        refine tw_Vi (As := [.int v21]) F hZ h yk_X11_grant mw_442 mw_443 mw_444 (s_X11_grant l D cy L R O f20 a0 m_a0 r_a0 v21) rfl rfl m_a0 r_a0 (fun e q => (T_11 e).mp q) rfl hl.1 rfl (Nat.le_of_ble_eq_true rfl) ⟨Nat.le_of_ble_eq_true rfl, Nat.le_of_ble_eq_true rfl⟩ ⟨Nat.le_of_ble_eq_true rfl, Nat.le_of_ble_eq_true rfl⟩ dX11_least_88 (fun v26 f25 H locs hp25 h => ?_)
        have hf25 := hp25
        have hB : SB L R O f25 a0_search (x3.toInt.toNat) b := SB_fr hB (hG.1.fr hk (by decide +kernel)) hf25 (by decide +kernel) m_a0_search r_a0_search m_b r_b
        have hO : KO L R O (rfa f0 a0_search 12) f0 f25 := KO_fr hO hf25 (by decide +kernel)
        have hk : fr L R [(1, 0), (1, 1), (1, 2), (1, 3), (1, 5), (4, 1), (5, 2), (5, 4), (5, 5), (5, 6), (5, 7), (7, 9), (8, 1), (8, 2), (11, 14)] [1, 4, 5, 7, 8, 11, 23, 24, 25, 26, 27, 34, 51] f0 f25 := hk.tr hf25 rfl rfl
        have e27 : fld f25 a0 6 = .ref a0_search := (hf25.efl m_a0 r_a0 rfl).trans e22
        have e28 : fld f25 a0 3 = .ref a0_book := (hf25.efl m_a0 r_a0 rfl).trans e23
        have e29 : fi f25 o18 17 = fi f20 o18 17 := hf25.efi m_o18 r_o18 rfl
        exact hret f25 _ _ _ _ v26 dX11_least_91 rfl ⟨hk, by rw [hs6]; exact hO⟩ h
      · refine lv_aload_n F.1 F.2.1 dX11_least_53 rfl (lv_at hl 0 rfl) ?_
        refine lv_iload F.1 F.2.1 dX11_least_54 (lv_at hl 4 rfl) ?_
        refine tw_Vi (As := [.int x4_48]) F hZ h yk_X11_refuse mw_378 mw_379 mw_380 (s_X11_refuse l D cy L R O f0 a0 m_a0 r_a0 x4_48 ⟨by omega, by omega⟩) rfl rfl m_a0 r_a0 (fun e q => (T_11 e).mp q) rfl hl.1 rfl (Nat.le_of_ble_eq_true rfl) ⟨Nat.le_of_ble_eq_true rfl, Nat.le_of_ble_eq_true rfl⟩ ⟨Nat.le_of_ble_eq_true rfl, Nat.le_of_ble_eq_true rfl⟩ dX11_least_56 (fun v31 f30 H locs hp30 h => ?_)
        obtain ⟨hf30, hv31a, hv31b⟩ := hp30
        have hO : KO L R O (rfa f0 a0_search 12) f0 f30 := KO_fr hO hf30 (by decide +kernel)
        have hk : fr L R [(1, 0), (1, 1), (1, 2), (1, 3), (1, 5), (4, 1), (5, 2), (5, 4), (5, 5), (5, 6), (5, 7), (7, 9), (8, 1), (8, 2), (11, 14)] [1, 4, 5, 7, 8, 11, 23, 24, 25, 26, 27, 34, 51] f0 f30 := hk.tr hf30 rfl rfl
        have e32 : fld f30 a0 6 = .ref a0_search := (hf30.efl m_a0 r_a0 rfl).trans t_a0_search
        have e33 : fld f30 a0 3 = .ref a0_book := (hf30.efl m_a0 r_a0 rfl).trans t_a0_book
        exact hret f30 _ _ _ _ v31 dX11_least_59 rfl ⟨hk, by rw [hs6]; exact hO⟩ h
    refine tw_if_ne (tgt := 48) F dX11_least_37 (by decide) (fun b34 => ?_) (fun b34 => ?_)
    · exact j_48 _ _ _ x4_35 (by omega) (by omega) (by omega) ((Or.inl (by omega))) h (lv_sub hl [0, 1, 2, 3, 4] rfl)
    · refine lv_aload_n F.1 F.2.1 dX11_least_40 rfl (lv_at hl 0 rfl) ?_
      refine lv_iload_n F.1 F.2.1 dX11_least_41 rfl (lv_at hl 2 rfl) ?_
      refine lv_iload_n F.1 F.2.1 dX11_least_42 rfl (lv_at hl 3 rfl) ?_
      refine tw_Vi (As := [.int x2, .int x3]) F hZ h yk_X11_rowStatus mw_1147 mw_1148 mw_1149 (s_X11_rowStatus l D cy L R O f0 a0 m_a0 r_a0 x2 ⟨by omega, by omega⟩ x3 ⟨by omega, by omega⟩) rfl rfl m_a0 r_a0 (fun e q => (T_11 e).mp q) rfl hl.1 rfl (Nat.le_of_ble_eq_true rfl) ⟨Nat.le_of_ble_eq_true rfl, Nat.le_of_ble_eq_true rfl⟩ ⟨Nat.le_of_ble_eq_true rfl, Nat.le_of_ble_eq_true rfl⟩ dX11_least_43 (fun v36 f35 H locs hp35 h => ?_)
      obtain ⟨rfl, hv36a, hv36b, hv36p0⟩ := hp35
      refine lv_istore (lv' := [(4, .int v36), (0, .ref a0), (1, .int x1), (2, .int x2), (3, .int x3)]) F.1 F.2.1 dX11_least_46 hl (by decide) rfl (fun ls hl => ?_)
      exact j_48 _ _ _ v36 (by omega) (by omega) (by omega) (hv36p0) h (lv_sub hl [1, 2, 3, 4, 0] rfl)
  refine tw_if_ne (tgt := 35) F dX11_least_12 (by decide) (fun b37 => ?_) (fun b37 => ?_)
  · exact j_35 _ v3 (by omega) (by omega) (by omega) (lv_sub hl [1, 2, 3, 4, 0] rfl)
  · refine lv_aload_n F.1 F.2.1 dX11_least_15 rfl (lv_at hl 1 rfl) ?_
    refine g_11_29 F h m_a0 r_a0 dX11_least_16 (fun o38 m_o38 r_o38 ho38 => ?_)
    obtain rfl := (fld_inj t_a0_book ho38).symm
    refine g_11_167 F h m_a0_book r_a0_book dX11_least_19 (fun o39 m_o39 r_o39 ho39 => ?_)
    refine lv_iload_n F.1 F.2.1 dX11_least_22 rfl (lv_at hl 2 rfl) ?_
    refine ld_20 F h m_o39 r_o39 (by omega) dX11_least_23 (fun o40 m_o40 r_o40 => ?_)
    refine g_11_184 F h m_o40 r_o40 dX11_least_24 (fun v41 hv41 hv41a hv41b => ?_)
    refine tw_bipush F dX11_least_27 kb_12 (fun z42 hz42 => ?_)
    refine tw_icmp_le (tgt := 35) F dX11_least_29 (by decide) (fun b43 => ?_) (fun b43 => ?_)
    · exact j_35 _ v3 (by omega) (by omega) (by omega) (lv_sub hl [1, 2, 3, 4, 0] rfl)
    · refine tw_iconst F dX11_least_32 ki_4 (fun z44 hz44 => ?_)
      refine lv_istore (lv' := [(4, .int z44), (0, .ref a0), (1, .int x1), (2, .int x2), (3, .int x3)]) F.1 F.2.1 dX11_least_33 hl (by decide) rfl (fun ls hl => ?_)
      exact j_35 _ z44 (by omega) (by omega) (by omega) (lv_sub hl [1, 2, 3, 4, 0] rfl)
theorem dX11_orders_0 : decode cX11_orders 0 = .ok (.iload_n 1, 1) := by decide +kernel
theorem dX11_orders_1 : decode cX11_orders 1 = .ok (.invokestatic 161, 3) := by decide +kernel
theorem dX11_orders_4 : decode cX11_orders 4 = .ok (.ifCond .ne 9, 3) := by decide +kernel
theorem dX11_orders_13 : decode cX11_orders 13 = .ok (.aload_n 0, 1) := by decide +kernel
theorem dX11_orders_14 : decode cX11_orders 14 = .ok (.getfield 29, 3) := by decide +kernel
theorem dX11_orders_17 : decode cX11_orders 17 = .ok (.getfield 167, 3) := by decide +kernel
theorem dX11_orders_20 : decode cX11_orders 20 = .ok (.iload_n 1, 1) := by decide +kernel
theorem dX11_orders_21 : decode cX11_orders 21 = .ok (.aaload, 1) := by decide +kernel
theorem dX11_orders_22 : decode cX11_orders 22 = .ok (.getfield 213, 3) := by decide +kernel
theorem dX11_orders_25 : decode cX11_orders 25 = .ok (.bipush 6, 2) := by decide +kernel
theorem dX11_orders_27 : decode cX11_orders 27 = .ok (.if_icmp .le 9, 3) := by decide +kernel
theorem dX11_orders_36 : decode cX11_orders 36 = .ok (.aload_n 0, 1) := by decide +kernel
theorem dX11_orders_37 : decode cX11_orders 37 = .ok (.getfield 40, 3) := by decide +kernel
theorem dX11_orders_40 : decode cX11_orders 40 = .ok (.getfield 198, 3) := by decide +kernel
theorem dX11_orders_43 : decode cX11_orders 43 = .ok (.ifCond .ne 10, 3) := by decide +kernel
theorem dX11_orders_53 : decode cX11_orders 53 = .ok (.iconst 0, 1) := by decide +kernel
theorem dX11_orders_54 : decode cX11_orders 54 = .ok (.istore_n 2, 1) := by decide +kernel
theorem dX11_orders_55 : decode cX11_orders 55 = .ok (.iload_n 2, 1) := by decide +kernel
theorem dX11_orders_56 : decode cX11_orders 56 = .ok (.aload_n 0, 1) := by decide +kernel
theorem dX11_orders_57 : decode cX11_orders 57 = .ok (.getfield 40, 3) := by decide +kernel
theorem dX11_orders_60 : decode cX11_orders 60 = .ok (.getfield 198, 3) := by decide +kernel
theorem dX11_orders_63 : decode cX11_orders 63 = .ok (.if_icmp .ge 39, 3) := by decide +kernel
theorem dX11_orders_102 : decode cX11_orders 102 = .ok (.aload_n 0, 1) := by decide +kernel
theorem dX11_orders_103 : decode cX11_orders 103 = .ok (.aload_n 0, 1) := by decide +kernel
theorem dX11_orders_104 : decode cX11_orders 104 = .ok (.getfield 47, 3) := by decide +kernel
theorem dX11_orders_107 : decode cX11_orders 107 = .ok (.aload_n 0, 1) := by decide +kernel
theorem dX11_orders_108 : decode cX11_orders 108 = .ok (.getfield 40, 3) := by decide +kernel
theorem dX11_orders_111 : decode cX11_orders 111 = .ok (.aload_n 0, 1) := by decide +kernel
theorem dX11_orders_112 : decode cX11_orders 112 = .ok (.getfield 29, 3) := by decide +kernel
theorem dX11_orders_115 : decode cX11_orders 115 = .ok (.getfield 167, 3) := by decide +kernel
theorem dX11_orders_118 : decode cX11_orders 118 = .ok (.iload_n 1, 1) := by decide +kernel
theorem dX11_orders_119 : decode cX11_orders 119 = .ok (.aaload, 1) := by decide +kernel
theorem dX11_orders_120 : decode cX11_orders 120 = .ok (.getfield 213, 3) := by decide +kernel
theorem dX11_orders_123 : decode cX11_orders 123 = .ok (.invokevirtual 389, 3) := by decide +kernel
theorem mw_1491 : Cond.methodLink RX11 389 yX7_tryOrders ∈ wsL_law := inr_63 _ (List.mem_of_getElem? (i := 3) rfl)
theorem mw_1494 : Cond.code yX7_tryOrders cX7_tryOrders 6 (some .int) ∈ wsL_law := inr_63 _ (List.mem_of_getElem? (i := 6) rfl)
theorem yk_X7_tryOrders : xY yX7_tryOrders RX7 cX7_tryOrders 6 (some .int) 2 := ⟨⟨rfl, by decide +kernel, by decide +kernel, by decide +kernel⟩, mw_32, mw_1494⟩
theorem mw_1492 : Cond.instanceMethod yX7_tryOrders ∈ wsL_law := inr_63 _ (List.mem_of_getElem? (i := 4) rfl)
theorem mw_1493 : Cond.selects RX7 yX7_tryOrders yX7_tryOrders ∈ wsL_law := inr_63 _ (List.mem_of_getElem? (i := 5) rfl)
theorem dX11_orders_126 : decode cX11_orders 126 = .ok (.invokevirtual 158, 3) := by decide +kernel
theorem dX11_orders_129 : decode cX11_orders 129 = .ok (.ireturn, 1) := by decide +kernel
theorem dX11_orders_66 : decode cX11_orders 66 = .ok (.aload_n 0, 1) := by decide +kernel
theorem dX11_orders_67 : decode cX11_orders 67 = .ok (.getfield 47, 3) := by decide +kernel
theorem dX11_orders_70 : decode cX11_orders 70 = .ok (.getfield 237, 3) := by decide +kernel
theorem dX11_orders_73 : decode cX11_orders 73 = .ok (.iload_n 2, 1) := by decide +kernel
theorem dX11_orders_74 : decode cX11_orders 74 = .ok (.aaload, 1) := by decide +kernel
theorem dX11_orders_75 : decode cX11_orders 75 = .ok (.aload_n 0, 1) := by decide +kernel
theorem dX11_orders_76 : decode cX11_orders 76 = .ok (.getfield 29, 3) := by decide +kernel
theorem dX11_orders_79 : decode cX11_orders 79 = .ok (.getfield 167, 3) := by decide +kernel
theorem dX11_orders_82 : decode cX11_orders 82 = .ok (.iload_n 1, 1) := by decide +kernel
theorem dX11_orders_83 : decode cX11_orders 83 = .ok (.aaload, 1) := by decide +kernel
theorem dX11_orders_84 : decode cX11_orders 84 = .ok (.aload_n 0, 1) := by decide +kernel
theorem dX11_orders_85 : decode cX11_orders 85 = .ok (.getfield 40, 3) := by decide +kernel
theorem dX11_orders_88 : decode cX11_orders 88 = .ok (.getfield 388, 3) := by decide +kernel
theorem mw_1490 : Cond.fieldLink RX11 388 "AskBack$Talk" "lines" "[LAskBack$Row;" ∈ wsL_law := inr_63 _ (List.mem_of_getElem? (i := 2) rfl)
section
variable {p : Program} {l : Launch} {e : Env} {R0 : Room} {s : State} {m : MethodId} {args : Array Value} {below : List Frame} {meth : Method} {c : Code} {H H0 : Heap} {locs : List Loc} {cells slots : Nat} {Q : State → Prop} {cc : ByteArray} {nL : Nat} {D : va_G} {cy : Nat → ClassId} {A : Nat → Prop} {L : List Nat} {R : Nat → Nat} {f : Nat → va_E} {pc : Nat} {ls : Array Slot} {rest : List Value} {a : Nat}
theorem g_11_388 (F : CallFix p m c cc nL s args wsL_law RX11) (h : tS D cy A H0 L R (TT cy L R) f s H locs) (ha : a ∈ L) (hr : R a = 9) (hdg : decode cc pc = .ok (.getfield 388, 3)) (kk : ∀ b : Nat, b ∈ L → R b = 49 → fld f a 0 = .ref b → W p l e R0 s m args below meth c H locs cells slots Q (F0 m (pc + 3) ls (.ref b :: rest))) : W p l e R0 s m args below meth c H locs cells slots Q (F0 m pc ls (.ref a :: rest)) := tu_getr F h ha hr (fun e q => (T_9 e).mp q) rfl inlX9 rfl (Nat.le_of_ble_eq_true rfl) mw_1490 hdg kk
end
theorem dX11_orders_91 : decode cX11_orders 91 = .ok (.iload_n 2, 1) := by decide +kernel
theorem dX11_orders_92 : decode cX11_orders 92 = .ok (.aaload, 1) := by decide +kernel
theorem dX11_orders_93 : decode cX11_orders 93 = .ok (.invokevirtual 241, 3) := by decide +kernel
theorem dX11_orders_96 : decode cX11_orders 96 = .ok (.iinc 2 1, 3) := by decide +kernel
theorem dX11_orders_99 : decode cX11_orders 99 = .ok (.goto (-44), 3) := by decide +kernel
theorem dX11_orders_46 : decode cX11_orders 46 = .ok (.aload_n 0, 1) := by decide +kernel
theorem dX11_orders_47 : decode cX11_orders 47 = .ok (.bipush 6, 2) := by decide +kernel
theorem dX11_orders_49 : decode cX11_orders 49 = .ok (.invokevirtual 140, 3) := by decide +kernel
theorem dX11_orders_52 : decode cX11_orders 52 = .ok (.ireturn, 1) := by decide +kernel
theorem dX11_orders_30 : decode cX11_orders 30 = .ok (.aload_n 0, 1) := by decide +kernel
theorem dX11_orders_31 : decode cX11_orders 31 = .ok (.iconst 4, 1) := by decide +kernel
theorem dX11_orders_32 : decode cX11_orders 32 = .ok (.invokevirtual 140, 3) := by decide +kernel
theorem dX11_orders_35 : decode cX11_orders 35 = .ok (.ireturn, 1) := by decide +kernel
theorem dX11_orders_7 : decode cX11_orders 7 = .ok (.aload_n 0, 1) := by decide +kernel
theorem dX11_orders_8 : decode cX11_orders 8 = .ok (.iconst 1, 1) := by decide +kernel
theorem dX11_orders_9 : decode cX11_orders 9 = .ok (.invokevirtual 140, 3) := by decide +kernel
theorem dX11_orders_12 : decode cX11_orders 12 = .ok (.ireturn, 1) := by decide +kernel
def rm_X11_orders : Room := { frames := 7, cells := 0, slots := 0, locals := 176 }
set_option maxHeartbeats 4000000 in
set_option maxRecDepth 100000 in
theorem s_X11_orders (l : Launch) (D : va_G) (cy : Nat → ClassId) (L : List Nat) (R O : Nat → Nat) (f0 : Nat → va_E) (hG : GG L R O f0) (a0 : Nat) (m_a0 : a0 ∈ L) (r_a0 : R a0 = 11) (x1 : Int32) (pre0 : PI L R O f0 a0) : ∀ sz, Met l yX11_orders (Cond.code yX11_orders cX11_orders 3 (some .int) :: wsL_law) rm_X11_orders (va_Pc [.ref a0, .int x1] (tPZ D cy L R (TT cy L R) f0 sz)) (va_Qi (fun (r : Int32) f1 => fr L R [(1, 0), (1, 1), (1, 2), (1, 3), (1, 5), (4, 1), (5, 4), (5, 5), (5, 6), (5, 7), (7, 10), (8, 1), (8, 2), (11, 14)] [1, 4, 5, 7, 8, 11, 23, 24, 25, 26, 27, 34, 47, 50, 51] f0 f1 ∧ KO L R O (rfa f0 (rfa f0 a0 6) 12) f0 f1) (tB D (tA L sz) L R (TT cy L R)) (tA L sz)) 0 0 (tA L sz) := by
  refine tw_enteri (by decide +kernel) rfl (Nat.le_of_ble_eq_true rfl) ?_
  intro p e s m below meth c A ls args Q F hZ h hl hret
  have hl : lv_has ls 3 [(0, .ref a0), (1, .int x1)] := hl
  have hk : fr L R [(1, 0), (1, 1), (1, 2), (1, 3), (1, 5), (4, 1), (5, 4), (5, 5), (5, 6), (5, 7), (7, 10), (8, 1), (8, 2), (11, 14)] [1, 4, 5, 7, 8, 11, 23, 24, 25, 26, 27, 34, 47, 50, 51] f0 f0 := fr.rf
  obtain ⟨a0_search, m_a0_search, r_a0_search, t_a0_search⟩ := h.rf m_a0 r_a0 (fun e q => (T_11 e).mp q) (k := 6) rfl
  obtain ⟨a0_search_ears, m_a0_search_ears, r_a0_search_ears, t_a0_search_ears⟩ := h.rf m_a0_search r_a0_search (fun e q => (T_7 e).mp q) (k := 1) rfl
  obtain ⟨a0_book, m_a0_book, r_a0_book, t_a0_book⟩ := h.rf m_a0 r_a0 (fun e q => (T_11 e).mp q) (k := 3) rfl
  obtain ⟨a0_book_scripts, m_a0_book_scripts, r_a0_book_scripts, t_a0_book_scripts⟩ := h.rf m_a0_book r_a0_book (fun e q => (T_0 e).mp q) (k := 0) rfl
  obtain ⟨a0_talk, m_a0_talk, r_a0_talk, t_a0_talk⟩ := h.rf m_a0 r_a0 (fun e q => (T_11 e).mp q) (k := 5) rfl
  have t_a0_talk_size := h.bfi m_a0_talk r_a0_talk (fun e q => (T_9 e).mp q) (k := 4) rfl
  have pre0c := pre0
  have hs6 := rfa_of t_a0_search
  have hs3 := rfa_of t_a0_book
  unfold PI at pre0
  rw [hs6, hs3] at pre0
  obtain ⟨hSO, ⟨pb1, pb2, pb3⟩, hBD⟩ := pre0
  have hO : KO L R O (rfa f0 a0_search 12) f0 f0 := KO.rf
  refine lv_iload_n F.1 F.2.1 dX11_orders_0 rfl (lv_at hl 1 rfl) ?_
  refine tw_Si (As := [.int x1]) F hZ h yk_X11_isScript mw_511 mw_512 (s_X11_isScript l D cy L R O f0 x1) rfl rfl hl.1 rfl (Nat.le_of_ble_eq_true rfl) ⟨Nat.le_of_ble_eq_true rfl, Nat.le_of_ble_eq_true rfl⟩ ⟨Nat.le_of_ble_eq_true rfl, Nat.le_of_ble_eq_true rfl⟩ dX11_orders_1 (fun v2 f1 H locs hp1 h => ?_)
  obtain ⟨rfl, hv2a, hv2b, hv2p0⟩ := hp1
  refine tw_if_ne (tgt := 13) F dX11_orders_4 (by decide) (fun b3 => ?_) (fun b3 => ?_)
  · refine lv_aload_n F.1 F.2.1 dX11_orders_13 rfl (lv_at hl 0 rfl) ?_
    refine g_11_29 F h m_a0 r_a0 dX11_orders_14 (fun o4 m_o4 r_o4 ho4 => ?_)
    obtain rfl := (fld_inj t_a0_book ho4).symm
    refine g_11_167 F h m_a0_book r_a0_book dX11_orders_17 (fun o5 m_o5 r_o5 ho5 => ?_)
    obtain rfl := (fld_inj t_a0_book_scripts ho5).symm
    refine lv_iload_n F.1 F.2.1 dX11_orders_20 rfl (lv_at hl 1 rfl) ?_
    refine le_20 F h m_a0_book_scripts r_a0_book_scripts (by omega) dX11_orders_21 (fun o6 m_o6 r_o6 eo6 => ?_)
    obtain ⟨b, qb0, m_b, r_b⟩ := tS_elq h pb1 pb2 (fun e q => (T_20 e).mp q) (show x1.toInt.toNat < 3 by omega)
    have acb := (pb3 _ b qb0 (by omega)).2.2
    have hsb0 : o6 = b := Option.some.inj ((elq_a t_a0_book_scripts eo6).symm.trans qb0)
    refine g_11_213 F h m_o6 r_o6 dX11_orders_22 (fun v7 hv7 hv7a hv7b => ?_)
    have kc : fi f0 b 15 = v7.toInt := by rw [← hsb0]; omega
    refine tw_bipush F dX11_orders_25 kb_6 (fun z8 hz8 => ?_)
    refine tw_icmp_le (tgt := 36) F dX11_orders_27 (by decide) (fun b9 => ?_) (fun b9 => ?_)
    · refine lv_aload_n F.1 F.2.1 dX11_orders_36 rfl (lv_at hl 0 rfl) ?_
      refine g_11_40 F h m_a0 r_a0 dX11_orders_37 (fun o10 m_o10 r_o10 ho10 => ?_)
      obtain rfl := (fld_inj t_a0_talk ho10).symm
      refine g_11_198 F h m_a0_talk r_a0_talk dX11_orders_40 (fun v11 hv11 hv11a hv11b => ?_)
      refine tw_if_ne (tgt := 53) F dX11_orders_43 (by decide) (fun b12 => ?_) (fun b12 => ?_)
      · refine tw_iconst F dX11_orders_53 ki_0 (fun z13 hz13 => ?_)
        refine lv_istore_n (lv' := [(2, .int z13), (0, .ref a0), (1, .int x1)]) F.1 F.2.1 dX11_orders_54 rfl hl (by decide) rfl (fun ls hl => ?_)
        have j_55 : ∀ (n55 : Nat) (f14 : Nat → va_E) (H : Heap) (locs : List Loc) (ls : Array Slot) (x2_55 : Int32), 0 ≤ x2_55.toInt → x2_55.toInt ≤ 15 → x2_55.toInt ≤ fi f0 a0_talk 4 → (HB L R f14 a0_search x2_55.toInt.toNat b) → ((15 - x2_55.toInt)).toNat < n55 → tS D cy A s.heap L R (TT cy L R) f14 s H locs → KO L R O (rfa f0 a0_search 12) f0 f14 → fr L R [(1, 0), (1, 1), (1, 2), (1, 3), (1, 5), (4, 1), (5, 4), (5, 5), (5, 6), (5, 7), (7, 10), (8, 1), (8, 2), (11, 14)] [1, 4, 5, 7, 8, 11, 23, 24, 25, 26, 27, 34, 47, 50, 51] f0 f14 → fr L R [(1, 0), (1, 1), (1, 2), (1, 3), (1, 5)] [1, 24, 25, 26, 27] f0 f14 → lv_has ls 3 [(0, .ref a0), (1, .int x1), (2, .int x2_55)] → W p l e rm_X11_orders s m args below meth c H locs 0 0 Q (F0 m 55 ls []) := by
          intro n55
          induction n55 with
          | zero =>
            intro f14 H locs ls x2_55 b15 b16 b17 ip55_0 b18 h hO hk hb55 hl
            exfalso
            omega
          | succ n55 ih55 =>
            intro f14 H locs ls x2_55 b15 b16 b17 ip55_0 b18 h hO hk hb55 hl
            have e19 : fld f14 a0 6 = .ref a0_search := (hb55.efl m_a0 r_a0 rfl).trans t_a0_search
            have e20 : fld f14 a0_search 1 = .ref a0_search_ears := (hb55.efl m_a0_search r_a0_search rfl).trans t_a0_search_ears
            have e21 : fld f14 a0 3 = .ref a0_book := (hb55.efl m_a0 r_a0 rfl).trans t_a0_book
            have e22 : fld f14 a0_book 0 = .ref a0_book_scripts := (hb55.efl m_a0_book r_a0_book rfl).trans t_a0_book_scripts
            have e23 : fld f14 a0 5 = .ref a0_talk := (hb55.efl m_a0 r_a0 rfl).trans t_a0_talk
            have e24 : fi f14 a0_talk 4 = fi f0 a0_talk 4 := hb55.efi m_a0_talk r_a0_talk rfl
            have e25 : fi f14 o6 15 = fi f0 o6 15 := hb55.efi m_o6 r_o6 rfl
            refine lv_iload_n F.1 F.2.1 dX11_orders_55 rfl (lv_at hl 2 rfl) ?_
            refine lv_aload_n F.1 F.2.1 dX11_orders_56 rfl (lv_at hl 0 rfl) ?_
            refine g_11_40 F h m_a0 r_a0 dX11_orders_57 (fun o26 m_o26 r_o26 ho26 => ?_)
            obtain rfl := (fld_inj e23 ho26).symm
            refine g_11_198 F h m_a0_talk r_a0_talk dX11_orders_60 (fun v27 hv27 hv27a hv27b => ?_)
            refine tw_icmp_ge (tgt := 102) F dX11_orders_63 (by decide) (fun b28 => ?_) (fun b28 => ?_)
            · refine lv_aload_n F.1 F.2.1 dX11_orders_102 rfl (lv_at hl 0 rfl) ?_
              refine lv_aload_n F.1 F.2.1 dX11_orders_103 rfl (lv_at hl 0 rfl) ?_
              refine g_11_47 F h m_a0 r_a0 dX11_orders_104 (fun o29 m_o29 r_o29 ho29 => ?_)
              obtain rfl := (fld_inj e19 ho29).symm
              refine lv_aload_n F.1 F.2.1 dX11_orders_107 rfl (lv_at hl 0 rfl) ?_
              refine g_11_40 F h m_a0 r_a0 dX11_orders_108 (fun o30 m_o30 r_o30 ho30 => ?_)
              obtain rfl := (fld_inj e23 ho30).symm
              refine lv_aload_n F.1 F.2.1 dX11_orders_111 rfl (lv_at hl 0 rfl) ?_
              refine g_11_29 F h m_a0 r_a0 dX11_orders_112 (fun o31 m_o31 r_o31 ho31 => ?_)
              obtain rfl := (fld_inj e21 ho31).symm
              refine g_11_167 F h m_a0_book r_a0_book dX11_orders_115 (fun o32 m_o32 r_o32 ho32 => ?_)
              obtain rfl := (fld_inj e22 ho32).symm
              refine lv_iload_n F.1 F.2.1 dX11_orders_118 rfl (lv_at hl 1 rfl) ?_
              refine le_20 F h m_a0_book_scripts r_a0_book_scripts (by omega) dX11_orders_119 (fun o33 m_o33 r_o33 eo33 => ?_)
              have hsb9 : o33 = b := by have q := elq_a e22 eo33; rw [hk.erf m_a0_book r_a0_book (by decide +kernel), hk.eelq pb1 pb2 (by decide +kernel)] at q; exact Option.some.inj (q.symm.trans qb0)
              have kc9 : fi f14 o33 15 = fi f0 b 15 := by rw [hsb9, hk.efi m_b r_b (by decide +kernel)]
              have hB : SB L R O f14 a0_search (fi f14 a0_talk 4).toNat b := ⟨SO_fr hSO hk (by decide +kernel) (by decide +kernel) m_a0_search r_a0_search, by rw [show (fi f14 a0_talk 4).toNat = x2_55.toInt.toNat by omega]; exact ip55_0⟩
              refine g_11_213 F h m_o33 r_o33 dX11_orders_120 (fun v34 hv34 hv34a hv34b => ?_)
              have hk0_123 : rfa f14 a0_search 12 = rfa f0 a0_search 12 := hk.erf m_a0_search r_a0_search (by decide +kernel)
              refine tw_Vi (As := [.ref a0_talk, .int v34]) F hZ h yk_X7_tryOrders mw_1491 mw_1492 mw_1493 (s_X7_tryOrders l D cy L R O f14 (hG.fr hk (by decide +kernel) (by decide +kernel)) a0_search m_a0_search r_a0_search a0_talk m_a0_talk r_a0_talk v34 ⟨by omega, by omega⟩ ⟨b, m_b, r_b, hB⟩) rfl rfl m_a0_search r_a0_search (fun e q => (T_7 e).mp q) rfl hl.1 rfl (Nat.le_of_ble_eq_true rfl) ⟨Nat.le_of_ble_eq_true rfl, Nat.le_of_ble_eq_true rfl⟩ ⟨Nat.le_of_ble_eq_true rfl, Nat.le_of_ble_eq_true rfl⟩ dX11_orders_123 (fun v36 f35 H locs hp35 h => ?_)
              obtain ⟨hf35, hv36p0⟩ := hp35
              have hk : fr L R [(1, 0), (1, 1), (1, 2), (1, 3), (1, 5), (4, 1), (5, 4), (5, 5), (5, 6), (5, 7), (7, 10), (8, 1), (8, 2), (11, 14)] [1, 4, 5, 7, 8, 11, 23, 24, 25, 26, 27, 34, 47, 50, 51] f0 f35 := hk.tr hf35 (by decide +kernel) (by decide +kernel)
              have e37 : fld f35 a0 6 = .ref a0_search := (hf35.efl m_a0 r_a0 rfl).trans e19
              have e38 : fld f35 a0_search 1 = .ref a0_search_ears := (hf35.efl m_a0_search r_a0_search rfl).trans e20
              have e39 : fld f35 a0 3 = .ref a0_book := (hf35.efl m_a0 r_a0 rfl).trans e21
              have e40 : fld f35 a0_book 0 = .ref a0_book_scripts := (hf35.efl m_a0_book r_a0_book rfl).trans e22
              have e41 : fld f35 a0 5 = .ref a0_talk := (hf35.efl m_a0 r_a0 rfl).trans e23
              have e42 : fi f35 a0_talk 4 = fi f14 a0_talk 4 := hf35.efi m_a0_talk r_a0_talk rfl
              have e43 : fi f35 o6 15 = fi f14 o6 15 := hf35.efi m_o6 r_o6 rfl
              have e44 : fi f35 o33 15 = fi f14 o33 15 := hf35.efi m_o33 r_o33 rfl
              have hO : KO L R O (rfa f0 a0_search 12) f0 f35 := hO.tr (by have q := hv36p0; rw [hk0_123] at q; exact q)
              refine tw_Vi (As := [.int v36]) F hZ h yk_X11_grant mw_442 mw_443 mw_444 (s_X11_grant l D cy L R O f35 a0 m_a0 r_a0 v36) rfl rfl m_a0 r_a0 (fun e q => (T_11 e).mp q) rfl hl.1 rfl (Nat.le_of_ble_eq_true rfl) ⟨Nat.le_of_ble_eq_true rfl, Nat.le_of_ble_eq_true rfl⟩ ⟨Nat.le_of_ble_eq_true rfl, Nat.le_of_ble_eq_true rfl⟩ dX11_orders_126 (fun v46 f45 H locs hp45 h => ?_)
              have hf45 := hp45
              have hO : KO L R O (rfa f0 a0_search 12) f0 f45 := KO_fr hO hf45 (by decide +kernel)
              have hk : fr L R [(1, 0), (1, 1), (1, 2), (1, 3), (1, 5), (4, 1), (5, 4), (5, 5), (5, 6), (5, 7), (7, 10), (8, 1), (8, 2), (11, 14)] [1, 4, 5, 7, 8, 11, 23, 24, 25, 26, 27, 34, 47, 50, 51] f0 f45 := hk.tr hf45 rfl rfl
              have e47 : fld f45 a0 6 = .ref a0_search := (hf45.efl m_a0 r_a0 rfl).trans e37
              have e48 : fld f45 a0_search 1 = .ref a0_search_ears := (hf45.efl m_a0_search r_a0_search rfl).trans e38
              have e49 : fld f45 a0 3 = .ref a0_book := (hf45.efl m_a0 r_a0 rfl).trans e39
              have e50 : fld f45 a0_book 0 = .ref a0_book_scripts := (hf45.efl m_a0_book r_a0_book rfl).trans e40
              have e51 : fld f45 a0 5 = .ref a0_talk := (hf45.efl m_a0 r_a0 rfl).trans e41
              have e52 : fi f45 a0_talk 4 = fi f35 a0_talk 4 := hf45.efi m_a0_talk r_a0_talk rfl
              have e53 : fi f45 o6 15 = fi f35 o6 15 := hf45.efi m_o6 r_o6 rfl
              have e54 : fi f45 o33 15 = fi f35 o33 15 := hf45.efi m_o33 r_o33 rfl
              exact hret f45 _ _ _ _ v46 dX11_orders_129 rfl ⟨hk, by rw [hs6]; exact hO⟩ h
            · refine lv_aload_n F.1 F.2.1 dX11_orders_66 rfl (lv_at hl 0 rfl) ?_
              refine g_11_47 F h m_a0 r_a0 dX11_orders_67 (fun o55 m_o55 r_o55 ho55 => ?_)
              obtain rfl := (fld_inj e19 ho55).symm
              refine g_11_237 F h m_a0_search r_a0_search dX11_orders_70 (fun o56 m_o56 r_o56 ho56 => ?_)
              obtain rfl := (fld_inj e20 ho56).symm
              refine lv_iload_n F.1 F.2.1 dX11_orders_73 rfl (lv_at hl 2 rfl) ?_
              refine le_45 F h m_a0_search_ears r_a0_search_ears (by omega) dX11_orders_74 (fun o57 m_o57 r_o57 eo57 => ?_)
              refine lv_aload_n F.1 F.2.1 dX11_orders_75 rfl (lv_at hl 0 rfl) ?_
              refine g_11_29 F h m_a0 r_a0 dX11_orders_76 (fun o58 m_o58 r_o58 ho58 => ?_)
              obtain rfl := (fld_inj e21 ho58).symm
              refine g_11_167 F h m_a0_book r_a0_book dX11_orders_79 (fun o59 m_o59 r_o59 ho59 => ?_)
              obtain rfl := (fld_inj e22 ho59).symm
              refine lv_iload_n F.1 F.2.1 dX11_orders_82 rfl (lv_at hl 1 rfl) ?_
              refine le_20 F h m_a0_book_scripts r_a0_book_scripts (by omega) dX11_orders_83 (fun o60 m_o60 r_o60 eo60 => ?_)
              refine lv_aload_n F.1 F.2.1 dX11_orders_84 rfl (lv_at hl 0 rfl) ?_
              refine g_11_40 F h m_a0 r_a0 dX11_orders_85 (fun o61 m_o61 r_o61 ho61 => ?_)
              obtain rfl := (fld_inj e23 ho61).symm
              refine g_11_388 F h m_a0_talk r_a0_talk dX11_orders_88 (fun o62 m_o62 r_o62 ho62 => ?_)
              refine lv_iload_n F.1 F.2.1 dX11_orders_91 rfl (lv_at hl 2 rfl) ?_
              refine ld_49 F h m_o62 r_o62 (by omega) dX11_orders_92 (fun o63 m_o63 r_o63 => ?_)
              have hsb : o60 = b := by have q := elq_a e22 eo60; rw [hk.erf m_a0_book r_a0_book (by decide +kernel), hk.eelq pb1 pb2 (by decide +kernel)] at q; exact Option.some.inj (q.symm.trans qb0)
              have heE : elq f14 (rfa f14 a0_search 1) x2_55.toInt.toNat = some o57 := elq_a e20 eo57
              have ow := (hG.1.fr hk (by decide +kernel))
              have hH := ip55_0
              refine tw_Vv (As := [.ref o60, .ref o63]) F hZ h yk_X1_listen mw_843 mw_844 mw_845 (s_X1_listen l D cy L R O f14 (hG.fr hk (by decide +kernel) (by decide +kernel)) o57 m_o57 r_o57 o60 m_o60 r_o60 o63 m_o63 r_o63) rfl rfl m_o57 r_o57 (fun e q => (T_1 e).mp q) rfl hl.1 rfl (Nat.le_of_ble_eq_true rfl) ⟨Nat.le_of_ble_eq_true rfl, Nat.le_of_ble_eq_true rfl⟩ ⟨Nat.le_of_ble_eq_true rfl, Nat.le_of_ble_eq_true rfl⟩ dX11_orders_93 (fun f64 H locs hp64 h => ?_)
              obtain ⟨hf64, hv65p0, hv65p1, hv65p2⟩ := hp64
              have hO : KO L R O (rfa f0 a0_search 12) f0 f64 := KO_fr hO hf64 (by decide +kernel)
              have hk : fr L R [(1, 0), (1, 1), (1, 2), (1, 3), (1, 5), (4, 1), (5, 4), (5, 5), (5, 6), (5, 7), (7, 10), (8, 1), (8, 2), (11, 14)] [1, 4, 5, 7, 8, 11, 23, 24, 25, 26, 27, 34, 47, 50, 51] f0 f64 := hk.tr hf64 (by decide +kernel) (by decide +kernel)
              have hb55 : fr L R [(1, 0), (1, 1), (1, 2), (1, 3), (1, 5)] [1, 24, 25, 26, 27] f0 f64 := hb55.tr hf64 rfl rfl
              have e66 : fld f64 a0 6 = .ref a0_search := (hf64.efl m_a0 r_a0 rfl).trans e19
              have e67 : fld f64 a0_search 1 = .ref a0_search_ears := (hf64.efl m_a0_search r_a0_search rfl).trans e20
              have e68 : fld f64 a0 3 = .ref a0_book := (hf64.efl m_a0 r_a0 rfl).trans e21
              have e69 : fld f64 a0_book 0 = .ref a0_book_scripts := (hf64.efl m_a0_book r_a0_book rfl).trans e22
              have e70 : fld f64 a0 5 = .ref a0_talk := (hf64.efl m_a0 r_a0 rfl).trans e23
              have e71 : fi f64 a0_talk 4 = fi f14 a0_talk 4 := hf64.efi m_a0_talk r_a0_talk rfl
              have e72 : fi f64 o6 15 = fi f14 o6 15 := hf64.efi m_o6 r_o6 rfl
              have hv1 : fi f64 o57 2 = 0 ∨ VAL f64 b := by have q := hv65p1; rw [hsb, hk.efi m_b r_b (by decide +kernel)] at q; exact q.imp id (fun q => (acb q).fr hG.1 hk (by decide +kernel) (by decide +kernel) m_b r_b)
              have hHn : HB L R f64 a0_search (x2_55.toInt.toNat + 1) b := HB_step hH ow hf64 (by decide +kernel) (by decide +kernel) (by decide +kernel) (by decide +kernel) hv65p2 heE (by have q := hv65p0; rw [hsb] at q; exact q) hv1 m_a0_search r_a0_search m_b r_b m_o57 r_o57
              refine tu_iinc F dX11_orders_96 hl (k := 2) rfl (by decide) ki_1 (by omega) (fun z73 ls hz73 hl => ?_)
              have hl : lv_has ls 3 [(2, .int z73), (0, .ref a0), (1, .int x1)] := hl
              refine lv_goto (tgt := 55) F.1 F.2.1 dX11_orders_99 (by decide) ?_
              exact ih55 f64 _ _ _ z73 (by omega) (by omega) (by omega) ((by rw [show z73.toInt.toNat = x2_55.toInt.toNat + 1 by omega]; exact hHn)) (by omega) h hO hk hb55 (lv_sub hl [1, 2, 0] rfl)
        have hb55 : fr L R [(1, 0), (1, 1), (1, 2), (1, 3), (1, 5)] [1, 24, 25, 26, 27] f0 f0 := fr.rf
        exact j_55 (((15 - z13.toInt)).toNat + 1) f0 _ _ _ z13 (by omega) (by omega) (by omega) (HB_0 t_a0_search_ears m_a0_search_ears r_a0_search_ears (by omega)) (by omega) h hO hk hb55 (lv_sub hl [1, 2, 0] rfl)
      · refine lv_aload_n F.1 F.2.1 dX11_orders_46 rfl (lv_at hl 0 rfl) ?_
        refine tw_bipush F dX11_orders_47 kb_6 (fun z74 hz74 => ?_)
        refine tw_Vi (As := [.int z74]) F hZ h yk_X11_refuse mw_378 mw_379 mw_380 (s_X11_refuse l D cy L R O f0 a0 m_a0 r_a0 z74 ⟨by omega, by omega⟩) rfl rfl m_a0 r_a0 (fun e q => (T_11 e).mp q) rfl hl.1 rfl (Nat.le_of_ble_eq_true rfl) ⟨Nat.le_of_ble_eq_true rfl, Nat.le_of_ble_eq_true rfl⟩ ⟨Nat.le_of_ble_eq_true rfl, Nat.le_of_ble_eq_true rfl⟩ dX11_orders_49 (fun v76 f75 H locs hp75 h => ?_)
        obtain ⟨hf75, hv76a, hv76b⟩ := hp75
        have hO : KO L R O (rfa f0 a0_search 12) f0 f75 := KO_fr hO hf75 (by decide +kernel)
        have hk : fr L R [(1, 0), (1, 1), (1, 2), (1, 3), (1, 5), (4, 1), (5, 4), (5, 5), (5, 6), (5, 7), (7, 10), (8, 1), (8, 2), (11, 14)] [1, 4, 5, 7, 8, 11, 23, 24, 25, 26, 27, 34, 47, 50, 51] f0 f75 := hk.tr hf75 rfl rfl
        have e77 : fld f75 a0 6 = .ref a0_search := (hf75.efl m_a0 r_a0 rfl).trans t_a0_search
        have e78 : fld f75 a0_search 1 = .ref a0_search_ears := (hf75.efl m_a0_search r_a0_search rfl).trans t_a0_search_ears
        have e79 : fld f75 a0 3 = .ref a0_book := (hf75.efl m_a0 r_a0 rfl).trans t_a0_book
        have e80 : fld f75 a0_book 0 = .ref a0_book_scripts := (hf75.efl m_a0_book r_a0_book rfl).trans t_a0_book_scripts
        have e81 : fld f75 a0 5 = .ref a0_talk := (hf75.efl m_a0 r_a0 rfl).trans t_a0_talk
        have e82 : fi f75 a0_talk 4 = fi f0 a0_talk 4 := hf75.efi m_a0_talk r_a0_talk rfl
        have e83 : fi f75 o6 15 = fi f0 o6 15 := hf75.efi m_o6 r_o6 rfl
        exact hret f75 _ _ _ _ v76 dX11_orders_52 rfl ⟨hk, by rw [hs6]; exact hO⟩ h
    · refine lv_aload_n F.1 F.2.1 dX11_orders_30 rfl (lv_at hl 0 rfl) ?_
      refine tw_iconst F dX11_orders_31 ki_4 (fun z84 hz84 => ?_)
      refine tw_Vi (As := [.int z84]) F hZ h yk_X11_refuse mw_378 mw_379 mw_380 (s_X11_refuse l D cy L R O f0 a0 m_a0 r_a0 z84 ⟨by omega, by omega⟩) rfl rfl m_a0 r_a0 (fun e q => (T_11 e).mp q) rfl hl.1 rfl (Nat.le_of_ble_eq_true rfl) ⟨Nat.le_of_ble_eq_true rfl, Nat.le_of_ble_eq_true rfl⟩ ⟨Nat.le_of_ble_eq_true rfl, Nat.le_of_ble_eq_true rfl⟩ dX11_orders_32 (fun v86 f85 H locs hp85 h => ?_)
      obtain ⟨hf85, hv86a, hv86b⟩ := hp85
      have hO : KO L R O (rfa f0 a0_search 12) f0 f85 := KO_fr hO hf85 (by decide +kernel)
      have hk : fr L R [(1, 0), (1, 1), (1, 2), (1, 3), (1, 5), (4, 1), (5, 4), (5, 5), (5, 6), (5, 7), (7, 10), (8, 1), (8, 2), (11, 14)] [1, 4, 5, 7, 8, 11, 23, 24, 25, 26, 27, 34, 47, 50, 51] f0 f85 := hk.tr hf85 rfl rfl
      have e87 : fld f85 a0 6 = .ref a0_search := (hf85.efl m_a0 r_a0 rfl).trans t_a0_search
      have e88 : fld f85 a0_search 1 = .ref a0_search_ears := (hf85.efl m_a0_search r_a0_search rfl).trans t_a0_search_ears
      have e89 : fld f85 a0 3 = .ref a0_book := (hf85.efl m_a0 r_a0 rfl).trans t_a0_book
      have e90 : fld f85 a0_book 0 = .ref a0_book_scripts := (hf85.efl m_a0_book r_a0_book rfl).trans t_a0_book_scripts
      have e91 : fld f85 a0 5 = .ref a0_talk := (hf85.efl m_a0 r_a0 rfl).trans t_a0_talk
      have e92 : fi f85 a0_talk 4 = fi f0 a0_talk 4 := hf85.efi m_a0_talk r_a0_talk rfl
      have e93 : fi f85 o6 15 = fi f0 o6 15 := hf85.efi m_o6 r_o6 rfl
      exact hret f85 _ _ _ _ v86 dX11_orders_35 rfl ⟨hk, by rw [hs6]; exact hO⟩ h
  · refine lv_aload_n F.1 F.2.1 dX11_orders_7 rfl (lv_at hl 0 rfl) ?_
    refine tw_iconst F dX11_orders_8 ki_1 (fun z94 hz94 => ?_)
    refine tw_Vi (As := [.int z94]) F hZ h yk_X11_refuse mw_378 mw_379 mw_380 (s_X11_refuse l D cy L R O f0 a0 m_a0 r_a0 z94 ⟨by omega, by omega⟩) rfl rfl m_a0 r_a0 (fun e q => (T_11 e).mp q) rfl hl.1 rfl (Nat.le_of_ble_eq_true rfl) ⟨Nat.le_of_ble_eq_true rfl, Nat.le_of_ble_eq_true rfl⟩ ⟨Nat.le_of_ble_eq_true rfl, Nat.le_of_ble_eq_true rfl⟩ dX11_orders_9 (fun v96 f95 H locs hp95 h => ?_)
    obtain ⟨hf95, hv96a, hv96b⟩ := hp95
    have hO : KO L R O (rfa f0 a0_search 12) f0 f95 := KO_fr hO hf95 (by decide +kernel)
    have hk : fr L R [(1, 0), (1, 1), (1, 2), (1, 3), (1, 5), (4, 1), (5, 4), (5, 5), (5, 6), (5, 7), (7, 10), (8, 1), (8, 2), (11, 14)] [1, 4, 5, 7, 8, 11, 23, 24, 25, 26, 27, 34, 47, 50, 51] f0 f95 := hk.tr hf95 rfl rfl
    have e97 : fld f95 a0 6 = .ref a0_search := (hf95.efl m_a0 r_a0 rfl).trans t_a0_search
    have e98 : fld f95 a0_search 1 = .ref a0_search_ears := (hf95.efl m_a0_search r_a0_search rfl).trans t_a0_search_ears
    have e99 : fld f95 a0 3 = .ref a0_book := (hf95.efl m_a0 r_a0 rfl).trans t_a0_book
    have e100 : fld f95 a0_book 0 = .ref a0_book_scripts := (hf95.efl m_a0_book r_a0_book rfl).trans t_a0_book_scripts
    have e101 : fld f95 a0 5 = .ref a0_talk := (hf95.efl m_a0 r_a0 rfl).trans t_a0_talk
    have e102 : fi f95 a0_talk 4 = fi f0 a0_talk 4 := hf95.efi m_a0_talk r_a0_talk rfl
    exact hret f95 _ _ _ _ v96 dX11_orders_12 rfl ⟨hk, by rw [hs6]; exact hO⟩ h
theorem dX11_say_0 : decode cX11_say 0 = .ok (.iload_n 1, 1) := by decide +kernel
theorem dX11_say_1 : decode cX11_say 1 = .ok (.invokestatic 161, 3) := by decide +kernel
theorem dX11_say_4 : decode cX11_say 4 = .ok (.ifCond .eq 12, 3) := by decide +kernel
theorem dX11_say_16 : decode cX11_say 16 = .ok (.aload_n 0, 1) := by decide +kernel
theorem dX11_say_17 : decode cX11_say 17 = .ok (.iconst 1, 1) := by decide +kernel
theorem dX11_say_18 : decode cX11_say 18 = .ok (.invokevirtual 140, 3) := by decide +kernel
theorem dX11_say_21 : decode cX11_say 21 = .ok (.ireturn, 1) := by decide +kernel
theorem dX11_say_7 : decode cX11_say 7 = .ok (.aload_n 0, 1) := by decide +kernel
theorem dX11_say_8 : decode cX11_say 8 = .ok (.iload_n 2, 1) := by decide +kernel
theorem dX11_say_9 : decode cX11_say 9 = .ok (.i2l, 1) := by decide +kernel
theorem dX11_say_10 : decode cX11_say 10 = .ok (.invokevirtual 201, 3) := by decide +kernel
theorem dX11_say_13 : decode cX11_say 13 = .ok (.ifCond .ne 9, 3) := by decide +kernel
theorem dX11_say_22 : decode cX11_say 22 = .ok (.aload_n 0, 1) := by decide +kernel
theorem dX11_say_23 : decode cX11_say 23 = .ok (.getfield 47, 3) := by decide +kernel
theorem dX11_say_26 : decode cX11_say 26 = .ok (.getfield 237, 3) := by decide +kernel
theorem dX11_say_29 : decode cX11_say 29 = .ok (.iconst 0, 1) := by decide +kernel
theorem dX11_say_30 : decode cX11_say 30 = .ok (.aaload, 1) := by decide +kernel
theorem dX11_say_31 : decode cX11_say 31 = .ok (.astore_n 3, 1) := by decide +kernel
theorem dX11_say_32 : decode cX11_say 32 = .ok (.aload_n 3, 1) := by decide +kernel
theorem dX11_say_33 : decode cX11_say 33 = .ok (.aload_n 0, 1) := by decide +kernel
theorem dX11_say_34 : decode cX11_say 34 = .ok (.getfield 29, 3) := by decide +kernel
theorem dX11_say_37 : decode cX11_say 37 = .ok (.getfield 167, 3) := by decide +kernel
theorem dX11_say_40 : decode cX11_say 40 = .ok (.iload_n 1, 1) := by decide +kernel
theorem dX11_say_41 : decode cX11_say 41 = .ok (.aaload, 1) := by decide +kernel
theorem dX11_say_42 : decode cX11_say 42 = .ok (.aload_n 0, 1) := by decide +kernel
theorem dX11_say_43 : decode cX11_say 43 = .ok (.getfield 29, 3) := by decide +kernel
theorem dX11_say_46 : decode cX11_say 46 = .ok (.getfield 205, 3) := by decide +kernel
theorem dX11_say_49 : decode cX11_say 49 = .ok (.iload_n 2, 1) := by decide +kernel
theorem dX11_say_50 : decode cX11_say 50 = .ok (.aaload, 1) := by decide +kernel
theorem dX11_say_51 : decode cX11_say 51 = .ok (.invokevirtual 241, 3) := by decide +kernel
theorem dX11_say_54 : decode cX11_say 54 = .ok (.aload_n 0, 1) := by decide +kernel
theorem dX11_say_55 : decode cX11_say 55 = .ok (.getfield 47, 3) := by decide +kernel
theorem dX11_say_58 : decode cX11_say 58 = .ok (.getfield 267, 3) := by decide +kernel
theorem mw_953 : Cond.fieldLink RX11 267 "AskBack$Search" "sayer" "LAskBack$Sayer;" ∈ wsL_law := inr_40 _ (List.mem_of_getElem? (i := 17) rfl)
section
variable {p : Program} {l : Launch} {e : Env} {R0 : Room} {s : State} {m : MethodId} {args : Array Value} {below : List Frame} {meth : Method} {c : Code} {H H0 : Heap} {locs : List Loc} {cells slots : Nat} {Q : State → Prop} {cc : ByteArray} {nL : Nat} {D : va_G} {cy : Nat → ClassId} {A : Nat → Prop} {L : List Nat} {R : Nat → Nat} {f : Nat → va_E} {pc : Nat} {ls : Array Slot} {rest : List Value} {a : Nat}
theorem g_11_267 (F : CallFix p m c cc nL s args wsL_law RX11) (h : tS D cy A H0 L R (TT cy L R) f s H locs) (ha : a ∈ L) (hr : R a = 7) (hdg : decode cc pc = .ok (.getfield 267, 3)) (kk : ∀ b : Nat, b ∈ L → R b = 5 → fld f a 0 = .ref b → W p l e R0 s m args below meth c H locs cells slots Q (F0 m (pc + 3) ls (.ref b :: rest))) : W p l e R0 s m args below meth c H locs cells slots Q (F0 m pc ls (.ref a :: rest)) := tu_getr F h ha hr (fun e q => (T_7 e).mp q) rfl inlX7 rfl (Nat.le_of_ble_eq_true rfl) mw_953 hdg kk
end
theorem dX11_say_61 : decode cX11_say 61 = .ok (.aload_n 3, 1) := by decide +kernel
theorem dX11_say_62 : decode cX11_say 62 = .ok (.aload_n 0, 1) := by decide +kernel
theorem dX11_say_63 : decode cX11_say 63 = .ok (.getfield 29, 3) := by decide +kernel
theorem dX11_say_66 : decode cX11_say 66 = .ok (.getfield 175, 3) := by decide +kernel
theorem dX11_say_69 : decode cX11_say 69 = .ok (.iload_n 1, 1) := by decide +kernel
theorem dX11_say_70 : decode cX11_say 70 = .ok (.aaload, 1) := by decide +kernel
section
variable {p : Program} {l : Launch} {e : Env} {R0 : Room} {s : State} {m : MethodId} {args : Array Value} {below : List Frame} {meth : Method} {c : Code} {H H0 : Heap} {locs : List Loc} {cells slots : Nat} {Q : State → Prop} {cc : ByteArray} {nL : Nat} {D : va_G} {cy : Nat → ClassId} {A : Nat → Prop} {L : List Nat} {R : Nat → Nat} {f : Nat → va_E} {pc : Nat} {ls : Array Slot} {rest : List Value} {a : Nat}
theorem le_21 {own : String} (F : CallFix p m c cc nL s args wsL_law own) (h : tS D cy A H0 L R (TT cy L R) f s H locs) {i : Int32} (ha : a ∈ L) (hr : R a = 21) (hb : 0 ≤ i.toInt ∧ i.toInt < 3) (hdg : decode cc pc = .ok (.aaload, 1)) (kk : ∀ b : Nat, b ∈ L → R b = 8 → elq f a i.toInt.toNat = some b → W p l e R0 s m args below meth c H locs cells slots Q (F0 m (pc + 1) ls (.ref b :: rest))) : W p l e R0 s m args below meth c H locs cells slots Q (F0 m pc ls (.int i :: .ref a :: rest)) := tu_aaldE (t0 := 8) F h ha hr (fun e q => (T_21 e).mp q) rfl hb.1 hb.2 hdg kk
end
theorem dX11_say_71 : decode cX11_say 71 = .ok (.aload_n 3, 1) := by decide +kernel
theorem dX11_say_72 : decode cX11_say 72 = .ok (.getfield 271, 3) := by decide +kernel
theorem mw_954 : Cond.fieldLink RX11 271 "AskBack$Ear" "order" "[I" ∈ wsL_law := inr_40 _ (List.mem_of_getElem? (i := 18) rfl)
section
variable {p : Program} {l : Launch} {e : Env} {R0 : Room} {s : State} {m : MethodId} {args : Array Value} {below : List Frame} {meth : Method} {c : Code} {H H0 : Heap} {locs : List Loc} {cells slots : Nat} {Q : State → Prop} {cc : ByteArray} {nL : Nat} {D : va_G} {cy : Nat → ClassId} {A : Nat → Prop} {L : List Nat} {R : Nat → Nat} {f : Nat → va_E} {pc : Nat} {ls : Array Slot} {rest : List Value} {a : Nat}
theorem g_11_271 (F : CallFix p m c cc nL s args wsL_law RX11) (h : tS D cy A H0 L R (TT cy L R) f s H locs) (ha : a ∈ L) (hr : R a = 1) (hdg : decode cc pc = .ok (.getfield 271, 3)) (kk : ∀ b : Nat, b ∈ L → R b = 24 → fld f a 4 = .ref b → W p l e R0 s m args below meth c H locs cells slots Q (F0 m (pc + 3) ls (.ref b :: rest))) : W p l e R0 s m args below meth c H locs cells slots Q (F0 m pc ls (.ref a :: rest)) := tu_getr F h ha hr (fun e q => (T_1 e).mp q) rfl inlX1 rfl (Nat.le_of_ble_eq_true rfl) mw_954 hdg kk
end
theorem dX11_say_75 : decode cX11_say 75 = .ok (.aload_n 3, 1) := by decide +kernel
theorem dX11_say_76 : decode cX11_say 76 = .ok (.getfield 274, 3) := by decide +kernel
theorem mw_955 : Cond.fieldLink RX11 274 "AskBack$Ear" "orderCount" "I" ∈ wsL_law := inr_40 _ (List.mem_of_getElem? (i := 19) rfl)
section
variable {p : Program} {l : Launch} {e : Env} {R0 : Room} {s : State} {m : MethodId} {args : Array Value} {below : List Frame} {meth : Method} {c : Code} {H H0 : Heap} {locs : List Loc} {cells slots : Nat} {Q : State → Prop} {cc : ByteArray} {nL : Nat} {D : va_G} {cy : Nat → ClassId} {A : Nat → Prop} {L : List Nat} {R : Nat → Nat} {f : Nat → va_E} {pc : Nat} {ls : Array Slot} {rest : List Value} {a : Nat}
theorem g_11_274 (F : CallFix p m c cc nL s args wsL_law RX11) (h : tS D cy A H0 L R (TT cy L R) f s H locs) (ha : a ∈ L) (hr : R a = 1) (hdg : decode cc pc = .ok (.getfield 274, 3)) (kk : ∀ x : Int32, x.toInt = fi f a 5 → 0 ≤ x.toInt → x.toInt ≤ 12 → W p l e R0 s m args below meth c H locs cells slots Q (F0 m (pc + 3) ls (.int x :: rest))) : W p l e R0 s m args below meth c H locs cells slots Q (F0 m pc ls (.ref a :: rest)) := tu_geti F h ha hr (fun e q => (T_1 e).mp q) rfl inlX1 rfl (Nat.le_of_ble_eq_true rfl) mw_955 hdg (fun x h1 h2 h3 => kk x h1 h2 h3)
end
theorem dX11_say_79 : decode cX11_say 79 = .ok (.invokevirtual 277, 3) := by decide +kernel
theorem mw_958 : Cond.methodLink RX11 277 yX5_answer ∈ wsL_law := inr_40 _ (List.mem_of_getElem? (i := 22) rfl)
theorem dX11_say_82 : decode cX11_say 82 = .ok (.aload_n 0, 1) := by decide +kernel
theorem dX11_say_83 : decode cX11_say 83 = .ok (.getfield 54, 3) := by decide +kernel
theorem dX11_say_86 : decode cX11_say 86 = .ok (.aload_n 0, 1) := by decide +kernel
theorem dX11_say_87 : decode cX11_say 87 = .ok (.getfield 47, 3) := by decide +kernel
theorem dX11_say_90 : decode cX11_say 90 = .ok (.getfield 267, 3) := by decide +kernel
theorem dX11_say_93 : decode cX11_say 93 = .ok (.getfield 283, 3) := by decide +kernel
theorem mw_956 : Cond.fieldLink RX11 283 "AskBack$Sayer" "words" "LAskBack$Row;" ∈ wsL_law := inr_40 _ (List.mem_of_getElem? (i := 20) rfl)
section
variable {p : Program} {l : Launch} {e : Env} {R0 : Room} {s : State} {m : MethodId} {args : Array Value} {below : List Frame} {meth : Method} {c : Code} {H H0 : Heap} {locs : List Loc} {cells slots : Nat} {Q : State → Prop} {cc : ByteArray} {nL : Nat} {D : va_G} {cy : Nat → ClassId} {A : Nat → Prop} {L : List Nat} {R : Nat → Nat} {f : Nat → va_E} {pc : Nat} {ls : Array Slot} {rest : List Value} {a : Nat}
theorem g_11_283 (F : CallFix p m c cc nL s args wsL_law RX11) (h : tS D cy A H0 L R (TT cy L R) f s H locs) (ha : a ∈ L) (hr : R a = 5) (hdg : decode cc pc = .ok (.getfield 283, 3)) (kk : ∀ b : Nat, b ∈ L → R b = 4 → fld f a 0 = .ref b → W p l e R0 s m args below meth c H locs cells slots Q (F0 m (pc + 3) ls (.ref b :: rest))) : W p l e R0 s m args below meth c H locs cells slots Q (F0 m pc ls (.ref a :: rest)) := tu_getr F h ha hr (fun e q => (T_5 e).mp q) rfl inlX5 rfl (Nat.le_of_ble_eq_true rfl) mw_956 hdg kk
end
theorem dX11_say_96 : decode cX11_say 96 = .ok (.invokevirtual 286, 3) := by decide +kernel
theorem mw_1041 : Cond.methodLink RX11 286 yX4_copy ∈ wsL_law := inr_44 _ (List.mem_of_getElem? (i := 9) rfl)
theorem dX11_say_99 : decode cX11_say 99 = .ok (.aload_n 0, 1) := by decide +kernel
theorem dX11_say_100 : decode cX11_say 100 = .ok (.getfield 47, 3) := by decide +kernel
theorem dX11_say_103 : decode cX11_say 103 = .ok (.getfield 267, 3) := by decide +kernel
theorem dX11_say_106 : decode cX11_say 106 = .ok (.getfield 290, 3) := by decide +kernel
theorem mw_957 : Cond.fieldLink RX11 290 "AskBack$Sayer" "told" "[I" ∈ wsL_law := inr_40 _ (List.mem_of_getElem? (i := 21) rfl)
section
variable {p : Program} {l : Launch} {e : Env} {R0 : Room} {s : State} {m : MethodId} {args : Array Value} {below : List Frame} {meth : Method} {c : Code} {H H0 : Heap} {locs : List Loc} {cells slots : Nat} {Q : State → Prop} {cc : ByteArray} {nL : Nat} {D : va_G} {cy : Nat → ClassId} {A : Nat → Prop} {L : List Nat} {R : Nat → Nat} {f : Nat → va_E} {pc : Nat} {ls : Array Slot} {rest : List Value} {a : Nat}
theorem g_11_290 (F : CallFix p m c cc nL s args wsL_law RX11) (h : tS D cy A H0 L R (TT cy L R) f s H locs) (ha : a ∈ L) (hr : R a = 5) (hdg : decode cc pc = .ok (.getfield 290, 3)) (kk : ∀ b : Nat, b ∈ L → R b = 34 → fld f a 1 = .ref b → W p l e R0 s m args below meth c H locs cells slots Q (F0 m (pc + 3) ls (.ref b :: rest))) : W p l e R0 s m args below meth c H locs cells slots Q (F0 m pc ls (.ref a :: rest)) := tu_getr F h ha hr (fun e q => (T_5 e).mp q) rfl inlX5 rfl (Nat.le_of_ble_eq_true rfl) mw_957 hdg kk
end
theorem dX11_say_109 : decode cX11_say 109 = .ok (.iconst 0, 1) := by decide +kernel
theorem dX11_say_110 : decode cX11_say 110 = .ok (.aload_n 0, 1) := by decide +kernel
theorem dX11_say_111 : decode cX11_say 111 = .ok (.getfield 58, 3) := by decide +kernel
theorem dX11_say_114 : decode cX11_say 114 = .ok (.iconst 0, 1) := by decide +kernel
theorem dX11_say_115 : decode cX11_say 115 = .ok (.iconst 5, 1) := by decide +kernel
theorem dX11_say_116 : decode cX11_say 116 = .ok (.invokestatic 130, 3) := by decide +kernel
section
variable {p : Program} {l : Launch} {e : Env} {R0 : Room} {s : State} {m : MethodId} {args : Array Value} {below : List Frame} {meth : Method} {c : Code} {H H0 : Heap} {locs : List Loc} {cells slots : Nat} {Q : State → Prop} {cc : ByteArray} {nL : Nat} {D : va_G} {cy : Nat → ClassId} {A : Nat → Prop} {L : List Nat} {R : Nat → Nat} {f : Nat → va_E} {pc : Nat} {ls : Array Slot} {rest : List Value} {a : Nat}
theorem cp_34_34 {own : String} (F : CallFix p m c cc nL s args wsL_law own) (h : tS D cy A H0 L R (TT cy L R) f s H locs) (hsz : ls.size = nL) {index a0 : Nat} (m1 : Cond.methodLink own index arraycopyName ∈ wsL_law) (ha0 : a0 ∈ L) (hr0 : R a0 = 34) (ha : a ∈ L) (hr : R a = 34) {sp dp n : Int32} (hb : 0 ≤ sp.toInt ∧ 0 ≤ dp.toInt ∧ 0 ≤ n.toInt ∧ sp.toInt + n.toInt ≤ 5 ∧ dp.toInt + n.toInt ≤ 5) (hfr : 1 ≤ R0.frames) (hlo : (rest.map fun v => v.category).sum + (nativeFrameWords "java/lang/System" "arraycopy" 5 + 11) ≤ R0.locals) (hdg : decode cc pc = .ok (.invokestatic index, 3)) (kk : ∀ (f1 : Nat → va_E) (H1 : Heap) (locs1 : List Loc), fr L R [] [34] f f1 → tS D cy A H0 L R (TT cy L R) f1 s H1 locs1 → W p l e R0 s m args below meth c H1 locs1 cells slots Q (F0 m (pc + 3) ls (rest))) : W p l e R0 s m args below meth c H locs cells slots Q (F0 m pc ls (.int n :: .int dp :: .ref a :: .int sp :: .ref a0 :: rest)) := tu_cpyi F h hsz m1 mw_348 mw_349 mw_350 ha0 hr0 (fun e q => (T_34 e).mp q) ha hr T_34 (fun _ _ _ q => q) hb hfr hlo hdg (fun f1 H1 locs1 h1 h2 h3 h4 => kk f1 H1 locs1 h3 h4)
end
theorem dX11_say_119 : decode cX11_say 119 = .ok (.aload_n 0, 1) := by decide +kernel
theorem dX11_say_120 : decode cX11_say 120 = .ok (.iconst 1, 1) := by decide +kernel
theorem dX11_say_121 : decode cX11_say 121 = .ok (.putfield 75, 3) := by decide +kernel
section
variable {p : Program} {l : Launch} {e : Env} {R0 : Room} {s : State} {m : MethodId} {args : Array Value} {below : List Frame} {meth : Method} {c : Code} {H H0 : Heap} {locs : List Loc} {cells slots : Nat} {Q : State → Prop} {cc : ByteArray} {nL : Nat} {D : va_G} {cy : Nat → ClassId} {A : Nat → Prop} {L : List Nat} {R : Nat → Nat} {f : Nat → va_E} {pc : Nat} {ls : Array Slot} {rest : List Value} {a : Nat}
theorem p_11_75 (F : CallFix p m c cc nL s args wsL_law RX11) (h : tS D cy A H0 L R (TT cy L R) f s H locs) {x : Int32} (ha : a ∈ L) (hr : R a = 11) (hv : 0 ≤ x.toInt ∧ x.toInt ≤ 1) (hdg : decode cc pc = .ok (.putfield 75, 3)) (kk : ∀ (f1 : Nat → va_E) (H1 : Heap) (locs1 : List Loc), fi f1 a 13 = x.toInt → fr L R [(11, 13)] [11] f f1 → tS D cy A H0 L R (TT cy L R) f1 s H1 locs1 → W p l e R0 s m args below meth c H1 locs1 cells slots Q (F0 m (pc + 3) ls (rest))) : W p l e R0 s m args below meth c H locs cells slots Q (F0 m pc ls (.int x :: .ref a :: rest)) := tu_puti (k := 13) F h ha hr T_11 rfl hv.1 hv.2 inlX11 tyX11_ok nmX11 rfl (Nat.le_of_ble_eq_true rfl) mw_44 rfl (tw_nb hv) (by rcases tw_01 hv with rfl | rfl <;> rfl) hdg kk
end
theorem dX11_say_124 : decode cX11_say 124 = .ok (.aload_n 0, 1) := by decide +kernel
theorem dX11_say_125 : decode cX11_say 125 = .ok (.aload_n 0, 1) := by decide +kernel
theorem dX11_say_126 : decode cX11_say 126 = .ok (.getfield 54, 3) := by decide +kernel
theorem dX11_say_129 : decode cX11_say 129 = .ok (.getfield 293, 3) := by decide +kernel
theorem dX11_say_132 : decode cX11_say 132 = .ok (.invokevirtual 158, 3) := by decide +kernel
theorem dX11_say_135 : decode cX11_say 135 = .ok (.ireturn, 1) := by decide +kernel
def rm_X11_say : Room := { frames := 5, cells := 0, slots := 0, locals := 128 }
set_option maxHeartbeats 4000000 in
set_option maxRecDepth 100000 in
theorem s_X11_say (l : Launch) (D : va_G) (cy : Nat → ClassId) (L : List Nat) (R O : Nat → Nat) (f0 : Nat → va_E) (hG : GG L R O f0) (a0 : Nat) (m_a0 : a0 ∈ L) (r_a0 : R a0 = 11) (x1 : Int32) (x2 : Int32) (pre0 : PI L R O f0 a0) : ∀ sz, Met l yX11_say (Cond.code yX11_say cX11_say 4 (some .int) :: wsL_law) rm_X11_say (va_Pc [.ref a0, .int x1, .int x2] (tPZ D cy L R (TT cy L R) f0 sz)) (va_Qi (fun (r : Int32) f1 => fr L R [(1, 0), (1, 1), (1, 2), (1, 3), (1, 5), (4, 1), (5, 4), (5, 5), (5, 6), (5, 7), (8, 1), (8, 2), (11, 13), (11, 14)] [1, 4, 5, 8, 11, 23, 24, 25, 26, 27, 34, 51] f0 f1 ∧ ((∀ x ∈ L, R x = 8 → fld f1 x 2 = fld f0 x 2) ∨ (∃ st b, 0 ≤ x1.toInt ∧ x1.toInt ≤ 2 ∧ elq f0 (rfa f0 (rfa f0 a0 3) 1) x1.toInt.toNat = some st ∧ elq f0 (rfa f0 (rfa f0 a0 3) 0) x1.toInt.toNat = some b ∧ KS L R st f0 f1 ∧ DIG f1 st b))) (tB D (tA L sz) L R (TT cy L R)) (tA L sz)) 0 0 (tA L sz) := by
  refine tw_enteri (by decide +kernel) rfl (Nat.le_of_ble_eq_true rfl) ?_
  intro p e s m below meth c A ls args Q F hZ h hl hret
  have hl : lv_has ls 4 [(0, .ref a0), (1, .int x1), (2, .int x2)] := hl
  have hk : fr L R [(1, 0), (1, 1), (1, 2), (1, 3), (1, 5), (4, 1), (5, 4), (5, 5), (5, 6), (5, 7), (8, 1), (8, 2), (11, 13), (11, 14)] [1, 4, 5, 8, 11, 23, 24, 25, 26, 27, 34, 51] f0 f0 := fr.rf
  obtain ⟨a0_search, m_a0_search, r_a0_search, t_a0_search⟩ := h.rf m_a0 r_a0 (fun e q => (T_11 e).mp q) (k := 6) rfl
  obtain ⟨a0_search_ears, m_a0_search_ears, r_a0_search_ears, t_a0_search_ears⟩ := h.rf m_a0_search r_a0_search (fun e q => (T_7 e).mp q) (k := 1) rfl
  obtain ⟨a0_book, m_a0_book, r_a0_book, t_a0_book⟩ := h.rf m_a0 r_a0 (fun e q => (T_11 e).mp q) (k := 3) rfl
  obtain ⟨a0_book_scripts, m_a0_book_scripts, r_a0_book_scripts, t_a0_book_scripts⟩ := h.rf m_a0_book r_a0_book (fun e q => (T_0 e).mp q) (k := 0) rfl
  obtain ⟨a0_book_states, m_a0_book_states, r_a0_book_states, t_a0_book_states⟩ := h.rf m_a0_book r_a0_book (fun e q => (T_0 e).mp q) (k := 1) rfl
  have hs6 := rfa_of t_a0_search
  have hs3 := rfa_of t_a0_book
  unfold PI at pre0
  rw [hs6, hs3] at pre0
  obtain ⟨hSO, ⟨pb1, pb2, pb3⟩, pd1, pd2, pd3⟩ := pre0
  refine lv_iload_n F.1 F.2.1 dX11_say_0 rfl (lv_at hl 1 rfl) ?_
  refine tw_Si (As := [.int x1]) F hZ h yk_X11_isScript mw_511 mw_512 (s_X11_isScript l D cy L R O f0 x1) rfl rfl hl.1 rfl (Nat.le_of_ble_eq_true rfl) ⟨Nat.le_of_ble_eq_true rfl, Nat.le_of_ble_eq_true rfl⟩ ⟨Nat.le_of_ble_eq_true rfl, Nat.le_of_ble_eq_true rfl⟩ dX11_say_1 (fun v2 f1 H locs hp1 h => ?_)
  obtain ⟨rfl, hv2a, hv2b, hv2p0⟩ := hp1
  refine tw_if_eq (tgt := 16) F dX11_say_4 (by decide) (fun b3 => ?_) (fun b3 => ?_)
  · refine lv_aload_n F.1 F.2.1 dX11_say_16 rfl (lv_at hl 0 rfl) ?_
    refine tw_iconst F dX11_say_17 ki_1 (fun z4 hz4 => ?_)
    refine tw_Vi (As := [.int z4]) F hZ h yk_X11_refuse mw_378 mw_379 mw_380 (s_X11_refuse l D cy L R O f0 a0 m_a0 r_a0 z4 ⟨by omega, by omega⟩) rfl rfl m_a0 r_a0 (fun e q => (T_11 e).mp q) rfl hl.1 rfl (Nat.le_of_ble_eq_true rfl) ⟨Nat.le_of_ble_eq_true rfl, Nat.le_of_ble_eq_true rfl⟩ ⟨Nat.le_of_ble_eq_true rfl, Nat.le_of_ble_eq_true rfl⟩ dX11_say_18 (fun v6 f5 H locs hp5 h => ?_)
    obtain ⟨hf5, hv6a, hv6b⟩ := hp5
    have hk : fr L R [(1, 0), (1, 1), (1, 2), (1, 3), (1, 5), (4, 1), (5, 4), (5, 5), (5, 6), (5, 7), (8, 1), (8, 2), (11, 13), (11, 14)] [1, 4, 5, 8, 11, 23, 24, 25, 26, 27, 34, 51] f0 f5 := hk.tr hf5 rfl rfl
    have e7 : fld f5 a0 6 = .ref a0_search := (hf5.efl m_a0 r_a0 rfl).trans t_a0_search
    have e8 : fld f5 a0_search 1 = .ref a0_search_ears := (hf5.efl m_a0_search r_a0_search rfl).trans t_a0_search_ears
    have e9 : fld f5 a0 3 = .ref a0_book := (hf5.efl m_a0 r_a0 rfl).trans t_a0_book
    have e10 : fld f5 a0_book 0 = .ref a0_book_scripts := (hf5.efl m_a0_book r_a0_book rfl).trans t_a0_book_scripts
    have e11 : fld f5 a0_book 1 = .ref a0_book_states := (hf5.efl m_a0_book r_a0_book rfl).trans t_a0_book_states
    exact hret f5 _ _ _ _ v6 dX11_say_21 rfl ⟨hk, Or.inl (fun x hx hr => hf5.efl hx hr (by decide +kernel))⟩ h
  · refine lv_aload_n F.1 F.2.1 dX11_say_7 rfl (lv_at hl 0 rfl) ?_
    refine lv_iload_n F.1 F.2.1 dX11_say_8 rfl (lv_at hl 2 rfl) ?_
    refine tu_i2l F dX11_say_9 (fun z12 hz12 hz12a hz12b => ?_)
    refine tw_Vi (As := [.long z12]) F hZ h yk_X11_isLine mw_779 mw_780 mw_781 (s_X11_isLine l D cy L R O f0 a0 m_a0 r_a0 z12) rfl rfl m_a0 r_a0 (fun e q => (T_11 e).mp q) rfl hl.1 rfl (Nat.le_of_ble_eq_true rfl) ⟨Nat.le_of_ble_eq_true rfl, Nat.le_of_ble_eq_true rfl⟩ ⟨Nat.le_of_ble_eq_true rfl, Nat.le_of_ble_eq_true rfl⟩ dX11_say_10 (fun v14 f13 H locs hp13 h => ?_)
    obtain ⟨rfl, hv14a, hv14b, hv14p0⟩ := hp13
    refine tw_if_ne (tgt := 22) F dX11_say_13 (by decide) (fun b15 => ?_) (fun b15 => ?_)
    · refine lv_aload_n F.1 F.2.1 dX11_say_22 rfl (lv_at hl 0 rfl) ?_
      refine g_11_47 F h m_a0 r_a0 dX11_say_23 (fun o16 m_o16 r_o16 ho16 => ?_)
      obtain rfl := (fld_inj t_a0_search ho16).symm
      refine g_11_237 F h m_a0_search r_a0_search dX11_say_26 (fun o17 m_o17 r_o17 ho17 => ?_)
      obtain rfl := (fld_inj t_a0_search_ears ho17).symm
      refine tw_iconst F dX11_say_29 ki_0 (fun z18 hz18 => ?_)
      refine le_45 F h m_a0_search_ears r_a0_search_ears (by omega) dX11_say_30 (fun o19 m_o19 r_o19 eo19 => ?_)
      refine lv_astore_n (lv' := [(3, .ref o19), (0, .ref a0), (1, .int x1), (2, .int x2)]) F.1 F.2.1 dX11_say_31 rfl hl (by decide) rfl (fun ls hl => ?_)
      refine lv_aload_n F.1 F.2.1 dX11_say_32 rfl (lv_at hl 0 rfl) ?_
      refine lv_aload_n F.1 F.2.1 dX11_say_33 rfl (lv_at hl 1 rfl) ?_
      refine g_11_29 F h m_a0 r_a0 dX11_say_34 (fun o20 m_o20 r_o20 ho20 => ?_)
      obtain rfl := (fld_inj t_a0_book ho20).symm
      refine g_11_167 F h m_a0_book r_a0_book dX11_say_37 (fun o21 m_o21 r_o21 ho21 => ?_)
      obtain rfl := (fld_inj t_a0_book_scripts ho21).symm
      refine lv_iload_n F.1 F.2.1 dX11_say_40 rfl (lv_at hl 2 rfl) ?_
      refine le_20 F h m_a0_book_scripts r_a0_book_scripts (by omega) dX11_say_41 (fun o22 m_o22 r_o22 eo22 => ?_)
      refine lv_aload_n F.1 F.2.1 dX11_say_42 rfl (lv_at hl 1 rfl) ?_
      refine g_11_29 F h m_a0 r_a0 dX11_say_43 (fun o23 m_o23 r_o23 ho23 => ?_)
      obtain rfl := (fld_inj t_a0_book ho23).symm
      refine g_11_205 F h m_a0_book r_a0_book dX11_say_46 (fun o24 m_o24 r_o24 ho24 => ?_)
      refine lv_iload_n F.1 F.2.1 dX11_say_49 rfl (lv_at hl 3 rfl) ?_
      refine ld_22 F h m_o24 r_o24 (by omega) dX11_say_50 (fun o25 m_o25 r_o25 => ?_)
      obtain ⟨b, qb0, m_b, r_b⟩ := tS_elq h pb1 pb2 (fun e q => (T_20 e).mp q) (show x1.toInt.toNat < 3 by omega)
      obtain ⟨sb, qs0, m_sb, r_sb⟩ := tS_elq h pd1 pd2 (fun e q => (T_21 e).mp q) (show x1.toInt.toNat < 3 by omega)
      have acb := (pb3 _ b qb0 (by omega)).2.2
      have hsb : o22 = b := Option.some.inj ((elq_a t_a0_book_scripts eo22).symm.trans qb0)
      refine tw_Vv (As := [.ref o22, .ref o25]) F hZ h yk_X1_listen mw_843 mw_844 mw_845 (s_X1_listen l D cy L R O f0 hG o19 m_o19 r_o19 o22 m_o22 r_o22 o25 m_o25 r_o25) rfl rfl m_o19 r_o19 (fun e q => (T_1 e).mp q) rfl hl.1 rfl (Nat.le_of_ble_eq_true rfl) ⟨Nat.le_of_ble_eq_true rfl, Nat.le_of_ble_eq_true rfl⟩ ⟨Nat.le_of_ble_eq_true rfl, Nat.le_of_ble_eq_true rfl⟩ dX11_say_51 (fun f26 H locs hp26 h => ?_)
      obtain ⟨hf26, hv27p0, hv27p1, hv27p2⟩ := hp26
      have hk : fr L R [(1, 0), (1, 1), (1, 2), (1, 3), (1, 5), (4, 1), (5, 4), (5, 5), (5, 6), (5, 7), (8, 1), (8, 2), (11, 13), (11, 14)] [1, 4, 5, 8, 11, 23, 24, 25, 26, 27, 34, 51] f0 f26 := hk.tr hf26 (by decide +kernel) (by decide +kernel)
      have e28 : fld f26 a0 6 = .ref a0_search := (hf26.efl m_a0 r_a0 rfl).trans t_a0_search
      have e29 : fld f26 a0_search 1 = .ref a0_search_ears := (hf26.efl m_a0_search r_a0_search rfl).trans t_a0_search_ears
      have e30 : fld f26 a0 3 = .ref a0_book := (hf26.efl m_a0 r_a0 rfl).trans t_a0_book
      have e31 : fld f26 a0_book 0 = .ref a0_book_scripts := (hf26.efl m_a0_book r_a0_book rfl).trans t_a0_book_scripts
      have e32 : fld f26 a0_book 1 = .ref a0_book_states := (hf26.efl m_a0_book r_a0_book rfl).trans t_a0_book_states
      have hv1 : fi f26 o19 2 = 0 ∨ VAL f26 b := by have q := hv27p1; rw [hsb, hk.efi m_b r_b (by decide +kernel)] at q; exact q.imp id (fun q => (acb q).fr hG.1 hk (by decide +kernel) (by decide +kernel) m_b r_b)
      have hrb : rfa f26 o19 0 = b := rfa_of (by have q := hv27p0; rw [hsb] at q; exact q)
      have hD : DIG f26 sb b := (pd3 _ b sb qb0 qs0 (by omega)).fr hG.1 hf26 (by decide +kernel) (by decide +kernel) (by decide +kernel) m_b r_b m_sb r_sb
      have hK : KS L R sb f0 f26 := KS.rf.fr hf26 (by decide +kernel)
      refine lv_aload_n F.1 F.2.1 dX11_say_54 rfl (lv_at hl 1 rfl) ?_
      refine g_11_47 F h m_a0 r_a0 dX11_say_55 (fun o33 m_o33 r_o33 ho33 => ?_)
      obtain rfl := (fld_inj e28 ho33).symm
      refine g_11_267 F h m_a0_search r_a0_search dX11_say_58 (fun o34 m_o34 r_o34 ho34 => ?_)
      refine lv_aload_n F.1 F.2.1 dX11_say_61 rfl (lv_at hl 0 rfl) ?_
      refine lv_aload_n F.1 F.2.1 dX11_say_62 rfl (lv_at hl 1 rfl) ?_
      refine g_11_29 F h m_a0 r_a0 dX11_say_63 (fun o35 m_o35 r_o35 ho35 => ?_)
      obtain rfl := (fld_inj e30 ho35).symm
      refine g_11_175 F h m_a0_book r_a0_book dX11_say_66 (fun o36 m_o36 r_o36 ho36 => ?_)
      obtain rfl := (fld_inj e32 ho36).symm
      refine lv_iload_n F.1 F.2.1 dX11_say_69 rfl (lv_at hl 2 rfl) ?_
      refine le_21 F h m_a0_book_states r_a0_book_states (by omega) dX11_say_70 (fun o37 m_o37 r_o37 eo37 => ?_)
      refine lv_aload_n F.1 F.2.1 dX11_say_71 rfl (lv_at hl 0 rfl) ?_
      refine g_11_271 F h m_o19 r_o19 dX11_say_72 (fun o38 m_o38 r_o38 ho38 => ?_)
      refine lv_aload_n F.1 F.2.1 dX11_say_75 rfl (lv_at hl 0 rfl) ?_
      refine g_11_274 F h m_o19 r_o19 dX11_say_76 (fun v39 hv39 hv39a hv39b => ?_)
      have hss : o37 = sb := by have q := elq_a e32 eo37; rw [hk.erf m_a0_book r_a0_book (by decide +kernel), hk.eelq pd1 pd2 (by decide +kernel)] at q; exact Option.some.inj (q.symm.trans qs0)
      refine tw_Vv (As := [.ref o19, .ref o37, .ref o38, .int v39]) F hZ h yk_X5_answer mw_958 mw_959 mw_960 (s_X5_answer_a l D cy L R O f26 (hG.fr hk (by decide +kernel) (by decide +kernel)) o34 m_o34 r_o34 o19 m_o19 r_o19 o37 m_o37 r_o37 o38 m_o38 r_o38 v39 ⟨by omega, by omega⟩ (by rw [hrb]; exact hv1) (by rw [hrb, hss]; exact hD)) rfl rfl m_o34 r_o34 (fun e q => (T_5 e).mp q) rfl hl.1 rfl (Nat.le_of_ble_eq_true rfl) ⟨Nat.le_of_ble_eq_true rfl, Nat.le_of_ble_eq_true rfl⟩ ⟨Nat.le_of_ble_eq_true rfl, Nat.le_of_ble_eq_true rfl⟩ dX11_say_79 (fun f40 H locs hp40 h => ?_)
      obtain ⟨hf40, hv41p0, hv41p1⟩ := hp40
      have hk : fr L R [(1, 0), (1, 1), (1, 2), (1, 3), (1, 5), (4, 1), (5, 4), (5, 5), (5, 6), (5, 7), (8, 1), (8, 2), (11, 13), (11, 14)] [1, 4, 5, 8, 11, 23, 24, 25, 26, 27, 34, 51] f0 f40 := hk.tr hf40 (by decide +kernel) (by decide +kernel)
      have e42 : fld f40 a0 6 = .ref a0_search := (hf40.efl m_a0 r_a0 rfl).trans e28
      have e43 : fld f40 a0_search 1 = .ref a0_search_ears := (hf40.efl m_a0_search r_a0_search rfl).trans e29
      have e44 : fld f40 a0 3 = .ref a0_book := (hf40.efl m_a0 r_a0 rfl).trans e30
      have e45 : fld f40 a0_book 0 = .ref a0_book_scripts := (hf40.efl m_a0_book r_a0_book rfl).trans e31
      have e46 : fld f40 a0_book 1 = .ref a0_book_states := (hf40.efl m_a0_book r_a0_book rfl).trans e32
      have e47 : fld f40 a0_search 0 = .ref o34 := (hf40.efl m_a0_search r_a0_search rfl).trans ho34
      have hD : DIG f40 sb b := by have q := hv41p0; rw [hss, hrb] at q; exact q
      have hK : KS L R sb f0 f40 := hK.tr (by have q := hv41p1; rw [hss] at q; exact q)
      refine lv_aload_n F.1 F.2.1 dX11_say_82 rfl (lv_at hl 1 rfl) ?_
      refine g_11_54 F h m_a0 r_a0 dX11_say_83 (fun o48 m_o48 r_o48 ho48 => ?_)
      refine lv_aload_n F.1 F.2.1 dX11_say_86 rfl (lv_at hl 1 rfl) ?_
      refine g_11_47 F h m_a0 r_a0 dX11_say_87 (fun o49 m_o49 r_o49 ho49 => ?_)
      obtain rfl := (fld_inj e42 ho49).symm
      refine g_11_267 F h m_a0_search r_a0_search dX11_say_90 (fun o50 m_o50 r_o50 ho50 => ?_)
      obtain rfl := (fld_inj e47 ho50).symm
      refine g_11_283 F h m_o34 r_o34 dX11_say_93 (fun o51 m_o51 r_o51 ho51 => ?_)
      refine tw_Vv (As := [.ref o51]) F hZ h yk_X4_copy mw_1041 mw_438 mw_439 (s_X4_copy l D cy L R O f40 o48 m_o48 r_o48 o51 m_o51 r_o51) rfl rfl m_o48 r_o48 (fun e q => (T_4 e).mp q) rfl hl.1 rfl (Nat.le_of_ble_eq_true rfl) ⟨Nat.le_of_ble_eq_true rfl, Nat.le_of_ble_eq_true rfl⟩ ⟨Nat.le_of_ble_eq_true rfl, Nat.le_of_ble_eq_true rfl⟩ dX11_say_96 (fun f52 H locs hp52 h => ?_)
      have hf52 := hp52
      have hK : KS L R sb f0 f52 := hK.fr hf52 (by decide +kernel)
      have hD : DIG f52 sb b := hD.fr (hG.1.fr hk (by decide +kernel)) hf52 (by decide +kernel) (by decide +kernel) (by decide +kernel) m_b r_b m_sb r_sb
      have hk : fr L R [(1, 0), (1, 1), (1, 2), (1, 3), (1, 5), (4, 1), (5, 4), (5, 5), (5, 6), (5, 7), (8, 1), (8, 2), (11, 13), (11, 14)] [1, 4, 5, 8, 11, 23, 24, 25, 26, 27, 34, 51] f0 f52 := hk.tr hf52 rfl rfl
      have e54 : fld f52 a0 6 = .ref a0_search := (hf52.efl m_a0 r_a0 rfl).trans e42
      have e55 : fld f52 a0_search 1 = .ref a0_search_ears := (hf52.efl m_a0_search r_a0_search rfl).trans e43
      have e56 : fld f52 a0 3 = .ref a0_book := (hf52.efl m_a0 r_a0 rfl).trans e44
      have e57 : fld f52 a0_book 0 = .ref a0_book_scripts := (hf52.efl m_a0_book r_a0_book rfl).trans e45
      have e58 : fld f52 a0_book 1 = .ref a0_book_states := (hf52.efl m_a0_book r_a0_book rfl).trans e46
      have e59 : fld f52 a0_search 0 = .ref o34 := (hf52.efl m_a0_search r_a0_search rfl).trans e47
      have e60 : fld f52 a0 7 = .ref o48 := (hf52.efl m_a0 r_a0 rfl).trans ho48
      refine lv_aload_n F.1 F.2.1 dX11_say_99 rfl (lv_at hl 1 rfl) ?_
      refine g_11_47 F h m_a0 r_a0 dX11_say_100 (fun o61 m_o61 r_o61 ho61 => ?_)
      obtain rfl := (fld_inj e54 ho61).symm
      refine g_11_267 F h m_a0_search r_a0_search dX11_say_103 (fun o62 m_o62 r_o62 ho62 => ?_)
      obtain rfl := (fld_inj e59 ho62).symm
      refine g_11_290 F h m_o34 r_o34 dX11_say_106 (fun o63 m_o63 r_o63 ho63 => ?_)
      refine tw_iconst F dX11_say_109 ki_0 (fun z64 hz64 => ?_)
      refine lv_aload_n F.1 F.2.1 dX11_say_110 rfl (lv_at hl 1 rfl) ?_
      refine g_11_58 F h m_a0 r_a0 dX11_say_111 (fun o65 m_o65 r_o65 ho65 => ?_)
      refine tw_iconst F dX11_say_114 ki_0 (fun z66 hz66 => ?_)
      refine tw_iconst F dX11_say_115 ki_5 (fun z67 hz67 => ?_)
      refine cp_34_34 F h hl.1 mw_347 m_o63 r_o63 m_o65 r_o65 (by omega) (Nat.le_of_ble_eq_true rfl) (Nat.le_of_ble_eq_true rfl) dX11_say_116 (fun f68 H locs hf68 h => ?_)
      have hK : KS L R sb f0 f68 := hK.fr hf68 (by decide +kernel)
      have hD : DIG f68 sb b := hD.fr (hG.1.fr hk (by decide +kernel)) hf68 (by decide +kernel) (by decide +kernel) (by decide +kernel) m_b r_b m_sb r_sb
      have hk : fr L R [(1, 0), (1, 1), (1, 2), (1, 3), (1, 5), (4, 1), (5, 4), (5, 5), (5, 6), (5, 7), (8, 1), (8, 2), (11, 13), (11, 14)] [1, 4, 5, 8, 11, 23, 24, 25, 26, 27, 34, 51] f0 f68 := hk.tr hf68 rfl rfl
      have e69 : fld f68 a0 6 = .ref a0_search := (hf68.efl m_a0 r_a0 rfl).trans e54
      have e70 : fld f68 a0_search 1 = .ref a0_search_ears := (hf68.efl m_a0_search r_a0_search rfl).trans e55
      have e71 : fld f68 a0 3 = .ref a0_book := (hf68.efl m_a0 r_a0 rfl).trans e56
      have e72 : fld f68 a0_book 0 = .ref a0_book_scripts := (hf68.efl m_a0_book r_a0_book rfl).trans e57
      have e73 : fld f68 a0_book 1 = .ref a0_book_states := (hf68.efl m_a0_book r_a0_book rfl).trans e58
      have e74 : fld f68 a0_search 0 = .ref o34 := (hf68.efl m_a0_search r_a0_search rfl).trans e59
      have e75 : fld f68 a0 7 = .ref o48 := (hf68.efl m_a0 r_a0 rfl).trans e60
      refine lv_aload_n F.1 F.2.1 dX11_say_119 rfl (lv_at hl 1 rfl) ?_
      refine tw_iconst F dX11_say_120 ki_1 (fun z76 hz76 => ?_)
      refine p_11_75 F h m_a0 r_a0 (by omega) dX11_say_121 (fun f77 H locs e77p hf77 h => ?_)
      have hK : KS L R sb f0 f77 := hK.fr hf77 (by decide +kernel)
      have hD : DIG f77 sb b := hD.fr (hG.1.fr hk (by decide +kernel)) hf77 (by decide +kernel) (by decide +kernel) (by decide +kernel) m_b r_b m_sb r_sb
      have hk : fr L R [(1, 0), (1, 1), (1, 2), (1, 3), (1, 5), (4, 1), (5, 4), (5, 5), (5, 6), (5, 7), (8, 1), (8, 2), (11, 13), (11, 14)] [1, 4, 5, 8, 11, 23, 24, 25, 26, 27, 34, 51] f0 f77 := hk.tr hf77 rfl rfl
      have e78 : fld f77 a0 6 = .ref a0_search := (hf77.efl m_a0 r_a0 rfl).trans e69
      have e79 : fld f77 a0_search 1 = .ref a0_search_ears := (hf77.efl m_a0_search r_a0_search rfl).trans e70
      have e80 : fld f77 a0 3 = .ref a0_book := (hf77.efl m_a0 r_a0 rfl).trans e71
      have e81 : fld f77 a0_book 0 = .ref a0_book_scripts := (hf77.efl m_a0_book r_a0_book rfl).trans e72
      have e82 : fld f77 a0_book 1 = .ref a0_book_states := (hf77.efl m_a0_book r_a0_book rfl).trans e73
      have e83 : fld f77 a0_search 0 = .ref o34 := (hf77.efl m_a0_search r_a0_search rfl).trans e74
      have e84 : fld f77 a0 7 = .ref o48 := (hf77.efl m_a0 r_a0 rfl).trans e75
      refine lv_aload_n F.1 F.2.1 dX11_say_124 rfl (lv_at hl 1 rfl) ?_
      refine lv_aload_n F.1 F.2.1 dX11_say_125 rfl (lv_at hl 1 rfl) ?_
      refine g_11_54 F h m_a0 r_a0 dX11_say_126 (fun o85 m_o85 r_o85 ho85 => ?_)
      obtain rfl := (fld_inj e84 ho85).symm
      refine g_11_293 F h m_o48 r_o48 dX11_say_129 (fun v86 hv86 hv86a hv86b => ?_)
      refine tw_Vi (As := [.int v86]) F hZ h yk_X11_grant mw_442 mw_443 mw_444 (s_X11_grant l D cy L R O f77 a0 m_a0 r_a0 v86) rfl rfl m_a0 r_a0 (fun e q => (T_11 e).mp q) rfl hl.1 rfl (Nat.le_of_ble_eq_true rfl) ⟨Nat.le_of_ble_eq_true rfl, Nat.le_of_ble_eq_true rfl⟩ ⟨Nat.le_of_ble_eq_true rfl, Nat.le_of_ble_eq_true rfl⟩ dX11_say_132 (fun v88 f87 H locs hp87 h => ?_)
      have hf87 := hp87
      have hK : KS L R sb f0 f87 := hK.fr hf87 (by decide +kernel)
      have hD : DIG f87 sb b := hD.fr (hG.1.fr hk (by decide +kernel)) hf87 (by decide +kernel) (by decide +kernel) (by decide +kernel) m_b r_b m_sb r_sb
      have hk : fr L R [(1, 0), (1, 1), (1, 2), (1, 3), (1, 5), (4, 1), (5, 4), (5, 5), (5, 6), (5, 7), (8, 1), (8, 2), (11, 13), (11, 14)] [1, 4, 5, 8, 11, 23, 24, 25, 26, 27, 34, 51] f0 f87 := hk.tr hf87 rfl rfl
      have e89 : fld f87 a0 6 = .ref a0_search := (hf87.efl m_a0 r_a0 rfl).trans e78
      have e90 : fld f87 a0_search 1 = .ref a0_search_ears := (hf87.efl m_a0_search r_a0_search rfl).trans e79
      have e91 : fld f87 a0 3 = .ref a0_book := (hf87.efl m_a0 r_a0 rfl).trans e80
      have e92 : fld f87 a0_book 0 = .ref a0_book_scripts := (hf87.efl m_a0_book r_a0_book rfl).trans e81
      have e93 : fld f87 a0_book 1 = .ref a0_book_states := (hf87.efl m_a0_book r_a0_book rfl).trans e82
      have e94 : fld f87 a0_search 0 = .ref o34 := (hf87.efl m_a0_search r_a0_search rfl).trans e83
      have e95 : fld f87 a0 7 = .ref o48 := (hf87.efl m_a0 r_a0 rfl).trans e84
      exact hret f87 _ _ _ _ v88 dX11_say_135 rfl ⟨hk, Or.inr ⟨sb, b, by omega, by omega, by rw [hs3]; exact qs0, by rw [hs3]; exact qb0, hK, hD⟩⟩ h
    · refine lv_aload_n F.1 F.2.1 dX11_say_16 rfl (lv_at hl 0 rfl) ?_
      refine tw_iconst F dX11_say_17 ki_1 (fun z96 hz96 => ?_)
      refine tw_Vi (As := [.int z96]) F hZ h yk_X11_refuse mw_378 mw_379 mw_380 (s_X11_refuse l D cy L R O f0 a0 m_a0 r_a0 z96 ⟨by omega, by omega⟩) rfl rfl m_a0 r_a0 (fun e q => (T_11 e).mp q) rfl hl.1 rfl (Nat.le_of_ble_eq_true rfl) ⟨Nat.le_of_ble_eq_true rfl, Nat.le_of_ble_eq_true rfl⟩ ⟨Nat.le_of_ble_eq_true rfl, Nat.le_of_ble_eq_true rfl⟩ dX11_say_18 (fun v98 f97 H locs hp97 h => ?_)
      obtain ⟨hf97, hv98a, hv98b⟩ := hp97
      have hk : fr L R [(1, 0), (1, 1), (1, 2), (1, 3), (1, 5), (4, 1), (5, 4), (5, 5), (5, 6), (5, 7), (8, 1), (8, 2), (11, 13), (11, 14)] [1, 4, 5, 8, 11, 23, 24, 25, 26, 27, 34, 51] f0 f97 := hk.tr hf97 rfl rfl
      have e99 : fld f97 a0 6 = .ref a0_search := (hf97.efl m_a0 r_a0 rfl).trans t_a0_search
      have e100 : fld f97 a0_search 1 = .ref a0_search_ears := (hf97.efl m_a0_search r_a0_search rfl).trans t_a0_search_ears
      have e101 : fld f97 a0 3 = .ref a0_book := (hf97.efl m_a0 r_a0 rfl).trans t_a0_book
      have e102 : fld f97 a0_book 0 = .ref a0_book_scripts := (hf97.efl m_a0_book r_a0_book rfl).trans t_a0_book_scripts
      have e103 : fld f97 a0_book 1 = .ref a0_book_states := (hf97.efl m_a0_book r_a0_book rfl).trans t_a0_book_states
      exact hret f97 _ _ _ _ v98 dX11_say_21 rfl ⟨hk, Or.inl (fun x hx hr => hf97.efl hx hr (by decide +kernel))⟩ h
