section
variable {p : Program} {l : Launch} {e : Env} {R0 : Room} {s : State} {m : MethodId} {args : Array Value} {below : List Frame} {meth : Method} {c : Code} {H H0 : Heap} {locs : List Loc} {cells slots : Nat} {Q : State → Prop} {cc : ByteArray} {nL : Nat} {D : va_G} {cy : Nat → ClassId} {A : Nat → Prop} {L : List Nat} {R : Nat → Nat} {f : Nat → va_E} {pc : Nat} {ls : Array Slot} {rest : List Value} {a : Nat}
theorem pe_10_19 (F : CallFix p m c cc nL s args wsL_law RX10) (h : tS D cy A H0 L R (TT cy L R) f s H locs) {x : Int32} (ha : a ∈ L) (hr : R a = 10) (hv : 0 ≤ x.toInt ∧ x.toInt ≤ 3) (hdg : decode cc pc = .ok (.putfield 19, 3)) (kk : ∀ (f1 : Nat → va_E) (H1 : Heap) (locs1 : List Loc), fld f1 a 2 = .int x → (∀ a', a' ≠ a → f1 a' = f a') → fr L R [(10, 2)] [10] f f1 → tS D cy A H0 L R (TT cy L R) f1 s H1 locs1 → W p l e R0 s m args below meth c H1 locs1 cells slots Q (F0 m (pc + 3) ls (rest))) : W p l e R0 s m args below meth c H locs cells slots Q (F0 m pc ls (.int x :: .ref a :: rest)) := tu_putiE (k := 2) F h ha hr T_10 rfl hv.1 hv.2 inlX10 tyX10_ok nmX10 rfl (Nat.le_of_ble_eq_true rfl) mw_197 rfl rfl rfl hdg kk
end
section
variable {p : Program} {l : Launch} {e : Env} {R0 : Room} {s : State} {m : MethodId} {args : Array Value} {below : List Frame} {meth : Method} {c : Code} {H H0 : Heap} {locs : List Loc} {cells slots : Nat} {Q : State → Prop} {cc : ByteArray} {nL : Nat} {D : va_G} {cy : Nat → ClassId} {A : Nat → Prop} {L : List Nat} {R : Nat → Nat} {f : Nat → va_E} {pc : Nat} {ls : Array Slot} {rest : List Value} {a : Nat}
theorem pe_10_15 (F : CallFix p m c cc nL s args wsL_law RX10) (h : tS D cy A H0 L R (TT cy L R) f s H locs) {x : Int32} (ha : a ∈ L) (hr : R a = 10) (hv : (-1) ≤ x.toInt ∧ x.toInt ≤ 60) (hdg : decode cc pc = .ok (.putfield 15, 3)) (kk : ∀ (f1 : Nat → va_E) (H1 : Heap) (locs1 : List Loc), fld f1 a 1 = .int x → (∀ a', a' ≠ a → f1 a' = f a') → fr L R [(10, 1)] [10] f f1 → tS D cy A H0 L R (TT cy L R) f1 s H1 locs1 → W p l e R0 s m args below meth c H1 locs1 cells slots Q (F0 m (pc + 3) ls (rest))) : W p l e R0 s m args below meth c H locs cells slots Q (F0 m pc ls (.int x :: .ref a :: rest)) := tu_putiE (k := 1) F h ha hr T_10 rfl hv.1 hv.2 inlX10 tyX10_ok nmX10 rfl (Nat.le_of_ble_eq_true rfl) mw_196 rfl rfl rfl hdg kk
end
def rm_X10_makeY : Room := { frames := 0, cells := 0, slots := 0, locals := 0 }
set_option maxHeartbeats 4000000 in
set_option maxRecDepth 100000 in
theorem s_X10_makeY (l : Launch) (D : va_G) (cy : Nat → ClassId) (L : List Nat) (R O : Nat → Nat) (f0 : Nat → va_E) (a0 : Nat) (m_a0 : a0 ∈ L) (r_a0 : R a0 = 10) (x1 : Int32) (b1 : 0 ≤ x1.toInt ∧ x1.toInt ≤ 3) (x2 : Int32) (b2 : 0 ≤ x2.toInt ∧ x2.toInt ≤ 60) : ∀ sz, Met l yX10_make (Cond.code yX10_make cX10_make 4 none :: wsL_law) rm_X10_makeY (va_Pc [.ref a0, .int x1, .int x2] (tPZ D cy L R (TT cy L R) f0 sz)) (va_Qv (fun f1 => fr L R [(10, 1), (10, 2)] [10, 54] f0 f1 ∧ fi f1 a0 1 = x2.toInt ∧ fi f1 a0 2 = x1.toInt ∧ KT L R a0 f0 f1) (tB D (tA L sz) L R (TT cy L R)) (tA L sz)) 0 0 (tA L sz) := by
  refine tw_enterv (by decide +kernel) rfl (Nat.le_of_ble_eq_true rfl) ?_
  intro p e s m below meth c A ls args Q F hZ h hl hret
  have hl : lv_has ls 4 [(0, .ref a0), (1, .int x1), (2, .int x2)] := hl
  have hk : fr L R [(10, 1), (10, 2)] [10, 54] f0 f0 := fr.rf
  refine lv_aload_n F.1 F.2.1 dX10_make_0 rfl (lv_at hl 0 rfl) ?_
  refine lv_iload_n F.1 F.2.1 dX10_make_1 rfl (lv_at hl 1 rfl) ?_
  refine pe_10_19 F h m_a0 r_a0 (by omega) dX10_make_2 (fun f1 H locs e1pq e1po hf1 h => ?_)
  have e1p : fi f1 a0 2 = x1.toInt := by unfold fi; rw [e1pq]; rfl
  have hk : fr L R [(10, 1), (10, 2)] [10, 54] f0 f1 := hk.tr hf1 rfl rfl
  refine lv_aload_n F.1 F.2.1 dX10_make_5 rfl (lv_at hl 0 rfl) ?_
  refine lv_iload_n F.1 F.2.1 dX10_make_6 rfl (lv_at hl 2 rfl) ?_
  refine pe_10_15 F h m_a0 r_a0 (by omega) dX10_make_7 (fun f2 H locs e2pq e2po hf2 h => ?_)
  have e2p : fi f2 a0 1 = x2.toInt := by unfold fi; rw [e2pq]; rfl
  have hk : fr L R [(10, 1), (10, 2)] [10, 54] f0 f2 := hk.tr hf2 rfl rfl
  have e3 : fi f2 a0 2 = fi f1 a0 2 := hf2.efi m_a0 r_a0 rfl
  have hKT : KT L R a0 f0 f2 := fun x hx hr hn => by unfold fi fld; rw [e2po x hn, e1po x hn]; exact ⟨rfl, rfl⟩
  refine tw_iconst F dX10_make_10 ki_0 (fun z4 hz4 => ?_)
  refine lv_istore_n (lv' := [(3, .int z4), (0, .ref a0), (1, .int x1), (2, .int x2)]) F.1 F.2.1 dX10_make_11 rfl hl (by decide) rfl (fun ls hl => ?_)
  have j_12 : ∀ (n12 : Nat) (f5 : Nat → va_E) (H : Heap) (locs : List Loc) (ls : Array Slot) (x3_12 : Int32), 0 ≤ x3_12.toInt → x3_12.toInt ≤ 60 → ((60 - x3_12.toInt)).toNat < n12 → tS D cy A s.heap L R (TT cy L R) f5 s H locs → KT L R a0 f0 f5 → fr L R [(10, 1), (10, 2)] [10, 54] f0 f5 → fr L R [] [54] f2 f5 → lv_has ls 4 [(0, .ref a0), (3, .int x3_12)] → W p l e rm_X10_makeY s m args below meth c H locs 0 0 Q (F0 m 12 ls []) := by
    intro n12
    induction n12 with
    | zero =>
      intro f5 H locs ls x3_12 b6 b7 b8 h hKT hk hb12 hl
      exfalso
      omega
    | succ n12 ih12 =>
      intro f5 H locs ls x3_12 b6 b7 b8 h hKT hk hb12 hl
      have e9 : fi f5 a0 2 = fi f2 a0 2 := hb12.efi m_a0 r_a0 rfl
      have e10 : fi f5 a0 1 = fi f2 a0 1 := hb12.efi m_a0 r_a0 rfl
      refine lv_iload_n F.1 F.2.1 dX10_make_12 rfl (lv_at hl 1 rfl) ?_
      refine lv_aload_n F.1 F.2.1 dX10_make_13 rfl (lv_at hl 0 rfl) ?_
      refine g_10_9 F h m_a0 r_a0 dX10_make_14 (fun o11 m_o11 r_o11 ho11 => ?_)
      refine al_54 F h m_o11 r_o11 dX10_make_17 (fun z12 hz12 => ?_)
      refine tw_icmp_ge (tgt := 34) F dX10_make_18 (by decide) (fun b13 => ?_) (fun b13 => ?_)
      · exact hret f5 _ _ _ _ dX10_make_34 ⟨hk, by omega, by omega, hKT⟩ h
      · refine lv_aload_n F.1 F.2.1 dX10_make_21 rfl (lv_at hl 0 rfl) ?_
        refine g_10_9 F h m_a0 r_a0 dX10_make_22 (fun o14 m_o14 r_o14 ho14 => ?_)
        refine lv_iload_n F.1 F.2.1 dX10_make_25 rfl (lv_at hl 1 rfl) ?_
        refine tu_lconst F dX10_make_26 (by decide) (fun z15 (hz15 : z15.toInt = 0) => ?_)
        refine st_54 F h m_o14 r_o14 (by omega) dX10_make_27 (fun f16 H locs hf16 h => ?_)
        have hKT : KT L R a0 f0 f16 := hKT.fr hf16 (by decide +kernel) (by decide +kernel)
        have hk : fr L R [(10, 1), (10, 2)] [10, 54] f0 f16 := hk.tr hf16 rfl rfl
        have hb12 : fr L R [] [54] f2 f16 := hb12.tr hf16 rfl rfl
        have e17 : fi f16 a0 2 = fi f5 a0 2 := hf16.efi m_a0 r_a0 rfl
        have e18 : fi f16 a0 1 = fi f5 a0 1 := hf16.efi m_a0 r_a0 rfl
        refine tu_iinc F dX10_make_28 hl (k := 1) rfl (by decide) ki_1 (by omega) (fun z19 ls hz19 hl => ?_)
        have hl : lv_has ls 4 [(3, .int z19), (0, .ref a0)] := hl
        refine lv_goto (tgt := 12) F.1 F.2.1 dX10_make_31 (by decide) ?_
        exact ih12 f16 _ _ _ z19 (by omega) (by omega) (by omega) h hKT hk hb12 (lv_sub hl [1, 0] rfl)
  have hb12 : fr L R [] [54] f2 f2 := fr.rf
  exact j_12 (((60 - z4.toInt)).toNat + 1) f2 _ _ _ z4 (by omega) (by omega) (by omega) h hKT hk hb12 (lv_sub hl [1, 0] rfl)
def rm_X10_isMissingY : Room := { frames := 0, cells := 0, slots := 0, locals := 0 }
set_option maxHeartbeats 4000000 in
set_option maxRecDepth 100000 in
theorem s_X10_isMissingY (l : Launch) (D : va_G) (cy : Nat → ClassId) (L : List Nat) (R O : Nat → Nat) (f0 : Nat → va_E) (a0 : Nat) (m_a0 : a0 ∈ L) (r_a0 : R a0 = 10) : ∀ sz, Met l yX10_isMissing (Cond.code yX10_isMissing cX10_isMissing 1 (some .boolean) :: wsL_law) rm_X10_isMissingY (va_Pc [.ref a0] (tPZ D cy L R (TT cy L R) f0 sz)) (va_Qi (fun (r : Int32) f1 => f0 = f1 ∧ 0 ≤ r.toInt ∧ r.toInt ≤ 1 ∧ ((r.toInt = 1 ∧ fi f0 a0 1 = -1) ∨ (r.toInt = 0 ∧ ¬ fi f0 a0 1 = -1))) (tB D (tA L sz) L R (TT cy L R)) (tA L sz)) 0 0 (tA L sz) := by
  refine tw_enteri (by decide +kernel) rfl (Nat.le_of_ble_eq_true rfl) ?_
  intro p e s m below meth c A ls args Q F hZ h hl hret
  have hl : lv_has ls 1 [(0, .ref a0)] := hl
  refine lv_aload_n F.1 F.2.1 dX10_isMissing_0 rfl (lv_at hl 0 rfl) ?_
  refine g_10_15 F h m_a0 r_a0 dX10_isMissing_1 (fun v1 hv1 hv1a hv1b => ?_)
  refine tw_iconst F dX10_isMissing_4 ki_m1 (fun z2 hz2 => ?_)
  refine tw_icmp_ne (tgt := 12) F dX10_isMissing_5 (by decide) (fun b3 => ?_) (fun b3 => ?_)
  · refine tw_iconst F dX10_isMissing_12 ki_0 (fun z4 hz4 => ?_)
    exact hret f0 _ _ _ _ z4 dX10_isMissing_13 (tw_nb (by omega)) ⟨rfl, by omega, by omega, by omega⟩ h
  · refine tw_iconst F dX10_isMissing_8 ki_1 (fun z5 hz5 => ?_)
    refine lv_goto (tgt := 13) F.1 F.2.1 dX10_isMissing_9 (by decide) ?_
    exact hret f0 _ _ _ _ z5 dX10_isMissing_13 (tw_nb (by omega)) ⟨rfl, by omega, by omega, by omega⟩ h
def rm_X10_holdsY : Room := { frames := 0, cells := 0, slots := 0, locals := 0 }
set_option maxHeartbeats 4000000 in
set_option maxRecDepth 100000 in
theorem s_X10_holdsY (l : Launch) (D : va_G) (cy : Nat → ClassId) (L : List Nat) (R O : Nat → Nat) (f0 : Nat → va_E) (a0 : Nat) (m_a0 : a0 ∈ L) (r_a0 : R a0 = 10) (x1 : Int32) (x2 : Int32) (b2 : 0 ≤ x2.toInt) : ∀ sz, Met l yX10_holds (Cond.code yX10_holds cX10_holds 3 (some .boolean) :: wsL_law) rm_X10_holdsY (va_Pc [.ref a0, .int x1, .int x2] (tPZ D cy L R (TT cy L R) f0 sz)) (va_Qi (fun (r : Int32) f1 => f0 = f1 ∧ 0 ≤ r.toInt ∧ r.toInt ≤ 1 ∧ (r.toInt = 0 ∨ (r.toInt = 1 ∧ 0 ≤ x1.toInt ∧ 0 ≤ x2.toInt ∧ x1.toInt + x2.toInt ≤ 60 ∧ x1.toInt + x2.toInt ≤ fi f0 a0 1)) ∧ (r.toInt = 1 ∨ x1.toInt < 0 ∨ x2.toInt < 0 ∨ fi f0 a0 1 < x1.toInt + x2.toInt) ∧ ((r.toInt = 1 ∧ (0 ≤ x1.toInt ∧ 0 ≤ x2.toInt ∧ x1.toInt + x2.toInt ≤ fi f0 a0 1)) ∨ (r.toInt = 0 ∧ ¬ (0 ≤ x1.toInt ∧ 0 ≤ x2.toInt ∧ x1.toInt + x2.toInt ≤ fi f0 a0 1)))) (tB D (tA L sz) L R (TT cy L R)) (tA L sz)) 0 0 (tA L sz) := by
  refine tw_enteri (by decide +kernel) rfl (Nat.le_of_ble_eq_true rfl) ?_
  intro p e s m below meth c A ls args Q F hZ h hl hret
  have hl : lv_has ls 3 [(0, .ref a0), (1, .int x1), (2, .int x2)] := hl
  have t_a0_size := h.bfi m_a0 r_a0 (fun e q => (T_10 e).mp q) (k := 1) rfl
  refine lv_iload_n F.1 F.2.1 dX10_holds_0 rfl (lv_at hl 1 rfl) ?_
  refine tw_if_lt (tgt := 26) F dX10_holds_1 (by decide) (fun b1 => ?_) (fun b1 => ?_)
  · refine tw_iconst F dX10_holds_26 ki_0 (fun z2 hz2 => ?_)
    exact hret f0 _ _ _ _ z2 dX10_holds_27 (tw_nb (by omega)) ⟨rfl, by omega, by omega, by omega, by omega, by omega⟩ h
  · refine lv_iload_n F.1 F.2.1 dX10_holds_4 rfl (lv_at hl 2 rfl) ?_
    refine tw_if_lt (tgt := 26) F dX10_holds_5 (by decide) (fun b3 => ?_) (fun b3 => ?_)
    · exfalso
      omega
    · refine lv_iload_n F.1 F.2.1 dX10_holds_8 rfl (lv_at hl 1 rfl) ?_
      refine tu_i2l F dX10_holds_9 (fun z4 hz4 hz4a hz4b => ?_)
      refine lv_iload_n F.1 F.2.1 dX10_holds_10 rfl (lv_at hl 2 rfl) ?_
      refine tu_i2l F dX10_holds_11 (fun z5 hz5 hz5a hz5b => ?_)
      refine tu_ladd F dX10_holds_12 (by omega) (fun z6 hz6 => ?_)
      refine lv_aload_n F.1 F.2.1 dX10_holds_13 rfl (lv_at hl 0 rfl) ?_
      refine g_10_15 F h m_a0 r_a0 dX10_holds_14 (fun v7 hv7 hv7a hv7b => ?_)
      refine tw_i2l F dX10_holds_17 (fun z8 hz8 => ?_)
      refine tw_lcmp F dX10_holds_18 (fun z9 hz9 => ?_)
      refine tw_if_gt (tgt := 26) F dX10_holds_19 (by decide) (fun b10 => ?_) (fun b10 => ?_)
      · refine tw_iconst F dX10_holds_26 ki_0 (fun z11 hz11 => ?_)
        exact hret f0 _ _ _ _ z11 dX10_holds_27 (tw_nb (by omega)) ⟨rfl, by omega, by omega, by omega, by omega, by omega⟩ h
      · refine tw_iconst F dX10_holds_22 ki_1 (fun z12 hz12 => ?_)
        refine lv_goto (tgt := 27) F.1 F.2.1 dX10_holds_23 (by decide) ?_
        exact hret f0 _ _ _ _ z12 dX10_holds_27 (tw_nb (by omega)) ⟨rfl, by omega, by omega, by omega, by omega, by omega⟩ h
def rm_X11_trayY : Room := { frames := 1, cells := 0, slots := 0, locals := 23 }
set_option maxHeartbeats 4000000 in
set_option maxRecDepth 100000 in
theorem s_X11_trayY (l : Launch) (D : va_G) (cy : Nat → ClassId) (L : List Nat) (R O : Nat → Nat) (f0 : Nat → va_E) (a0 : Nat) (m_a0 : a0 ∈ L) (r_a0 : R a0 = 11) (x1 : Int32) (x2 : Int32) (x3 : Int32) (P : Nat → Nat) (pre0 : ∀ i, i < 4 → P (trs f0 a0 i) = i) : ∀ sz, Met l yX11_tray (Cond.code yX11_tray cX11_tray 4 (some .boolean) :: wsL_law) rm_X11_trayY (va_Pc [.ref a0, .int x1, .int x2, .int x3] (tPZ D cy L R (TT cy L R) f0 sz)) (va_Qi (fun (r : Int32) f1 => fr L R [(10, 1), (10, 2), (11, 14)] [10, 11, 54] f0 f1 ∧ 0 ≤ r.toInt ∧ r.toInt ≤ 1 ∧ ((r.toInt = 1 ∧ (0 ≤ x1.toInt ∧ x1.toInt ≤ 3 ∧ 0 ≤ x2.toInt ∧ x2.toInt ≤ 3 ∧ 0 ≤ x3.toInt ∧ x3.toInt ≤ 60)) ∨ (r.toInt = 0 ∧ ¬ (0 ≤ x1.toInt ∧ x1.toInt ≤ 3 ∧ 0 ≤ x2.toInt ∧ x2.toInt ≤ 3 ∧ 0 ≤ x3.toInt ∧ x3.toInt ≤ 60))) ∧ (∀ i, i < 4 → ((i = x1.toInt.toNat ∧ r.toInt = 1 ∧ CS f1 a0 i = x3.toInt ∧ CT f1 a0 i = x2.toInt) ∨ ((i ≠ x1.toInt.toNat ∨ r.toInt = 0) ∧ CS f1 a0 i = CS f0 a0 i ∧ CT f1 a0 i = CT f0 a0 i)))) (tB D (tA L sz) L R (TT cy L R)) (tA L sz)) 0 0 (tA L sz) := by
  refine tw_enteri (by decide +kernel) rfl (Nat.le_of_ble_eq_true rfl) ?_
  intro p e s m below meth c A ls args Q F hZ h hl hret
  have hl : lv_has ls 4 [(0, .ref a0), (1, .int x1), (2, .int x2), (3, .int x3)] := hl
  have hk : fr L R [(10, 1), (10, 2), (11, 14)] [10, 11, 54] f0 f0 := fr.rf
  have htm := TMc_of h m_a0 r_a0
  refine lv_iload_n F.1 F.2.1 dX11_tray_0 rfl (lv_at hl 1 rfl) ?_
  refine tw_Si (As := [.int x1]) F hZ h yk_X11_isTray mw_268 mw_269 (s_X11_isTrayF l D cy L R O f0 x1) rfl rfl hl.1 rfl (Nat.le_of_ble_eq_true rfl) ⟨Nat.le_of_ble_eq_true rfl, Nat.le_of_ble_eq_true rfl⟩ ⟨Nat.le_of_ble_eq_true rfl, Nat.le_of_ble_eq_true rfl⟩ dX11_tray_1 (fun v2 f1 H locs hp1 h => ?_)
  obtain ⟨rfl, hv2a, hv2b, hv2p0⟩ := hp1
  refine tw_if_eq (tgt := 26) F dX11_tray_4 (by decide) (fun b3 => ?_) (fun b3 => ?_)
  · refine lv_aload_n F.1 F.2.1 dX11_tray_26 rfl (lv_at hl 0 rfl) ?_
    refine tw_iconst F dX11_tray_27 ki_1 (fun z4 hz4 => ?_)
    refine tw_Vi (As := [.int z4]) F hZ h yk_X11_settle mw_271 mw_272 mw_273 (s_X11_settle l D cy L R O f0 a0 m_a0 r_a0 z4 ⟨by omega, by omega⟩) rfl rfl m_a0 r_a0 (fun e q => (T_11 e).mp q) rfl hl.1 rfl (Nat.le_of_ble_eq_true rfl) ⟨Nat.le_of_ble_eq_true rfl, Nat.le_of_ble_eq_true rfl⟩ ⟨Nat.le_of_ble_eq_true rfl, Nat.le_of_ble_eq_true rfl⟩ dX11_tray_28 (fun v6 f5 H locs hp5 h => ?_)
    obtain ⟨hf5, hv6a, hv6b, hv6p0⟩ := hp5
    have hk : fr L R [(10, 1), (10, 2), (11, 14)] [10, 11, 54] f0 f5 := hk.tr hf5 rfl rfl
    exact hret f5 _ _ _ _ v6 dX11_tray_31 (tw_nb (by omega)) ⟨hk, by omega, by omega, by omega, (fun i hi => by have q := TRc htm hf5 m_a0 r_a0 (by decide +kernel) (by decide +kernel) (by decide +kernel) (by decide +kernel) i hi; omega)⟩ h
  · refine lv_iload_n F.1 F.2.1 dX11_tray_7 rfl (lv_at hl 2 rfl) ?_
    refine tw_if_lt (tgt := 26) F dX11_tray_8 (by decide) (fun b7 => ?_) (fun b7 => ?_)
    · refine lv_aload_n F.1 F.2.1 dX11_tray_26 rfl (lv_at hl 0 rfl) ?_
      refine tw_iconst F dX11_tray_27 ki_1 (fun z8 hz8 => ?_)
      refine tw_Vi (As := [.int z8]) F hZ h yk_X11_settle mw_271 mw_272 mw_273 (s_X11_settle l D cy L R O f0 a0 m_a0 r_a0 z8 ⟨by omega, by omega⟩) rfl rfl m_a0 r_a0 (fun e q => (T_11 e).mp q) rfl hl.1 rfl (Nat.le_of_ble_eq_true rfl) ⟨Nat.le_of_ble_eq_true rfl, Nat.le_of_ble_eq_true rfl⟩ ⟨Nat.le_of_ble_eq_true rfl, Nat.le_of_ble_eq_true rfl⟩ dX11_tray_28 (fun v10 f9 H locs hp9 h => ?_)
      obtain ⟨hf9, hv10a, hv10b, hv10p0⟩ := hp9
      have hk : fr L R [(10, 1), (10, 2), (11, 14)] [10, 11, 54] f0 f9 := hk.tr hf9 rfl rfl
      exact hret f9 _ _ _ _ v10 dX11_tray_31 (tw_nb (by omega)) ⟨hk, by omega, by omega, by omega, (fun i hi => by have q := TRc htm hf9 m_a0 r_a0 (by decide +kernel) (by decide +kernel) (by decide +kernel) (by decide +kernel) i hi; omega)⟩ h
    · refine lv_iload_n F.1 F.2.1 dX11_tray_11 rfl (lv_at hl 2 rfl) ?_
      refine tw_iconst F dX11_tray_12 ki_4 (fun z11 hz11 => ?_)
      refine tw_icmp_ge (tgt := 26) F dX11_tray_13 (by decide) (fun b12 => ?_) (fun b12 => ?_)
      · refine lv_aload_n F.1 F.2.1 dX11_tray_26 rfl (lv_at hl 0 rfl) ?_
        refine tw_iconst F dX11_tray_27 ki_1 (fun z13 hz13 => ?_)
        refine tw_Vi (As := [.int z13]) F hZ h yk_X11_settle mw_271 mw_272 mw_273 (s_X11_settle l D cy L R O f0 a0 m_a0 r_a0 z13 ⟨by omega, by omega⟩) rfl rfl m_a0 r_a0 (fun e q => (T_11 e).mp q) rfl hl.1 rfl (Nat.le_of_ble_eq_true rfl) ⟨Nat.le_of_ble_eq_true rfl, Nat.le_of_ble_eq_true rfl⟩ ⟨Nat.le_of_ble_eq_true rfl, Nat.le_of_ble_eq_true rfl⟩ dX11_tray_28 (fun v15 f14 H locs hp14 h => ?_)
        obtain ⟨hf14, hv15a, hv15b, hv15p0⟩ := hp14
        have hk : fr L R [(10, 1), (10, 2), (11, 14)] [10, 11, 54] f0 f14 := hk.tr hf14 rfl rfl
        exact hret f14 _ _ _ _ v15 dX11_tray_31 (tw_nb (by omega)) ⟨hk, by omega, by omega, by omega, (fun i hi => by have q := TRc htm hf14 m_a0 r_a0 (by decide +kernel) (by decide +kernel) (by decide +kernel) (by decide +kernel) i hi; omega)⟩ h
      · refine lv_iload_n F.1 F.2.1 dX11_tray_16 rfl (lv_at hl 3 rfl) ?_
        refine tw_if_lt (tgt := 26) F dX11_tray_17 (by decide) (fun b16 => ?_) (fun b16 => ?_)
        · refine lv_aload_n F.1 F.2.1 dX11_tray_26 rfl (lv_at hl 0 rfl) ?_
          refine tw_iconst F dX11_tray_27 ki_1 (fun z17 hz17 => ?_)
          refine tw_Vi (As := [.int z17]) F hZ h yk_X11_settle mw_271 mw_272 mw_273 (s_X11_settle l D cy L R O f0 a0 m_a0 r_a0 z17 ⟨by omega, by omega⟩) rfl rfl m_a0 r_a0 (fun e q => (T_11 e).mp q) rfl hl.1 rfl (Nat.le_of_ble_eq_true rfl) ⟨Nat.le_of_ble_eq_true rfl, Nat.le_of_ble_eq_true rfl⟩ ⟨Nat.le_of_ble_eq_true rfl, Nat.le_of_ble_eq_true rfl⟩ dX11_tray_28 (fun v19 f18 H locs hp18 h => ?_)
          obtain ⟨hf18, hv19a, hv19b, hv19p0⟩ := hp18
          have hk : fr L R [(10, 1), (10, 2), (11, 14)] [10, 11, 54] f0 f18 := hk.tr hf18 rfl rfl
          exact hret f18 _ _ _ _ v19 dX11_tray_31 (tw_nb (by omega)) ⟨hk, by omega, by omega, by omega, (fun i hi => by have q := TRc htm hf18 m_a0 r_a0 (by decide +kernel) (by decide +kernel) (by decide +kernel) (by decide +kernel) i hi; omega)⟩ h
        · refine lv_iload_n F.1 F.2.1 dX11_tray_20 rfl (lv_at hl 3 rfl) ?_
          refine tw_bipush F dX11_tray_21 kb_60 (fun z20 hz20 => ?_)
          refine tw_icmp_le (tgt := 32) F dX11_tray_23 (by decide) (fun b21 => ?_) (fun b21 => ?_)
          · refine lv_aload_n F.1 F.2.1 dX11_tray_32 rfl (lv_at hl 0 rfl) ?_
            refine g_11_11 F h m_a0 r_a0 dX11_tray_33 (fun o22 m_o22 r_o22 ho22 => ?_)
            refine lv_iload_n F.1 F.2.1 dX11_tray_36 rfl (lv_at hl 1 rfl) ?_
            refine le_55 F h m_o22 r_o22 (by omega) dX11_tray_37 (fun o23 m_o23 r_o23 eo23 => ?_)
            refine lv_iload_n F.1 F.2.1 dX11_tray_38 rfl (lv_at hl 2 rfl) ?_
            refine lv_iload_n F.1 F.2.1 dX11_tray_39 rfl (lv_at hl 3 rfl) ?_
            refine tw_Vv (As := [.int x2, .int x3]) F hZ h yk_X10_make mw_275 mw_276 mw_277 (s_X10_makeY l D cy L R O f0 o23 m_o23 r_o23 x2 ⟨by omega, by omega⟩ x3 ⟨by omega, by omega⟩) rfl rfl m_o23 r_o23 (fun e q => (T_10 e).mp q) rfl hl.1 rfl (Nat.le_of_ble_eq_true rfl) ⟨Nat.le_of_ble_eq_true rfl, Nat.le_of_ble_eq_true rfl⟩ ⟨Nat.le_of_ble_eq_true rfl, Nat.le_of_ble_eq_true rfl⟩ dX11_tray_40 (fun f24 H locs hp24 h => ?_)
            obtain ⟨hf24, hv25p0, hv25p1, hv25p2⟩ := hp24
            have hk : fr L R [(10, 1), (10, 2), (11, 14)] [10, 11, 54] f0 f24 := hk.tr hf24 rfl rfl
            refine lv_aload_n F.1 F.2.1 dX11_tray_43 rfl (lv_at hl 0 rfl) ?_
            refine tw_iconst F dX11_tray_44 ki_0 (fun z26 hz26 => ?_)
            refine tw_Vi (As := [.int z26]) F hZ h yk_X11_settle mw_271 mw_272 mw_273 (s_X11_settle l D cy L R O f24 a0 m_a0 r_a0 z26 ⟨by omega, by omega⟩) rfl rfl m_a0 r_a0 (fun e q => (T_11 e).mp q) rfl hl.1 rfl (Nat.le_of_ble_eq_true rfl) ⟨Nat.le_of_ble_eq_true rfl, Nat.le_of_ble_eq_true rfl⟩ ⟨Nat.le_of_ble_eq_true rfl, Nat.le_of_ble_eq_true rfl⟩ dX11_tray_45 (fun v28 f27 H locs hp27 h => ?_)
            obtain ⟨hf27, hv28a, hv28b, hv28p0⟩ := hp27
            have hk : fr L R [(10, 1), (10, 2), (11, 14)] [10, 11, 54] f0 f27 := hk.tr hf27 rfl rfl
            exact hret f27 _ _ _ _ v28 dX11_tray_48 (tw_nb (by omega)) ⟨hk, by omega, by omega, by omega, (fun i hi => by have q := TR_make htm P pre0 hf24 m_a0 r_a0 (by decide +kernel) (by decide +kernel) (n := x1.toInt.toNat) (by omega) (by rw [rfa_of ho22]; exact eo23) hv25p2 hv25p0 hv25p1 i hi; have q2 := TRc (htm.fr hf24 m_a0 r_a0 (by decide +kernel) (by decide +kernel)) hf27 m_a0 r_a0 (by decide +kernel) (by decide +kernel) (by decide +kernel) (by decide +kernel) i hi; omega)⟩ h
          · refine lv_aload_n F.1 F.2.1 dX11_tray_26 rfl (lv_at hl 0 rfl) ?_
            refine tw_iconst F dX11_tray_27 ki_1 (fun z29 hz29 => ?_)
            refine tw_Vi (As := [.int z29]) F hZ h yk_X11_settle mw_271 mw_272 mw_273 (s_X11_settle l D cy L R O f0 a0 m_a0 r_a0 z29 ⟨by omega, by omega⟩) rfl rfl m_a0 r_a0 (fun e q => (T_11 e).mp q) rfl hl.1 rfl (Nat.le_of_ble_eq_true rfl) ⟨Nat.le_of_ble_eq_true rfl, Nat.le_of_ble_eq_true rfl⟩ ⟨Nat.le_of_ble_eq_true rfl, Nat.le_of_ble_eq_true rfl⟩ dX11_tray_28 (fun v31 f30 H locs hp30 h => ?_)
            obtain ⟨hf30, hv31a, hv31b, hv31p0⟩ := hp30
            have hk : fr L R [(10, 1), (10, 2), (11, 14)] [10, 11, 54] f0 f30 := hk.tr hf30 rfl rfl
            exact hret f30 _ _ _ _ v31 dX11_tray_31 (tw_nb (by omega)) ⟨hk, by omega, by omega, by omega, (fun i hi => by have q := TRc htm hf30 m_a0 r_a0 (by decide +kernel) (by decide +kernel) (by decide +kernel) (by decide +kernel) i hi; omega)⟩ h
def rm_X11_placeStatusY : Room := { frames := 1, cells := 0, slots := 0, locals := 22 }
set_option maxHeartbeats 4000000 in
set_option maxRecDepth 100000 in
theorem s_X11_placeStatusY (l : Launch) (D : va_G) (cy : Nat → ClassId) (L : List Nat) (R O : Nat → Nat) (f0 : Nat → va_E) (a0 : Nat) (m_a0 : a0 ∈ L) (r_a0 : R a0 = 11) (x1 : Int32) (x2 : Int32) : ∀ sz, Met l yX11_placeStatus (Cond.code yX11_placeStatus cX11_placeStatus 3 (some .int) :: wsL_law) rm_X11_placeStatusY (va_Pc [.ref a0, .int x1, .int x2] (tPZ D cy L R (TT cy L R) f0 sz)) (va_Qi (fun (r : Int32) f1 => f0 = f1 ∧ 0 ≤ r.toInt ∧ r.toInt ≤ 3 ∧ (r.toInt ≠ 0 ∨ (0 ≤ x1.toInt ∧ x1.toInt ≤ 3 ∧ 0 ≤ x2.toInt ∧ x2.toInt ≤ 59)) ∧ ((r.toInt = 0 ∧ (0 ≤ x1.toInt ∧ x1.toInt ≤ 3 ∧ 0 ≤ x2.toInt ∧ x2.toInt < CS f0 a0 x1.toInt.toNat)) ∨ (r.toInt ≠ 0 ∧ ¬ (0 ≤ x1.toInt ∧ x1.toInt ≤ 3 ∧ 0 ≤ x2.toInt ∧ x2.toInt < CS f0 a0 x1.toInt.toNat)))) (tB D (tA L sz) L R (TT cy L R)) (tA L sz)) 0 0 (tA L sz) := by
  refine tw_enteri (by decide +kernel) rfl (Nat.le_of_ble_eq_true rfl) ?_
  intro p e s m below meth c A ls args Q F hZ h hl hret
  have hl : lv_has ls 3 [(0, .ref a0), (1, .int x1), (2, .int x2)] := hl
  refine lv_iload_n F.1 F.2.1 dX11_placeStatus_0 rfl (lv_at hl 1 rfl) ?_
  refine tw_Si (As := [.int x1]) F hZ h yk_X11_isTray mw_268 mw_269 (s_X11_isTrayF l D cy L R O f0 x1) rfl rfl hl.1 rfl (Nat.le_of_ble_eq_true rfl) ⟨Nat.le_of_ble_eq_true rfl, Nat.le_of_ble_eq_true rfl⟩ ⟨Nat.le_of_ble_eq_true rfl, Nat.le_of_ble_eq_true rfl⟩ dX11_placeStatus_1 (fun v2 f1 H locs hp1 h => ?_)
  obtain ⟨rfl, hv2a, hv2b, hv2p0⟩ := hp1
  refine tw_if_ne (tgt := 9) F dX11_placeStatus_4 (by decide) (fun b3 => ?_) (fun b3 => ?_)
  · refine lv_aload_n F.1 F.2.1 dX11_placeStatus_9 rfl (lv_at hl 0 rfl) ?_
    refine g_11_11 F h m_a0 r_a0 dX11_placeStatus_10 (fun o4 m_o4 r_o4 ho4 => ?_)
    refine lv_iload_n F.1 F.2.1 dX11_placeStatus_13 rfl (lv_at hl 1 rfl) ?_
    refine le_55 F h m_o4 r_o4 (by omega) dX11_placeStatus_14 (fun o5 m_o5 r_o5 eo5 => ?_)
    have cs14 := CS_of ho4 eo5
    refine tw_Vi (As := []) F hZ h yk_X10_isMissing mw_298 mw_299 mw_300 (s_X10_isMissingY l D cy L R O f0 o5 m_o5 r_o5) rfl rfl m_o5 r_o5 (fun e q => (T_10 e).mp q) rfl hl.1 rfl (Nat.le_of_ble_eq_true rfl) ⟨Nat.le_of_ble_eq_true rfl, Nat.le_of_ble_eq_true rfl⟩ ⟨Nat.le_of_ble_eq_true rfl, Nat.le_of_ble_eq_true rfl⟩ dX11_placeStatus_15 (fun v7 f6 H locs hp6 h => ?_)
    obtain ⟨rfl, hv7a, hv7b, hv7p0⟩ := hp6
    refine tw_if_eq (tgt := 23) F dX11_placeStatus_18 (by decide) (fun b8 => ?_) (fun b8 => ?_)
    · refine lv_aload_n F.1 F.2.1 dX11_placeStatus_23 rfl (lv_at hl 0 rfl) ?_
      refine g_11_11 F h m_a0 r_a0 dX11_placeStatus_24 (fun o9 m_o9 r_o9 ho9 => ?_)
      refine lv_iload_n F.1 F.2.1 dX11_placeStatus_27 rfl (lv_at hl 1 rfl) ?_
      refine le_55 F h m_o9 r_o9 (by omega) dX11_placeStatus_28 (fun o10 m_o10 r_o10 eo10 => ?_)
      have cs28 := CS_of ho9 eo10
      refine lv_iload_n F.1 F.2.1 dX11_placeStatus_29 rfl (lv_at hl 2 rfl) ?_
      refine tw_iconst F dX11_placeStatus_30 ki_1 (fun z11 hz11 => ?_)
      refine tw_Vi (As := [.int x2, .int z11]) F hZ h yk_X10_holds mw_302 mw_303 mw_304 (s_X10_holdsY l D cy L R O f0 o10 m_o10 r_o10 x2 z11 (by omega)) rfl rfl m_o10 r_o10 (fun e q => (T_10 e).mp q) rfl hl.1 rfl (Nat.le_of_ble_eq_true rfl) ⟨Nat.le_of_ble_eq_true rfl, Nat.le_of_ble_eq_true rfl⟩ ⟨Nat.le_of_ble_eq_true rfl, Nat.le_of_ble_eq_true rfl⟩ dX11_placeStatus_31 (fun v13 f12 H locs hp12 h => ?_)
      obtain ⟨rfl, hv13a, hv13b, hv13p0, hv13p1, hv13p2⟩ := hp12
      refine tw_if_eq (tgt := 41) F dX11_placeStatus_34 (by decide) (fun b14 => ?_) (fun b14 => ?_)
      · refine tw_iconst F dX11_placeStatus_41 ki_3 (fun z15 hz15 => ?_)
        exact hret f0 _ _ _ _ z15 dX11_placeStatus_42 rfl ⟨rfl, by omega, by omega, by omega, by omega⟩ h
      · refine tw_iconst F dX11_placeStatus_37 ki_0 (fun z16 hz16 => ?_)
        refine lv_goto (tgt := 42) F.1 F.2.1 dX11_placeStatus_38 (by decide) ?_
        exact hret f0 _ _ _ _ z16 dX11_placeStatus_42 rfl ⟨rfl, by omega, by omega, by omega, by omega⟩ h
    · refine tw_iconst F dX11_placeStatus_21 ki_2 (fun z17 hz17 => ?_)
      exact hret f0 _ _ _ _ z17 dX11_placeStatus_22 rfl ⟨rfl, by omega, by omega, by omega, by omega⟩ h
  · refine tw_iconst F dX11_placeStatus_7 ki_1 (fun z18 hz18 => ?_)
    exact hret f0 _ _ _ _ z18 dX11_placeStatus_8 rfl ⟨rfl, by omega, by omega, by omega, by omega⟩ h
def rm_X11_writeY : Room := { frames := 2, cells := 0, slots := 0, locals := 45 }
set_option maxHeartbeats 4000000 in
set_option maxRecDepth 100000 in
theorem s_X11_writeY (l : Launch) (D : va_G) (cy : Nat → ClassId) (L : List Nat) (R O : Nat → Nat) (f0 : Nat → va_E) (a0 : Nat) (m_a0 : a0 ∈ L) (r_a0 : R a0 = 11) (x1 : Int32) (x2 : Int32) (x3 : Int64) : ∀ sz, Met l yX11_write (Cond.code yX11_write cX11_write 6 (some .boolean) :: wsL_law) rm_X11_writeY (va_Pc [.ref a0, .int x1, .int x2, .long x3] (tPZ D cy L R (TT cy L R) f0 sz)) (va_Qi (fun (r : Int32) f1 => fr L R [(11, 14)] [11, 54] f0 f1 ∧ 0 ≤ r.toInt ∧ r.toInt ≤ 1 ∧ ((r.toInt = 1 ∧ (0 ≤ x1.toInt ∧ x1.toInt ≤ 3 ∧ 0 ≤ x2.toInt ∧ x2.toInt < CS f0 a0 x1.toInt.toNat)) ∨ (r.toInt = 0 ∧ ¬ (0 ≤ x1.toInt ∧ x1.toInt ≤ 3 ∧ 0 ≤ x2.toInt ∧ x2.toInt < CS f0 a0 x1.toInt.toNat)))) (tB D (tA L sz) L R (TT cy L R)) (tA L sz)) 0 0 (tA L sz) := by
  refine tw_enteri (by decide +kernel) rfl (Nat.le_of_ble_eq_true rfl) ?_
  intro p e s m below meth c A ls args Q F hZ h hl hret
  have hl : lv_has ls 6 [(0, .ref a0), (1, .int x1), (2, .int x2), (3, .long x3)] := hl
  have hk : fr L R [(11, 14)] [11, 54] f0 f0 := fr.rf
  refine lv_aload_n F.1 F.2.1 dX11_write_0 rfl (lv_at hl 0 rfl) ?_
  refine lv_iload_n F.1 F.2.1 dX11_write_1 rfl (lv_at hl 1 rfl) ?_
  refine lv_iload_n F.1 F.2.1 dX11_write_2 rfl (lv_at hl 2 rfl) ?_
  refine tw_Vi (As := [.int x1, .int x2]) F hZ h yk_X11_placeStatus mw_294 mw_295 mw_296 (s_X11_placeStatusY l D cy L R O f0 a0 m_a0 r_a0 x1 x2) rfl rfl m_a0 r_a0 (fun e q => (T_11 e).mp q) rfl hl.1 rfl (Nat.le_of_ble_eq_true rfl) ⟨Nat.le_of_ble_eq_true rfl, Nat.le_of_ble_eq_true rfl⟩ ⟨Nat.le_of_ble_eq_true rfl, Nat.le_of_ble_eq_true rfl⟩ dX11_write_3 (fun v2 f1 H locs hp1 h => ?_)
  obtain ⟨rfl, hv2a, hv2b, hv2p0, hv2p1⟩ := hp1
  refine lv_istore (lv' := [(5, .int v2), (0, .ref a0), (1, .int x1), (2, .int x2), (3, .long x3)]) F.1 F.2.1 dX11_write_6 hl (by decide) rfl (fun ls hl => ?_)
  refine lv_iload F.1 F.2.1 dX11_write_8 (lv_at hl 0 rfl) ?_
  refine tw_if_ne (tgt := 24) F dX11_write_10 (by decide) (fun b3 => ?_) (fun b3 => ?_)
  · refine lv_aload_n F.1 F.2.1 dX11_write_24 rfl (lv_at hl 1 rfl) ?_
    refine lv_iload F.1 F.2.1 dX11_write_25 (lv_at hl 0 rfl) ?_
    refine tw_Vi (As := [.int v2]) F hZ h yk_X11_settle mw_271 mw_272 mw_273 (s_X11_settle l D cy L R O f0 a0 m_a0 r_a0 v2 ⟨by omega, by omega⟩) rfl rfl m_a0 r_a0 (fun e q => (T_11 e).mp q) rfl hl.1 rfl (Nat.le_of_ble_eq_true rfl) ⟨Nat.le_of_ble_eq_true rfl, Nat.le_of_ble_eq_true rfl⟩ ⟨Nat.le_of_ble_eq_true rfl, Nat.le_of_ble_eq_true rfl⟩ dX11_write_27 (fun v5 f4 H locs hp4 h => ?_)
    obtain ⟨hf4, hv5a, hv5b, hv5p0⟩ := hp4
    have hk : fr L R [(11, 14)] [11, 54] f0 f4 := hk.tr hf4 rfl rfl
    exact hret f4 _ _ _ _ v5 dX11_write_30 (tw_nb (by omega)) ⟨hk, by omega, by omega, by omega⟩ h
  · refine lv_aload_n F.1 F.2.1 dX11_write_13 rfl (lv_at hl 1 rfl) ?_
    refine g_11_11 F h m_a0 r_a0 dX11_write_14 (fun o6 m_o6 r_o6 ho6 => ?_)
    refine lv_iload_n F.1 F.2.1 dX11_write_17 rfl (lv_at hl 2 rfl) ?_
    refine ld_55 F h m_o6 r_o6 (by omega) dX11_write_18 (fun o7 m_o7 r_o7 => ?_)
    refine lv_iload_n F.1 F.2.1 dX11_write_19 rfl (lv_at hl 3 rfl) ?_
    refine lv_lload_n F.1 F.2.1 dX11_write_20 rfl (lv_at hl 4 rfl) ?_
    refine tw_Vv (As := [.int x2, .long x3]) F hZ h yk_X10_put mw_306 mw_307 mw_308 (s_X10_put l D cy L R O f0 o7 m_o7 r_o7 x2 ⟨by omega, by omega⟩ x3) rfl rfl m_o7 r_o7 (fun e q => (T_10 e).mp q) rfl hl.1 rfl (Nat.le_of_ble_eq_true rfl) ⟨Nat.le_of_ble_eq_true rfl, Nat.le_of_ble_eq_true rfl⟩ ⟨Nat.le_of_ble_eq_true rfl, Nat.le_of_ble_eq_true rfl⟩ dX11_write_21 (fun f8 H locs hp8 h => ?_)
    have hf8 := hp8
    have hk : fr L R [(11, 14)] [11, 54] f0 f8 := hk.tr hf8 rfl rfl
    refine lv_aload_n F.1 F.2.1 dX11_write_24 rfl (lv_at hl 1 rfl) ?_
    refine lv_iload F.1 F.2.1 dX11_write_25 (lv_at hl 0 rfl) ?_
    refine tw_Vi (As := [.int v2]) F hZ h yk_X11_settle mw_271 mw_272 mw_273 (s_X11_settle l D cy L R O f8 a0 m_a0 r_a0 v2 ⟨by omega, by omega⟩) rfl rfl m_a0 r_a0 (fun e q => (T_11 e).mp q) rfl hl.1 rfl (Nat.le_of_ble_eq_true rfl) ⟨Nat.le_of_ble_eq_true rfl, Nat.le_of_ble_eq_true rfl⟩ ⟨Nat.le_of_ble_eq_true rfl, Nat.le_of_ble_eq_true rfl⟩ dX11_write_27 (fun v11 f10 H locs hp10 h => ?_)
    obtain ⟨hf10, hv11a, hv11b, hv11p0⟩ := hp10
    have hk : fr L R [(11, 14)] [11, 54] f0 f10 := hk.tr hf10 rfl rfl
    exact hret f10 _ _ _ _ v11 dX11_write_30 (tw_nb (by omega)) ⟨hk, by omega, by omega, by omega⟩ h
def rm_X11_pourY : Room := { frames := 1, cells := 0, slots := 0, locals := 40 }
set_option maxHeartbeats 4000000 in
set_option maxRecDepth 100000 in
theorem s_X11_pourY (l : Launch) (D : va_G) (cy : Nat → ClassId) (L : List Nat) (R O : Nat → Nat) (f0 : Nat → va_E) (a0 : Nat) (m_a0 : a0 ∈ L) (r_a0 : R a0 = 11) (x1 : Int32) (x2 : Int32) (x3 : Int32) (x4 : Int32) (x5 : Int32) : ∀ sz, Met l yX11_pour (Cond.code yX11_pour cX11_pour 8 (some .boolean) :: wsL_law) rm_X11_pourY (va_Pc [.ref a0, .int x1, .int x2, .int x3, .int x4, .int x5] (tPZ D cy L R (TT cy L R) f0 sz)) (va_Qi (fun (r : Int32) f1 => fr L R [(11, 14)] [11, 54] f0 f1 ∧ 0 ≤ r.toInt ∧ r.toInt ≤ 1 ∧ ((r.toInt = 1 ∧ (0 ≤ x1.toInt ∧ x1.toInt ≤ 3 ∧ 0 ≤ x3.toInt ∧ x3.toInt ≤ 3 ∧ 0 ≤ x2.toInt ∧ 0 ≤ x4.toInt ∧ 0 ≤ x5.toInt ∧ CT f0 a0 x1.toInt.toNat = CT f0 a0 x3.toInt.toNat ∧ x2.toInt + x5.toInt ≤ CS f0 a0 x1.toInt.toNat ∧ x4.toInt + x5.toInt ≤ CS f0 a0 x3.toInt.toNat)) ∨ (r.toInt = 0 ∧ ¬ (0 ≤ x1.toInt ∧ x1.toInt ≤ 3 ∧ 0 ≤ x3.toInt ∧ x3.toInt ≤ 3 ∧ 0 ≤ x2.toInt ∧ 0 ≤ x4.toInt ∧ 0 ≤ x5.toInt ∧ CT f0 a0 x1.toInt.toNat = CT f0 a0 x3.toInt.toNat ∧ x2.toInt + x5.toInt ≤ CS f0 a0 x1.toInt.toNat ∧ x4.toInt + x5.toInt ≤ CS f0 a0 x3.toInt.toNat)))) (tB D (tA L sz) L R (TT cy L R)) (tA L sz)) 0 0 (tA L sz) := by
  refine tw_enteri (by decide +kernel) rfl (Nat.le_of_ble_eq_true rfl) ?_
  intro p e s m below meth c A ls args Q F hZ h hl hret
  have hl : lv_has ls 8 [(0, .ref a0), (1, .int x1), (2, .int x2), (3, .int x3), (4, .int x4), (5, .int x5)] := hl
  have hk : fr L R [(11, 14)] [11, 54] f0 f0 := fr.rf
  refine lv_iload_n F.1 F.2.1 dX11_pour_0 rfl (lv_at hl 1 rfl) ?_
  refine tw_Si (As := [.int x1]) F hZ h yk_X11_isTray mw_268 mw_269 (s_X11_isTrayF l D cy L R O f0 x1) rfl rfl hl.1 rfl (Nat.le_of_ble_eq_true rfl) ⟨Nat.le_of_ble_eq_true rfl, Nat.le_of_ble_eq_true rfl⟩ ⟨Nat.le_of_ble_eq_true rfl, Nat.le_of_ble_eq_true rfl⟩ dX11_pour_1 (fun v2 f1 H locs hp1 h => ?_)
  obtain ⟨rfl, hv2a, hv2b, hv2p0⟩ := hp1
  refine tw_if_eq (tgt := 28) F dX11_pour_4 (by decide) (fun b3 => ?_) (fun b3 => ?_)
  · refine lv_aload_n F.1 F.2.1 dX11_pour_28 rfl (lv_at hl 0 rfl) ?_
    refine tw_iconst F dX11_pour_29 ki_1 (fun z4 hz4 => ?_)
    refine tw_Vi (As := [.int z4]) F hZ h yk_X11_settle mw_271 mw_272 mw_273 (s_X11_settle l D cy L R O f0 a0 m_a0 r_a0 z4 ⟨by omega, by omega⟩) rfl rfl m_a0 r_a0 (fun e q => (T_11 e).mp q) rfl hl.1 rfl (Nat.le_of_ble_eq_true rfl) ⟨Nat.le_of_ble_eq_true rfl, Nat.le_of_ble_eq_true rfl⟩ ⟨Nat.le_of_ble_eq_true rfl, Nat.le_of_ble_eq_true rfl⟩ dX11_pour_30 (fun v6 f5 H locs hp5 h => ?_)
    obtain ⟨hf5, hv6a, hv6b, hv6p0⟩ := hp5
    have hk : fr L R [(11, 14)] [11, 54] f0 f5 := hk.tr hf5 rfl rfl
    exact hret f5 _ _ _ _ v6 dX11_pour_33 (tw_nb (by omega)) ⟨hk, by omega, by omega, by omega⟩ h
  · refine lv_iload_n F.1 F.2.1 dX11_pour_7 rfl (lv_at hl 3 rfl) ?_
    refine tw_Si (As := [.int x3]) F hZ h yk_X11_isTray mw_268 mw_269 (s_X11_isTrayF l D cy L R O f0 x3) rfl rfl hl.1 rfl (Nat.le_of_ble_eq_true rfl) ⟨Nat.le_of_ble_eq_true rfl, Nat.le_of_ble_eq_true rfl⟩ ⟨Nat.le_of_ble_eq_true rfl, Nat.le_of_ble_eq_true rfl⟩ dX11_pour_8 (fun v8 f7 H locs hp7 h => ?_)
    obtain ⟨rfl, hv8a, hv8b, hv8p0⟩ := hp7
    refine tw_if_eq (tgt := 28) F dX11_pour_11 (by decide) (fun b9 => ?_) (fun b9 => ?_)
    · refine lv_aload_n F.1 F.2.1 dX11_pour_28 rfl (lv_at hl 0 rfl) ?_
      refine tw_iconst F dX11_pour_29 ki_1 (fun z10 hz10 => ?_)
      refine tw_Vi (As := [.int z10]) F hZ h yk_X11_settle mw_271 mw_272 mw_273 (s_X11_settle l D cy L R O f0 a0 m_a0 r_a0 z10 ⟨by omega, by omega⟩) rfl rfl m_a0 r_a0 (fun e q => (T_11 e).mp q) rfl hl.1 rfl (Nat.le_of_ble_eq_true rfl) ⟨Nat.le_of_ble_eq_true rfl, Nat.le_of_ble_eq_true rfl⟩ ⟨Nat.le_of_ble_eq_true rfl, Nat.le_of_ble_eq_true rfl⟩ dX11_pour_30 (fun v12 f11 H locs hp11 h => ?_)
      obtain ⟨hf11, hv12a, hv12b, hv12p0⟩ := hp11
      have hk : fr L R [(11, 14)] [11, 54] f0 f11 := hk.tr hf11 rfl rfl
      exact hret f11 _ _ _ _ v12 dX11_pour_33 (tw_nb (by omega)) ⟨hk, by omega, by omega, by omega⟩ h
    · refine lv_iload_n F.1 F.2.1 dX11_pour_14 rfl (lv_at hl 2 rfl) ?_
      refine tw_if_lt (tgt := 28) F dX11_pour_15 (by decide) (fun b13 => ?_) (fun b13 => ?_)
      · refine lv_aload_n F.1 F.2.1 dX11_pour_28 rfl (lv_at hl 0 rfl) ?_
        refine tw_iconst F dX11_pour_29 ki_1 (fun z14 hz14 => ?_)
        refine tw_Vi (As := [.int z14]) F hZ h yk_X11_settle mw_271 mw_272 mw_273 (s_X11_settle l D cy L R O f0 a0 m_a0 r_a0 z14 ⟨by omega, by omega⟩) rfl rfl m_a0 r_a0 (fun e q => (T_11 e).mp q) rfl hl.1 rfl (Nat.le_of_ble_eq_true rfl) ⟨Nat.le_of_ble_eq_true rfl, Nat.le_of_ble_eq_true rfl⟩ ⟨Nat.le_of_ble_eq_true rfl, Nat.le_of_ble_eq_true rfl⟩ dX11_pour_30 (fun v16 f15 H locs hp15 h => ?_)
        obtain ⟨hf15, hv16a, hv16b, hv16p0⟩ := hp15
        have hk : fr L R [(11, 14)] [11, 54] f0 f15 := hk.tr hf15 rfl rfl
        exact hret f15 _ _ _ _ v16 dX11_pour_33 (tw_nb (by omega)) ⟨hk, by omega, by omega, by omega⟩ h
      · refine lv_iload F.1 F.2.1 dX11_pour_18 (lv_at hl 4 rfl) ?_
        refine tw_if_lt (tgt := 28) F dX11_pour_20 (by decide) (fun b17 => ?_) (fun b17 => ?_)
        · refine lv_aload_n F.1 F.2.1 dX11_pour_28 rfl (lv_at hl 0 rfl) ?_
          refine tw_iconst F dX11_pour_29 ki_1 (fun z18 hz18 => ?_)
          refine tw_Vi (As := [.int z18]) F hZ h yk_X11_settle mw_271 mw_272 mw_273 (s_X11_settle l D cy L R O f0 a0 m_a0 r_a0 z18 ⟨by omega, by omega⟩) rfl rfl m_a0 r_a0 (fun e q => (T_11 e).mp q) rfl hl.1 rfl (Nat.le_of_ble_eq_true rfl) ⟨Nat.le_of_ble_eq_true rfl, Nat.le_of_ble_eq_true rfl⟩ ⟨Nat.le_of_ble_eq_true rfl, Nat.le_of_ble_eq_true rfl⟩ dX11_pour_30 (fun v20 f19 H locs hp19 h => ?_)
          obtain ⟨hf19, hv20a, hv20b, hv20p0⟩ := hp19
          have hk : fr L R [(11, 14)] [11, 54] f0 f19 := hk.tr hf19 rfl rfl
          exact hret f19 _ _ _ _ v20 dX11_pour_33 (tw_nb (by omega)) ⟨hk, by omega, by omega, by omega⟩ h
        · refine lv_iload F.1 F.2.1 dX11_pour_23 (lv_at hl 5 rfl) ?_
          refine tw_if_ge (tgt := 34) F dX11_pour_25 (by decide) (fun b21 => ?_) (fun b21 => ?_)
          · refine lv_aload_n F.1 F.2.1 dX11_pour_34 rfl (lv_at hl 0 rfl) ?_
            refine g_11_11 F h m_a0 r_a0 dX11_pour_35 (fun o22 m_o22 r_o22 ho22 => ?_)
            refine lv_iload_n F.1 F.2.1 dX11_pour_38 rfl (lv_at hl 1 rfl) ?_
            refine le_55 F h m_o22 r_o22 (by omega) dX11_pour_39 (fun o23 m_o23 r_o23 eo23 => ?_)
            have cs39 := CS_of ho22 eo23
            refine lv_astore (lv' := [(6, .ref o23), (0, .ref a0), (1, .int x1), (2, .int x2), (3, .int x3), (4, .int x4), (5, .int x5)]) F.1 F.2.1 dX11_pour_40 hl (by decide) rfl (fun ls hl => ?_)
            refine lv_aload_n F.1 F.2.1 dX11_pour_42 rfl (lv_at hl 1 rfl) ?_
            refine g_11_11 F h m_a0 r_a0 dX11_pour_43 (fun o24 m_o24 r_o24 ho24 => ?_)
            refine lv_iload_n F.1 F.2.1 dX11_pour_46 rfl (lv_at hl 4 rfl) ?_
            refine le_55 F h m_o24 r_o24 (by omega) dX11_pour_47 (fun o25 m_o25 r_o25 eo25 => ?_)
            have cs47 := CS_of ho24 eo25
            refine lv_astore (lv' := [(7, .ref o25), (6, .ref o23), (0, .ref a0), (1, .int x1), (2, .int x2), (3, .int x3), (4, .int x4), (5, .int x5)]) F.1 F.2.1 dX11_pour_48 hl (by decide) rfl (fun ls hl => ?_)
            refine lv_aload F.1 F.2.1 dX11_pour_50 (lv_at hl 1 rfl) ?_
            refine tw_Vi (As := []) F hZ h yk_X10_isMissing mw_298 mw_299 mw_300 (s_X10_isMissingY l D cy L R O f0 o23 m_o23 r_o23) rfl rfl m_o23 r_o23 (fun e q => (T_10 e).mp q) rfl hl.1 rfl (Nat.le_of_ble_eq_true rfl) ⟨Nat.le_of_ble_eq_true rfl, Nat.le_of_ble_eq_true rfl⟩ ⟨Nat.le_of_ble_eq_true rfl, Nat.le_of_ble_eq_true rfl⟩ dX11_pour_52 (fun v27 f26 H locs hp26 h => ?_)
            obtain ⟨rfl, hv27a, hv27b, hv27p0⟩ := hp26
            refine tw_if_ne (tgt := 66) F dX11_pour_55 (by decide) (fun b28 => ?_) (fun b28 => ?_)
            · refine lv_aload_n F.1 F.2.1 dX11_pour_66 rfl (lv_at hl 2 rfl) ?_
              refine tw_iconst F dX11_pour_67 ki_2 (fun z29 hz29 => ?_)
              refine tw_Vi (As := [.int z29]) F hZ h yk_X11_settle mw_271 mw_272 mw_273 (s_X11_settle l D cy L R O f0 a0 m_a0 r_a0 z29 ⟨by omega, by omega⟩) rfl rfl m_a0 r_a0 (fun e q => (T_11 e).mp q) rfl hl.1 rfl (Nat.le_of_ble_eq_true rfl) ⟨Nat.le_of_ble_eq_true rfl, Nat.le_of_ble_eq_true rfl⟩ ⟨Nat.le_of_ble_eq_true rfl, Nat.le_of_ble_eq_true rfl⟩ dX11_pour_68 (fun v31 f30 H locs hp30 h => ?_)
              obtain ⟨hf30, hv31a, hv31b, hv31p0⟩ := hp30
              have hk : fr L R [(11, 14)] [11, 54] f0 f30 := hk.tr hf30 rfl rfl
              exact hret f30 _ _ _ _ v31 dX11_pour_71 (tw_nb (by omega)) ⟨hk, by omega, by omega, by omega⟩ h
            · refine lv_aload F.1 F.2.1 dX11_pour_58 (lv_at hl 0 rfl) ?_
              refine tw_Vi (As := []) F hZ h yk_X10_isMissing mw_298 mw_299 mw_300 (s_X10_isMissingY l D cy L R O f0 o25 m_o25 r_o25) rfl rfl m_o25 r_o25 (fun e q => (T_10 e).mp q) rfl hl.1 rfl (Nat.le_of_ble_eq_true rfl) ⟨Nat.le_of_ble_eq_true rfl, Nat.le_of_ble_eq_true rfl⟩ ⟨Nat.le_of_ble_eq_true rfl, Nat.le_of_ble_eq_true rfl⟩ dX11_pour_60 (fun v33 f32 H locs hp32 h => ?_)
              obtain ⟨rfl, hv33a, hv33b, hv33p0⟩ := hp32
              refine tw_if_eq (tgt := 72) F dX11_pour_63 (by decide) (fun b34 => ?_) (fun b34 => ?_)
              · refine lv_aload F.1 F.2.1 dX11_pour_72 (lv_at hl 1 rfl) ?_
                refine g_11_119 F h m_o23 r_o23 dX11_pour_74 (fun v35 hv35 hv35a hv35b => ?_)
                refine lv_aload F.1 F.2.1 dX11_pour_77 (lv_at hl 0 rfl) ?_
                refine g_11_119 F h m_o25 r_o25 dX11_pour_79 (fun v36 hv36 hv36a hv36b => ?_)
                refine tw_icmp_eq (tgt := 92) F dX11_pour_82 (by decide) (fun b37 => ?_) (fun b37 => ?_)
                · refine lv_aload F.1 F.2.1 dX11_pour_92 (lv_at hl 1 rfl) ?_
                  refine lv_iload_n F.1 F.2.1 dX11_pour_94 rfl (lv_at hl 4 rfl) ?_
                  refine lv_iload F.1 F.2.1 dX11_pour_95 (lv_at hl 7 rfl) ?_
                  refine tw_Vi (As := [.int x2, .int x5]) F hZ h yk_X10_holds mw_302 mw_303 mw_304 (s_X10_holdsY l D cy L R O f0 o23 m_o23 r_o23 x2 x5 (by omega)) rfl rfl m_o23 r_o23 (fun e q => (T_10 e).mp q) rfl hl.1 rfl (Nat.le_of_ble_eq_true rfl) ⟨Nat.le_of_ble_eq_true rfl, Nat.le_of_ble_eq_true rfl⟩ ⟨Nat.le_of_ble_eq_true rfl, Nat.le_of_ble_eq_true rfl⟩ dX11_pour_97 (fun v39 f38 H locs hp38 h => ?_)
                  obtain ⟨rfl, hv39a, hv39b, hv39p0, hv39p1, hv39p2⟩ := hp38
                  refine tw_if_eq (tgt := 115) F dX11_pour_100 (by decide) (fun b40 => ?_) (fun b40 => ?_)
                  · refine lv_aload_n F.1 F.2.1 dX11_pour_115 rfl (lv_at hl 2 rfl) ?_
                    refine tw_iconst F dX11_pour_116 ki_3 (fun z41 hz41 => ?_)
                    refine tw_Vi (As := [.int z41]) F hZ h yk_X11_settle mw_271 mw_272 mw_273 (s_X11_settle l D cy L R O f0 a0 m_a0 r_a0 z41 ⟨by omega, by omega⟩) rfl rfl m_a0 r_a0 (fun e q => (T_11 e).mp q) rfl hl.1 rfl (Nat.le_of_ble_eq_true rfl) ⟨Nat.le_of_ble_eq_true rfl, Nat.le_of_ble_eq_true rfl⟩ ⟨Nat.le_of_ble_eq_true rfl, Nat.le_of_ble_eq_true rfl⟩ dX11_pour_117 (fun v43 f42 H locs hp42 h => ?_)
                    obtain ⟨hf42, hv43a, hv43b, hv43p0⟩ := hp42
                    have hk : fr L R [(11, 14)] [11, 54] f0 f42 := hk.tr hf42 rfl rfl
                    have e44 : fi f42 o23 2 = fi f0 o23 2 := hf42.efi m_o23 r_o23 rfl
                    have e45 : fi f42 o25 2 = fi f0 o25 2 := hf42.efi m_o25 r_o25 rfl
                    exact hret f42 _ _ _ _ v43 dX11_pour_120 (tw_nb (by omega)) ⟨hk, by omega, by omega, by omega⟩ h
                  · refine lv_aload F.1 F.2.1 dX11_pour_103 (lv_at hl 0 rfl) ?_
                    refine lv_iload F.1 F.2.1 dX11_pour_105 (lv_at hl 6 rfl) ?_
                    refine lv_iload F.1 F.2.1 dX11_pour_107 (lv_at hl 7 rfl) ?_
                    refine tw_Vi (As := [.int x4, .int x5]) F hZ h yk_X10_holds mw_302 mw_303 mw_304 (s_X10_holdsY l D cy L R O f0 o25 m_o25 r_o25 x4 x5 (by omega)) rfl rfl m_o25 r_o25 (fun e q => (T_10 e).mp q) rfl hl.1 rfl (Nat.le_of_ble_eq_true rfl) ⟨Nat.le_of_ble_eq_true rfl, Nat.le_of_ble_eq_true rfl⟩ ⟨Nat.le_of_ble_eq_true rfl, Nat.le_of_ble_eq_true rfl⟩ dX11_pour_109 (fun v47 f46 H locs hp46 h => ?_)
                    obtain ⟨rfl, hv47a, hv47b, hv47p0, hv47p1, hv47p2⟩ := hp46
                    refine tw_if_ne (tgt := 121) F dX11_pour_112 (by decide) (fun b48 => ?_) (fun b48 => ?_)
                    · refine lv_aload F.1 F.2.1 dX11_pour_121 (lv_at hl 1 rfl) ?_
                      refine g_11_126 F h m_o23 r_o23 dX11_pour_123 (fun o49 m_o49 r_o49 ho49 => ?_)
                      refine lv_iload_n F.1 F.2.1 dX11_pour_126 rfl (lv_at hl 4 rfl) ?_
                      refine lv_aload F.1 F.2.1 dX11_pour_127 (lv_at hl 0 rfl) ?_
                      refine g_11_126 F h m_o25 r_o25 dX11_pour_129 (fun o50 m_o50 r_o50 ho50 => ?_)
                      refine lv_iload F.1 F.2.1 dX11_pour_132 (lv_at hl 6 rfl) ?_
                      refine lv_iload F.1 F.2.1 dX11_pour_134 (lv_at hl 7 rfl) ?_
                      refine cp_54_54 F h hl.1 mw_347 m_o49 r_o49 m_o50 r_o50 (by omega) (Nat.le_of_ble_eq_true rfl) (Nat.le_of_ble_eq_true rfl) dX11_pour_136 (fun f51 H locs hf51 h => ?_)
                      have hk : fr L R [(11, 14)] [11, 54] f0 f51 := hk.tr hf51 rfl rfl
                      have e52 : fi f51 o23 2 = fi f0 o23 2 := hf51.efi m_o23 r_o23 rfl
                      have e53 : fi f51 o25 2 = fi f0 o25 2 := hf51.efi m_o25 r_o25 rfl
                      refine lv_aload_n F.1 F.2.1 dX11_pour_139 rfl (lv_at hl 2 rfl) ?_
                      refine tw_iconst F dX11_pour_140 ki_0 (fun z54 hz54 => ?_)
                      refine tw_Vi (As := [.int z54]) F hZ h yk_X11_settle mw_271 mw_272 mw_273 (s_X11_settle l D cy L R O f51 a0 m_a0 r_a0 z54 ⟨by omega, by omega⟩) rfl rfl m_a0 r_a0 (fun e q => (T_11 e).mp q) rfl hl.1 rfl (Nat.le_of_ble_eq_true rfl) ⟨Nat.le_of_ble_eq_true rfl, Nat.le_of_ble_eq_true rfl⟩ ⟨Nat.le_of_ble_eq_true rfl, Nat.le_of_ble_eq_true rfl⟩ dX11_pour_141 (fun v56 f55 H locs hp55 h => ?_)
                      obtain ⟨hf55, hv56a, hv56b, hv56p0⟩ := hp55
                      have hk : fr L R [(11, 14)] [11, 54] f0 f55 := hk.tr hf55 rfl rfl
                      have e57 : fi f55 o23 2 = fi f51 o23 2 := hf55.efi m_o23 r_o23 rfl
                      have e58 : fi f55 o25 2 = fi f51 o25 2 := hf55.efi m_o25 r_o25 rfl
                      exact hret f55 _ _ _ _ v56 dX11_pour_144 (tw_nb (by omega)) ⟨hk, by omega, by omega, by omega⟩ h
                    · refine lv_aload_n F.1 F.2.1 dX11_pour_115 rfl (lv_at hl 2 rfl) ?_
                      refine tw_iconst F dX11_pour_116 ki_3 (fun z59 hz59 => ?_)
                      refine tw_Vi (As := [.int z59]) F hZ h yk_X11_settle mw_271 mw_272 mw_273 (s_X11_settle l D cy L R O f0 a0 m_a0 r_a0 z59 ⟨by omega, by omega⟩) rfl rfl m_a0 r_a0 (fun e q => (T_11 e).mp q) rfl hl.1 rfl (Nat.le_of_ble_eq_true rfl) ⟨Nat.le_of_ble_eq_true rfl, Nat.le_of_ble_eq_true rfl⟩ ⟨Nat.le_of_ble_eq_true rfl, Nat.le_of_ble_eq_true rfl⟩ dX11_pour_117 (fun v61 f60 H locs hp60 h => ?_)
                      obtain ⟨hf60, hv61a, hv61b, hv61p0⟩ := hp60
                      have hk : fr L R [(11, 14)] [11, 54] f0 f60 := hk.tr hf60 rfl rfl
                      have e62 : fi f60 o23 2 = fi f0 o23 2 := hf60.efi m_o23 r_o23 rfl
                      have e63 : fi f60 o25 2 = fi f0 o25 2 := hf60.efi m_o25 r_o25 rfl
                      exact hret f60 _ _ _ _ v61 dX11_pour_120 (tw_nb (by omega)) ⟨hk, by omega, by omega, by omega⟩ h
                · refine lv_aload_n F.1 F.2.1 dX11_pour_85 rfl (lv_at hl 2 rfl) ?_
                  refine tw_bipush F dX11_pour_86 kb_8 (fun z64 hz64 => ?_)
                  refine tw_Vi (As := [.int z64]) F hZ h yk_X11_settle mw_271 mw_272 mw_273 (s_X11_settle l D cy L R O f0 a0 m_a0 r_a0 z64 ⟨by omega, by omega⟩) rfl rfl m_a0 r_a0 (fun e q => (T_11 e).mp q) rfl hl.1 rfl (Nat.le_of_ble_eq_true rfl) ⟨Nat.le_of_ble_eq_true rfl, Nat.le_of_ble_eq_true rfl⟩ ⟨Nat.le_of_ble_eq_true rfl, Nat.le_of_ble_eq_true rfl⟩ dX11_pour_88 (fun v66 f65 H locs hp65 h => ?_)
                  obtain ⟨hf65, hv66a, hv66b, hv66p0⟩ := hp65
                  have hk : fr L R [(11, 14)] [11, 54] f0 f65 := hk.tr hf65 rfl rfl
                  have e67 : fi f65 o23 2 = fi f0 o23 2 := hf65.efi m_o23 r_o23 rfl
                  have e68 : fi f65 o25 2 = fi f0 o25 2 := hf65.efi m_o25 r_o25 rfl
                  exact hret f65 _ _ _ _ v66 dX11_pour_91 (tw_nb (by omega)) ⟨hk, by omega, by omega, by omega⟩ h
              · refine lv_aload_n F.1 F.2.1 dX11_pour_66 rfl (lv_at hl 2 rfl) ?_
                refine tw_iconst F dX11_pour_67 ki_2 (fun z69 hz69 => ?_)
                refine tw_Vi (As := [.int z69]) F hZ h yk_X11_settle mw_271 mw_272 mw_273 (s_X11_settle l D cy L R O f0 a0 m_a0 r_a0 z69 ⟨by omega, by omega⟩) rfl rfl m_a0 r_a0 (fun e q => (T_11 e).mp q) rfl hl.1 rfl (Nat.le_of_ble_eq_true rfl) ⟨Nat.le_of_ble_eq_true rfl, Nat.le_of_ble_eq_true rfl⟩ ⟨Nat.le_of_ble_eq_true rfl, Nat.le_of_ble_eq_true rfl⟩ dX11_pour_68 (fun v71 f70 H locs hp70 h => ?_)
                obtain ⟨hf70, hv71a, hv71b, hv71p0⟩ := hp70
                have hk : fr L R [(11, 14)] [11, 54] f0 f70 := hk.tr hf70 rfl rfl
                exact hret f70 _ _ _ _ v71 dX11_pour_71 (tw_nb (by omega)) ⟨hk, by omega, by omega, by omega⟩ h
          · refine lv_aload_n F.1 F.2.1 dX11_pour_28 rfl (lv_at hl 0 rfl) ?_
            refine tw_iconst F dX11_pour_29 ki_1 (fun z72 hz72 => ?_)
            refine tw_Vi (As := [.int z72]) F hZ h yk_X11_settle mw_271 mw_272 mw_273 (s_X11_settle l D cy L R O f0 a0 m_a0 r_a0 z72 ⟨by omega, by omega⟩) rfl rfl m_a0 r_a0 (fun e q => (T_11 e).mp q) rfl hl.1 rfl (Nat.le_of_ble_eq_true rfl) ⟨Nat.le_of_ble_eq_true rfl, Nat.le_of_ble_eq_true rfl⟩ ⟨Nat.le_of_ble_eq_true rfl, Nat.le_of_ble_eq_true rfl⟩ dX11_pour_30 (fun v74 f73 H locs hp73 h => ?_)
            obtain ⟨hf73, hv74a, hv74b, hv74p0⟩ := hp73
            have hk : fr L R [(11, 14)] [11, 54] f0 f73 := hk.tr hf73 rfl rfl
            exact hret f73 _ _ _ _ v74 dX11_pour_33 (tw_nb (by omega)) ⟨hk, by omega, by omega, by omega⟩ h
section
variable {p : Program} {l : Launch} {e : Env} {R0 : Room} {s : State} {m : MethodId} {args : Array Value} {below : List Frame} {meth : Method} {c : Code} {H H0 : Heap} {locs : List Loc} {cells slots : Nat} {Q : State → Prop} {cc : ByteArray} {nL : Nat} {D : va_G} {cy : Nat → ClassId} {A : Nat → Prop} {L : List Nat} {R : Nat → Nat} {f : Nat → va_E} {pc : Nat} {ls : Array Slot} {rest : List Value} {a : Nat}
theorem le_63 {own : String} (F : CallFix p m c cc nL s args wsL_law own) (h : tS D cy A H0 L R (TT cy L R) f s H locs) {i : Int32} (ha : a ∈ L) (hr : R a = 63) (hb : 0 ≤ i.toInt ∧ i.toInt < 4) (hdg : decode cc pc = .ok (.iaload, 1)) (kk : ∀ x : Int32, x.toInt = eli f a i.toInt.toNat → (-1) ≤ x.toInt → x.toInt ≤ 60 → W p l e R0 s m args below meth c H locs cells slots Q (F0 m (pc + 1) ls (.int x :: rest))) : W p l e R0 s m args below meth c H locs cells slots Q (F0 m pc ls (.int i :: .ref a :: rest)) := tu_iald F h ha hr (fun e q => (T_63 e).mp q) hb.1 hb.2 hdg (fun x h1 h2 => kk x h2 h1.1 h1.2)
end
def rm_X12_wrongPlaceY : Room := { frames := 1, cells := 0, slots := 0, locals := 20 }
set_option maxHeartbeats 4000000 in
set_option maxRecDepth 100000 in
theorem s_X12_wrongPlaceY (l : Launch) (D : va_G) (cy : Nat → ClassId) (L : List Nat) (R O : Nat → Nat) (f0 : Nat → va_E) (a0 : Nat) (m_a0 : a0 ∈ L) (r_a0 : R a0 = 12) (x1 : Int32) (x2 : Int32) : ∀ sz, Met l yX12_wrongPlace (Cond.code yX12_wrongPlace cX12_wrongPlace 3 (some .int) :: wsL_law) rm_X12_wrongPlaceY (va_Pc [.ref a0, .int x1, .int x2] (tPZ D cy L R (TT cy L R) f0 sz)) (va_Qi (fun (r : Int32) f1 => f0 = f1 ∧ 0 ≤ r.toInt ∧ r.toInt ≤ 3 ∧ (r.toInt ≠ 0 ∨ (0 ≤ x1.toInt ∧ x1.toInt ≤ 3 ∧ 0 ≤ x2.toInt ∧ x2.toInt ≤ 59)) ∧ ((r.toInt = 0 ∧ (0 ≤ x1.toInt ∧ x1.toInt ≤ 3 ∧ 0 ≤ x2.toInt ∧ x2.toInt < MS f0 a0 x1.toInt.toNat)) ∨ (r.toInt ≠ 0 ∧ ¬ (0 ≤ x1.toInt ∧ x1.toInt ≤ 3 ∧ 0 ≤ x2.toInt ∧ x2.toInt < MS f0 a0 x1.toInt.toNat)))) (tB D (tA L sz) L R (TT cy L R)) (tA L sz)) 0 0 (tA L sz) := by
  refine tw_enteri (by decide +kernel) rfl (Nat.le_of_ble_eq_true rfl) ?_
  intro p e s m below meth c A ls args Q F hZ h hl hret
  have hl : lv_has ls 3 [(0, .ref a0), (1, .int x1), (2, .int x2)] := hl
  obtain ⟨a0_trayMany, m_a0_trayMany, r_a0_trayMany, t_a0_trayMany⟩ := h.rf m_a0 r_a0 (fun e q => (T_12 e).mp q) (k := 5) rfl
  have hms := MS_of t_a0_trayMany
  have ms1 := hms x1.toInt.toNat
  refine lv_iload_n F.1 F.2.1 dX12_wrongPlace_0 rfl (lv_at hl 1 rfl) ?_
  refine tw_Si (As := [.int x1]) F hZ h yk_X12_isTray mw_283 mw_284 (s_X12_isTray l D cy L R O f0 x1) rfl rfl hl.1 rfl (Nat.le_of_ble_eq_true rfl) ⟨Nat.le_of_ble_eq_true rfl, Nat.le_of_ble_eq_true rfl⟩ ⟨Nat.le_of_ble_eq_true rfl, Nat.le_of_ble_eq_true rfl⟩ dX12_wrongPlace_1 (fun v2 f1 H locs hp1 h => ?_)
  obtain ⟨rfl, hv2a, hv2b, hv2p0⟩ := hp1
  refine tw_if_ne (tgt := 11) F dX12_wrongPlace_4 (by decide) (fun b3 => ?_) (fun b3 => ?_)
  · refine lv_aload_n F.1 F.2.1 dX12_wrongPlace_11 rfl (lv_at hl 0 rfl) ?_
    refine g_12_21 F h m_a0 r_a0 dX12_wrongPlace_12 (fun o4 m_o4 r_o4 ho4 => ?_)
    obtain rfl := (fld_inj t_a0_trayMany ho4).symm
    refine lv_iload_n F.1 F.2.1 dX12_wrongPlace_15 rfl (lv_at hl 1 rfl) ?_
    refine le_63 F h m_a0_trayMany r_a0_trayMany (by omega) dX12_wrongPlace_16 (fun v5 ev5 hv5a hv5b => ?_)
    refine tw_iconst F dX12_wrongPlace_17 ki_m1 (fun z6 hz6 => ?_)
    refine tw_icmp_ne (tgt := 25) F dX12_wrongPlace_18 (by decide) (fun b7 => ?_) (fun b7 => ?_)
    · refine lv_iload_n F.1 F.2.1 dX12_wrongPlace_25 rfl (lv_at hl 2 rfl) ?_
      refine tw_if_lt (tgt := 39) F dX12_wrongPlace_26 (by decide) (fun b8 => ?_) (fun b8 => ?_)
      · refine tw_iconst F dX12_wrongPlace_39 ki_3 (fun z9 hz9 => ?_)
        refine lv_goto (tgt := 44) F.1 F.2.1 dX12_wrongPlace_40 (by decide) ?_
        exact hret f0 _ _ _ _ z9 dX12_wrongPlace_44 rfl ⟨rfl, by omega, by omega, by omega, by omega⟩ h
      · refine lv_iload_n F.1 F.2.1 dX12_wrongPlace_29 rfl (lv_at hl 2 rfl) ?_
        refine lv_aload_n F.1 F.2.1 dX12_wrongPlace_30 rfl (lv_at hl 0 rfl) ?_
        refine g_12_21 F h m_a0 r_a0 dX12_wrongPlace_31 (fun o10 m_o10 r_o10 ho10 => ?_)
        obtain rfl := (fld_inj t_a0_trayMany ho10).symm
        refine lv_iload_n F.1 F.2.1 dX12_wrongPlace_34 rfl (lv_at hl 1 rfl) ?_
        refine le_63 F h m_a0_trayMany r_a0_trayMany (by omega) dX12_wrongPlace_35 (fun v11 ev11 hv11a hv11b => ?_)
        refine tw_icmp_lt (tgt := 43) F dX12_wrongPlace_36 (by decide) (fun b12 => ?_) (fun b12 => ?_)
        · refine tw_iconst F dX12_wrongPlace_43 ki_0 (fun z13 hz13 => ?_)
          exact hret f0 _ _ _ _ z13 dX12_wrongPlace_44 rfl ⟨rfl, by omega, by omega, by omega, by omega⟩ h
        · refine tw_iconst F dX12_wrongPlace_39 ki_3 (fun z14 hz14 => ?_)
          refine lv_goto (tgt := 44) F.1 F.2.1 dX12_wrongPlace_40 (by decide) ?_
          exact hret f0 _ _ _ _ z14 dX12_wrongPlace_44 rfl ⟨rfl, by omega, by omega, by omega, by omega⟩ h
    · refine tw_iconst F dX12_wrongPlace_21 ki_2 (fun z15 hz15 => ?_)
      refine lv_goto (tgt := 44) F.1 F.2.1 dX12_wrongPlace_22 (by decide) ?_
      exact hret f0 _ _ _ _ z15 dX12_wrongPlace_44 rfl ⟨rfl, by omega, by omega, by omega, by omega⟩ h
  · refine tw_iconst F dX12_wrongPlace_7 ki_1 (fun z16 hz16 => ?_)
    refine lv_goto (tgt := 44) F.1 F.2.1 dX12_wrongPlace_8 (by decide) ?_
    exact hret f0 _ _ _ _ z16 dX12_wrongPlace_44 rfl ⟨rfl, by omega, by omega, by omega, by omega⟩ h
section
variable {p : Program} {l : Launch} {e : Env} {R0 : Room} {s : State} {m : MethodId} {args : Array Value} {below : List Frame} {meth : Method} {c : Code} {H H0 : Heap} {locs : List Loc} {cells slots : Nat} {Q : State → Prop} {cc : ByteArray} {nL : Nat} {D : va_G} {cy : Nat → ClassId} {A : Nat → Prop} {L : List Nat} {R : Nat → Nat} {f : Nat → va_E} {pc : Nat} {ls : Array Slot} {rest : List Value} {a : Nat}
theorem se_62 {own : String} (F : CallFix p m c cc nL s args wsL_law own) (h : tS D cy A H0 L R (TT cy L R) f s H locs) {i : Int32} {x : Int32} (ha : a ∈ L) (hr : R a = 62) (hb : 0 ≤ i.toInt ∧ i.toInt < 4) (hdg : decode cc pc = .ok (.iastore, 1)) (kk : ∀ (f1 : Nat → va_E) (H1 : Heap) (locs1 : List Loc), (∀ j, eli f1 a j = if j = i.toInt.toNat then x.toInt else eli f a j) → (∀ a', a' ≠ a → f1 a' = f a') → fr L R [] [62] f f1 → tS D cy A H0 L R (TT cy L R) f1 s H1 locs1 → W p l e R0 s m args below meth c H1 locs1 cells slots Q (F0 m (pc + 1) ls (rest))) : W p l e R0 s m args below meth c H locs cells slots Q (F0 m pc ls (.int x :: .int i :: .ref a :: rest)) := tu_iast F h ha hr T_62 hb.1 hb.2 trivial hdg (fun f1 H1 locs1 h1 h2 h3 h4 => kk f1 H1 locs1 h1 h2 h3 h4)
end
section
variable {p : Program} {l : Launch} {e : Env} {R0 : Room} {s : State} {m : MethodId} {args : Array Value} {below : List Frame} {meth : Method} {c : Code} {H H0 : Heap} {locs : List Loc} {cells slots : Nat} {Q : State → Prop} {cc : ByteArray} {nL : Nat} {D : va_G} {cy : Nat → ClassId} {A : Nat → Prop} {L : List Nat} {R : Nat → Nat} {f : Nat → va_E} {pc : Nat} {ls : Array Slot} {rest : List Value} {a : Nat}
theorem se_63 {own : String} (F : CallFix p m c cc nL s args wsL_law own) (h : tS D cy A H0 L R (TT cy L R) f s H locs) {i : Int32} {x : Int32} (ha : a ∈ L) (hr : R a = 63) (hb : 0 ≤ i.toInt ∧ i.toInt < 4) (hv : (-1) ≤ x.toInt ∧ x.toInt ≤ 60) (hdg : decode cc pc = .ok (.iastore, 1)) (kk : ∀ (f1 : Nat → va_E) (H1 : Heap) (locs1 : List Loc), (∀ j, eli f1 a j = if j = i.toInt.toNat then x.toInt else eli f a j) → (∀ a', a' ≠ a → f1 a' = f a') → fr L R [] [63] f f1 → tS D cy A H0 L R (TT cy L R) f1 s H1 locs1 → W p l e R0 s m args below meth c H1 locs1 cells slots Q (F0 m (pc + 1) ls (rest))) : W p l e R0 s m args below meth c H locs cells slots Q (F0 m pc ls (.int x :: .int i :: .ref a :: rest)) := tu_iast F h ha hr T_63 hb.1 hb.2 hv hdg (fun f1 H1 locs1 h1 h2 h3 h4 => kk f1 H1 locs1 h1 h2 h3 h4)
end
def rm_X12_trayY : Room := { frames := 1, cells := 0, slots := 0, locals := 21 }
set_option maxHeartbeats 4000000 in
set_option maxRecDepth 100000 in
theorem s_X12_trayY (l : Launch) (D : va_G) (cy : Nat → ClassId) (L : List Nat) (R O : Nat → Nat) (f0 : Nat → va_E) (a0 : Nat) (m_a0 : a0 ∈ L) (r_a0 : R a0 = 12) (x1 : Int32) (x2 : Int32) (x3 : Int32) : ∀ sz, Met l yX12_tray (Cond.code yX12_tray cX12_tray 5 (some .boolean) :: wsL_law) rm_X12_trayY (va_Pc [.ref a0, .int x1, .int x2, .int x3] (tPZ D cy L R (TT cy L R) f0 sz)) (va_Qi (fun (r : Int32) f1 => fr L R [(12, 1)] [12, 62, 63, 64] f0 f1 ∧ 0 ≤ r.toInt ∧ r.toInt ≤ 1 ∧ ((r.toInt = 1 ∧ (0 ≤ x1.toInt ∧ x1.toInt ≤ 3 ∧ 0 ≤ x2.toInt ∧ x2.toInt ≤ 3 ∧ 0 ≤ x3.toInt ∧ x3.toInt ≤ 60)) ∨ (r.toInt = 0 ∧ ¬ (0 ≤ x1.toInt ∧ x1.toInt ≤ 3 ∧ 0 ≤ x2.toInt ∧ x2.toInt ≤ 3 ∧ 0 ≤ x3.toInt ∧ x3.toInt ≤ 60))) ∧ (∀ i, i < 4 → ((i = x1.toInt.toNat ∧ r.toInt = 1 ∧ MS f1 a0 i = x3.toInt ∧ MT f1 a0 i = x2.toInt) ∨ ((i ≠ x1.toInt.toNat ∨ r.toInt = 0) ∧ MS f1 a0 i = MS f0 a0 i ∧ MT f1 a0 i = MT f0 a0 i)))) (tB D (tA L sz) L R (TT cy L R)) (tA L sz)) 0 0 (tA L sz) := by
  refine tw_enteri (by decide +kernel) rfl (Nat.le_of_ble_eq_true rfl) ?_
  intro p e s m below meth c A ls args Q F hZ h hl hret
  have hl : lv_has ls 5 [(0, .ref a0), (1, .int x1), (2, .int x2), (3, .int x3)] := hl
  have hk : fr L R [(12, 1)] [12, 62, 63, 64] f0 f0 := fr.rf
  obtain ⟨a0_sort, m_a0_sort, r_a0_sort, t_a0_sort⟩ := h.rf m_a0 r_a0 (fun e q => (T_12 e).mp q) (k := 4) rfl
  obtain ⟨a0_trayMany, m_a0_trayMany, r_a0_trayMany, t_a0_trayMany⟩ := h.rf m_a0 r_a0 (fun e q => (T_12 e).mp q) (k := 5) rfl
  have h0 := h
  have hms := MS_of t_a0_trayMany
  have hmt := MT_of t_a0_sort
  refine lv_iload_n F.1 F.2.1 dX12_tray_0 rfl (lv_at hl 1 rfl) ?_
  refine tw_Si (As := [.int x1]) F hZ h yk_X12_isTray mw_283 mw_284 (s_X12_isTray l D cy L R O f0 x1) rfl rfl hl.1 rfl (Nat.le_of_ble_eq_true rfl) ⟨Nat.le_of_ble_eq_true rfl, Nat.le_of_ble_eq_true rfl⟩ ⟨Nat.le_of_ble_eq_true rfl, Nat.le_of_ble_eq_true rfl⟩ dX12_tray_1 (fun v2 f1 H locs hp1 h => ?_)
  obtain ⟨rfl, hv2a, hv2b, hv2p0⟩ := hp1
  refine tw_if_eq (tgt := 26) F dX12_tray_4 (by decide) (fun b3 => ?_) (fun b3 => ?_)
  · refine lv_aload_n F.1 F.2.1 dX12_tray_26 rfl (lv_at hl 0 rfl) ?_
    refine tw_iconst F dX12_tray_27 ki_1 (fun z4 hz4 => ?_)
    refine tw_Vi (As := [.int z4]) F hZ h yk_X12_is mw_286 mw_287 mw_288 (s_X12_is l D cy L R O f0 a0 m_a0 r_a0 z4 ⟨by omega, by omega⟩) rfl rfl m_a0 r_a0 (fun e q => (T_12 e).mp q) rfl hl.1 rfl (Nat.le_of_ble_eq_true rfl) ⟨Nat.le_of_ble_eq_true rfl, Nat.le_of_ble_eq_true rfl⟩ ⟨Nat.le_of_ble_eq_true rfl, Nat.le_of_ble_eq_true rfl⟩ dX12_tray_28 (fun v6 f5 H locs hp5 h => ?_)
    obtain ⟨hf5, hv6a, hv6b, hv6p0⟩ := hp5
    have hk : fr L R [(12, 1)] [12, 62, 63, 64] f0 f5 := hk.tr hf5 rfl rfl
    have e7 : fld f5 a0 4 = .ref a0_sort := (hf5.efl m_a0 r_a0 rfl).trans t_a0_sort
    have e8 : fld f5 a0 5 = .ref a0_trayMany := (hf5.efl m_a0 r_a0 rfl).trans t_a0_trayMany
    exact hret f5 _ _ _ _ v6 dX12_tray_31 (tw_nb (by omega)) ⟨hk, by omega, by omega, by omega, (fun i hi => by have q := TRm (TMm_of h0 m_a0 r_a0) hf5 m_a0 r_a0 (by decide +kernel) (by decide +kernel) (by decide +kernel) (by decide +kernel) i; omega)⟩ h
  · refine lv_iload_n F.1 F.2.1 dX12_tray_7 rfl (lv_at hl 2 rfl) ?_
    refine tw_if_lt (tgt := 26) F dX12_tray_8 (by decide) (fun b9 => ?_) (fun b9 => ?_)
    · refine lv_aload_n F.1 F.2.1 dX12_tray_26 rfl (lv_at hl 0 rfl) ?_
      refine tw_iconst F dX12_tray_27 ki_1 (fun z10 hz10 => ?_)
      refine tw_Vi (As := [.int z10]) F hZ h yk_X12_is mw_286 mw_287 mw_288 (s_X12_is l D cy L R O f0 a0 m_a0 r_a0 z10 ⟨by omega, by omega⟩) rfl rfl m_a0 r_a0 (fun e q => (T_12 e).mp q) rfl hl.1 rfl (Nat.le_of_ble_eq_true rfl) ⟨Nat.le_of_ble_eq_true rfl, Nat.le_of_ble_eq_true rfl⟩ ⟨Nat.le_of_ble_eq_true rfl, Nat.le_of_ble_eq_true rfl⟩ dX12_tray_28 (fun v12 f11 H locs hp11 h => ?_)
      obtain ⟨hf11, hv12a, hv12b, hv12p0⟩ := hp11
      have hk : fr L R [(12, 1)] [12, 62, 63, 64] f0 f11 := hk.tr hf11 rfl rfl
      have e13 : fld f11 a0 4 = .ref a0_sort := (hf11.efl m_a0 r_a0 rfl).trans t_a0_sort
      have e14 : fld f11 a0 5 = .ref a0_trayMany := (hf11.efl m_a0 r_a0 rfl).trans t_a0_trayMany
      exact hret f11 _ _ _ _ v12 dX12_tray_31 (tw_nb (by omega)) ⟨hk, by omega, by omega, by omega, (fun i hi => by have q := TRm (TMm_of h0 m_a0 r_a0) hf11 m_a0 r_a0 (by decide +kernel) (by decide +kernel) (by decide +kernel) (by decide +kernel) i; omega)⟩ h
    · refine lv_iload_n F.1 F.2.1 dX12_tray_11 rfl (lv_at hl 2 rfl) ?_
      refine tw_iconst F dX12_tray_12 ki_3 (fun z15 hz15 => ?_)
      refine tw_icmp_gt (tgt := 26) F dX12_tray_13 (by decide) (fun b16 => ?_) (fun b16 => ?_)
      · refine lv_aload_n F.1 F.2.1 dX12_tray_26 rfl (lv_at hl 0 rfl) ?_
        refine tw_iconst F dX12_tray_27 ki_1 (fun z17 hz17 => ?_)
        refine tw_Vi (As := [.int z17]) F hZ h yk_X12_is mw_286 mw_287 mw_288 (s_X12_is l D cy L R O f0 a0 m_a0 r_a0 z17 ⟨by omega, by omega⟩) rfl rfl m_a0 r_a0 (fun e q => (T_12 e).mp q) rfl hl.1 rfl (Nat.le_of_ble_eq_true rfl) ⟨Nat.le_of_ble_eq_true rfl, Nat.le_of_ble_eq_true rfl⟩ ⟨Nat.le_of_ble_eq_true rfl, Nat.le_of_ble_eq_true rfl⟩ dX12_tray_28 (fun v19 f18 H locs hp18 h => ?_)
        obtain ⟨hf18, hv19a, hv19b, hv19p0⟩ := hp18
        have hk : fr L R [(12, 1)] [12, 62, 63, 64] f0 f18 := hk.tr hf18 rfl rfl
        have e20 : fld f18 a0 4 = .ref a0_sort := (hf18.efl m_a0 r_a0 rfl).trans t_a0_sort
        have e21 : fld f18 a0 5 = .ref a0_trayMany := (hf18.efl m_a0 r_a0 rfl).trans t_a0_trayMany
        exact hret f18 _ _ _ _ v19 dX12_tray_31 (tw_nb (by omega)) ⟨hk, by omega, by omega, by omega, (fun i hi => by have q := TRm (TMm_of h0 m_a0 r_a0) hf18 m_a0 r_a0 (by decide +kernel) (by decide +kernel) (by decide +kernel) (by decide +kernel) i; omega)⟩ h
      · refine lv_iload_n F.1 F.2.1 dX12_tray_16 rfl (lv_at hl 3 rfl) ?_
        refine tw_if_lt (tgt := 26) F dX12_tray_17 (by decide) (fun b22 => ?_) (fun b22 => ?_)
        · refine lv_aload_n F.1 F.2.1 dX12_tray_26 rfl (lv_at hl 0 rfl) ?_
          refine tw_iconst F dX12_tray_27 ki_1 (fun z23 hz23 => ?_)
          refine tw_Vi (As := [.int z23]) F hZ h yk_X12_is mw_286 mw_287 mw_288 (s_X12_is l D cy L R O f0 a0 m_a0 r_a0 z23 ⟨by omega, by omega⟩) rfl rfl m_a0 r_a0 (fun e q => (T_12 e).mp q) rfl hl.1 rfl (Nat.le_of_ble_eq_true rfl) ⟨Nat.le_of_ble_eq_true rfl, Nat.le_of_ble_eq_true rfl⟩ ⟨Nat.le_of_ble_eq_true rfl, Nat.le_of_ble_eq_true rfl⟩ dX12_tray_28 (fun v25 f24 H locs hp24 h => ?_)
          obtain ⟨hf24, hv25a, hv25b, hv25p0⟩ := hp24
          have hk : fr L R [(12, 1)] [12, 62, 63, 64] f0 f24 := hk.tr hf24 rfl rfl
          have e26 : fld f24 a0 4 = .ref a0_sort := (hf24.efl m_a0 r_a0 rfl).trans t_a0_sort
          have e27 : fld f24 a0 5 = .ref a0_trayMany := (hf24.efl m_a0 r_a0 rfl).trans t_a0_trayMany
          exact hret f24 _ _ _ _ v25 dX12_tray_31 (tw_nb (by omega)) ⟨hk, by omega, by omega, by omega, (fun i hi => by have q := TRm (TMm_of h0 m_a0 r_a0) hf24 m_a0 r_a0 (by decide +kernel) (by decide +kernel) (by decide +kernel) (by decide +kernel) i; omega)⟩ h
        · refine lv_iload_n F.1 F.2.1 dX12_tray_20 rfl (lv_at hl 3 rfl) ?_
          refine tw_bipush F dX12_tray_21 kb_60 (fun z28 hz28 => ?_)
          refine tw_icmp_le (tgt := 32) F dX12_tray_23 (by decide) (fun b29 => ?_) (fun b29 => ?_)
          · refine lv_aload_n F.1 F.2.1 dX12_tray_32 rfl (lv_at hl 0 rfl) ?_
            refine g_12_17 F h m_a0 r_a0 dX12_tray_33 (fun o30 m_o30 r_o30 ho30 => ?_)
            obtain rfl := (fld_inj t_a0_sort ho30).symm
            refine lv_iload_n F.1 F.2.1 dX12_tray_36 rfl (lv_at hl 1 rfl) ?_
            refine lv_iload_n F.1 F.2.1 dX12_tray_37 rfl (lv_at hl 2 rfl) ?_
            refine se_62 F h m_a0_sort r_a0_sort (by omega) dX12_tray_38 (fun f31 H locs e31a e31b hf31 h => ?_)
            have hk : fr L R [(12, 1)] [12, 62, 63, 64] f0 f31 := hk.tr hf31 rfl rfl
            have e32 : fld f31 a0 4 = .ref a0_sort := (hf31.efl m_a0 r_a0 rfl).trans t_a0_sort
            have e33 : fld f31 a0 5 = .ref a0_trayMany := (hf31.efl m_a0 r_a0 rfl).trans t_a0_trayMany
            have hS := e31a
            refine lv_aload_n F.1 F.2.1 dX12_tray_39 rfl (lv_at hl 0 rfl) ?_
            refine g_12_21 F h m_a0 r_a0 dX12_tray_40 (fun o34 m_o34 r_o34 ho34 => ?_)
            obtain rfl := (fld_inj e33 ho34).symm
            refine lv_iload_n F.1 F.2.1 dX12_tray_43 rfl (lv_at hl 1 rfl) ?_
            refine lv_iload_n F.1 F.2.1 dX12_tray_44 rfl (lv_at hl 3 rfl) ?_
            refine se_63 F h m_a0_trayMany r_a0_trayMany (by omega) (by omega) dX12_tray_45 (fun f35 H locs e35a e35b hf35 h => ?_)
            have hS : (∀ i, eli f35 a0_sort i = if i = x1.toInt.toNat then x2.toInt else eli f0 a0_sort i) := fun i => (hf35.eeli m_a0_sort r_a0_sort (by decide +kernel) i).trans (hS i)
            have hk : fr L R [(12, 1)] [12, 62, 63, 64] f0 f35 := hk.tr hf35 rfl rfl
            have e36 : fld f35 a0 4 = .ref a0_sort := (hf35.efl m_a0 r_a0 rfl).trans e32
            have e37 : fld f35 a0 5 = .ref a0_trayMany := (hf35.efl m_a0 r_a0 rfl).trans e33
            have hM : (∀ i, eli f35 a0_trayMany i = if i = x1.toInt.toNat then x3.toInt else eli f0 a0_trayMany i) := fun i => by rw [e35a i, hf31.eeli m_a0_trayMany r_a0_trayMany (by decide +kernel) i]
            refine tw_iconst F dX12_tray_46 ki_0 (fun z38 hz38 => ?_)
            refine lv_istore (lv' := [(4, .int z38), (0, .ref a0), (1, .int x1), (2, .int x2), (3, .int x3)]) F.1 F.2.1 dX12_tray_47 hl (by decide) rfl (fun ls hl => ?_)
            have j_49 : ∀ (n49 : Nat) (f39 : Nat → va_E) (H : Heap) (locs : List Loc) (ls : Array Slot) (x4_49 : Int32), 0 ≤ x4_49.toInt → x4_49.toInt ≤ 60 → ((60 - x4_49.toInt)).toNat < n49 → tS D cy A s.heap L R (TT cy L R) f39 s H locs → (∀ i, eli f39 a0_sort i = if i = x1.toInt.toNat then x2.toInt else eli f0 a0_sort i) → (∀ i, eli f39 a0_trayMany i = if i = x1.toInt.toNat then x3.toInt else eli f0 a0_trayMany i) → fr L R [(12, 1)] [12, 62, 63, 64] f0 f39 → fr L R [] [64] f35 f39 → lv_has ls 5 [(0, .ref a0), (1, .int x1), (3, .int x3), (4, .int x4_49)] → W p l e rm_X12_trayY s m args below meth c H locs 0 0 Q (F0 m 49 ls []) := by
              intro n49
              induction n49 with
              | zero =>
                intro f39 H locs ls x4_49 b40 b41 b42 h hS hM hk hb49 hl
                exfalso
                omega
              | succ n49 ih49 =>
                intro f39 H locs ls x4_49 b40 b41 b42 h hS hM hk hb49 hl
                have e43 : fld f39 a0 4 = .ref a0_sort := (hb49.efl m_a0 r_a0 rfl).trans e36
                have e44 : fld f39 a0 5 = .ref a0_trayMany := (hb49.efl m_a0 r_a0 rfl).trans e37
                refine lv_iload F.1 F.2.1 dX12_tray_49 (lv_at hl 3 rfl) ?_
                refine lv_iload_n F.1 F.2.1 dX12_tray_51 rfl (lv_at hl 2 rfl) ?_
                refine tw_icmp_ge (tgt := 74) F dX12_tray_52 (by decide) (fun b45 => ?_) (fun b45 => ?_)
                · refine lv_aload_n F.1 F.2.1 dX12_tray_74 rfl (lv_at hl 0 rfl) ?_
                  refine tw_iconst F dX12_tray_75 ki_0 (fun z46 hz46 => ?_)
                  refine tw_Vi (As := [.int z46]) F hZ h yk_X12_is mw_286 mw_287 mw_288 (s_X12_is l D cy L R O f39 a0 m_a0 r_a0 z46 ⟨by omega, by omega⟩) rfl rfl m_a0 r_a0 (fun e q => (T_12 e).mp q) rfl hl.1 rfl (Nat.le_of_ble_eq_true rfl) ⟨Nat.le_of_ble_eq_true rfl, Nat.le_of_ble_eq_true rfl⟩ ⟨Nat.le_of_ble_eq_true rfl, Nat.le_of_ble_eq_true rfl⟩ dX12_tray_76 (fun v48 f47 H locs hp47 h => ?_)
                  obtain ⟨hf47, hv48a, hv48b, hv48p0⟩ := hp47
                  have hS : (∀ i, eli f47 a0_sort i = if i = x1.toInt.toNat then x2.toInt else eli f0 a0_sort i) := fun i => (hf47.eeli m_a0_sort r_a0_sort (by decide +kernel) i).trans (hS i)
                  have hM : (∀ i, eli f47 a0_trayMany i = if i = x1.toInt.toNat then x3.toInt else eli f0 a0_trayMany i) := fun i => (hf47.eeli m_a0_trayMany r_a0_trayMany (by decide +kernel) i).trans (hM i)
                  have hk : fr L R [(12, 1)] [12, 62, 63, 64] f0 f47 := hk.tr hf47 rfl rfl
                  have e49 : fld f47 a0 4 = .ref a0_sort := (hf47.efl m_a0 r_a0 rfl).trans e43
                  have e50 : fld f47 a0 5 = .ref a0_trayMany := (hf47.efl m_a0 r_a0 rfl).trans e44
                  exact hret f47 _ _ _ _ v48 dX12_tray_79 (tw_nb (by omega)) ⟨hk, by omega, by omega, by omega, (fun i hi => if e : i = x1.toInt.toNat then (by have q1 := hS i; have q2 := hM i; have q3 := MS_of e50 i; have q4 := MT_of e49 i; have q5 := hms i; have q6 := hmt i; rw [if_pos e] at q1 q2; omega) else (by have q1 := hS i; have q2 := hM i; have q3 := MS_of e50 i; have q4 := MT_of e49 i; have q5 := hms i; have q6 := hmt i; rw [if_neg e] at q1 q2; omega))⟩ h
                · refine lv_aload_n F.1 F.2.1 dX12_tray_55 rfl (lv_at hl 0 rfl) ?_
                  refine g_12_24 F h m_a0 r_a0 dX12_tray_56 (fun o51 m_o51 r_o51 ho51 => ?_)
                  refine tw_bipush F dX12_tray_59 kb_60 (fun z52 hz52 => ?_)
                  refine lv_iload_n F.1 F.2.1 dX12_tray_61 rfl (lv_at hl 1 rfl) ?_
                  refine tu_imull F dX12_tray_62 hz52 (by omega) (fun z53 hz53 => ?_)
                  refine lv_iload F.1 F.2.1 dX12_tray_63 (lv_at hl 3 rfl) ?_
                  refine tu_iadd F dX12_tray_65 (by omega) (fun z54 hz54 => ?_)
                  refine tu_lconst F dX12_tray_66 (by decide) (fun z55 (hz55 : z55.toInt = 0) => ?_)
                  refine st_64 F h m_o51 r_o51 (by omega) dX12_tray_67 (fun f56 H locs hf56 h => ?_)
                  have hS : (∀ i, eli f56 a0_sort i = if i = x1.toInt.toNat then x2.toInt else eli f0 a0_sort i) := fun i => (hf56.eeli m_a0_sort r_a0_sort (by decide +kernel) i).trans (hS i)
                  have hM : (∀ i, eli f56 a0_trayMany i = if i = x1.toInt.toNat then x3.toInt else eli f0 a0_trayMany i) := fun i => (hf56.eeli m_a0_trayMany r_a0_trayMany (by decide +kernel) i).trans (hM i)
                  have hk : fr L R [(12, 1)] [12, 62, 63, 64] f0 f56 := hk.tr hf56 rfl rfl
                  have hb49 : fr L R [] [64] f35 f56 := hb49.tr hf56 rfl rfl
                  have e57 : fld f56 a0 4 = .ref a0_sort := (hf56.efl m_a0 r_a0 rfl).trans e43
                  have e58 : fld f56 a0 5 = .ref a0_trayMany := (hf56.efl m_a0 r_a0 rfl).trans e44
                  refine tu_iinc F dX12_tray_68 hl (k := 3) rfl (by decide) ki_1 (by omega) (fun z59 ls hz59 hl => ?_)
                  have hl : lv_has ls 5 [(4, .int z59), (0, .ref a0), (1, .int x1), (3, .int x3)] := hl
                  refine lv_goto (tgt := 49) F.1 F.2.1 dX12_tray_71 (by decide) ?_
                  exact ih49 f56 _ _ _ z59 (by omega) (by omega) (by omega) h hS hM hk hb49 (lv_sub hl [1, 2, 3, 0] rfl)
            have hb49 : fr L R [] [64] f35 f35 := fr.rf
            exact j_49 (((60 - z38.toInt)).toNat + 1) f35 _ _ _ z38 (by omega) (by omega) (by omega) h hS hM hk hb49 (lv_sub hl [1, 2, 4, 0] rfl)
          · refine lv_aload_n F.1 F.2.1 dX12_tray_26 rfl (lv_at hl 0 rfl) ?_
            refine tw_iconst F dX12_tray_27 ki_1 (fun z60 hz60 => ?_)
            refine tw_Vi (As := [.int z60]) F hZ h yk_X12_is mw_286 mw_287 mw_288 (s_X12_is l D cy L R O f0 a0 m_a0 r_a0 z60 ⟨by omega, by omega⟩) rfl rfl m_a0 r_a0 (fun e q => (T_12 e).mp q) rfl hl.1 rfl (Nat.le_of_ble_eq_true rfl) ⟨Nat.le_of_ble_eq_true rfl, Nat.le_of_ble_eq_true rfl⟩ ⟨Nat.le_of_ble_eq_true rfl, Nat.le_of_ble_eq_true rfl⟩ dX12_tray_28 (fun v62 f61 H locs hp61 h => ?_)
            obtain ⟨hf61, hv62a, hv62b, hv62p0⟩ := hp61
            have hk : fr L R [(12, 1)] [12, 62, 63, 64] f0 f61 := hk.tr hf61 rfl rfl
            have e63 : fld f61 a0 4 = .ref a0_sort := (hf61.efl m_a0 r_a0 rfl).trans t_a0_sort
            have e64 : fld f61 a0 5 = .ref a0_trayMany := (hf61.efl m_a0 r_a0 rfl).trans t_a0_trayMany
            exact hret f61 _ _ _ _ v62 dX12_tray_31 (tw_nb (by omega)) ⟨hk, by omega, by omega, by omega, (fun i hi => by have q := TRm (TMm_of h0 m_a0 r_a0) hf61 m_a0 r_a0 (by decide +kernel) (by decide +kernel) (by decide +kernel) (by decide +kernel) i; omega)⟩ h
def rm_X12_writeY : Room := { frames := 2, cells := 0, slots := 0, locals := 42 }
set_option maxHeartbeats 4000000 in
set_option maxRecDepth 100000 in
theorem s_X12_writeY (l : Launch) (D : va_G) (cy : Nat → ClassId) (L : List Nat) (R O : Nat → Nat) (f0 : Nat → va_E) (a0 : Nat) (m_a0 : a0 ∈ L) (r_a0 : R a0 = 12) (x1 : Int32) (x2 : Int32) (x3 : Int64) : ∀ sz, Met l yX12_write (Cond.code yX12_write cX12_write 6 (some .boolean) :: wsL_law) rm_X12_writeY (va_Pc [.ref a0, .int x1, .int x2, .long x3] (tPZ D cy L R (TT cy L R) f0 sz)) (va_Qi (fun (r : Int32) f1 => fr L R [(12, 1)] [12, 64] f0 f1 ∧ 0 ≤ r.toInt ∧ r.toInt ≤ 1 ∧ ((r.toInt = 1 ∧ (0 ≤ x1.toInt ∧ x1.toInt ≤ 3 ∧ 0 ≤ x2.toInt ∧ x2.toInt < MS f0 a0 x1.toInt.toNat)) ∨ (r.toInt = 0 ∧ ¬ (0 ≤ x1.toInt ∧ x1.toInt ≤ 3 ∧ 0 ≤ x2.toInt ∧ x2.toInt < MS f0 a0 x1.toInt.toNat)))) (tB D (tA L sz) L R (TT cy L R)) (tA L sz)) 0 0 (tA L sz) := by
  refine tw_enteri (by decide +kernel) rfl (Nat.le_of_ble_eq_true rfl) ?_
  intro p e s m below meth c A ls args Q F hZ h hl hret
  have hl : lv_has ls 6 [(0, .ref a0), (1, .int x1), (2, .int x2), (3, .long x3)] := hl
  have hk : fr L R [(12, 1)] [12, 64] f0 f0 := fr.rf
  refine lv_aload_n F.1 F.2.1 dX12_write_0 rfl (lv_at hl 0 rfl) ?_
  refine lv_iload_n F.1 F.2.1 dX12_write_1 rfl (lv_at hl 1 rfl) ?_
  refine lv_iload_n F.1 F.2.1 dX12_write_2 rfl (lv_at hl 2 rfl) ?_
  refine tw_Vi (As := [.int x1, .int x2]) F hZ h yk_X12_wrongPlace mw_319 mw_320 mw_321 (s_X12_wrongPlaceY l D cy L R O f0 a0 m_a0 r_a0 x1 x2) rfl rfl m_a0 r_a0 (fun e q => (T_12 e).mp q) rfl hl.1 rfl (Nat.le_of_ble_eq_true rfl) ⟨Nat.le_of_ble_eq_true rfl, Nat.le_of_ble_eq_true rfl⟩ ⟨Nat.le_of_ble_eq_true rfl, Nat.le_of_ble_eq_true rfl⟩ dX12_write_3 (fun v2 f1 H locs hp1 h => ?_)
  obtain ⟨rfl, hv2a, hv2b, hv2p0, hv2p1⟩ := hp1
  refine lv_istore (lv' := [(5, .int v2), (0, .ref a0), (1, .int x1), (2, .int x2), (3, .long x3)]) F.1 F.2.1 dX12_write_6 hl (by decide) rfl (fun ls hl => ?_)
  refine lv_iload F.1 F.2.1 dX12_write_8 (lv_at hl 0 rfl) ?_
  refine tw_if_ne (tgt := 34) F dX12_write_10 (by decide) (fun b3 => ?_) (fun b3 => ?_)
  · refine lv_aload_n F.1 F.2.1 dX12_write_34 rfl (lv_at hl 1 rfl) ?_
    refine lv_iload F.1 F.2.1 dX12_write_35 (lv_at hl 0 rfl) ?_
    refine tw_Vi (As := [.int v2]) F hZ h yk_X12_is mw_286 mw_287 mw_288 (s_X12_is l D cy L R O f0 a0 m_a0 r_a0 v2 ⟨by omega, by omega⟩) rfl rfl m_a0 r_a0 (fun e q => (T_12 e).mp q) rfl hl.1 rfl (Nat.le_of_ble_eq_true rfl) ⟨Nat.le_of_ble_eq_true rfl, Nat.le_of_ble_eq_true rfl⟩ ⟨Nat.le_of_ble_eq_true rfl, Nat.le_of_ble_eq_true rfl⟩ dX12_write_37 (fun v5 f4 H locs hp4 h => ?_)
    obtain ⟨hf4, hv5a, hv5b, hv5p0⟩ := hp4
    have hk : fr L R [(12, 1)] [12, 64] f0 f4 := hk.tr hf4 rfl rfl
    exact hret f4 _ _ _ _ v5 dX12_write_40 (tw_nb (by omega)) ⟨hk, by omega, by omega, by omega⟩ h
  · refine lv_aload_n F.1 F.2.1 dX12_write_13 rfl (lv_at hl 1 rfl) ?_
    refine g_12_24 F h m_a0 r_a0 dX12_write_14 (fun o6 m_o6 r_o6 ho6 => ?_)
    refine tw_bipush F dX12_write_17 kb_60 (fun z7 hz7 => ?_)
    refine lv_iload_n F.1 F.2.1 dX12_write_19 rfl (lv_at hl 2 rfl) ?_
    refine tu_imull F dX12_write_20 hz7 (by omega) (fun z8 hz8 => ?_)
    refine lv_iload_n F.1 F.2.1 dX12_write_21 rfl (lv_at hl 3 rfl) ?_
    refine tu_iadd F dX12_write_22 (by omega) (fun z9 hz9 => ?_)
    refine lv_lload_n F.1 F.2.1 dX12_write_23 rfl (lv_at hl 4 rfl) ?_
    refine lv_aload_n F.1 F.2.1 dX12_write_24 rfl (lv_at hl 1 rfl) ?_
    refine g_12_17 F h m_a0 r_a0 dX12_write_25 (fun o10 m_o10 r_o10 ho10 => ?_)
    refine lv_iload_n F.1 F.2.1 dX12_write_28 rfl (lv_at hl 2 rfl) ?_
    refine ld_62 F h m_o10 r_o10 (by omega) dX12_write_29 (fun v11 => ?_)
    refine tw_Sl (As := [.long x3, .int v11]) F hZ h yk_X12_cut mw_323 mw_324 (s_X12_cut l D cy L R O f0 x3 v11) rfl rfl hl.1 rfl (Nat.le_of_ble_eq_true rfl) ⟨Nat.le_of_ble_eq_true rfl, Nat.le_of_ble_eq_true rfl⟩ ⟨Nat.le_of_ble_eq_true rfl, Nat.le_of_ble_eq_true rfl⟩ dX12_write_30 (fun v13 f12 H locs hp12 h => ?_)
    obtain rfl := hp12
    refine st_64 F h m_o6 r_o6 (by omega) dX12_write_33 (fun f14 H locs hf14 h => ?_)
    have hk : fr L R [(12, 1)] [12, 64] f0 f14 := hk.tr hf14 rfl rfl
    refine lv_aload_n F.1 F.2.1 dX12_write_34 rfl (lv_at hl 1 rfl) ?_
    refine lv_iload F.1 F.2.1 dX12_write_35 (lv_at hl 0 rfl) ?_
    refine tw_Vi (As := [.int v2]) F hZ h yk_X12_is mw_286 mw_287 mw_288 (s_X12_is l D cy L R O f14 a0 m_a0 r_a0 v2 ⟨by omega, by omega⟩) rfl rfl m_a0 r_a0 (fun e q => (T_12 e).mp q) rfl hl.1 rfl (Nat.le_of_ble_eq_true rfl) ⟨Nat.le_of_ble_eq_true rfl, Nat.le_of_ble_eq_true rfl⟩ ⟨Nat.le_of_ble_eq_true rfl, Nat.le_of_ble_eq_true rfl⟩ dX12_write_37 (fun v16 f15 H locs hp15 h => ?_)
    obtain ⟨hf15, hv16a, hv16b, hv16p0⟩ := hp15
    have hk : fr L R [(12, 1)] [12, 64] f0 f15 := hk.tr hf15 rfl rfl
    exact hret f15 _ _ _ _ v16 dX12_write_40 (tw_nb (by omega)) ⟨hk, by omega, by omega, by omega⟩ h
section
variable {p : Program} {l : Launch} {e : Env} {R0 : Room} {s : State} {m : MethodId} {args : Array Value} {below : List Frame} {meth : Method} {c : Code} {H H0 : Heap} {locs : List Loc} {cells slots : Nat} {Q : State → Prop} {cc : ByteArray} {nL : Nat} {D : va_G} {cy : Nat → ClassId} {A : Nat → Prop} {L : List Nat} {R : Nat → Nat} {f : Nat → va_E} {pc : Nat} {ls : Array Slot} {rest : List Value} {a : Nat}
theorem le_62 {own : String} (F : CallFix p m c cc nL s args wsL_law own) (h : tS D cy A H0 L R (TT cy L R) f s H locs) {i : Int32} (ha : a ∈ L) (hr : R a = 62) (hb : 0 ≤ i.toInt ∧ i.toInt < 4) (hdg : decode cc pc = .ok (.iaload, 1)) (kk : ∀ x : Int32, x.toInt = eli f a i.toInt.toNat → W p l e R0 s m args below meth c H locs cells slots Q (F0 m (pc + 1) ls (.int x :: rest))) : W p l e R0 s m args below meth c H locs cells slots Q (F0 m pc ls (.int i :: .ref a :: rest)) := tu_iald F h ha hr (fun e q => (T_62 e).mp q) hb.1 hb.2 hdg (fun x h1 h2 => kk x h2)
end
def rm_X12_pourY : Room := { frames := 1, cells := 0, slots := 0, locals := 21 }
set_option maxHeartbeats 4000000 in
set_option maxRecDepth 100000 in
theorem s_X12_pourY (l : Launch) (D : va_G) (cy : Nat → ClassId) (L : List Nat) (R O : Nat → Nat) (f0 : Nat → va_E) (a0 : Nat) (m_a0 : a0 ∈ L) (r_a0 : R a0 = 12) (x1 : Int32) (x2 : Int32) (x3 : Int32) (x4 : Int32) (x5 : Int32) : ∀ sz, Met l yX12_pour (Cond.code yX12_pour cX12_pour 8 (some .boolean) :: wsL_law) rm_X12_pourY (va_Pc [.ref a0, .int x1, .int x2, .int x3, .int x4, .int x5] (tPZ D cy L R (TT cy L R) f0 sz)) (va_Qi (fun (r : Int32) f1 => fr L R [(12, 1)] [12, 64] f0 f1 ∧ 0 ≤ r.toInt ∧ r.toInt ≤ 1 ∧ ((r.toInt = 1 ∧ (0 ≤ x1.toInt ∧ x1.toInt ≤ 3 ∧ 0 ≤ x3.toInt ∧ x3.toInt ≤ 3 ∧ 0 ≤ x2.toInt ∧ 0 ≤ x4.toInt ∧ 0 ≤ x5.toInt ∧ MT f0 a0 x1.toInt.toNat = MT f0 a0 x3.toInt.toNat ∧ x2.toInt + x5.toInt ≤ MS f0 a0 x1.toInt.toNat ∧ x4.toInt + x5.toInt ≤ MS f0 a0 x3.toInt.toNat)) ∨ (r.toInt = 0 ∧ ¬ (0 ≤ x1.toInt ∧ x1.toInt ≤ 3 ∧ 0 ≤ x3.toInt ∧ x3.toInt ≤ 3 ∧ 0 ≤ x2.toInt ∧ 0 ≤ x4.toInt ∧ 0 ≤ x5.toInt ∧ MT f0 a0 x1.toInt.toNat = MT f0 a0 x3.toInt.toNat ∧ x2.toInt + x5.toInt ≤ MS f0 a0 x1.toInt.toNat ∧ x4.toInt + x5.toInt ≤ MS f0 a0 x3.toInt.toNat)))) (tB D (tA L sz) L R (TT cy L R)) (tA L sz)) 0 0 (tA L sz) := by
  refine tw_enteri (by decide +kernel) rfl (Nat.le_of_ble_eq_true rfl) ?_
  intro p e s m below meth c A ls args Q F hZ h hl hret
  have hl : lv_has ls 8 [(0, .ref a0), (1, .int x1), (2, .int x2), (3, .int x3), (4, .int x4), (5, .int x5)] := hl
  have hk : fr L R [(12, 1)] [12, 64] f0 f0 := fr.rf
  obtain ⟨a0_sort, m_a0_sort, r_a0_sort, t_a0_sort⟩ := h.rf m_a0 r_a0 (fun e q => (T_12 e).mp q) (k := 4) rfl
  obtain ⟨a0_trayMany, m_a0_trayMany, r_a0_trayMany, t_a0_trayMany⟩ := h.rf m_a0 r_a0 (fun e q => (T_12 e).mp q) (k := 5) rfl
  have tb2 := tb_i x2
  have tb4 := tb_i x4
  have hms := MS_of t_a0_trayMany
  have hmt := MT_of t_a0_sort
  have ms1 := hms x1.toInt.toNat
  have ms3 := hms x3.toInt.toNat
  have mt1 := hmt x1.toInt.toNat
  have mt3 := hmt x3.toInt.toNat
  refine lv_iload_n F.1 F.2.1 dX12_pour_0 rfl (lv_at hl 1 rfl) ?_
  refine tw_Si (As := [.int x1]) F hZ h yk_X12_isTray mw_283 mw_284 (s_X12_isTray l D cy L R O f0 x1) rfl rfl hl.1 rfl (Nat.le_of_ble_eq_true rfl) ⟨Nat.le_of_ble_eq_true rfl, Nat.le_of_ble_eq_true rfl⟩ ⟨Nat.le_of_ble_eq_true rfl, Nat.le_of_ble_eq_true rfl⟩ dX12_pour_1 (fun v2 f1 H locs hp1 h => ?_)
  obtain ⟨rfl, hv2a, hv2b, hv2p0⟩ := hp1
  refine tw_if_eq (tgt := 28) F dX12_pour_4 (by decide) (fun b3 => ?_) (fun b3 => ?_)
  · refine lv_aload_n F.1 F.2.1 dX12_pour_28 rfl (lv_at hl 0 rfl) ?_
    refine tw_iconst F dX12_pour_29 ki_1 (fun z4 hz4 => ?_)
    refine tw_Vi (As := [.int z4]) F hZ h yk_X12_is mw_286 mw_287 mw_288 (s_X12_is l D cy L R O f0 a0 m_a0 r_a0 z4 ⟨by omega, by omega⟩) rfl rfl m_a0 r_a0 (fun e q => (T_12 e).mp q) rfl hl.1 rfl (Nat.le_of_ble_eq_true rfl) ⟨Nat.le_of_ble_eq_true rfl, Nat.le_of_ble_eq_true rfl⟩ ⟨Nat.le_of_ble_eq_true rfl, Nat.le_of_ble_eq_true rfl⟩ dX12_pour_30 (fun v6 f5 H locs hp5 h => ?_)
    obtain ⟨hf5, hv6a, hv6b, hv6p0⟩ := hp5
    have hk : fr L R [(12, 1)] [12, 64] f0 f5 := hk.tr hf5 rfl rfl
    have e7 : fld f5 a0 4 = .ref a0_sort := (hf5.efl m_a0 r_a0 rfl).trans t_a0_sort
    have e8 : fld f5 a0 5 = .ref a0_trayMany := (hf5.efl m_a0 r_a0 rfl).trans t_a0_trayMany
    exact hret f5 _ _ _ _ v6 dX12_pour_33 (tw_nb (by omega)) ⟨hk, by omega, by omega, by omega⟩ h
  · refine lv_iload_n F.1 F.2.1 dX12_pour_7 rfl (lv_at hl 3 rfl) ?_
    refine tw_Si (As := [.int x3]) F hZ h yk_X12_isTray mw_283 mw_284 (s_X12_isTray l D cy L R O f0 x3) rfl rfl hl.1 rfl (Nat.le_of_ble_eq_true rfl) ⟨Nat.le_of_ble_eq_true rfl, Nat.le_of_ble_eq_true rfl⟩ ⟨Nat.le_of_ble_eq_true rfl, Nat.le_of_ble_eq_true rfl⟩ dX12_pour_8 (fun v10 f9 H locs hp9 h => ?_)
    obtain ⟨rfl, hv10a, hv10b, hv10p0⟩ := hp9
    refine tw_if_eq (tgt := 28) F dX12_pour_11 (by decide) (fun b11 => ?_) (fun b11 => ?_)
    · refine lv_aload_n F.1 F.2.1 dX12_pour_28 rfl (lv_at hl 0 rfl) ?_
      refine tw_iconst F dX12_pour_29 ki_1 (fun z12 hz12 => ?_)
      refine tw_Vi (As := [.int z12]) F hZ h yk_X12_is mw_286 mw_287 mw_288 (s_X12_is l D cy L R O f0 a0 m_a0 r_a0 z12 ⟨by omega, by omega⟩) rfl rfl m_a0 r_a0 (fun e q => (T_12 e).mp q) rfl hl.1 rfl (Nat.le_of_ble_eq_true rfl) ⟨Nat.le_of_ble_eq_true rfl, Nat.le_of_ble_eq_true rfl⟩ ⟨Nat.le_of_ble_eq_true rfl, Nat.le_of_ble_eq_true rfl⟩ dX12_pour_30 (fun v14 f13 H locs hp13 h => ?_)
      obtain ⟨hf13, hv14a, hv14b, hv14p0⟩ := hp13
      have hk : fr L R [(12, 1)] [12, 64] f0 f13 := hk.tr hf13 rfl rfl
      have e15 : fld f13 a0 4 = .ref a0_sort := (hf13.efl m_a0 r_a0 rfl).trans t_a0_sort
      have e16 : fld f13 a0 5 = .ref a0_trayMany := (hf13.efl m_a0 r_a0 rfl).trans t_a0_trayMany
      exact hret f13 _ _ _ _ v14 dX12_pour_33 (tw_nb (by omega)) ⟨hk, by omega, by omega, by omega⟩ h
    · refine lv_iload_n F.1 F.2.1 dX12_pour_14 rfl (lv_at hl 2 rfl) ?_
      refine tw_if_lt (tgt := 28) F dX12_pour_15 (by decide) (fun b17 => ?_) (fun b17 => ?_)
      · refine lv_aload_n F.1 F.2.1 dX12_pour_28 rfl (lv_at hl 0 rfl) ?_
        refine tw_iconst F dX12_pour_29 ki_1 (fun z18 hz18 => ?_)
        refine tw_Vi (As := [.int z18]) F hZ h yk_X12_is mw_286 mw_287 mw_288 (s_X12_is l D cy L R O f0 a0 m_a0 r_a0 z18 ⟨by omega, by omega⟩) rfl rfl m_a0 r_a0 (fun e q => (T_12 e).mp q) rfl hl.1 rfl (Nat.le_of_ble_eq_true rfl) ⟨Nat.le_of_ble_eq_true rfl, Nat.le_of_ble_eq_true rfl⟩ ⟨Nat.le_of_ble_eq_true rfl, Nat.le_of_ble_eq_true rfl⟩ dX12_pour_30 (fun v20 f19 H locs hp19 h => ?_)
        obtain ⟨hf19, hv20a, hv20b, hv20p0⟩ := hp19
        have hk : fr L R [(12, 1)] [12, 64] f0 f19 := hk.tr hf19 rfl rfl
        have e21 : fld f19 a0 4 = .ref a0_sort := (hf19.efl m_a0 r_a0 rfl).trans t_a0_sort
        have e22 : fld f19 a0 5 = .ref a0_trayMany := (hf19.efl m_a0 r_a0 rfl).trans t_a0_trayMany
        exact hret f19 _ _ _ _ v20 dX12_pour_33 (tw_nb (by omega)) ⟨hk, by omega, by omega, by omega⟩ h
      · refine lv_iload F.1 F.2.1 dX12_pour_18 (lv_at hl 4 rfl) ?_
        refine tw_if_lt (tgt := 28) F dX12_pour_20 (by decide) (fun b23 => ?_) (fun b23 => ?_)
        · refine lv_aload_n F.1 F.2.1 dX12_pour_28 rfl (lv_at hl 0 rfl) ?_
          refine tw_iconst F dX12_pour_29 ki_1 (fun z24 hz24 => ?_)
          refine tw_Vi (As := [.int z24]) F hZ h yk_X12_is mw_286 mw_287 mw_288 (s_X12_is l D cy L R O f0 a0 m_a0 r_a0 z24 ⟨by omega, by omega⟩) rfl rfl m_a0 r_a0 (fun e q => (T_12 e).mp q) rfl hl.1 rfl (Nat.le_of_ble_eq_true rfl) ⟨Nat.le_of_ble_eq_true rfl, Nat.le_of_ble_eq_true rfl⟩ ⟨Nat.le_of_ble_eq_true rfl, Nat.le_of_ble_eq_true rfl⟩ dX12_pour_30 (fun v26 f25 H locs hp25 h => ?_)
          obtain ⟨hf25, hv26a, hv26b, hv26p0⟩ := hp25
          have hk : fr L R [(12, 1)] [12, 64] f0 f25 := hk.tr hf25 rfl rfl
          have e27 : fld f25 a0 4 = .ref a0_sort := (hf25.efl m_a0 r_a0 rfl).trans t_a0_sort
          have e28 : fld f25 a0 5 = .ref a0_trayMany := (hf25.efl m_a0 r_a0 rfl).trans t_a0_trayMany
          exact hret f25 _ _ _ _ v26 dX12_pour_33 (tw_nb (by omega)) ⟨hk, by omega, by omega, by omega⟩ h
        · refine lv_iload F.1 F.2.1 dX12_pour_23 (lv_at hl 5 rfl) ?_
          refine tw_if_ge (tgt := 34) F dX12_pour_25 (by decide) (fun b29 => ?_) (fun b29 => ?_)
          · refine lv_aload_n F.1 F.2.1 dX12_pour_34 rfl (lv_at hl 0 rfl) ?_
            refine g_12_21 F h m_a0 r_a0 dX12_pour_35 (fun o30 m_o30 r_o30 ho30 => ?_)
            obtain rfl := (fld_inj t_a0_trayMany ho30).symm
            refine lv_iload_n F.1 F.2.1 dX12_pour_38 rfl (lv_at hl 1 rfl) ?_
            refine le_63 F h m_a0_trayMany r_a0_trayMany (by omega) dX12_pour_39 (fun v31 ev31 hv31a hv31b => ?_)
            refine tw_iconst F dX12_pour_40 ki_m1 (fun z32 hz32 => ?_)
            refine tw_icmp_eq (tgt := 54) F dX12_pour_41 (by decide) (fun b33 => ?_) (fun b33 => ?_)
            · refine lv_aload_n F.1 F.2.1 dX12_pour_54 rfl (lv_at hl 0 rfl) ?_
              refine tw_iconst F dX12_pour_55 ki_2 (fun z34 hz34 => ?_)
              refine tw_Vi (As := [.int z34]) F hZ h yk_X12_is mw_286 mw_287 mw_288 (s_X12_is l D cy L R O f0 a0 m_a0 r_a0 z34 ⟨by omega, by omega⟩) rfl rfl m_a0 r_a0 (fun e q => (T_12 e).mp q) rfl hl.1 rfl (Nat.le_of_ble_eq_true rfl) ⟨Nat.le_of_ble_eq_true rfl, Nat.le_of_ble_eq_true rfl⟩ ⟨Nat.le_of_ble_eq_true rfl, Nat.le_of_ble_eq_true rfl⟩ dX12_pour_56 (fun v36 f35 H locs hp35 h => ?_)
              obtain ⟨hf35, hv36a, hv36b, hv36p0⟩ := hp35
              have hk : fr L R [(12, 1)] [12, 64] f0 f35 := hk.tr hf35 rfl rfl
              have e37 : fld f35 a0 4 = .ref a0_sort := (hf35.efl m_a0 r_a0 rfl).trans t_a0_sort
              have e38 : fld f35 a0 5 = .ref a0_trayMany := (hf35.efl m_a0 r_a0 rfl).trans t_a0_trayMany
              exact hret f35 _ _ _ _ v36 dX12_pour_59 (tw_nb (by omega)) ⟨hk, by omega, by omega, by omega⟩ h
            · refine lv_aload_n F.1 F.2.1 dX12_pour_44 rfl (lv_at hl 0 rfl) ?_
              refine g_12_21 F h m_a0 r_a0 dX12_pour_45 (fun o39 m_o39 r_o39 ho39 => ?_)
              obtain rfl := (fld_inj t_a0_trayMany ho39).symm
              refine lv_iload_n F.1 F.2.1 dX12_pour_48 rfl (lv_at hl 3 rfl) ?_
              refine le_63 F h m_a0_trayMany r_a0_trayMany (by omega) dX12_pour_49 (fun v40 ev40 hv40a hv40b => ?_)
              refine tw_iconst F dX12_pour_50 ki_m1 (fun z41 hz41 => ?_)
              refine tw_icmp_ne (tgt := 60) F dX12_pour_51 (by decide) (fun b42 => ?_) (fun b42 => ?_)
              · refine lv_aload_n F.1 F.2.1 dX12_pour_60 rfl (lv_at hl 0 rfl) ?_
                refine g_12_17 F h m_a0 r_a0 dX12_pour_61 (fun o43 m_o43 r_o43 ho43 => ?_)
                obtain rfl := (fld_inj t_a0_sort ho43).symm
                refine lv_iload_n F.1 F.2.1 dX12_pour_64 rfl (lv_at hl 1 rfl) ?_
                refine le_62 F h m_a0_sort r_a0_sort (by omega) dX12_pour_65 (fun v44 ev44 => ?_)
                refine lv_aload_n F.1 F.2.1 dX12_pour_66 rfl (lv_at hl 0 rfl) ?_
                refine g_12_17 F h m_a0 r_a0 dX12_pour_67 (fun o45 m_o45 r_o45 ho45 => ?_)
                obtain rfl := (fld_inj t_a0_sort ho45).symm
                refine lv_iload_n F.1 F.2.1 dX12_pour_70 rfl (lv_at hl 3 rfl) ?_
                refine le_62 F h m_a0_sort r_a0_sort (by omega) dX12_pour_71 (fun v46 ev46 => ?_)
                refine tw_icmp_eq (tgt := 82) F dX12_pour_72 (by decide) (fun b47 => ?_) (fun b47 => ?_)
                · refine lv_iload F.1 F.2.1 dX12_pour_82 (lv_at hl 5 rfl) ?_
                  refine lv_aload_n F.1 F.2.1 dX12_pour_84 rfl (lv_at hl 0 rfl) ?_
                  refine g_12_21 F h m_a0 r_a0 dX12_pour_85 (fun o48 m_o48 r_o48 ho48 => ?_)
                  obtain rfl := (fld_inj t_a0_trayMany ho48).symm
                  refine lv_iload_n F.1 F.2.1 dX12_pour_88 rfl (lv_at hl 1 rfl) ?_
                  refine le_63 F h m_a0_trayMany r_a0_trayMany (by omega) dX12_pour_89 (fun v49 ev49 hv49a hv49b => ?_)
                  refine lv_iload_n F.1 F.2.1 dX12_pour_90 rfl (lv_at hl 2 rfl) ?_
                  refine tu_isub F dX12_pour_91 (by omega) (fun z50 hz50 => ?_)
                  refine tw_icmp_gt (tgt := 109) F dX12_pour_92 (by decide) (fun b51 => ?_) (fun b51 => ?_)
                  · refine lv_aload_n F.1 F.2.1 dX12_pour_109 rfl (lv_at hl 0 rfl) ?_
                    refine tw_iconst F dX12_pour_110 ki_3 (fun z52 hz52 => ?_)
                    refine tw_Vi (As := [.int z52]) F hZ h yk_X12_is mw_286 mw_287 mw_288 (s_X12_is l D cy L R O f0 a0 m_a0 r_a0 z52 ⟨by omega, by omega⟩) rfl rfl m_a0 r_a0 (fun e q => (T_12 e).mp q) rfl hl.1 rfl (Nat.le_of_ble_eq_true rfl) ⟨Nat.le_of_ble_eq_true rfl, Nat.le_of_ble_eq_true rfl⟩ ⟨Nat.le_of_ble_eq_true rfl, Nat.le_of_ble_eq_true rfl⟩ dX12_pour_111 (fun v54 f53 H locs hp53 h => ?_)
                    obtain ⟨hf53, hv54a, hv54b, hv54p0⟩ := hp53
                    have hk : fr L R [(12, 1)] [12, 64] f0 f53 := hk.tr hf53 rfl rfl
                    have e55 : fld f53 a0 4 = .ref a0_sort := (hf53.efl m_a0 r_a0 rfl).trans t_a0_sort
                    have e56 : fld f53 a0 5 = .ref a0_trayMany := (hf53.efl m_a0 r_a0 rfl).trans t_a0_trayMany
                    exact hret f53 _ _ _ _ v54 dX12_pour_114 (tw_nb (by omega)) ⟨hk, by omega, by omega, by omega⟩ h
                  · refine lv_iload F.1 F.2.1 dX12_pour_95 (lv_at hl 5 rfl) ?_
                    refine lv_aload_n F.1 F.2.1 dX12_pour_97 rfl (lv_at hl 0 rfl) ?_
                    refine g_12_21 F h m_a0 r_a0 dX12_pour_98 (fun o57 m_o57 r_o57 ho57 => ?_)
                    obtain rfl := (fld_inj t_a0_trayMany ho57).symm
                    refine lv_iload_n F.1 F.2.1 dX12_pour_101 rfl (lv_at hl 3 rfl) ?_
                    refine le_63 F h m_a0_trayMany r_a0_trayMany (by omega) dX12_pour_102 (fun v58 ev58 hv58a hv58b => ?_)
                    refine lv_iload F.1 F.2.1 dX12_pour_103 (lv_at hl 4 rfl) ?_
                    refine tu_isub F dX12_pour_105 (by omega) (fun z59 hz59 => ?_)
                    refine tw_icmp_le (tgt := 115) F dX12_pour_106 (by decide) (fun b60 => ?_) (fun b60 => ?_)
                    · refine tw_iconst F dX12_pour_115 ki_0 (fun z61 hz61 => ?_)
                      refine lv_istore (lv' := [(6, .int z61), (0, .ref a0), (1, .int x1), (2, .int x2), (3, .int x3), (4, .int x4), (5, .int x5)]) F.1 F.2.1 dX12_pour_116 hl (by decide) rfl (fun ls hl => ?_)
                      have j_118 : ∀ (n118 : Nat) (f62 : Nat → va_E) (H : Heap) (locs : List Loc) (ls : Array Slot) (x6_118 : Int32), 0 ≤ x6_118.toInt → x6_118.toInt ≤ 60 → 0 ≤ x6_118.toInt → ((60 - x6_118.toInt)).toNat < n118 → tS D cy A s.heap L R (TT cy L R) f62 s H locs → fr L R [(12, 1)] [12, 64] f0 f62 → fr L R [] [64] f0 f62 → lv_has ls 8 [(0, .ref a0), (1, .int x1), (2, .int x2), (3, .int x3), (4, .int x4), (5, .int x5), (6, .int x6_118)] → W p l e rm_X12_pourY s m args below meth c H locs 0 0 Q (F0 m 118 ls []) := by
                        intro n118
                        induction n118 with
                        | zero =>
                          intro f62 H locs ls x6_118 b63 b64 b65 b66 h hk hb118 hl
                          exfalso
                          omega
                        | succ n118 ih118 =>
                          intro f62 H locs ls x6_118 b63 b64 b65 b66 h hk hb118 hl
                          have e67 : fld f62 a0 4 = .ref a0_sort := (hb118.efl m_a0 r_a0 rfl).trans t_a0_sort
                          have e68 : fld f62 a0 5 = .ref a0_trayMany := (hb118.efl m_a0 r_a0 rfl).trans t_a0_trayMany
                          refine lv_iload F.1 F.2.1 dX12_pour_118 (lv_at hl 6 rfl) ?_
                          refine lv_iload F.1 F.2.1 dX12_pour_120 (lv_at hl 5 rfl) ?_
                          refine tw_icmp_ge (tgt := 180) F dX12_pour_122 (by decide) (fun b69 => ?_) (fun b69 => ?_)
                          · refine lv_aload_n F.1 F.2.1 dX12_pour_180 rfl (lv_at hl 0 rfl) ?_
                            refine tw_iconst F dX12_pour_181 ki_0 (fun z70 hz70 => ?_)
                            refine tw_Vi (As := [.int z70]) F hZ h yk_X12_is mw_286 mw_287 mw_288 (s_X12_is l D cy L R O f62 a0 m_a0 r_a0 z70 ⟨by omega, by omega⟩) rfl rfl m_a0 r_a0 (fun e q => (T_12 e).mp q) rfl hl.1 rfl (Nat.le_of_ble_eq_true rfl) ⟨Nat.le_of_ble_eq_true rfl, Nat.le_of_ble_eq_true rfl⟩ ⟨Nat.le_of_ble_eq_true rfl, Nat.le_of_ble_eq_true rfl⟩ dX12_pour_182 (fun v72 f71 H locs hp71 h => ?_)
                            obtain ⟨hf71, hv72a, hv72b, hv72p0⟩ := hp71
                            have hk : fr L R [(12, 1)] [12, 64] f0 f71 := hk.tr hf71 rfl rfl
                            have e73 : fld f71 a0 4 = .ref a0_sort := (hf71.efl m_a0 r_a0 rfl).trans e67
                            have e74 : fld f71 a0 5 = .ref a0_trayMany := (hf71.efl m_a0 r_a0 rfl).trans e68
                            exact hret f71 _ _ _ _ v72 dX12_pour_185 (tw_nb (by omega)) ⟨hk, by omega, by omega, by omega⟩ h
                          · refine lv_iload_n F.1 F.2.1 dX12_pour_125 rfl (lv_at hl 2 rfl) ?_
                            refine lv_iload F.1 F.2.1 dX12_pour_126 (lv_at hl 4 rfl) ?_
                            have j_143 : ∀ (ls : Array Slot) (y0_143 : Int32), (-59) ≤ y0_143.toInt → y0_143.toInt ≤ 59 → 0 ≤ y0_143.toInt → y0_143.toInt < x5.toInt → lv_has ls 8 [(0, .ref a0), (1, .int x1), (2, .int x2), (3, .int x3), (4, .int x4), (5, .int x5), (6, .int x6_118)] → W p l e rm_X12_pourY s m args below meth c H locs 0 0 Q (F0 m 143 ls [.int y0_143]) := by
                              intro ls y0_143 b75 b76 b77 b78 hl
                              refine lv_istore (lv' := [(7, .int y0_143), (0, .ref a0), (1, .int x1), (2, .int x2), (3, .int x3), (4, .int x4), (5, .int x5), (6, .int x6_118)]) F.1 F.2.1 dX12_pour_143 hl (by decide) rfl (fun ls hl => ?_)
                              refine lv_aload_n F.1 F.2.1 dX12_pour_145 rfl (lv_at hl 1 rfl) ?_
                              refine g_12_24 F h m_a0 r_a0 dX12_pour_146 (fun o79 m_o79 r_o79 ho79 => ?_)
                              refine tw_bipush F dX12_pour_149 kb_60 (fun z80 hz80 => ?_)
                              refine lv_iload_n F.1 F.2.1 dX12_pour_151 rfl (lv_at hl 4 rfl) ?_
                              refine tu_imull F dX12_pour_152 hz80 (by omega) (fun z81 hz81 => ?_)
                              refine lv_iload F.1 F.2.1 dX12_pour_153 (lv_at hl 5 rfl) ?_
                              refine tu_iadd F dX12_pour_155 (by omega) (fun z82 hz82 => ?_)
                              refine lv_iload F.1 F.2.1 dX12_pour_156 (lv_at hl 0 rfl) ?_
                              refine tu_iadd F dX12_pour_158 (by omega) (fun z83 hz83 => ?_)
                              refine lv_aload_n F.1 F.2.1 dX12_pour_159 rfl (lv_at hl 1 rfl) ?_
                              refine g_12_24 F h m_a0 r_a0 dX12_pour_160 (fun o84 m_o84 r_o84 ho84 => ?_)
                              refine tw_bipush F dX12_pour_163 kb_60 (fun z85 hz85 => ?_)
                              refine lv_iload_n F.1 F.2.1 dX12_pour_165 rfl (lv_at hl 2 rfl) ?_
                              refine tu_imull F dX12_pour_166 hz85 (by omega) (fun z86 hz86 => ?_)
                              refine lv_iload_n F.1 F.2.1 dX12_pour_167 rfl (lv_at hl 3 rfl) ?_
                              refine tu_iadd F dX12_pour_168 (by omega) (fun z87 hz87 => ?_)
                              refine lv_iload F.1 F.2.1 dX12_pour_169 (lv_at hl 0 rfl) ?_
                              refine tu_iadd F dX12_pour_171 (by omega) (fun z88 hz88 => ?_)
                              refine ld_64 F h m_o84 r_o84 (by omega) dX12_pour_172 (fun v89 => ?_)
                              refine st_64 F h m_o79 r_o79 (by omega) dX12_pour_173 (fun f90 H locs hf90 h => ?_)
                              have hk : fr L R [(12, 1)] [12, 64] f0 f90 := hk.tr hf90 rfl rfl
                              have hb118 : fr L R [] [64] f0 f90 := hb118.tr hf90 rfl rfl
                              have e91 : fld f90 a0 4 = .ref a0_sort := (hf90.efl m_a0 r_a0 rfl).trans e67
                              have e92 : fld f90 a0 5 = .ref a0_trayMany := (hf90.efl m_a0 r_a0 rfl).trans e68
                              refine tu_iinc F dX12_pour_174 hl (k := 7) rfl (by decide) ki_1 (by omega) (fun z93 ls hz93 hl => ?_)
                              have hl : lv_has ls 8 [(6, .int z93), (7, .int y0_143), (0, .ref a0), (1, .int x1), (2, .int x2), (3, .int x3), (4, .int x4), (5, .int x5)] := hl
                              refine lv_goto (tgt := 118) F.1 F.2.1 dX12_pour_177 (by decide) ?_
                              exact ih118 f90 _ _ _ z93 (by omega) (by omega) (by omega) (by omega) h hk hb118 (lv_sub hl [2, 3, 4, 5, 6, 7, 0] rfl)
                            refine tw_icmp_ge (tgt := 141) F dX12_pour_128 (by decide) (fun b94 => ?_) (fun b94 => ?_)
                            · refine lv_iload F.1 F.2.1 dX12_pour_141 (lv_at hl 6 rfl) ?_
                              exact j_143 _ x6_118 (by omega) (by omega) (by omega) (by omega) (lv_sub hl [0, 1, 2, 3, 4, 5, 6] rfl)
                            · refine lv_iload F.1 F.2.1 dX12_pour_131 (lv_at hl 5 rfl) ?_
                              refine tw_iconst F dX12_pour_133 ki_1 (fun z95 hz95 => ?_)
                              refine tu_isub F dX12_pour_134 (by omega) (fun z96 hz96 => ?_)
                              refine lv_iload F.1 F.2.1 dX12_pour_135 (lv_at hl 6 rfl) ?_
                              refine tu_isub F dX12_pour_137 (by omega) (fun z97 hz97 => ?_)
                              refine lv_goto (tgt := 143) F.1 F.2.1 dX12_pour_138 (by decide) ?_
                              exact j_143 _ z97 (by omega) (by omega) (by omega) (by omega) (lv_sub hl [0, 1, 2, 3, 4, 5, 6] rfl)
                      have hb118 : fr L R [] [64] f0 f0 := fr.rf
                      exact j_118 (((60 - z61.toInt)).toNat + 1) f0 _ _ _ z61 (by omega) (by omega) (by omega) (by omega) h hk hb118 (lv_sub hl [1, 2, 3, 4, 5, 6, 0] rfl)
                    · refine lv_aload_n F.1 F.2.1 dX12_pour_109 rfl (lv_at hl 0 rfl) ?_
                      refine tw_iconst F dX12_pour_110 ki_3 (fun z98 hz98 => ?_)
                      refine tw_Vi (As := [.int z98]) F hZ h yk_X12_is mw_286 mw_287 mw_288 (s_X12_is l D cy L R O f0 a0 m_a0 r_a0 z98 ⟨by omega, by omega⟩) rfl rfl m_a0 r_a0 (fun e q => (T_12 e).mp q) rfl hl.1 rfl (Nat.le_of_ble_eq_true rfl) ⟨Nat.le_of_ble_eq_true rfl, Nat.le_of_ble_eq_true rfl⟩ ⟨Nat.le_of_ble_eq_true rfl, Nat.le_of_ble_eq_true rfl⟩ dX12_pour_111 (fun v100 f99 H locs hp99 h => ?_)
                      obtain ⟨hf99, hv100a, hv100b, hv100p0⟩ := hp99
                      have hk : fr L R [(12, 1)] [12, 64] f0 f99 := hk.tr hf99 rfl rfl
                      have e101 : fld f99 a0 4 = .ref a0_sort := (hf99.efl m_a0 r_a0 rfl).trans t_a0_sort
                      have e102 : fld f99 a0 5 = .ref a0_trayMany := (hf99.efl m_a0 r_a0 rfl).trans t_a0_trayMany
                      exact hret f99 _ _ _ _ v100 dX12_pour_114 (tw_nb (by omega)) ⟨hk, by omega, by omega, by omega⟩ h
                · refine lv_aload_n F.1 F.2.1 dX12_pour_75 rfl (lv_at hl 0 rfl) ?_
                  refine tw_bipush F dX12_pour_76 kb_8 (fun z103 hz103 => ?_)
                  refine tw_Vi (As := [.int z103]) F hZ h yk_X12_is mw_286 mw_287 mw_288 (s_X12_is l D cy L R O f0 a0 m_a0 r_a0 z103 ⟨by omega, by omega⟩) rfl rfl m_a0 r_a0 (fun e q => (T_12 e).mp q) rfl hl.1 rfl (Nat.le_of_ble_eq_true rfl) ⟨Nat.le_of_ble_eq_true rfl, Nat.le_of_ble_eq_true rfl⟩ ⟨Nat.le_of_ble_eq_true rfl, Nat.le_of_ble_eq_true rfl⟩ dX12_pour_78 (fun v105 f104 H locs hp104 h => ?_)
                  obtain ⟨hf104, hv105a, hv105b, hv105p0⟩ := hp104
                  have hk : fr L R [(12, 1)] [12, 64] f0 f104 := hk.tr hf104 rfl rfl
                  have e106 : fld f104 a0 4 = .ref a0_sort := (hf104.efl m_a0 r_a0 rfl).trans t_a0_sort
                  have e107 : fld f104 a0 5 = .ref a0_trayMany := (hf104.efl m_a0 r_a0 rfl).trans t_a0_trayMany
                  exact hret f104 _ _ _ _ v105 dX12_pour_81 (tw_nb (by omega)) ⟨hk, by omega, by omega, by omega⟩ h
              · refine lv_aload_n F.1 F.2.1 dX12_pour_54 rfl (lv_at hl 0 rfl) ?_
                refine tw_iconst F dX12_pour_55 ki_2 (fun z108 hz108 => ?_)
                refine tw_Vi (As := [.int z108]) F hZ h yk_X12_is mw_286 mw_287 mw_288 (s_X12_is l D cy L R O f0 a0 m_a0 r_a0 z108 ⟨by omega, by omega⟩) rfl rfl m_a0 r_a0 (fun e q => (T_12 e).mp q) rfl hl.1 rfl (Nat.le_of_ble_eq_true rfl) ⟨Nat.le_of_ble_eq_true rfl, Nat.le_of_ble_eq_true rfl⟩ ⟨Nat.le_of_ble_eq_true rfl, Nat.le_of_ble_eq_true rfl⟩ dX12_pour_56 (fun v110 f109 H locs hp109 h => ?_)
                obtain ⟨hf109, hv110a, hv110b, hv110p0⟩ := hp109
                have hk : fr L R [(12, 1)] [12, 64] f0 f109 := hk.tr hf109 rfl rfl
                have e111 : fld f109 a0 4 = .ref a0_sort := (hf109.efl m_a0 r_a0 rfl).trans t_a0_sort
                have e112 : fld f109 a0 5 = .ref a0_trayMany := (hf109.efl m_a0 r_a0 rfl).trans t_a0_trayMany
                exact hret f109 _ _ _ _ v110 dX12_pour_59 (tw_nb (by omega)) ⟨hk, by omega, by omega, by omega⟩ h
          · refine lv_aload_n F.1 F.2.1 dX12_pour_28 rfl (lv_at hl 0 rfl) ?_
            refine tw_iconst F dX12_pour_29 ki_1 (fun z113 hz113 => ?_)
            refine tw_Vi (As := [.int z113]) F hZ h yk_X12_is mw_286 mw_287 mw_288 (s_X12_is l D cy L R O f0 a0 m_a0 r_a0 z113 ⟨by omega, by omega⟩) rfl rfl m_a0 r_a0 (fun e q => (T_12 e).mp q) rfl hl.1 rfl (Nat.le_of_ble_eq_true rfl) ⟨Nat.le_of_ble_eq_true rfl, Nat.le_of_ble_eq_true rfl⟩ ⟨Nat.le_of_ble_eq_true rfl, Nat.le_of_ble_eq_true rfl⟩ dX12_pour_30 (fun v115 f114 H locs hp114 h => ?_)
            obtain ⟨hf114, hv115a, hv115b, hv115p0⟩ := hp114
            have hk : fr L R [(12, 1)] [12, 64] f0 f114 := hk.tr hf114 rfl rfl
            have e116 : fld f114 a0 4 = .ref a0_sort := (hf114.efl m_a0 r_a0 rfl).trans t_a0_sort
            have e117 : fld f114 a0 5 = .ref a0_trayMany := (hf114.efl m_a0 r_a0 rfl).trans t_a0_trayMany
            exact hret f114 _ _ _ _ v115 dX12_pour_33 (tw_nb (by omega)) ⟨hk, by omega, by omega, by omega⟩ h
