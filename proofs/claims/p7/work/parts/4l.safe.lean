def rm_X11_beginI : Room := { frames := 1, cells := 0, slots := 0, locals := 21 }
set_option maxHeartbeats 4000000 in
set_option maxRecDepth 100000 in
theorem s_X11_beginI (l : Launch) (D : va_G) (cy : Nat → ClassId) (L : List Nat) (R O : Nat → Nat) (f0 : Nat → va_E) (a0 : Nat) (m_a0 : a0 ∈ L) (r_a0 : R a0 = 11) (x1 : Int32) (P : Nat → Nat) (pre0 : IB L R O P f0 (rfa f0 a0 2)) (pre1 : OW L R O f0) : ∀ sz, Met l yX11_begin (Cond.code yX11_begin cX11_begin 2 (some .boolean) :: wsL_law) rm_X11_beginI (va_Pc [.ref a0, .int x1] (tPZ D cy L R (TT cy L R) f0 sz)) (va_Qi (fun (r : Int32) f1 => fr L R [(8, 1), (8, 2), (11, 14)] [8, 11] f0 f1 ∧ 0 ≤ r.toInt ∧ r.toInt ≤ 1 ∧ IB L R O P f1 (rfa f0 a0 2)) (tB D (tA L sz) L R (TT cy L R)) (tA L sz)) 0 0 (tA L sz) := by
  refine tw_enteri (by decide +kernel) rfl (Nat.le_of_ble_eq_true rfl) ?_
  intro p e s m below meth c A ls args Q F hZ h hl hret
  have hl : lv_has ls 2 [(0, .ref a0), (1, .int x1)] := hl
  have hk : fr L R [(8, 1), (8, 2), (11, 14)] [8, 11] f0 f0 := fr.rf
  obtain ⟨a0_reader, m_a0_reader, r_a0_reader, t_a0_reader⟩ := h.rf m_a0 r_a0 (fun e q => (T_11 e).mp q) (k := 2) rfl
  rw [rfa_of t_a0_reader] at pre0
  have hI := pre0
  have hG : OW L R O f0 ∧ True := ⟨pre1, trivial⟩
  refine lv_iload_n F.1 F.2.1 dX11_begin_0 rfl (lv_at hl 1 rfl) ?_
  refine tw_Si (As := [.int x1]) F hZ h yk_X11_isScript mw_511 mw_512 (s_X11_isScript l D cy L R O f0 x1) rfl rfl hl.1 rfl (Nat.le_of_ble_eq_true rfl) ⟨Nat.le_of_ble_eq_true rfl, Nat.le_of_ble_eq_true rfl⟩ ⟨Nat.le_of_ble_eq_true rfl, Nat.le_of_ble_eq_true rfl⟩ dX11_begin_1 (fun v2 f1 H locs hp1 h => ?_)
  obtain ⟨rfl, hv2a, hv2b, hv2p0⟩ := hp1
  refine tw_if_ne (tgt := 13) F dX11_begin_4 (by decide) (fun b3 => ?_) (fun b3 => ?_)
  · refine lv_aload_n F.1 F.2.1 dX11_begin_13 rfl (lv_at hl 0 rfl) ?_
    refine g_11_29 F h m_a0 r_a0 dX11_begin_14 (fun o4 m_o4 r_o4 ho4 => ?_)
    refine g_11_175 F h m_o4 r_o4 dX11_begin_17 (fun o5 m_o5 r_o5 ho5 => ?_)
    refine lv_iload_n F.1 F.2.1 dX11_begin_20 rfl (lv_at hl 1 rfl) ?_
    refine le_21 F h m_o5 r_o5 (by omega) dX11_begin_21 (fun o6 m_o6 r_o6 eo6 => ?_)
    refine tw_Vv (As := []) F hZ h yk_X8_refresh mw_626 mw_627 mw_628 (s_X8_refresh l D cy L R O f0 o6 m_o6 r_o6) rfl rfl m_o6 r_o6 (fun e q => (T_8 e).mp q) rfl hl.1 rfl (Nat.le_of_ble_eq_true rfl) ⟨Nat.le_of_ble_eq_true rfl, Nat.le_of_ble_eq_true rfl⟩ ⟨Nat.le_of_ble_eq_true rfl, Nat.le_of_ble_eq_true rfl⟩ dX11_begin_22 (fun f7 H locs hp7 h => ?_)
    obtain ⟨hf7, hv8p0, hv8p1⟩ := hp7
    have hk : fr L R [(8, 1), (8, 2), (11, 14)] [8, 11] f0 f7 := hk.tr hf7 rfl rfl
    have e9 : fld f7 a0 2 = .ref a0_reader := (hf7.efl m_a0 r_a0 rfl).trans t_a0_reader
    have hI : IB L R O P f7 a0_reader := IB_zero hI hG.1 hf7 (by decide +kernel) (by decide +kernel) m_a0_reader r_a0_reader m_o4 r_o4 (i0 := x1.toInt.toNat) (by omega) (by rw [rfa_of ho5]; exact eo6) hv8p1 hv8p0
    refine lv_aload_n F.1 F.2.1 dX11_begin_25 rfl (lv_at hl 0 rfl) ?_
    refine tw_iconst F dX11_begin_26 ki_0 (fun z10 hz10 => ?_)
    refine tw_Vi (As := [.int z10]) F hZ h yk_X11_settle mw_271 mw_272 mw_273 (s_X11_settle l D cy L R O f7 a0 m_a0 r_a0 z10 ⟨by omega, by omega⟩) rfl rfl m_a0 r_a0 (fun e q => (T_11 e).mp q) rfl hl.1 rfl (Nat.le_of_ble_eq_true rfl) ⟨Nat.le_of_ble_eq_true rfl, Nat.le_of_ble_eq_true rfl⟩ ⟨Nat.le_of_ble_eq_true rfl, Nat.le_of_ble_eq_true rfl⟩ dX11_begin_27 (fun v12 f11 H locs hp11 h => ?_)
    obtain ⟨hf11, hv12a, hv12b, hv12p0⟩ := hp11
    have hI : IB L R O P f11 a0_reader := IB_fr hI (hG.1.fr hk (by decide +kernel)) hf11 (by decide +kernel) (by decide +kernel) (by decide +kernel) m_a0_reader r_a0_reader
    have hk : fr L R [(8, 1), (8, 2), (11, 14)] [8, 11] f0 f11 := hk.tr hf11 rfl rfl
    have e13 : fld f11 a0 2 = .ref a0_reader := (hf11.efl m_a0 r_a0 rfl).trans e9
    exact hret f11 _ _ _ _ v12 dX11_begin_30 (tw_nb (by omega)) ⟨hk, by omega, by omega, by rw [rfa_of t_a0_reader]; exact hI⟩ h
  · refine lv_aload_n F.1 F.2.1 dX11_begin_7 rfl (lv_at hl 0 rfl) ?_
    refine tw_iconst F dX11_begin_8 ki_1 (fun z14 hz14 => ?_)
    refine tw_Vi (As := [.int z14]) F hZ h yk_X11_settle mw_271 mw_272 mw_273 (s_X11_settle l D cy L R O f0 a0 m_a0 r_a0 z14 ⟨by omega, by omega⟩) rfl rfl m_a0 r_a0 (fun e q => (T_11 e).mp q) rfl hl.1 rfl (Nat.le_of_ble_eq_true rfl) ⟨Nat.le_of_ble_eq_true rfl, Nat.le_of_ble_eq_true rfl⟩ ⟨Nat.le_of_ble_eq_true rfl, Nat.le_of_ble_eq_true rfl⟩ dX11_begin_9 (fun v16 f15 H locs hp15 h => ?_)
    obtain ⟨hf15, hv16a, hv16b, hv16p0⟩ := hp15
    have hI : IB L R O P f15 a0_reader := IB_fr hI hG.1 hf15 (by decide +kernel) (by decide +kernel) (by decide +kernel) m_a0_reader r_a0_reader
    have hk : fr L R [(8, 1), (8, 2), (11, 14)] [8, 11] f0 f15 := hk.tr hf15 rfl rfl
    have e17 : fld f15 a0 2 = .ref a0_reader := (hf15.efl m_a0 r_a0 rfl).trans t_a0_reader
    exact hret f15 _ _ _ _ v16 dX11_begin_12 (tw_nb (by omega)) ⟨hk, by omega, by omega, by rw [rfa_of t_a0_reader]; exact hI⟩ h
section
variable {p : Program} {l : Launch} {e : Env} {R0 : Room} {s : State} {m : MethodId} {args : Array Value} {below : List Frame} {meth : Method} {c : Code} {H H0 : Heap} {locs : List Loc} {cells slots : Nat} {Q : State → Prop} {cc : ByteArray} {nL : Nat} {D : va_G} {cy : Nat → ClassId} {A : Nat → Prop} {L : List Nat} {R : Nat → Nat} {f : Nat → va_E} {pc : Nat} {ls : Array Slot} {rest : List Value} {a : Nat}
theorem se_20 {own : String} (F : CallFix p m c cc nL s args wsL_law own) (h : tS D cy A H0 L R (TT cy L R) f s H locs) {i : Int32} {b : Nat} (ha : a ∈ L) (hr : R a = 20) (hb : 0 ≤ i.toInt ∧ i.toInt < 3) (hm : b ∈ L) (hbr : R b = 6) (hdg : decode cc pc = .ok (.aastore, 1)) (kk : ∀ (f1 : Nat → va_E) (H1 : Heap) (locs1 : List Loc), (∀ j, elq f1 a j = if j = i.toInt.toNat then some b else elq f a j) → (∀ a', a' ≠ a → f1 a' = f a') → fr L R [] [20] f f1 → tS D cy A H0 L R (TT cy L R) f1 s H1 locs1 → W p l e R0 s m args below meth c H1 locs1 cells slots Q (F0 m (pc + 1) ls (rest))) : W p l e R0 s m args below meth c H locs cells slots Q (F0 m pc ls (.ref b :: .int i :: .ref a :: rest)) := tu_aastE (t0 := 7) (ci := 6) F h ha hr T_20 rfl hm hbr (fun e q => (T_6 e).mp q) rfl hb.1 hb.2 hdg kk
end
section
variable {p : Program} {l : Launch} {e : Env} {R0 : Room} {s : State} {m : MethodId} {args : Array Value} {below : List Frame} {meth : Method} {c : Code} {H H0 : Heap} {locs : List Loc} {cells slots : Nat} {Q : State → Prop} {cc : ByteArray} {nL : Nat} {D : va_G} {cy : Nat → ClassId} {A : Nat → Prop} {L : List Nat} {R : Nat → Nat} {f : Nat → va_E} {pc : Nat} {ls : Array Slot} {rest : List Value} {a : Nat}
theorem pe_11_171 (F : CallFix p m c cc nL s args wsL_law RX11) (h : tS D cy A H0 L R (TT cy L R) f s H locs) {b : Nat} (ha : a ∈ L) (hr : R a = 3) (hb : b ∈ L) (hbr : R b = 6) (hdg : decode cc pc = .ok (.putfield 171, 3)) (kk : ∀ (f1 : Nat → va_E) (H1 : Heap) (locs1 : List Loc), fld f1 a 1 = .ref b → (∀ a', a' ≠ a → f1 a' = f a') → fr L R [(3, 1)] [3] f f1 → tS D cy A H0 L R (TT cy L R) f1 s H1 locs1 → W p l e R0 s m args below meth c H1 locs1 cells slots Q (F0 m (pc + 3) ls (rest))) : W p l e R0 s m args below meth c H locs cells slots Q (F0 m pc ls (.ref b :: .ref a :: rest)) := tu_putrE (k := 1) F h ha hr T_3 rfl hb hbr inlX3 tyX3_ok nmX3 rfl (Nat.le_of_ble_eq_true rfl) mw_508 rfl rfl rfl hdg kk
end
def rm_X11_scriptI : Room := { frames := 6, cells := 0, slots := 0, locals := 139 }
set_option maxHeartbeats 4000000 in
set_option maxRecDepth 100000 in
theorem s_X11_scriptI (l : Launch) (D : va_G) (cy : Nat → ClassId) (L : List Nat) (R O : Nat → Nat) (f0 : Nat → va_E) (hG : GG L R O f0) (a0 : Nat) (m_a0 : a0 ∈ L) (r_a0 : R a0 = 11) (x1 : Int32) (x2 : Int32) (P : Nat → Nat) (pre0 : IB L R O P f0 (rfa f0 a0 2)) : ∀ sz, Met l yX11_script (Cond.code yX11_script cX11_script 5 (some .int) :: wsL_law) rm_X11_scriptI (va_Pc [.ref a0, .int x1, .int x2] (tPZ D cy L R (TT cy L R) f0 sz)) (va_Qi (fun (r : Int32) f1 => fr L R [(3, 1), (3, 2), (3, 3), (3, 8), (3, 11), (3, 12), (3, 13), (6, 14), (6, 15), (6, 16), (6, 17), (6, 18), (8, 1), (8, 2), (11, 10), (11, 14)] [3, 6, 8, 11, 20, 23, 30, 31, 32, 33, 35, 36, 37, 38, 39, 40, 41, 42, 43, 44, 59, 60] f0 f1 ∧ GG L R O f1 ∧ IB L R O P f1 (rfa f0 a0 2)) (tB D (tA L sz) L R (TT cy L R)) (tA L sz)) 0 0 (tA L sz) := by
  refine tw_enteri (by decide +kernel) rfl (Nat.le_of_ble_eq_true rfl) ?_
  intro p e s m below meth c A ls args Q F hZ h hl hret
  have hl : lv_has ls 5 [(0, .ref a0), (1, .int x1), (2, .int x2)] := hl
  have hk : fr L R [(3, 1), (3, 2), (3, 3), (3, 8), (3, 11), (3, 12), (3, 13), (6, 14), (6, 15), (6, 16), (6, 17), (6, 18), (8, 1), (8, 2), (11, 10), (11, 14)] [3, 6, 8, 11, 20, 23, 30, 31, 32, 33, 35, 36, 37, 38, 39, 40, 41, 42, 43, 44, 59, 60] f0 f0 := fr.rf
  obtain ⟨a0_reader, m_a0_reader, r_a0_reader, t_a0_reader⟩ := h.rf m_a0 r_a0 (fun e q => (T_11 e).mp q) (k := 2) rfl
  obtain ⟨a0_reader_script, m_a0_reader_script, r_a0_reader_script, t_a0_reader_script⟩ := h.rf m_a0_reader r_a0_reader (fun e q => (T_3 e).mp q) (k := 1) rfl
  rw [rfa_of t_a0_reader] at pre0
  have hI := pre0
  refine lv_iload_n F.1 F.2.1 dX11_script_0 rfl (lv_at hl 1 rfl) ?_
  refine tw_Si (As := [.int x1]) F hZ h yk_X11_isScript mw_511 mw_512 (s_X11_isScript l D cy L R O f0 x1) rfl rfl hl.1 rfl (Nat.le_of_ble_eq_true rfl) ⟨Nat.le_of_ble_eq_true rfl, Nat.le_of_ble_eq_true rfl⟩ ⟨Nat.le_of_ble_eq_true rfl, Nat.le_of_ble_eq_true rfl⟩ dX11_script_1 (fun v2 f1 H locs hp1 h => ?_)
  obtain ⟨rfl, hv2a, hv2b, hv2p0⟩ := hp1
  refine tw_if_eq (tgt := 19) F dX11_script_4 (by decide) (fun b3 => ?_) (fun b3 => ?_)
  · refine lv_aload_n F.1 F.2.1 dX11_script_19 rfl (lv_at hl 0 rfl) ?_
    refine tw_iconst F dX11_script_20 ki_1 (fun z4 hz4 => ?_)
    refine tw_Vi (As := [.int z4]) F hZ h yk_X11_refuse mw_378 mw_379 mw_380 (s_X11_refuse l D cy L R O f0 a0 m_a0 r_a0 z4 ⟨by omega, by omega⟩) rfl rfl m_a0 r_a0 (fun e q => (T_11 e).mp q) rfl hl.1 rfl (Nat.le_of_ble_eq_true rfl) ⟨Nat.le_of_ble_eq_true rfl, Nat.le_of_ble_eq_true rfl⟩ ⟨Nat.le_of_ble_eq_true rfl, Nat.le_of_ble_eq_true rfl⟩ dX11_script_21 (fun v6 f5 H locs hp5 h => ?_)
    obtain ⟨hf5, hv6a, hv6b⟩ := hp5
    have hI : IB L R O P f5 a0_reader := IB_fr hI hG.1 hf5 (by decide +kernel) (by decide +kernel) (by decide +kernel) m_a0_reader r_a0_reader
    have hG : GG L R O f5 := hG.fr hf5 (by decide +kernel) (by decide +kernel)
    have hk : fr L R [(3, 1), (3, 2), (3, 3), (3, 8), (3, 11), (3, 12), (3, 13), (6, 14), (6, 15), (6, 16), (6, 17), (6, 18), (8, 1), (8, 2), (11, 10), (11, 14)] [3, 6, 8, 11, 20, 23, 30, 31, 32, 33, 35, 36, 37, 38, 39, 40, 41, 42, 43, 44, 59, 60] f0 f5 := hk.tr hf5 rfl rfl
    have e7 : fld f5 a0 2 = .ref a0_reader := (hf5.efl m_a0 r_a0 rfl).trans t_a0_reader
    have e8 : fld f5 a0_reader 1 = .ref a0_reader_script := (hf5.efl m_a0_reader r_a0_reader rfl).trans t_a0_reader_script
    exact hret f5 _ _ _ _ v6 dX11_script_24 rfl ⟨hk, hG, by rw [rfa_of t_a0_reader]; exact hI⟩ h
  · refine lv_iload_n F.1 F.2.1 dX11_script_7 rfl (lv_at hl 2 rfl) ?_
    refine tw_if_lt (tgt := 19) F dX11_script_8 (by decide) (fun b9 => ?_) (fun b9 => ?_)
    · refine lv_aload_n F.1 F.2.1 dX11_script_19 rfl (lv_at hl 0 rfl) ?_
      refine tw_iconst F dX11_script_20 ki_1 (fun z10 hz10 => ?_)
      refine tw_Vi (As := [.int z10]) F hZ h yk_X11_refuse mw_378 mw_379 mw_380 (s_X11_refuse l D cy L R O f0 a0 m_a0 r_a0 z10 ⟨by omega, by omega⟩) rfl rfl m_a0 r_a0 (fun e q => (T_11 e).mp q) rfl hl.1 rfl (Nat.le_of_ble_eq_true rfl) ⟨Nat.le_of_ble_eq_true rfl, Nat.le_of_ble_eq_true rfl⟩ ⟨Nat.le_of_ble_eq_true rfl, Nat.le_of_ble_eq_true rfl⟩ dX11_script_21 (fun v12 f11 H locs hp11 h => ?_)
      obtain ⟨hf11, hv12a, hv12b⟩ := hp11
      have hI : IB L R O P f11 a0_reader := IB_fr hI hG.1 hf11 (by decide +kernel) (by decide +kernel) (by decide +kernel) m_a0_reader r_a0_reader
      have hG : GG L R O f11 := hG.fr hf11 (by decide +kernel) (by decide +kernel)
      have hk : fr L R [(3, 1), (3, 2), (3, 3), (3, 8), (3, 11), (3, 12), (3, 13), (6, 14), (6, 15), (6, 16), (6, 17), (6, 18), (8, 1), (8, 2), (11, 10), (11, 14)] [3, 6, 8, 11, 20, 23, 30, 31, 32, 33, 35, 36, 37, 38, 39, 40, 41, 42, 43, 44, 59, 60] f0 f11 := hk.tr hf11 rfl rfl
      have e13 : fld f11 a0 2 = .ref a0_reader := (hf11.efl m_a0 r_a0 rfl).trans t_a0_reader
      have e14 : fld f11 a0_reader 1 = .ref a0_reader_script := (hf11.efl m_a0_reader r_a0_reader rfl).trans t_a0_reader_script
      exact hret f11 _ _ _ _ v12 dX11_script_24 rfl ⟨hk, hG, by rw [rfa_of t_a0_reader]; exact hI⟩ h
    · refine lv_iload_n F.1 F.2.1 dX11_script_11 rfl (lv_at hl 2 rfl) ?_
      refine lv_aload_n F.1 F.2.1 dX11_script_12 rfl (lv_at hl 0 rfl) ?_
      refine g_11_65 F h m_a0 r_a0 dX11_script_13 (fun v15 hv15 hv15a hv15b => ?_)
      refine tw_icmp_le (tgt := 25) F dX11_script_16 (by decide) (fun b16 => ?_) (fun b16 => ?_)
      · refine lv_aload_n F.1 F.2.1 dX11_script_25 rfl (lv_at hl 0 rfl) ?_
        refine g_11_22 F h m_a0 r_a0 dX11_script_26 (fun o17 m_o17 r_o17 ho17 => ?_)
        obtain rfl := (fld_inj t_a0_reader ho17).symm
        refine lv_aload_n F.1 F.2.1 dX11_script_29 rfl (lv_at hl 0 rfl) ?_
        refine g_11_15 F h m_a0 r_a0 dX11_script_30 (fun o18 m_o18 r_o18 ho18 => ?_)
        refine lv_iload_n F.1 F.2.1 dX11_script_33 rfl (lv_at hl 2 rfl) ?_
        have hGo := hG
        refine tw_Vi (As := [.ref o18, .int x2]) F hZ h yk_X3_readScript mw_514 mw_515 mw_516 (s_X3_readScript l D cy L R O f0 hG a0_reader m_a0_reader r_a0_reader o18 m_o18 r_o18 x2) rfl rfl m_a0_reader r_a0_reader (fun e q => (T_3 e).mp q) rfl hl.1 rfl (Nat.le_of_ble_eq_true rfl) ⟨Nat.le_of_ble_eq_true rfl, Nat.le_of_ble_eq_true rfl⟩ ⟨Nat.le_of_ble_eq_true rfl, Nat.le_of_ble_eq_true rfl⟩ dX11_script_34 (fun v20 f19 H locs hp19 h => ?_)
        obtain ⟨hf19, hv20a, hv20b, hG, hv20p0, hv20p1⟩ := hp19
        have hk : fr L R [(3, 1), (3, 2), (3, 3), (3, 8), (3, 11), (3, 12), (3, 13), (6, 14), (6, 15), (6, 16), (6, 17), (6, 18), (8, 1), (8, 2), (11, 10), (11, 14)] [3, 6, 8, 11, 20, 23, 30, 31, 32, 33, 35, 36, 37, 38, 39, 40, 41, 42, 43, 44, 59, 60] f0 f19 := hk.tr hf19 (by decide +kernel) (by decide +kernel)
        have e21 : fld f19 a0 2 = .ref a0_reader := (hf19.efl m_a0 r_a0 rfl).trans t_a0_reader
        have e22 : fld f19 a0_reader 1 = .ref a0_reader_script := (hf19.efl m_a0_reader r_a0_reader rfl).trans t_a0_reader_script
        have hI : IB L R O P f19 a0_reader := IB_read hI hGo.1 hf19 (by decide +kernel) (by decide +kernel) m_a0_reader r_a0_reader hv20p1
        have ow34 := hG.1
        have ac34 : Hid (v20.toInt = 0 ∨ AC2 f19 a0_reader_script) := Hid.mk (by have q := hv20p0; rw [rfa_of t_a0_reader_script] at q; exact q)
        refine lv_istore_n (lv' := [(3, .int v20), (0, .ref a0), (1, .int x1), (2, .int x2)]) F.1 F.2.1 dX11_script_37 rfl hl (by decide) rfl (fun ls hl => ?_)
        refine lv_aload_n F.1 F.2.1 dX11_script_38 rfl (lv_at hl 1 rfl) ?_
        refine tw_iconst F dX11_script_39 ki_0 (fun z23 hz23 => ?_)
        refine p_11_65 F h m_a0 r_a0 (by omega) dX11_script_40 (fun f24 H locs e24p hf24 h => ?_)
        have hI : IB L R O P f24 a0_reader := IB_fr hI hG.1 hf24 (by decide +kernel) (by decide +kernel) (by decide +kernel) m_a0_reader r_a0_reader
        have hG : GG L R O f24 := hG.fr hf24 (by decide +kernel) (by decide +kernel)
        have hk : fr L R [(3, 1), (3, 2), (3, 3), (3, 8), (3, 11), (3, 12), (3, 13), (6, 14), (6, 15), (6, 16), (6, 17), (6, 18), (8, 1), (8, 2), (11, 10), (11, 14)] [3, 6, 8, 11, 20, 23, 30, 31, 32, 33, 35, 36, 37, 38, 39, 40, 41, 42, 43, 44, 59, 60] f0 f24 := hk.tr hf24 rfl rfl
        have e25 : fld f24 a0 2 = .ref a0_reader := (hf24.efl m_a0 r_a0 rfl).trans e21
        have e26 : fld f24 a0_reader 1 = .ref a0_reader_script := (hf24.efl m_a0_reader r_a0_reader rfl).trans e22
        refine lv_iload_n F.1 F.2.1 dX11_script_43 rfl (lv_at hl 0 rfl) ?_
        refine tw_if_ne (tgt := 54) F dX11_script_44 (by decide) (fun b27 => ?_) (fun b27 => ?_)
        · have ac54 : AC2 f24 a0_reader_script := AC2_fr (ac34.g.resolve_left (by omega)) ow34 hf24 (by decide +kernel) m_a0_reader_script r_a0_reader_script
          refine lv_aload_n F.1 F.2.1 dX11_script_54 rfl (lv_at hl 1 rfl) ?_
          refine g_11_29 F h m_a0 r_a0 dX11_script_55 (fun o28 m_o28 r_o28 ho28 => ?_)
          refine g_11_167 F h m_o28 r_o28 dX11_script_58 (fun o29 m_o29 r_o29 ho29 => ?_)
          refine lv_iload_n F.1 F.2.1 dX11_script_61 rfl (lv_at hl 2 rfl) ?_
          refine le_20 F h m_o29 r_o29 (by omega) dX11_script_62 (fun o30 m_o30 r_o30 eo30 => ?_)
          refine lv_astore (lv' := [(4, .ref o30), (3, .int v20), (0, .ref a0), (1, .int x1), (2, .int x2)]) F.1 F.2.1 dX11_script_63 hl (by decide) rfl (fun ls hl => ?_)
          refine lv_aload_n F.1 F.2.1 dX11_script_65 rfl (lv_at hl 2 rfl) ?_
          refine g_11_29 F h m_a0 r_a0 dX11_script_66 (fun o31 m_o31 r_o31 ho31 => ?_)
          obtain rfl := (fld_inj ho28 ho31).symm
          refine g_11_167 F h m_o28 r_o28 dX11_script_69 (fun o32 m_o32 r_o32 ho32 => ?_)
          obtain rfl := (fld_inj ho29 ho32).symm
          refine lv_iload_n F.1 F.2.1 dX11_script_72 rfl (lv_at hl 3 rfl) ?_
          refine lv_aload_n F.1 F.2.1 dX11_script_73 rfl (lv_at hl 2 rfl) ?_
          refine g_11_22 F h m_a0 r_a0 dX11_script_74 (fun o33 m_o33 r_o33 ho33 => ?_)
          obtain rfl := (fld_inj e25 ho33).symm
          refine g_11_171 F h m_a0_reader r_a0_reader dX11_script_77 (fun o34 m_o34 r_o34 ho34 => ?_)
          obtain rfl := (fld_inj e26 ho34).symm
          have ow80 := hG.1
          have hI80 := hI
          refine se_20 F h m_o29 r_o29 (by omega) m_a0_reader_script r_a0_reader_script dX11_script_80 (fun f35 H locs e35a e35b hf35 h => ?_)
          have hG : GG L R O f35 := hG.fr hf35 (by decide +kernel) (by decide +kernel)
          have hk : fr L R [(3, 1), (3, 2), (3, 3), (3, 8), (3, 11), (3, 12), (3, 13), (6, 14), (6, 15), (6, 16), (6, 17), (6, 18), (8, 1), (8, 2), (11, 10), (11, 14)] [3, 6, 8, 11, 20, 23, 30, 31, 32, 33, 35, 36, 37, 38, 39, 40, 41, 42, 43, 44, 59, 60] f0 f35 := hk.tr hf35 rfl rfl
          have e36 : fld f35 a0 2 = .ref a0_reader := (hf35.efl m_a0 r_a0 rfl).trans e25
          have e37 : fld f35 a0_reader 1 = .ref a0_reader_script := (hf35.efl m_a0_reader r_a0_reader rfl).trans e26
          have e38 : fld f35 a0 3 = .ref o28 := (hf35.efl m_a0 r_a0 rfl).trans ho28
          have e39 : fld f35 o28 0 = .ref o29 := (hf35.efl m_o28 r_o28 rfl).trans ho29
          refine lv_aload_n F.1 F.2.1 dX11_script_81 rfl (lv_at hl 2 rfl) ?_
          refine g_11_22 F h m_a0 r_a0 dX11_script_82 (fun o40 m_o40 r_o40 ho40 => ?_)
          obtain rfl := (fld_inj e36 ho40).symm
          refine lv_aload F.1 F.2.1 dX11_script_85 (lv_at hl 0 rfl) ?_
          refine pe_11_171 F h m_a0_reader r_a0_reader m_o30 r_o30 dX11_script_87 (fun f41 H locs e41pq e41po hf41 h => ?_)
          have e41p := e41pq
          have hG : GG L R O f41 := hG.fr hf41 (by decide +kernel) (by decide +kernel)
          have hk : fr L R [(3, 1), (3, 2), (3, 3), (3, 8), (3, 11), (3, 12), (3, 13), (6, 14), (6, 15), (6, 16), (6, 17), (6, 18), (8, 1), (8, 2), (11, 10), (11, 14)] [3, 6, 8, 11, 20, 23, 30, 31, 32, 33, 35, 36, 37, 38, 39, 40, 41, 42, 43, 44, 59, 60] f0 f41 := hk.tr hf41 rfl rfl
          have e42 : fld f41 a0 2 = .ref a0_reader := (hf41.efl m_a0 r_a0 rfl).trans e36
          have e43 : fld f41 a0 3 = .ref o28 := (hf41.efl m_a0 r_a0 rfl).trans e38
          have e44 : fld f41 o28 0 = .ref o29 := (hf41.efl m_o28 r_o28 rfl).trans e39
          refine lv_aload_n F.1 F.2.1 dX11_script_90 rfl (lv_at hl 2 rfl) ?_
          refine g_11_29 F h m_a0 r_a0 dX11_script_91 (fun o45 m_o45 r_o45 ho45 => ?_)
          obtain rfl := (fld_inj e43 ho45).symm
          refine g_11_175 F h m_o28 r_o28 dX11_script_94 (fun o46 m_o46 r_o46 ho46 => ?_)
          refine lv_iload_n F.1 F.2.1 dX11_script_97 rfl (lv_at hl 3 rfl) ?_
          refine le_21 F h m_o46 r_o46 (by omega) dX11_script_98 (fun o47 m_o47 r_o47 eo47 => ?_)
          refine tw_Vv (As := []) F hZ h yk_X8_refresh mw_626 mw_627 mw_628 (s_X8_refresh l D cy L R O f41 o47 m_o47 r_o47) rfl rfl m_o47 r_o47 (fun e q => (T_8 e).mp q) rfl hl.1 rfl (Nat.le_of_ble_eq_true rfl) ⟨Nat.le_of_ble_eq_true rfl, Nat.le_of_ble_eq_true rfl⟩ ⟨Nat.le_of_ble_eq_true rfl, Nat.le_of_ble_eq_true rfl⟩ dX11_script_99 (fun f48 H locs hp48 h => ?_)
          obtain ⟨hf48, hv49p0, hv49p1⟩ := hp48
          have hG : GG L R O f48 := hG.fr hf48 (by decide +kernel) (by decide +kernel)
          have hk : fr L R [(3, 1), (3, 2), (3, 3), (3, 8), (3, 11), (3, 12), (3, 13), (6, 14), (6, 15), (6, 16), (6, 17), (6, 18), (8, 1), (8, 2), (11, 10), (11, 14)] [3, 6, 8, 11, 20, 23, 30, 31, 32, 33, 35, 36, 37, 38, 39, 40, 41, 42, 43, 44, 59, 60] f0 f48 := hk.tr hf48 rfl rfl
          have e50 : fld f48 a0 2 = .ref a0_reader := (hf48.efl m_a0 r_a0 rfl).trans e42
          have e51 : fld f48 a0 3 = .ref o28 := (hf48.efl m_a0 r_a0 rfl).trans e43
          have e52 : fld f48 o28 0 = .ref o29 := (hf48.efl m_o28 r_o28 rfl).trans e44
          have e53 : fld f48 a0_reader 1 = .ref o30 := (hf48.efl m_a0_reader r_a0_reader rfl).trans e41p
          have hI : IB L R O P f48 a0_reader := IB_swap hI80 ow80 m_a0_reader r_a0_reader (i0 := x1.toInt.toNat) m_o28 r_o28 (by omega) (rfa_of ho29) eo30 (rfa_of e26) ac54 m_a0_reader_script r_a0_reader_script e35a e35b hf35 e41p hf41 hf48 (by decide +kernel) (by decide +kernel) (by rw [rfa_of ho46]; exact eo47) hv49p0 hv49p1
          refine lv_aload_n F.1 F.2.1 dX11_script_102 rfl (lv_at hl 2 rfl) ?_
          refine lv_aload_n F.1 F.2.1 dX11_script_103 rfl (lv_at hl 2 rfl) ?_
          refine g_11_29 F h m_a0 r_a0 dX11_script_104 (fun o54 m_o54 r_o54 ho54 => ?_)
          obtain rfl := (fld_inj e51 ho54).symm
          refine g_11_167 F h m_o28 r_o28 dX11_script_107 (fun o55 m_o55 r_o55 ho55 => ?_)
          obtain rfl := (fld_inj e52 ho55).symm
          refine lv_iload_n F.1 F.2.1 dX11_script_110 rfl (lv_at hl 3 rfl) ?_
          refine ld_20 F h m_o29 r_o29 (by omega) dX11_script_111 (fun o56 m_o56 r_o56 => ?_)
          refine g_11_184 F h m_o56 r_o56 dX11_script_112 (fun v57 hv57 hv57a hv57b => ?_)
          refine tw_Vi (As := [.int v57]) F hZ h yk_X11_grant mw_442 mw_443 mw_444 (s_X11_grant l D cy L R O f48 a0 m_a0 r_a0 v57) rfl rfl m_a0 r_a0 (fun e q => (T_11 e).mp q) rfl hl.1 rfl (Nat.le_of_ble_eq_true rfl) ⟨Nat.le_of_ble_eq_true rfl, Nat.le_of_ble_eq_true rfl⟩ ⟨Nat.le_of_ble_eq_true rfl, Nat.le_of_ble_eq_true rfl⟩ dX11_script_115 (fun v59 f58 H locs hp58 h => ?_)
          have hf58 := hp58
          have hI : IB L R O P f58 a0_reader := IB_fr hI hG.1 hf58 (by decide +kernel) (by decide +kernel) (by decide +kernel) m_a0_reader r_a0_reader
          have hG : GG L R O f58 := hG.fr hf58 (by decide +kernel) (by decide +kernel)
          have hk : fr L R [(3, 1), (3, 2), (3, 3), (3, 8), (3, 11), (3, 12), (3, 13), (6, 14), (6, 15), (6, 16), (6, 17), (6, 18), (8, 1), (8, 2), (11, 10), (11, 14)] [3, 6, 8, 11, 20, 23, 30, 31, 32, 33, 35, 36, 37, 38, 39, 40, 41, 42, 43, 44, 59, 60] f0 f58 := hk.tr hf58 rfl rfl
          have e60 : fld f58 a0 2 = .ref a0_reader := (hf58.efl m_a0 r_a0 rfl).trans e50
          have e61 : fld f58 a0 3 = .ref o28 := (hf58.efl m_a0 r_a0 rfl).trans e51
          have e62 : fld f58 o28 0 = .ref o29 := (hf58.efl m_o28 r_o28 rfl).trans e52
          have e63 : fld f58 a0_reader 1 = .ref o30 := (hf58.efl m_a0_reader r_a0_reader rfl).trans e53
          exact hret f58 _ _ _ _ v59 dX11_script_118 rfl ⟨hk, hG, by rw [rfa_of t_a0_reader]; exact hI⟩ h
        · refine lv_aload_n F.1 F.2.1 dX11_script_47 rfl (lv_at hl 1 rfl) ?_
          refine tw_bipush F dX11_script_48 kb_9 (fun z64 hz64 => ?_)
          refine tw_Vi (As := [.int z64]) F hZ h yk_X11_refuse mw_378 mw_379 mw_380 (s_X11_refuse l D cy L R O f24 a0 m_a0 r_a0 z64 ⟨by omega, by omega⟩) rfl rfl m_a0 r_a0 (fun e q => (T_11 e).mp q) rfl hl.1 rfl (Nat.le_of_ble_eq_true rfl) ⟨Nat.le_of_ble_eq_true rfl, Nat.le_of_ble_eq_true rfl⟩ ⟨Nat.le_of_ble_eq_true rfl, Nat.le_of_ble_eq_true rfl⟩ dX11_script_50 (fun v66 f65 H locs hp65 h => ?_)
          obtain ⟨hf65, hv66a, hv66b⟩ := hp65
          have hI : IB L R O P f65 a0_reader := IB_fr hI hG.1 hf65 (by decide +kernel) (by decide +kernel) (by decide +kernel) m_a0_reader r_a0_reader
          have hG : GG L R O f65 := hG.fr hf65 (by decide +kernel) (by decide +kernel)
          have hk : fr L R [(3, 1), (3, 2), (3, 3), (3, 8), (3, 11), (3, 12), (3, 13), (6, 14), (6, 15), (6, 16), (6, 17), (6, 18), (8, 1), (8, 2), (11, 10), (11, 14)] [3, 6, 8, 11, 20, 23, 30, 31, 32, 33, 35, 36, 37, 38, 39, 40, 41, 42, 43, 44, 59, 60] f0 f65 := hk.tr hf65 rfl rfl
          have e67 : fld f65 a0 2 = .ref a0_reader := (hf65.efl m_a0 r_a0 rfl).trans e25
          have e68 : fld f65 a0_reader 1 = .ref a0_reader_script := (hf65.efl m_a0_reader r_a0_reader rfl).trans e26
          exact hret f65 _ _ _ _ v66 dX11_script_53 rfl ⟨hk, hG, by rw [rfa_of t_a0_reader]; exact hI⟩ h
      · refine lv_aload_n F.1 F.2.1 dX11_script_19 rfl (lv_at hl 0 rfl) ?_
        refine tw_iconst F dX11_script_20 ki_1 (fun z69 hz69 => ?_)
        refine tw_Vi (As := [.int z69]) F hZ h yk_X11_refuse mw_378 mw_379 mw_380 (s_X11_refuse l D cy L R O f0 a0 m_a0 r_a0 z69 ⟨by omega, by omega⟩) rfl rfl m_a0 r_a0 (fun e q => (T_11 e).mp q) rfl hl.1 rfl (Nat.le_of_ble_eq_true rfl) ⟨Nat.le_of_ble_eq_true rfl, Nat.le_of_ble_eq_true rfl⟩ ⟨Nat.le_of_ble_eq_true rfl, Nat.le_of_ble_eq_true rfl⟩ dX11_script_21 (fun v71 f70 H locs hp70 h => ?_)
        obtain ⟨hf70, hv71a, hv71b⟩ := hp70
        have hI : IB L R O P f70 a0_reader := IB_fr hI hG.1 hf70 (by decide +kernel) (by decide +kernel) (by decide +kernel) m_a0_reader r_a0_reader
        have hG : GG L R O f70 := hG.fr hf70 (by decide +kernel) (by decide +kernel)
        have hk : fr L R [(3, 1), (3, 2), (3, 3), (3, 8), (3, 11), (3, 12), (3, 13), (6, 14), (6, 15), (6, 16), (6, 17), (6, 18), (8, 1), (8, 2), (11, 10), (11, 14)] [3, 6, 8, 11, 20, 23, 30, 31, 32, 33, 35, 36, 37, 38, 39, 40, 41, 42, 43, 44, 59, 60] f0 f70 := hk.tr hf70 rfl rfl
        have e72 : fld f70 a0 2 = .ref a0_reader := (hf70.efl m_a0 r_a0 rfl).trans t_a0_reader
        have e73 : fld f70 a0_reader 1 = .ref a0_reader_script := (hf70.efl m_a0_reader r_a0_reader rfl).trans t_a0_reader_script
        exact hret f70 _ _ _ _ v71 dX11_script_24 rfl ⟨hk, hG, by rw [rfa_of t_a0_reader]; exact hI⟩ h
