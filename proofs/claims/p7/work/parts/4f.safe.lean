theorem dX11_line_0 : decode cX11_line 0 = .ok (.iload_n 1, 1) := by decide +kernel
theorem dX11_line_1 : decode cX11_line 1 = .ok (.ifCond .lt 17, 3) := by decide +kernel
theorem dX11_line_18 : decode cX11_line 18 = .ok (.aload_n 0, 1) := by decide +kernel
theorem dX11_line_19 : decode cX11_line 19 = .ok (.iconst 1, 1) := by decide +kernel
theorem dX11_line_20 : decode cX11_line 20 = .ok (.invokevirtual 140, 3) := by decide +kernel
theorem dX11_line_23 : decode cX11_line 23 = .ok (.ireturn, 1) := by decide +kernel
theorem dX11_line_4 : decode cX11_line 4 = .ok (.iload_n 1, 1) := by decide +kernel
theorem dX11_line_5 : decode cX11_line 5 = .ok (.aload_n 0, 1) := by decide +kernel
theorem dX11_line_6 : decode cX11_line 6 = .ok (.getfield 65, 3) := by decide +kernel
theorem dX11_line_9 : decode cX11_line 9 = .ok (.if_icmp .gt 9, 3) := by decide +kernel
theorem dX11_line_12 : decode cX11_line 12 = .ok (.iload_n 1, 1) := by decide +kernel
theorem dX11_line_13 : decode cX11_line 13 = .ok (.bipush 120, 2) := by decide +kernel
theorem kb_120 : (Int8.ofInt 120).toInt32.toInt = 120 := by decide
theorem dX11_line_15 : decode cX11_line 15 = .ok (.if_icmp .le 9, 3) := by decide +kernel
theorem dX11_line_24 : decode cX11_line 24 = .ok (.aload_n 0, 1) := by decide +kernel
theorem dX11_line_25 : decode cX11_line 25 = .ok (.getfield 22, 3) := by decide +kernel
theorem dX11_line_28 : decode cX11_line 28 = .ok (.aload_n 0, 1) := by decide +kernel
theorem dX11_line_29 : decode cX11_line 29 = .ok (.getfield 15, 3) := by decide +kernel
theorem dX11_line_32 : decode cX11_line 32 = .ok (.iload_n 1, 1) := by decide +kernel
theorem dX11_line_33 : decode cX11_line 33 = .ok (.invokevirtual 144, 3) := by decide +kernel
theorem mw_382 : Cond.methodLink RX11 144 yX3_readLine ∈ wsL_law := inr_16 _ (List.mem_of_getElem? (i := 22) rfl)
theorem mw_385 : Cond.code yX3_readLine cX3_readLine 3 (some .boolean) ∈ wsL_law := inr_17 _ (List.mem_of_getElem? (i := 1) rfl)
theorem yk_X3_readLine : xY yX3_readLine RX3 cX3_readLine 3 (some .boolean) 2 := ⟨⟨rfl, by decide +kernel, by decide +kernel, by decide +kernel⟩, mw_19, mw_385⟩
theorem mw_383 : Cond.instanceMethod yX3_readLine ∈ wsL_law := inr_16 _ (List.mem_of_getElem? (i := 23) rfl)
theorem mw_384 : Cond.selects RX3 yX3_readLine yX3_readLine ∈ wsL_law := inr_17 _ (List.mem_of_getElem? (i := 0) rfl)
theorem dX11_line_36 : decode cX11_line 36 = .ok (.ifCond .ne 15, 3) := by decide +kernel
theorem dX11_line_51 : decode cX11_line 51 = .ok (.aload_n 0, 1) := by decide +kernel
theorem dX11_line_52 : decode cX11_line 52 = .ok (.getfield 29, 3) := by decide +kernel
theorem dX11_line_55 : decode cX11_line 55 = .ok (.getfield 148, 3) := by decide +kernel
theorem dX11_line_58 : decode cX11_line 58 = .ok (.bipush 16, 2) := by decide +kernel
theorem dX11_line_60 : decode cX11_line 60 = .ok (.if_icmp .lt 9, 3) := by decide +kernel
theorem dX11_line_69 : decode cX11_line 69 = .ok (.aload_n 0, 1) := by decide +kernel
theorem dX11_line_70 : decode cX11_line 70 = .ok (.iconst 0, 1) := by decide +kernel
theorem dX11_line_71 : decode cX11_line 71 = .ok (.putfield 65, 3) := by decide +kernel
theorem dX11_line_74 : decode cX11_line 74 = .ok (.aload_n 0, 1) := by decide +kernel
theorem dX11_line_75 : decode cX11_line 75 = .ok (.aload_n 0, 1) := by decide +kernel
theorem dX11_line_76 : decode cX11_line 76 = .ok (.getfield 29, 3) := by decide +kernel
theorem dX11_line_79 : decode cX11_line 79 = .ok (.aload_n 0, 1) := by decide +kernel
theorem dX11_line_80 : decode cX11_line 80 = .ok (.getfield 22, 3) := by decide +kernel
theorem dX11_line_83 : decode cX11_line 83 = .ok (.getfield 151, 3) := by decide +kernel
theorem mw_377 : Cond.fieldLink RX11 151 "AskBack$Reader" "line" "LAskBack$Row;" ∈ wsL_law := inr_16 _ (List.mem_of_getElem? (i := 17) rfl)
section
variable {p : Program} {l : Launch} {e : Env} {R0 : Room} {s : State} {m : MethodId} {args : Array Value} {below : List Frame} {meth : Method} {c : Code} {H H0 : Heap} {locs : List Loc} {cells slots : Nat} {Q : State → Prop} {cc : ByteArray} {nL : Nat} {D : va_G} {cy : Nat → ClassId} {A : Nat → Prop} {L : List Nat} {R : Nat → Nat} {f : Nat → va_E} {pc : Nat} {ls : Array Slot} {rest : List Value} {a : Nat}
theorem g_11_151 (F : CallFix p m c cc nL s args wsL_law RX11) (h : tS D cy A H0 L R (TT cy L R) f s H locs) (ha : a ∈ L) (hr : R a = 3) (hdg : decode cc pc = .ok (.getfield 151, 3)) (kk : ∀ b : Nat, b ∈ L → R b = 4 → fld f a 0 = .ref b → W p l e R0 s m args below meth c H locs cells slots Q (F0 m (pc + 3) ls (.ref b :: rest))) : W p l e R0 s m args below meth c H locs cells slots Q (F0 m pc ls (.ref a :: rest)) := tu_getr F h ha hr (fun e q => (T_3 e).mp q) rfl inlX3 rfl (Nat.le_of_ble_eq_true rfl) mw_377 hdg kk
end
theorem dX11_line_86 : decode cX11_line 86 = .ok (.invokevirtual 154, 3) := by decide +kernel
theorem mw_433 : Cond.methodLink RX11 154 yX0_addLine ∈ wsL_law := inr_19 _ (List.mem_of_getElem? (i := 1) rfl)
theorem mw_436 : Cond.code yX0_addLine cX0_addLine 2 (some .int) ∈ wsL_law := inr_19 _ (List.mem_of_getElem? (i := 4) rfl)
theorem yk_X0_addLine : xY yX0_addLine RX0 cX0_addLine 2 (some .int) 1 := ⟨⟨rfl, by decide +kernel, by decide +kernel, by decide +kernel⟩, mw_23, mw_436⟩
theorem mw_434 : Cond.instanceMethod yX0_addLine ∈ wsL_law := inr_19 _ (List.mem_of_getElem? (i := 2) rfl)
theorem mw_435 : Cond.selects RX0 yX0_addLine yX0_addLine ∈ wsL_law := inr_19 _ (List.mem_of_getElem? (i := 3) rfl)
theorem dX11_line_89 : decode cX11_line 89 = .ok (.invokevirtual 158, 3) := by decide +kernel
theorem dX11_line_92 : decode cX11_line 92 = .ok (.ireturn, 1) := by decide +kernel
theorem dX11_line_63 : decode cX11_line 63 = .ok (.aload_n 0, 1) := by decide +kernel
theorem dX11_line_64 : decode cX11_line 64 = .ok (.iconst 4, 1) := by decide +kernel
theorem dX11_line_65 : decode cX11_line 65 = .ok (.invokevirtual 140, 3) := by decide +kernel
theorem dX11_line_68 : decode cX11_line 68 = .ok (.ireturn, 1) := by decide +kernel
theorem dX11_line_39 : decode cX11_line 39 = .ok (.aload_n 0, 1) := by decide +kernel
theorem dX11_line_40 : decode cX11_line 40 = .ok (.iconst 0, 1) := by decide +kernel
theorem dX11_line_41 : decode cX11_line 41 = .ok (.putfield 65, 3) := by decide +kernel
theorem dX11_line_44 : decode cX11_line 44 = .ok (.aload_n 0, 1) := by decide +kernel
theorem dX11_line_45 : decode cX11_line 45 = .ok (.bipush 9, 2) := by decide +kernel
theorem dX11_line_47 : decode cX11_line 47 = .ok (.invokevirtual 140, 3) := by decide +kernel
theorem dX11_line_50 : decode cX11_line 50 = .ok (.ireturn, 1) := by decide +kernel
def rm_X11_line : Room := { frames := 4, cells := 0, slots := 0, locals := 92 }
set_option maxHeartbeats 4000000 in
set_option maxRecDepth 100000 in
theorem s_X11_line (l : Launch) (D : va_G) (cy : Nat → ClassId) (L : List Nat) (R O : Nat → Nat) (f0 : Nat → va_E) (a0 : Nat) (m_a0 : a0 ∈ L) (r_a0 : R a0 = 11) (x1 : Int32) : ∀ sz, Met l yX11_line (Cond.code yX11_line cX11_line 2 (some .int) :: wsL_law) rm_X11_line (va_Pc [.ref a0, .int x1] (tPZ D cy L R (TT cy L R) f0 sz)) (va_Qi (fun (r : Int32) f1 => fr L R [(0, 5), (3, 2), (3, 3), (3, 8), (3, 12), (4, 1), (11, 10), (11, 14)] [0, 3, 4, 11, 23, 30, 31, 59, 60] f0 f1) (tB D (tA L sz) L R (TT cy L R)) (tA L sz)) 0 0 (tA L sz) := by
  refine tw_enteri (by decide +kernel) rfl (Nat.le_of_ble_eq_true rfl) ?_
  intro p e s m below meth c A ls args Q F hZ h hl hret
  have hl : lv_has ls 2 [(0, .ref a0), (1, .int x1)] := hl
  have hk : fr L R [(0, 5), (3, 2), (3, 3), (3, 8), (3, 12), (4, 1), (11, 10), (11, 14)] [0, 3, 4, 11, 23, 30, 31, 59, 60] f0 f0 := fr.rf
  refine lv_iload_n F.1 F.2.1 dX11_line_0 rfl (lv_at hl 1 rfl) ?_
  refine tw_if_lt (tgt := 18) F dX11_line_1 (by decide) (fun b1 => ?_) (fun b1 => ?_)
  · refine lv_aload_n F.1 F.2.1 dX11_line_18 rfl (lv_at hl 0 rfl) ?_
    refine tw_iconst F dX11_line_19 ki_1 (fun z2 hz2 => ?_)
    refine tw_Vi (As := [.int z2]) F hZ h yk_X11_refuse mw_378 mw_379 mw_380 (s_X11_refuse l D cy L R O f0 a0 m_a0 r_a0 z2 ⟨by omega, by omega⟩) rfl rfl m_a0 r_a0 (fun e q => (T_11 e).mp q) rfl hl.1 rfl (Nat.le_of_ble_eq_true rfl) ⟨Nat.le_of_ble_eq_true rfl, Nat.le_of_ble_eq_true rfl⟩ ⟨Nat.le_of_ble_eq_true rfl, Nat.le_of_ble_eq_true rfl⟩ dX11_line_20 (fun v4 f3 H locs hp3 h => ?_)
    obtain ⟨hf3, hv4a, hv4b⟩ := hp3
    have hk : fr L R [(0, 5), (3, 2), (3, 3), (3, 8), (3, 12), (4, 1), (11, 10), (11, 14)] [0, 3, 4, 11, 23, 30, 31, 59, 60] f0 f3 := hk.tr hf3 rfl rfl
    exact hret f3 _ _ _ _ v4 dX11_line_23 rfl hk h
  · refine lv_iload_n F.1 F.2.1 dX11_line_4 rfl (lv_at hl 1 rfl) ?_
    refine lv_aload_n F.1 F.2.1 dX11_line_5 rfl (lv_at hl 0 rfl) ?_
    refine g_11_65 F h m_a0 r_a0 dX11_line_6 (fun v5 hv5 hv5a hv5b => ?_)
    refine tw_icmp_gt (tgt := 18) F dX11_line_9 (by decide) (fun b6 => ?_) (fun b6 => ?_)
    · refine lv_aload_n F.1 F.2.1 dX11_line_18 rfl (lv_at hl 0 rfl) ?_
      refine tw_iconst F dX11_line_19 ki_1 (fun z7 hz7 => ?_)
      refine tw_Vi (As := [.int z7]) F hZ h yk_X11_refuse mw_378 mw_379 mw_380 (s_X11_refuse l D cy L R O f0 a0 m_a0 r_a0 z7 ⟨by omega, by omega⟩) rfl rfl m_a0 r_a0 (fun e q => (T_11 e).mp q) rfl hl.1 rfl (Nat.le_of_ble_eq_true rfl) ⟨Nat.le_of_ble_eq_true rfl, Nat.le_of_ble_eq_true rfl⟩ ⟨Nat.le_of_ble_eq_true rfl, Nat.le_of_ble_eq_true rfl⟩ dX11_line_20 (fun v9 f8 H locs hp8 h => ?_)
      obtain ⟨hf8, hv9a, hv9b⟩ := hp8
      have hk : fr L R [(0, 5), (3, 2), (3, 3), (3, 8), (3, 12), (4, 1), (11, 10), (11, 14)] [0, 3, 4, 11, 23, 30, 31, 59, 60] f0 f8 := hk.tr hf8 rfl rfl
      exact hret f8 _ _ _ _ v9 dX11_line_23 rfl hk h
    · refine lv_iload_n F.1 F.2.1 dX11_line_12 rfl (lv_at hl 1 rfl) ?_
      refine tw_bipush F dX11_line_13 kb_120 (fun z10 hz10 => ?_)
      refine tw_icmp_le (tgt := 24) F dX11_line_15 (by decide) (fun b11 => ?_) (fun b11 => ?_)
      · refine lv_aload_n F.1 F.2.1 dX11_line_24 rfl (lv_at hl 0 rfl) ?_
        refine g_11_22 F h m_a0 r_a0 dX11_line_25 (fun o12 m_o12 r_o12 ho12 => ?_)
        refine lv_aload_n F.1 F.2.1 dX11_line_28 rfl (lv_at hl 0 rfl) ?_
        refine g_11_15 F h m_a0 r_a0 dX11_line_29 (fun o13 m_o13 r_o13 ho13 => ?_)
        refine lv_iload_n F.1 F.2.1 dX11_line_32 rfl (lv_at hl 1 rfl) ?_
        refine tw_Vi (As := [.ref o13, .int x1]) F hZ h yk_X3_readLine mw_382 mw_383 mw_384 (s_X3_readLine l D cy L R O f0 o12 m_o12 r_o12 o13 m_o13 r_o13 x1) rfl rfl m_o12 r_o12 (fun e q => (T_3 e).mp q) rfl hl.1 rfl (Nat.le_of_ble_eq_true rfl) ⟨Nat.le_of_ble_eq_true rfl, Nat.le_of_ble_eq_true rfl⟩ ⟨Nat.le_of_ble_eq_true rfl, Nat.le_of_ble_eq_true rfl⟩ dX11_line_33 (fun v15 f14 H locs hp14 h => ?_)
        obtain ⟨hf14, hv15a, hv15b⟩ := hp14
        have hk : fr L R [(0, 5), (3, 2), (3, 3), (3, 8), (3, 12), (4, 1), (11, 10), (11, 14)] [0, 3, 4, 11, 23, 30, 31, 59, 60] f0 f14 := hk.tr hf14 (by decide +kernel) (by decide +kernel)
        have e16 : fld f14 a0 2 = .ref o12 := (hf14.efl m_a0 r_a0 rfl).trans ho12
        refine tw_if_ne (tgt := 51) F dX11_line_36 (by decide) (fun b17 => ?_) (fun b17 => ?_)
        · refine lv_aload_n F.1 F.2.1 dX11_line_51 rfl (lv_at hl 0 rfl) ?_
          refine g_11_29 F h m_a0 r_a0 dX11_line_52 (fun o18 m_o18 r_o18 ho18 => ?_)
          refine g_11_148 F h m_o18 r_o18 dX11_line_55 (fun v19 hv19 hv19a hv19b => ?_)
          refine tw_bipush F dX11_line_58 kb_16 (fun z20 hz20 => ?_)
          refine tw_icmp_lt (tgt := 69) F dX11_line_60 (by decide) (fun b21 => ?_) (fun b21 => ?_)
          · refine lv_aload_n F.1 F.2.1 dX11_line_69 rfl (lv_at hl 0 rfl) ?_
            refine tw_iconst F dX11_line_70 ki_0 (fun z22 hz22 => ?_)
            refine p_11_65 F h m_a0 r_a0 (by omega) dX11_line_71 (fun f23 H locs e23p hf23 h => ?_)
            have hk : fr L R [(0, 5), (3, 2), (3, 3), (3, 8), (3, 12), (4, 1), (11, 10), (11, 14)] [0, 3, 4, 11, 23, 30, 31, 59, 60] f0 f23 := hk.tr hf23 rfl rfl
            have e24 : fld f23 a0 2 = .ref o12 := (hf23.efl m_a0 r_a0 rfl).trans e16
            have e25 : fld f23 a0 3 = .ref o18 := (hf23.efl m_a0 r_a0 rfl).trans ho18
            refine lv_aload_n F.1 F.2.1 dX11_line_74 rfl (lv_at hl 0 rfl) ?_
            refine lv_aload_n F.1 F.2.1 dX11_line_75 rfl (lv_at hl 0 rfl) ?_
            refine g_11_29 F h m_a0 r_a0 dX11_line_76 (fun o26 m_o26 r_o26 ho26 => ?_)
            obtain rfl := (fld_inj e25 ho26).symm
            refine lv_aload_n F.1 F.2.1 dX11_line_79 rfl (lv_at hl 0 rfl) ?_
            refine g_11_22 F h m_a0 r_a0 dX11_line_80 (fun o27 m_o27 r_o27 ho27 => ?_)
            obtain rfl := (fld_inj e24 ho27).symm
            refine g_11_151 F h m_o12 r_o12 dX11_line_83 (fun o28 m_o28 r_o28 ho28 => ?_)
            refine tw_Vi (As := [.ref o28]) F hZ h yk_X0_addLine mw_433 mw_434 mw_435 (s_X0_addLine l D cy L R O f23 o18 m_o18 r_o18 o28 m_o28 r_o28) rfl rfl m_o18 r_o18 (fun e q => (T_0 e).mp q) rfl hl.1 rfl (Nat.le_of_ble_eq_true rfl) ⟨Nat.le_of_ble_eq_true rfl, Nat.le_of_ble_eq_true rfl⟩ ⟨Nat.le_of_ble_eq_true rfl, Nat.le_of_ble_eq_true rfl⟩ dX11_line_86 (fun v30 f29 H locs hp29 h => ?_)
            obtain ⟨hf29, hv30a, hv30b⟩ := hp29
            have hk : fr L R [(0, 5), (3, 2), (3, 3), (3, 8), (3, 12), (4, 1), (11, 10), (11, 14)] [0, 3, 4, 11, 23, 30, 31, 59, 60] f0 f29 := hk.tr hf29 rfl rfl
            have e31 : fld f29 a0 2 = .ref o12 := (hf29.efl m_a0 r_a0 rfl).trans e24
            have e32 : fld f29 a0 3 = .ref o18 := (hf29.efl m_a0 r_a0 rfl).trans e25
            refine tw_Vi (As := [.int v30]) F hZ h yk_X11_grant mw_442 mw_443 mw_444 (s_X11_grant l D cy L R O f29 a0 m_a0 r_a0 v30) rfl rfl m_a0 r_a0 (fun e q => (T_11 e).mp q) rfl hl.1 rfl (Nat.le_of_ble_eq_true rfl) ⟨Nat.le_of_ble_eq_true rfl, Nat.le_of_ble_eq_true rfl⟩ ⟨Nat.le_of_ble_eq_true rfl, Nat.le_of_ble_eq_true rfl⟩ dX11_line_89 (fun v34 f33 H locs hp33 h => ?_)
            have hf33 := hp33
            have hk : fr L R [(0, 5), (3, 2), (3, 3), (3, 8), (3, 12), (4, 1), (11, 10), (11, 14)] [0, 3, 4, 11, 23, 30, 31, 59, 60] f0 f33 := hk.tr hf33 rfl rfl
            have e35 : fld f33 a0 2 = .ref o12 := (hf33.efl m_a0 r_a0 rfl).trans e31
            have e36 : fld f33 a0 3 = .ref o18 := (hf33.efl m_a0 r_a0 rfl).trans e32
            exact hret f33 _ _ _ _ v34 dX11_line_92 rfl hk h
          · refine lv_aload_n F.1 F.2.1 dX11_line_63 rfl (lv_at hl 0 rfl) ?_
            refine tw_iconst F dX11_line_64 ki_4 (fun z37 hz37 => ?_)
            refine tw_Vi (As := [.int z37]) F hZ h yk_X11_refuse mw_378 mw_379 mw_380 (s_X11_refuse l D cy L R O f14 a0 m_a0 r_a0 z37 ⟨by omega, by omega⟩) rfl rfl m_a0 r_a0 (fun e q => (T_11 e).mp q) rfl hl.1 rfl (Nat.le_of_ble_eq_true rfl) ⟨Nat.le_of_ble_eq_true rfl, Nat.le_of_ble_eq_true rfl⟩ ⟨Nat.le_of_ble_eq_true rfl, Nat.le_of_ble_eq_true rfl⟩ dX11_line_65 (fun v39 f38 H locs hp38 h => ?_)
            obtain ⟨hf38, hv39a, hv39b⟩ := hp38
            have hk : fr L R [(0, 5), (3, 2), (3, 3), (3, 8), (3, 12), (4, 1), (11, 10), (11, 14)] [0, 3, 4, 11, 23, 30, 31, 59, 60] f0 f38 := hk.tr hf38 rfl rfl
            have e40 : fld f38 a0 2 = .ref o12 := (hf38.efl m_a0 r_a0 rfl).trans e16
            have e41 : fld f38 a0 3 = .ref o18 := (hf38.efl m_a0 r_a0 rfl).trans ho18
            exact hret f38 _ _ _ _ v39 dX11_line_68 rfl hk h
        · refine lv_aload_n F.1 F.2.1 dX11_line_39 rfl (lv_at hl 0 rfl) ?_
          refine tw_iconst F dX11_line_40 ki_0 (fun z42 hz42 => ?_)
          refine p_11_65 F h m_a0 r_a0 (by omega) dX11_line_41 (fun f43 H locs e43p hf43 h => ?_)
          have hk : fr L R [(0, 5), (3, 2), (3, 3), (3, 8), (3, 12), (4, 1), (11, 10), (11, 14)] [0, 3, 4, 11, 23, 30, 31, 59, 60] f0 f43 := hk.tr hf43 rfl rfl
          have e44 : fld f43 a0 2 = .ref o12 := (hf43.efl m_a0 r_a0 rfl).trans e16
          refine lv_aload_n F.1 F.2.1 dX11_line_44 rfl (lv_at hl 0 rfl) ?_
          refine tw_bipush F dX11_line_45 kb_9 (fun z45 hz45 => ?_)
          refine tw_Vi (As := [.int z45]) F hZ h yk_X11_refuse mw_378 mw_379 mw_380 (s_X11_refuse l D cy L R O f43 a0 m_a0 r_a0 z45 ⟨by omega, by omega⟩) rfl rfl m_a0 r_a0 (fun e q => (T_11 e).mp q) rfl hl.1 rfl (Nat.le_of_ble_eq_true rfl) ⟨Nat.le_of_ble_eq_true rfl, Nat.le_of_ble_eq_true rfl⟩ ⟨Nat.le_of_ble_eq_true rfl, Nat.le_of_ble_eq_true rfl⟩ dX11_line_47 (fun v47 f46 H locs hp46 h => ?_)
          obtain ⟨hf46, hv47a, hv47b⟩ := hp46
          have hk : fr L R [(0, 5), (3, 2), (3, 3), (3, 8), (3, 12), (4, 1), (11, 10), (11, 14)] [0, 3, 4, 11, 23, 30, 31, 59, 60] f0 f46 := hk.tr hf46 rfl rfl
          have e48 : fld f46 a0 2 = .ref o12 := (hf46.efl m_a0 r_a0 rfl).trans e44
          exact hret f46 _ _ _ _ v47 dX11_line_50 rfl hk h
      · refine lv_aload_n F.1 F.2.1 dX11_line_18 rfl (lv_at hl 0 rfl) ?_
        refine tw_iconst F dX11_line_19 ki_1 (fun z49 hz49 => ?_)
        refine tw_Vi (As := [.int z49]) F hZ h yk_X11_refuse mw_378 mw_379 mw_380 (s_X11_refuse l D cy L R O f0 a0 m_a0 r_a0 z49 ⟨by omega, by omega⟩) rfl rfl m_a0 r_a0 (fun e q => (T_11 e).mp q) rfl hl.1 rfl (Nat.le_of_ble_eq_true rfl) ⟨Nat.le_of_ble_eq_true rfl, Nat.le_of_ble_eq_true rfl⟩ ⟨Nat.le_of_ble_eq_true rfl, Nat.le_of_ble_eq_true rfl⟩ dX11_line_20 (fun v51 f50 H locs hp50 h => ?_)
        obtain ⟨hf50, hv51a, hv51b⟩ := hp50
        have hk : fr L R [(0, 5), (3, 2), (3, 3), (3, 8), (3, 12), (4, 1), (11, 10), (11, 14)] [0, 3, 4, 11, 23, 30, 31, 59, 60] f0 f50 := hk.tr hf50 rfl rfl
        exact hret f50 _ _ _ _ v51 dX11_line_23 rfl hk h
theorem dX3_readTurn_0 : decode cX3_readTurn 0 = .ok (.aload_n 0, 1) := by decide +kernel
theorem dX3_readTurn_1 : decode cX3_readTurn 1 = .ok (.getfield 21, 3) := by decide +kernel
theorem mw_58 : Cond.fieldLink RX3 21 "AskBack$Reader" "script" "LAskBack$Script;" ∈ wsL_law := inr_3 _ (List.mem_of_getElem? (i := 10) rfl)
section
variable {p : Program} {l : Launch} {e : Env} {R0 : Room} {s : State} {m : MethodId} {args : Array Value} {below : List Frame} {meth : Method} {c : Code} {H H0 : Heap} {locs : List Loc} {cells slots : Nat} {Q : State → Prop} {cc : ByteArray} {nL : Nat} {D : va_G} {cy : Nat → ClassId} {A : Nat → Prop} {L : List Nat} {R : Nat → Nat} {f : Nat → va_E} {pc : Nat} {ls : Array Slot} {rest : List Value} {a : Nat}
theorem g_3_21 (F : CallFix p m c cc nL s args wsL_law RX3) (h : tS D cy A H0 L R (TT cy L R) f s H locs) (ha : a ∈ L) (hr : R a = 3) (hdg : decode cc pc = .ok (.getfield 21, 3)) (kk : ∀ b : Nat, b ∈ L → R b = 6 → fld f a 1 = .ref b → W p l e R0 s m args below meth c H locs cells slots Q (F0 m (pc + 3) ls (.ref b :: rest))) : W p l e R0 s m args below meth c H locs cells slots Q (F0 m pc ls (.ref a :: rest)) := tu_getr F h ha hr (fun e q => (T_3 e).mp q) rfl inlX3 rfl (Nat.le_of_ble_eq_true rfl) mw_58 hdg kk
end
theorem dX3_readTurn_4 : decode cX3_readTurn 4 = .ok (.getfield 152, 3) := by decide +kernel
theorem mw_535 : Cond.fieldLink RX3 152 "AskBack$Script" "turnCount" "I" ∈ wsL_law := inr_23 _ (List.mem_of_getElem? (i := 7) rfl)
section
variable {p : Program} {l : Launch} {e : Env} {R0 : Room} {s : State} {m : MethodId} {args : Array Value} {below : List Frame} {meth : Method} {c : Code} {H H0 : Heap} {locs : List Loc} {cells slots : Nat} {Q : State → Prop} {cc : ByteArray} {nL : Nat} {D : va_G} {cy : Nat → ClassId} {A : Nat → Prop} {L : List Nat} {R : Nat → Nat} {f : Nat → va_E} {pc : Nat} {ls : Array Slot} {rest : List Value} {a : Nat}
theorem g_3_152 (F : CallFix p m c cc nL s args wsL_law RX3) (h : tS D cy A H0 L R (TT cy L R) f s H locs) (ha : a ∈ L) (hr : R a = 6) (hdg : decode cc pc = .ok (.getfield 152, 3)) (kk : ∀ x : Int32, x.toInt = fi f a 16 → 0 ≤ x.toInt → x.toInt ≤ 12 → W p l e R0 s m args below meth c H locs cells slots Q (F0 m (pc + 3) ls (.int x :: rest))) : W p l e R0 s m args below meth c H locs cells slots Q (F0 m pc ls (.ref a :: rest)) := tu_geti F h ha hr (fun e q => (T_6 e).mp q) rfl inlX6 rfl (Nat.le_of_ble_eq_true rfl) mw_535 hdg (fun x h1 h2 h3 => kk x h1 h2 h3)
end
theorem dX3_readTurn_7 : decode cX3_readTurn 7 = .ok (.bipush 12, 2) := by decide +kernel
theorem dX3_readTurn_9 : decode cX3_readTurn 9 = .ok (.if_icmp .lt 9, 3) := by decide +kernel
theorem dX3_readTurn_18 : decode cX3_readTurn 18 = .ok (.aload_n 0, 1) := by decide +kernel
theorem dX3_readTurn_19 : decode cX3_readTurn 19 = .ok (.dup, 1) := by decide +kernel
theorem dX3_readTurn_20 : decode cX3_readTurn 20 = .ok (.getfield 58, 3) := by decide +kernel
theorem dX3_readTurn_23 : decode cX3_readTurn 23 = .ok (.iconst 1, 1) := by decide +kernel
theorem dX3_readTurn_24 : decode cX3_readTurn 24 = .ok (.iadd, 1) := by decide +kernel
theorem dX3_readTurn_25 : decode cX3_readTurn 25 = .ok (.putfield 58, 3) := by decide +kernel
theorem dX3_readTurn_28 : decode cX3_readTurn 28 = .ok (.aload_n 0, 1) := by decide +kernel
theorem dX3_readTurn_29 : decode cX3_readTurn 29 = .ok (.invokevirtual 155, 3) := by decide +kernel
theorem mw_536 : Cond.methodLink RX3 155 yX3_isName ∈ wsL_law := inr_23 _ (List.mem_of_getElem? (i := 8) rfl)
theorem mw_539 : Cond.code yX3_isName cX3_isName 2 (some .boolean) ∈ wsL_law := inr_23 _ (List.mem_of_getElem? (i := 11) rfl)
theorem yk_X3_isName : xY yX3_isName RX3 cX3_isName 2 (some .boolean) 0 := ⟨⟨rfl, by decide +kernel, by decide +kernel, by decide +kernel⟩, mw_19, mw_539⟩
theorem mw_537 : Cond.instanceMethod yX3_isName ∈ wsL_law := inr_23 _ (List.mem_of_getElem? (i := 9) rfl)
theorem mw_538 : Cond.selects RX3 yX3_isName yX3_isName ∈ wsL_law := inr_23 _ (List.mem_of_getElem? (i := 10) rfl)
theorem dX3_readTurn_32 : decode cX3_readTurn 32 = .ok (.ifCond .ne 8, 3) := by decide +kernel
theorem dX3_readTurn_40 : decode cX3_readTurn 40 = .ok (.aload_n 0, 1) := by decide +kernel
theorem dX3_readTurn_41 : decode cX3_readTurn 41 = .ok (.getfield 21, 3) := by decide +kernel
theorem dX3_readTurn_44 : decode cX3_readTurn 44 = .ok (.aload_n 0, 1) := by decide +kernel
theorem dX3_readTurn_45 : decode cX3_readTurn 45 = .ok (.invokevirtual 82, 3) := by decide +kernel
theorem dX3_readTurn_48 : decode cX3_readTurn 48 = .ok (.invokevirtual 158, 3) := by decide +kernel
theorem mw_545 : Cond.methodLink RX3 158 yX6_turnNamed ∈ wsL_law := inr_23 _ (List.mem_of_getElem? (i := 17) rfl)
theorem mw_548 : Cond.code yX6_turnNamed cX6_turnNamed 4 (some .int) ∈ wsL_law := inr_23 _ (List.mem_of_getElem? (i := 20) rfl)
theorem yk_X6_turnNamed : xY yX6_turnNamed RX6 cX6_turnNamed 4 (some .int) 1 := ⟨⟨rfl, by decide +kernel, by decide +kernel, by decide +kernel⟩, mw_57, mw_548⟩
theorem mw_546 : Cond.instanceMethod yX6_turnNamed ∈ wsL_law := inr_23 _ (List.mem_of_getElem? (i := 18) rfl)
theorem mw_547 : Cond.selects RX6 yX6_turnNamed yX6_turnNamed ∈ wsL_law := inr_23 _ (List.mem_of_getElem? (i := 19) rfl)
theorem dX3_readTurn_51 : decode cX3_readTurn 51 = .ok (.iconst (-1), 1) := by decide +kernel
theorem dX3_readTurn_52 : decode cX3_readTurn 52 = .ok (.if_icmp .eq 9, 3) := by decide +kernel
theorem dX3_readTurn_61 : decode cX3_readTurn 61 = .ok (.aload_n 0, 1) := by decide +kernel
theorem dX3_readTurn_62 : decode cX3_readTurn 62 = .ok (.invokevirtual 82, 3) := by decide +kernel
theorem dX3_readTurn_65 : decode cX3_readTurn 65 = .ok (.lstore_n 1, 1) := by decide +kernel
theorem dX3_readTurn_66 : decode cX3_readTurn 66 = .ok (.aload_n 0, 1) := by decide +kernel
theorem dX3_readTurn_67 : decode cX3_readTurn 67 = .ok (.dup, 1) := by decide +kernel
theorem dX3_readTurn_68 : decode cX3_readTurn 68 = .ok (.getfield 58, 3) := by decide +kernel
theorem dX3_readTurn_71 : decode cX3_readTurn 71 = .ok (.iconst 1, 1) := by decide +kernel
theorem dX3_readTurn_72 : decode cX3_readTurn 72 = .ok (.iadd, 1) := by decide +kernel
theorem dX3_readTurn_73 : decode cX3_readTurn 73 = .ok (.putfield 58, 3) := by decide +kernel
theorem dX3_readTurn_76 : decode cX3_readTurn 76 = .ok (.aload_n 0, 1) := by decide +kernel
theorem dX3_readTurn_77 : decode cX3_readTurn 77 = .ok (.invokevirtual 155, 3) := by decide +kernel
theorem dX3_readTurn_80 : decode cX3_readTurn 80 = .ok (.ifCond .ne 8, 3) := by decide +kernel
theorem dX3_readTurn_88 : decode cX3_readTurn 88 = .ok (.aload_n 0, 1) := by decide +kernel
theorem dX3_readTurn_89 : decode cX3_readTurn 89 = .ok (.getfield 21, 3) := by decide +kernel
theorem dX3_readTurn_92 : decode cX3_readTurn 92 = .ok (.lload_n 1, 1) := by decide +kernel
theorem dX3_readTurn_93 : decode cX3_readTurn 93 = .ok (.aload_n 0, 1) := by decide +kernel
theorem dX3_readTurn_94 : decode cX3_readTurn 94 = .ok (.invokevirtual 82, 3) := by decide +kernel
theorem dX3_readTurn_97 : decode cX3_readTurn 97 = .ok (.invokevirtual 162, 3) := by decide +kernel
theorem mw_549 : Cond.methodLink RX3 162 yX6_addTurn ∈ wsL_law := inr_23 _ (List.mem_of_getElem? (i := 21) rfl)
theorem mw_552 : Cond.code yX6_addTurn cX6_addTurn 5 none ∈ wsL_law := inr_24 _ (List.mem_of_getElem? (i := 0) rfl)
theorem yk_X6_addTurn : xY yX6_addTurn RX6 cX6_addTurn 5 none 2 := ⟨⟨rfl, by decide +kernel, by decide +kernel, by decide +kernel⟩, mw_57, mw_552⟩
theorem mw_550 : Cond.instanceMethod yX6_addTurn ∈ wsL_law := inr_23 _ (List.mem_of_getElem? (i := 22) rfl)
theorem mw_551 : Cond.selects RX6 yX6_addTurn yX6_addTurn ∈ wsL_law := inr_23 _ (List.mem_of_getElem? (i := 23) rfl)
theorem dX3_readTurn_100 : decode cX3_readTurn 100 = .ok (.aload_n 0, 1) := by decide +kernel
theorem dX3_readTurn_101 : decode cX3_readTurn 101 = .ok (.dup, 1) := by decide +kernel
theorem dX3_readTurn_102 : decode cX3_readTurn 102 = .ok (.getfield 58, 3) := by decide +kernel
theorem dX3_readTurn_105 : decode cX3_readTurn 105 = .ok (.iconst 1, 1) := by decide +kernel
theorem dX3_readTurn_106 : decode cX3_readTurn 106 = .ok (.iadd, 1) := by decide +kernel
theorem dX3_readTurn_107 : decode cX3_readTurn 107 = .ok (.putfield 58, 3) := by decide +kernel
theorem dX3_readTurn_110 : decode cX3_readTurn 110 = .ok (.aload_n 0, 1) := by decide +kernel
theorem dX3_readTurn_111 : decode cX3_readTurn 111 = .ok (.invokevirtual 166, 3) := by decide +kernel
theorem mw_553 : Cond.methodLink RX3 166 yX3_readEnd ∈ wsL_law := inr_24 _ (List.mem_of_getElem? (i := 1) rfl)
theorem mw_556 : Cond.code yX3_readEnd cX3_readEnd 1 (some .boolean) ∈ wsL_law := inr_24 _ (List.mem_of_getElem? (i := 4) rfl)
theorem yk_X3_readEnd : xY yX3_readEnd RX3 cX3_readEnd 1 (some .boolean) 0 := ⟨⟨rfl, by decide +kernel, by decide +kernel, by decide +kernel⟩, mw_19, mw_556⟩
theorem mw_554 : Cond.instanceMethod yX3_readEnd ∈ wsL_law := inr_24 _ (List.mem_of_getElem? (i := 2) rfl)
theorem mw_555 : Cond.selects RX3 yX3_readEnd yX3_readEnd ∈ wsL_law := inr_24 _ (List.mem_of_getElem? (i := 3) rfl)
theorem dX3_readTurn_114 : decode cX3_readTurn 114 = .ok (.ireturn, 1) := by decide +kernel
theorem dX3_readTurn_83 : decode cX3_readTurn 83 = .ok (.aload_n 0, 1) := by decide +kernel
theorem dX3_readTurn_84 : decode cX3_readTurn 84 = .ok (.invokevirtual 119, 3) := by decide +kernel
theorem dX3_readTurn_87 : decode cX3_readTurn 87 = .ok (.ireturn, 1) := by decide +kernel
theorem dX3_readTurn_55 : decode cX3_readTurn 55 = .ok (.aload_n 0, 1) := by decide +kernel
theorem dX3_readTurn_56 : decode cX3_readTurn 56 = .ok (.iconst 3, 1) := by decide +kernel
theorem dX3_readTurn_57 : decode cX3_readTurn 57 = .ok (.invokevirtual 75, 3) := by decide +kernel
theorem dX3_readTurn_60 : decode cX3_readTurn 60 = .ok (.ireturn, 1) := by decide +kernel
theorem dX3_readTurn_35 : decode cX3_readTurn 35 = .ok (.aload_n 0, 1) := by decide +kernel
theorem dX3_readTurn_36 : decode cX3_readTurn 36 = .ok (.invokevirtual 119, 3) := by decide +kernel
theorem dX3_readTurn_39 : decode cX3_readTurn 39 = .ok (.ireturn, 1) := by decide +kernel
theorem dX3_readTurn_12 : decode cX3_readTurn 12 = .ok (.aload_n 0, 1) := by decide +kernel
theorem dX3_readTurn_13 : decode cX3_readTurn 13 = .ok (.iconst 5, 1) := by decide +kernel
theorem dX3_readTurn_14 : decode cX3_readTurn 14 = .ok (.invokevirtual 75, 3) := by decide +kernel
theorem dX3_readTurn_17 : decode cX3_readTurn 17 = .ok (.ireturn, 1) := by decide +kernel
def rm_X3_readTurn : Room := { frames := 3, cells := 0, slots := 0, locals := 61 }
set_option maxHeartbeats 4000000 in
set_option maxRecDepth 100000 in
theorem s_X3_readTurn (l : Launch) (D : va_G) (cy : Nat → ClassId) (L : List Nat) (R O : Nat → Nat) (f0 : Nat → va_E) (hG : GG L R O f0) (a0 : Nat) (m_a0 : a0 ∈ L) (r_a0 : R a0 = 3) (pre0 : fi f0 a0 12 < fi f0 a0 8) : ∀ sz, Met l yX3_readTurn (Cond.code yX3_readTurn cX3_readTurn 3 (some .boolean) :: wsL_law) rm_X3_readTurn (va_Pc [.ref a0] (tPZ D cy L R (TT cy L R) f0 sz)) (va_Qi (fun (r : Int32) f1 => fr L R [(3, 2), (3, 3), (3, 12), (6, 16)] [3, 6, 23] f0 f1 ∧ 0 ≤ r.toInt ∧ r.toInt ≤ 1 ∧ fi f0 a0 12 ≤ fi f1 a0 12 ∧ OB L R O (rfa f0 a0 1) f0 f1) (tB D (tA L sz) L R (TT cy L R)) (tA L sz)) 0 0 (tA L sz) := by
  refine tw_enteri (by decide +kernel) rfl (Nat.le_of_ble_eq_true rfl) ?_
  intro p e s m below meth c A ls args Q F hZ h hl hret
  have hl : lv_has ls 3 [(0, .ref a0)] := hl
  have hk : fr L R [(3, 2), (3, 3), (3, 12), (6, 16)] [3, 6, 23] f0 f0 := fr.rf
  have t_a0_at := h.bfi m_a0 r_a0 (fun e q => (T_3 e).mp q) (k := 12) rfl
  have t_a0_tokenCount := h.bfi m_a0 r_a0 (fun e q => (T_3 e).mp q) (k := 8) rfl
  obtain ⟨a0_script, m_a0_script, r_a0_script, t_a0_script⟩ := h.rf m_a0 r_a0 (fun e q => (T_3 e).mp q) (k := 1) rfl
  have t_a0_script_partCount := h.bfi m_a0_script r_a0_script (fun e q => (T_6 e).mp q) (k := 14) rfl
  have hs1 := rfa_of t_a0_script
  have hX : OB L R O a0_script f0 f0 := OB_rf
  refine lv_aload_n F.1 F.2.1 dX3_readTurn_0 rfl (lv_at hl 0 rfl) ?_
  refine g_3_21 F h m_a0 r_a0 dX3_readTurn_1 (fun o1 m_o1 r_o1 ho1 => ?_)
  obtain rfl := (fld_inj t_a0_script ho1).symm
  refine g_3_152 F h m_a0_script r_a0_script dX3_readTurn_4 (fun v2 hv2 hv2a hv2b => ?_)
  refine tw_bipush F dX3_readTurn_7 kb_12 (fun z3 hz3 => ?_)
  refine tw_icmp_lt (tgt := 18) F dX3_readTurn_9 (by decide) (fun b4 => ?_) (fun b4 => ?_)
  · refine lv_aload_n F.1 F.2.1 dX3_readTurn_18 rfl (lv_at hl 0 rfl) ?_
    refine lv_dup F.1 F.2.1 dX3_readTurn_19 rfl ?_
    refine g_3_58 F h m_a0 r_a0 dX3_readTurn_20 (fun v5 hv5 hv5a hv5b => ?_)
    refine tw_iconst F dX3_readTurn_23 ki_1 (fun z6 hz6 => ?_)
    refine tu_iadd F dX3_readTurn_24 (by omega) (fun z7 hz7 => ?_)
    refine p_3_58 F h m_a0 r_a0 (by omega) dX3_readTurn_25 (fun f8 H locs e8p hf8 h => ?_)
    have hX : OB L R O a0_script f0 f8 := OB_fr hX hf8 (by decide +kernel)
    have hk : fr L R [(3, 2), (3, 3), (3, 12), (6, 16)] [3, 6, 23] f0 f8 := hk.tr hf8 rfl rfl
    have e9 : fi f8 a0 8 = fi f0 a0 8 := hf8.efi m_a0 r_a0 rfl
    have e10 : fld f8 a0 1 = .ref a0_script := (hf8.efl m_a0 r_a0 rfl).trans t_a0_script
    have e11 : fi f8 a0_script 14 = fi f0 a0_script 14 := hf8.efi m_a0_script r_a0_script rfl
    refine lv_aload_n F.1 F.2.1 dX3_readTurn_28 rfl (lv_at hl 0 rfl) ?_
    refine tw_Vi (As := []) F hZ h yk_X3_isName mw_536 mw_537 mw_538 (s_X3_isName l D cy L R O f8 a0 m_a0 r_a0) rfl rfl m_a0 r_a0 (fun e q => (T_3 e).mp q) rfl hl.1 rfl (Nat.le_of_ble_eq_true rfl) ⟨Nat.le_of_ble_eq_true rfl, Nat.le_of_ble_eq_true rfl⟩ ⟨Nat.le_of_ble_eq_true rfl, Nat.le_of_ble_eq_true rfl⟩ dX3_readTurn_29 (fun v13 f12 H locs hp12 h => ?_)
    obtain ⟨rfl, hv13a, hv13b, hv13p0⟩ := hp12
    refine tw_if_ne (tgt := 40) F dX3_readTurn_32 (by decide) (fun b14 => ?_) (fun b14 => ?_)
    · refine lv_aload_n F.1 F.2.1 dX3_readTurn_40 rfl (lv_at hl 0 rfl) ?_
      refine g_3_21 F h m_a0 r_a0 dX3_readTurn_41 (fun o15 m_o15 r_o15 ho15 => ?_)
      obtain rfl := (fld_inj e10 ho15).symm
      refine lv_aload_n F.1 F.2.1 dX3_readTurn_44 rfl (lv_at hl 0 rfl) ?_
      refine tw_Vl (As := []) F hZ h yk_X3_value mw_424 mw_425 mw_426 (s_X3_value l D cy L R O f8 a0 m_a0 r_a0) rfl rfl m_a0 r_a0 (fun e q => (T_3 e).mp q) rfl hl.1 rfl (Nat.le_of_ble_eq_true rfl) ⟨Nat.le_of_ble_eq_true rfl, Nat.le_of_ble_eq_true rfl⟩ ⟨Nat.le_of_ble_eq_true rfl, Nat.le_of_ble_eq_true rfl⟩ dX3_readTurn_45 (fun v17 f16 H locs hp16 h => ?_)
      obtain ⟨rfl, hv17p0⟩ := hp16
      refine tw_Vi (As := [.long v17]) F hZ h yk_X6_turnNamed mw_545 mw_546 mw_547 (s_X6_turnNamed l D cy L R O f8 a0_script m_a0_script r_a0_script v17) rfl rfl m_a0_script r_a0_script (fun e q => (T_6 e).mp q) rfl hl.1 rfl (Nat.le_of_ble_eq_true rfl) ⟨Nat.le_of_ble_eq_true rfl, Nat.le_of_ble_eq_true rfl⟩ ⟨Nat.le_of_ble_eq_true rfl, Nat.le_of_ble_eq_true rfl⟩ dX3_readTurn_48 (fun v19 f18 H locs hp18 h => ?_)
      obtain ⟨rfl, hv19a, hv19b⟩ := hp18
      refine tw_iconst F dX3_readTurn_51 ki_m1 (fun z20 hz20 => ?_)
      refine tw_icmp_eq (tgt := 61) F dX3_readTurn_52 (by decide) (fun b21 => ?_) (fun b21 => ?_)
      · refine lv_aload_n F.1 F.2.1 dX3_readTurn_61 rfl (lv_at hl 0 rfl) ?_
        refine tw_Vl (As := []) F hZ h yk_X3_value mw_424 mw_425 mw_426 (s_X3_value l D cy L R O f8 a0 m_a0 r_a0) rfl rfl m_a0 r_a0 (fun e q => (T_3 e).mp q) rfl hl.1 rfl (Nat.le_of_ble_eq_true rfl) ⟨Nat.le_of_ble_eq_true rfl, Nat.le_of_ble_eq_true rfl⟩ ⟨Nat.le_of_ble_eq_true rfl, Nat.le_of_ble_eq_true rfl⟩ dX3_readTurn_62 (fun v23 f22 H locs hp22 h => ?_)
        obtain ⟨rfl, hv23p0⟩ := hp22
        refine lv_lstore_n (lv' := [(1, .long v23), (0, .ref a0)]) F.1 F.2.1 dX3_readTurn_65 rfl hl (by decide) rfl (fun ls hl => ?_)
        refine lv_aload_n F.1 F.2.1 dX3_readTurn_66 rfl (lv_at hl 1 rfl) ?_
        refine lv_dup F.1 F.2.1 dX3_readTurn_67 rfl ?_
        refine g_3_58 F h m_a0 r_a0 dX3_readTurn_68 (fun v24 hv24 hv24a hv24b => ?_)
        refine tw_iconst F dX3_readTurn_71 ki_1 (fun z25 hz25 => ?_)
        refine tu_iadd F dX3_readTurn_72 (by omega) (fun z26 hz26 => ?_)
        refine p_3_58 F h m_a0 r_a0 (by omega) dX3_readTurn_73 (fun f27 H locs e27p hf27 h => ?_)
        have hX : OB L R O a0_script f0 f27 := OB_fr hX hf27 (by decide +kernel)
        have hk : fr L R [(3, 2), (3, 3), (3, 12), (6, 16)] [3, 6, 23] f0 f27 := hk.tr hf27 rfl rfl
        have e28 : fi f27 a0 8 = fi f8 a0 8 := hf27.efi m_a0 r_a0 rfl
        have e29 : fld f27 a0 1 = .ref a0_script := (hf27.efl m_a0 r_a0 rfl).trans e10
        have e30 : fi f27 a0_script 14 = fi f8 a0_script 14 := hf27.efi m_a0_script r_a0_script rfl
        refine lv_aload_n F.1 F.2.1 dX3_readTurn_76 rfl (lv_at hl 1 rfl) ?_
        refine tw_Vi (As := []) F hZ h yk_X3_isName mw_536 mw_537 mw_538 (s_X3_isName l D cy L R O f27 a0 m_a0 r_a0) rfl rfl m_a0 r_a0 (fun e q => (T_3 e).mp q) rfl hl.1 rfl (Nat.le_of_ble_eq_true rfl) ⟨Nat.le_of_ble_eq_true rfl, Nat.le_of_ble_eq_true rfl⟩ ⟨Nat.le_of_ble_eq_true rfl, Nat.le_of_ble_eq_true rfl⟩ dX3_readTurn_77 (fun v32 f31 H locs hp31 h => ?_)
        obtain ⟨rfl, hv32a, hv32b, hv32p0⟩ := hp31
        refine tw_if_ne (tgt := 88) F dX3_readTurn_80 (by decide) (fun b33 => ?_) (fun b33 => ?_)
        · refine lv_aload_n F.1 F.2.1 dX3_readTurn_88 rfl (lv_at hl 1 rfl) ?_
          refine g_3_21 F h m_a0 r_a0 dX3_readTurn_89 (fun o34 m_o34 r_o34 ho34 => ?_)
          obtain rfl := (fld_inj e29 ho34).symm
          refine lv_lload_n F.1 F.2.1 dX3_readTurn_92 rfl (lv_at hl 0 rfl) ?_
          refine lv_aload_n F.1 F.2.1 dX3_readTurn_93 rfl (lv_at hl 1 rfl) ?_
          refine tw_Vl (As := []) F hZ h yk_X3_value mw_424 mw_425 mw_426 (s_X3_value l D cy L R O f27 a0 m_a0 r_a0) rfl rfl m_a0 r_a0 (fun e q => (T_3 e).mp q) rfl hl.1 rfl (Nat.le_of_ble_eq_true rfl) ⟨Nat.le_of_ble_eq_true rfl, Nat.le_of_ble_eq_true rfl⟩ ⟨Nat.le_of_ble_eq_true rfl, Nat.le_of_ble_eq_true rfl⟩ dX3_readTurn_94 (fun v36 f35 H locs hp35 h => ?_)
          obtain ⟨rfl, hv36p0⟩ := hp35
          refine tw_Vv (As := [.long v23, .long v36]) F hZ h yk_X6_addTurn mw_549 mw_550 mw_551 (s_X6_addTurn l D cy L R O f27 (hG.fr hk (by decide +kernel) (by decide +kernel)) a0_script m_a0_script r_a0_script v23 v36) rfl rfl m_a0_script r_a0_script (fun e q => (T_6 e).mp q) rfl hl.1 rfl (Nat.le_of_ble_eq_true rfl) ⟨Nat.le_of_ble_eq_true rfl, Nat.le_of_ble_eq_true rfl⟩ ⟨Nat.le_of_ble_eq_true rfl, Nat.le_of_ble_eq_true rfl⟩ dX3_readTurn_97 (fun f37 H locs hp37 h => ?_)
          obtain ⟨hf37, hv38p0⟩ := hp37
          have hX : OB L R O a0_script f0 f37 := OB_tr hX hv38p0
          have hk : fr L R [(3, 2), (3, 3), (3, 12), (6, 16)] [3, 6, 23] f0 f37 := hk.tr hf37 rfl rfl
          have e39 : fi f37 a0 8 = fi f27 a0 8 := hf37.efi m_a0 r_a0 rfl
          have e40 : fld f37 a0 1 = .ref a0_script := (hf37.efl m_a0 r_a0 rfl).trans e29
          have e41 : fi f37 a0_script 14 = fi f27 a0_script 14 := hf37.efi m_a0_script r_a0_script rfl
          have e42 : fi f37 a0 12 = fi f27 a0 12 := hf37.efi m_a0 r_a0 rfl
          refine lv_aload_n F.1 F.2.1 dX3_readTurn_100 rfl (lv_at hl 1 rfl) ?_
          refine lv_dup F.1 F.2.1 dX3_readTurn_101 rfl ?_
          refine g_3_58 F h m_a0 r_a0 dX3_readTurn_102 (fun v43 hv43 hv43a hv43b => ?_)
          refine tw_iconst F dX3_readTurn_105 ki_1 (fun z44 hz44 => ?_)
          refine tu_iadd F dX3_readTurn_106 (by omega) (fun z45 hz45 => ?_)
          refine p_3_58 F h m_a0 r_a0 (by omega) dX3_readTurn_107 (fun f46 H locs e46p hf46 h => ?_)
          have hX : OB L R O a0_script f0 f46 := OB_fr hX hf46 (by decide +kernel)
          have hk : fr L R [(3, 2), (3, 3), (3, 12), (6, 16)] [3, 6, 23] f0 f46 := hk.tr hf46 rfl rfl
          have e47 : fi f46 a0 8 = fi f37 a0 8 := hf46.efi m_a0 r_a0 rfl
          have e48 : fld f46 a0 1 = .ref a0_script := (hf46.efl m_a0 r_a0 rfl).trans e40
          have e49 : fi f46 a0_script 14 = fi f37 a0_script 14 := hf46.efi m_a0_script r_a0_script rfl
          refine lv_aload_n F.1 F.2.1 dX3_readTurn_110 rfl (lv_at hl 1 rfl) ?_
          refine tw_Vi (As := []) F hZ h yk_X3_readEnd mw_553 mw_554 mw_555 (s_X3_readEnd l D cy L R O f46 a0 m_a0 r_a0) rfl rfl m_a0 r_a0 (fun e q => (T_3 e).mp q) rfl hl.1 rfl (Nat.le_of_ble_eq_true rfl) ⟨Nat.le_of_ble_eq_true rfl, Nat.le_of_ble_eq_true rfl⟩ ⟨Nat.le_of_ble_eq_true rfl, Nat.le_of_ble_eq_true rfl⟩ dX3_readTurn_111 (fun v51 f50 H locs hp50 h => ?_)
          obtain ⟨hf50, hv51a, hv51b, hv51p0⟩ := hp50
          have hX : OB L R O a0_script f0 f50 := OB_fr hX hf50 (by decide +kernel)
          have hk : fr L R [(3, 2), (3, 3), (3, 12), (6, 16)] [3, 6, 23] f0 f50 := hk.tr hf50 rfl rfl
          have e52 : fi f50 a0 8 = fi f46 a0 8 := hf50.efi m_a0 r_a0 rfl
          have e53 : fld f50 a0 1 = .ref a0_script := (hf50.efl m_a0 r_a0 rfl).trans e48
          have e54 : fi f50 a0_script 14 = fi f46 a0_script 14 := hf50.efi m_a0_script r_a0_script rfl
          exact hret f50 _ _ _ _ v51 dX3_readTurn_114 (tw_nb (by omega)) ⟨hk, by omega, by omega, by omega, by rw [hs1]; exact hX⟩ h
        · refine lv_aload_n F.1 F.2.1 dX3_readTurn_83 rfl (lv_at hl 1 rfl) ?_
          refine tw_Vi (As := []) F hZ h yk_X3_misplaced mw_541 mw_542 mw_543 (s_X3_misplaced l D cy L R O f27 a0 m_a0 r_a0) rfl rfl m_a0 r_a0 (fun e q => (T_3 e).mp q) rfl hl.1 rfl (Nat.le_of_ble_eq_true rfl) ⟨Nat.le_of_ble_eq_true rfl, Nat.le_of_ble_eq_true rfl⟩ ⟨Nat.le_of_ble_eq_true rfl, Nat.le_of_ble_eq_true rfl⟩ dX3_readTurn_84 (fun v56 f55 H locs hp55 h => ?_)
          obtain ⟨hf55, hv56a, hv56b⟩ := hp55
          have hX : OB L R O a0_script f0 f55 := OB_fr hX hf55 (by decide +kernel)
          have hk : fr L R [(3, 2), (3, 3), (3, 12), (6, 16)] [3, 6, 23] f0 f55 := hk.tr hf55 rfl rfl
          have e57 : fi f55 a0 8 = fi f27 a0 8 := hf55.efi m_a0 r_a0 rfl
          have e58 : fld f55 a0 1 = .ref a0_script := (hf55.efl m_a0 r_a0 rfl).trans e29
          have e59 : fi f55 a0_script 14 = fi f27 a0_script 14 := hf55.efi m_a0_script r_a0_script rfl
          have e60 : fi f55 a0 12 = fi f27 a0 12 := hf55.efi m_a0 r_a0 rfl
          exact hret f55 _ _ _ _ v56 dX3_readTurn_87 (tw_nb (by omega)) ⟨hk, by omega, by omega, by omega, by rw [hs1]; exact hX⟩ h
      · refine lv_aload_n F.1 F.2.1 dX3_readTurn_55 rfl (lv_at hl 0 rfl) ?_
        refine tw_iconst F dX3_readTurn_56 ki_3 (fun z61 hz61 => ?_)
        refine tw_Vi (As := [.int z61]) F hZ h yk_X3_fail mw_420 mw_421 mw_422 (s_X3_fail l D cy L R O f8 a0 m_a0 r_a0 z61 ⟨by omega, by omega⟩) rfl rfl m_a0 r_a0 (fun e q => (T_3 e).mp q) rfl hl.1 rfl (Nat.le_of_ble_eq_true rfl) ⟨Nat.le_of_ble_eq_true rfl, Nat.le_of_ble_eq_true rfl⟩ ⟨Nat.le_of_ble_eq_true rfl, Nat.le_of_ble_eq_true rfl⟩ dX3_readTurn_57 (fun v63 f62 H locs hp62 h => ?_)
        obtain ⟨hf62, hv63a, hv63b⟩ := hp62
        have hX : OB L R O a0_script f0 f62 := OB_fr hX hf62 (by decide +kernel)
        have hk : fr L R [(3, 2), (3, 3), (3, 12), (6, 16)] [3, 6, 23] f0 f62 := hk.tr hf62 rfl rfl
        have e64 : fi f62 a0 8 = fi f8 a0 8 := hf62.efi m_a0 r_a0 rfl
        have e65 : fld f62 a0 1 = .ref a0_script := (hf62.efl m_a0 r_a0 rfl).trans e10
        have e66 : fi f62 a0_script 14 = fi f8 a0_script 14 := hf62.efi m_a0_script r_a0_script rfl
        have e67 : fi f62 a0 12 = fi f8 a0 12 := hf62.efi m_a0 r_a0 rfl
        exact hret f62 _ _ _ _ v63 dX3_readTurn_60 (tw_nb (by omega)) ⟨hk, by omega, by omega, by omega, by rw [hs1]; exact hX⟩ h
    · refine lv_aload_n F.1 F.2.1 dX3_readTurn_35 rfl (lv_at hl 0 rfl) ?_
      refine tw_Vi (As := []) F hZ h yk_X3_misplaced mw_541 mw_542 mw_543 (s_X3_misplaced l D cy L R O f8 a0 m_a0 r_a0) rfl rfl m_a0 r_a0 (fun e q => (T_3 e).mp q) rfl hl.1 rfl (Nat.le_of_ble_eq_true rfl) ⟨Nat.le_of_ble_eq_true rfl, Nat.le_of_ble_eq_true rfl⟩ ⟨Nat.le_of_ble_eq_true rfl, Nat.le_of_ble_eq_true rfl⟩ dX3_readTurn_36 (fun v69 f68 H locs hp68 h => ?_)
      obtain ⟨hf68, hv69a, hv69b⟩ := hp68
      have hX : OB L R O a0_script f0 f68 := OB_fr hX hf68 (by decide +kernel)
      have hk : fr L R [(3, 2), (3, 3), (3, 12), (6, 16)] [3, 6, 23] f0 f68 := hk.tr hf68 rfl rfl
      have e70 : fi f68 a0 8 = fi f8 a0 8 := hf68.efi m_a0 r_a0 rfl
      have e71 : fld f68 a0 1 = .ref a0_script := (hf68.efl m_a0 r_a0 rfl).trans e10
      have e72 : fi f68 a0_script 14 = fi f8 a0_script 14 := hf68.efi m_a0_script r_a0_script rfl
      have e73 : fi f68 a0 12 = fi f8 a0 12 := hf68.efi m_a0 r_a0 rfl
      exact hret f68 _ _ _ _ v69 dX3_readTurn_39 (tw_nb (by omega)) ⟨hk, by omega, by omega, by omega, by rw [hs1]; exact hX⟩ h
  · refine lv_aload_n F.1 F.2.1 dX3_readTurn_12 rfl (lv_at hl 0 rfl) ?_
    refine tw_iconst F dX3_readTurn_13 ki_5 (fun z74 hz74 => ?_)
    refine tw_Vi (As := [.int z74]) F hZ h yk_X3_fail mw_420 mw_421 mw_422 (s_X3_fail l D cy L R O f0 a0 m_a0 r_a0 z74 ⟨by omega, by omega⟩) rfl rfl m_a0 r_a0 (fun e q => (T_3 e).mp q) rfl hl.1 rfl (Nat.le_of_ble_eq_true rfl) ⟨Nat.le_of_ble_eq_true rfl, Nat.le_of_ble_eq_true rfl⟩ ⟨Nat.le_of_ble_eq_true rfl, Nat.le_of_ble_eq_true rfl⟩ dX3_readTurn_14 (fun v76 f75 H locs hp75 h => ?_)
    obtain ⟨hf75, hv76a, hv76b⟩ := hp75
    have hX : OB L R O a0_script f0 f75 := OB_fr hX hf75 (by decide +kernel)
    have hk : fr L R [(3, 2), (3, 3), (3, 12), (6, 16)] [3, 6, 23] f0 f75 := hk.tr hf75 rfl rfl
    have e77 : fi f75 a0 12 = fi f0 a0 12 := hf75.efi m_a0 r_a0 rfl
    have e78 : fi f75 a0 8 = fi f0 a0 8 := hf75.efi m_a0 r_a0 rfl
    have e79 : fld f75 a0 1 = .ref a0_script := (hf75.efl m_a0 r_a0 rfl).trans t_a0_script
    have e80 : fi f75 a0_script 14 = fi f0 a0_script 14 := hf75.efi m_a0_script r_a0_script rfl
    exact hret f75 _ _ _ _ v76 dX3_readTurn_17 (tw_nb (by omega)) ⟨hk, by omega, by omega, by omega, by rw [hs1]; exact hX⟩ h
theorem dX3_readKey_0 : decode cX3_readKey 0 = .ok (.aload_n 0, 1) := by decide +kernel
theorem dX3_readKey_1 : decode cX3_readKey 1 = .ok (.getfield 21, 3) := by decide +kernel
theorem dX3_readKey_4 : decode cX3_readKey 4 = .ok (.getfield 169, 3) := by decide +kernel
theorem mw_561 : Cond.fieldLink RX3 169 "AskBack$Script" "keyCount" "I" ∈ wsL_law := inr_24 _ (List.mem_of_getElem? (i := 9) rfl)
section
variable {p : Program} {l : Launch} {e : Env} {R0 : Room} {s : State} {m : MethodId} {args : Array Value} {below : List Frame} {meth : Method} {c : Code} {H H0 : Heap} {locs : List Loc} {cells slots : Nat} {Q : State → Prop} {cc : ByteArray} {nL : Nat} {D : va_G} {cy : Nat → ClassId} {A : Nat → Prop} {L : List Nat} {R : Nat → Nat} {f : Nat → va_E} {pc : Nat} {ls : Array Slot} {rest : List Value} {a : Nat}
theorem g_3_169 (F : CallFix p m c cc nL s args wsL_law RX3) (h : tS D cy A H0 L R (TT cy L R) f s H locs) (ha : a ∈ L) (hr : R a = 6) (hdg : decode cc pc = .ok (.getfield 169, 3)) (kk : ∀ x : Int32, x.toInt = fi f a 15 → 0 ≤ x.toInt → x.toInt ≤ 12 → W p l e R0 s m args below meth c H locs cells slots Q (F0 m (pc + 3) ls (.int x :: rest))) : W p l e R0 s m args below meth c H locs cells slots Q (F0 m pc ls (.ref a :: rest)) := tu_geti F h ha hr (fun e q => (T_6 e).mp q) rfl inlX6 rfl (Nat.le_of_ble_eq_true rfl) mw_561 hdg (fun x h1 h2 h3 => kk x h1 h2 h3)
end
theorem dX3_readKey_7 : decode cX3_readKey 7 = .ok (.bipush 12, 2) := by decide +kernel
theorem dX3_readKey_9 : decode cX3_readKey 9 = .ok (.if_icmp .lt 9, 3) := by decide +kernel
theorem dX3_readKey_18 : decode cX3_readKey 18 = .ok (.aload_n 0, 1) := by decide +kernel
theorem dX3_readKey_19 : decode cX3_readKey 19 = .ok (.dup, 1) := by decide +kernel
theorem dX3_readKey_20 : decode cX3_readKey 20 = .ok (.getfield 58, 3) := by decide +kernel
theorem dX3_readKey_23 : decode cX3_readKey 23 = .ok (.iconst 1, 1) := by decide +kernel
theorem dX3_readKey_24 : decode cX3_readKey 24 = .ok (.iadd, 1) := by decide +kernel
theorem dX3_readKey_25 : decode cX3_readKey 25 = .ok (.putfield 58, 3) := by decide +kernel
theorem dX3_readKey_28 : decode cX3_readKey 28 = .ok (.aload_n 0, 1) := by decide +kernel
theorem dX3_readKey_29 : decode cX3_readKey 29 = .ok (.invokevirtual 155, 3) := by decide +kernel
theorem dX3_readKey_32 : decode cX3_readKey 32 = .ok (.ifCond .ne 8, 3) := by decide +kernel
theorem dX3_readKey_40 : decode cX3_readKey 40 = .ok (.aload_n 0, 1) := by decide +kernel
theorem dX3_readKey_41 : decode cX3_readKey 41 = .ok (.getfield 21, 3) := by decide +kernel
theorem dX3_readKey_44 : decode cX3_readKey 44 = .ok (.aload_n 0, 1) := by decide +kernel
theorem dX3_readKey_45 : decode cX3_readKey 45 = .ok (.invokevirtual 82, 3) := by decide +kernel
theorem dX3_readKey_48 : decode cX3_readKey 48 = .ok (.invokevirtual 172, 3) := by decide +kernel
theorem mw_563 : Cond.methodLink RX3 172 yX6_keyNamed ∈ wsL_law := inr_24 _ (List.mem_of_getElem? (i := 11) rfl)
theorem mw_566 : Cond.code yX6_keyNamed cX6_keyNamed 4 (some .int) ∈ wsL_law := inr_24 _ (List.mem_of_getElem? (i := 14) rfl)
theorem yk_X6_keyNamed : xY yX6_keyNamed RX6 cX6_keyNamed 4 (some .int) 1 := ⟨⟨rfl, by decide +kernel, by decide +kernel, by decide +kernel⟩, mw_57, mw_566⟩
theorem mw_564 : Cond.instanceMethod yX6_keyNamed ∈ wsL_law := inr_24 _ (List.mem_of_getElem? (i := 12) rfl)
theorem mw_565 : Cond.selects RX6 yX6_keyNamed yX6_keyNamed ∈ wsL_law := inr_24 _ (List.mem_of_getElem? (i := 13) rfl)
theorem dX3_readKey_51 : decode cX3_readKey 51 = .ok (.iconst (-1), 1) := by decide +kernel
theorem dX3_readKey_52 : decode cX3_readKey 52 = .ok (.if_icmp .eq 9, 3) := by decide +kernel
theorem dX3_readKey_61 : decode cX3_readKey 61 = .ok (.aload_n 0, 1) := by decide +kernel
theorem dX3_readKey_62 : decode cX3_readKey 62 = .ok (.invokevirtual 82, 3) := by decide +kernel
theorem dX3_readKey_65 : decode cX3_readKey 65 = .ok (.lstore_n 1, 1) := by decide +kernel
theorem dX3_readKey_66 : decode cX3_readKey 66 = .ok (.aload_n 0, 1) := by decide +kernel
theorem dX3_readKey_67 : decode cX3_readKey 67 = .ok (.dup, 1) := by decide +kernel
theorem dX3_readKey_68 : decode cX3_readKey 68 = .ok (.getfield 58, 3) := by decide +kernel
theorem dX3_readKey_71 : decode cX3_readKey 71 = .ok (.iconst 1, 1) := by decide +kernel
theorem dX3_readKey_72 : decode cX3_readKey 72 = .ok (.iadd, 1) := by decide +kernel
theorem dX3_readKey_73 : decode cX3_readKey 73 = .ok (.putfield 58, 3) := by decide +kernel
theorem dX3_readKey_76 : decode cX3_readKey 76 = .ok (.aload_n 0, 1) := by decide +kernel
theorem dX3_readKey_77 : decode cX3_readKey 77 = .ok (.ldc2_w 175, 3) := by decide +kernel
theorem mw_562 : Cond.constantLong RX3 175 (591307) ∈ wsL_law := inr_24 _ (List.mem_of_getElem? (i := 10) rfl)
theorem kl_591307 : (591307 : Int64).toInt = 591307 := by decide +kernel
theorem dX3_readKey_80 : decode cX3_readKey 80 = .ok (.invokevirtual 93, 3) := by decide +kernel
theorem mw_527 : Cond.methodLink RX3 93 yX3_isThe ∈ wsL_law := inr_22 _ (List.mem_of_getElem? (i := 23) rfl)
theorem mw_530 : Cond.code yX3_isThe cX3_isThe 3 (some .boolean) ∈ wsL_law := inr_23 _ (List.mem_of_getElem? (i := 2) rfl)
theorem yk_X3_isThe : xY yX3_isThe RX3 cX3_isThe 3 (some .boolean) 1 := ⟨⟨rfl, by decide +kernel, by decide +kernel, by decide +kernel⟩, mw_19, mw_530⟩
theorem mw_528 : Cond.instanceMethod yX3_isThe ∈ wsL_law := inr_23 _ (List.mem_of_getElem? (i := 0) rfl)
theorem mw_529 : Cond.selects RX3 yX3_isThe yX3_isThe ∈ wsL_law := inr_23 _ (List.mem_of_getElem? (i := 1) rfl)
theorem dX3_readKey_83 : decode cX3_readKey 83 = .ok (.ifCond .ne 8, 3) := by decide +kernel
theorem dX3_readKey_91 : decode cX3_readKey 91 = .ok (.aload_n 0, 1) := by decide +kernel
theorem dX3_readKey_92 : decode cX3_readKey 92 = .ok (.dup, 1) := by decide +kernel
theorem dX3_readKey_93 : decode cX3_readKey 93 = .ok (.getfield 58, 3) := by decide +kernel
theorem dX3_readKey_96 : decode cX3_readKey 96 = .ok (.iconst 1, 1) := by decide +kernel
theorem dX3_readKey_97 : decode cX3_readKey 97 = .ok (.iadd, 1) := by decide +kernel
theorem dX3_readKey_98 : decode cX3_readKey 98 = .ok (.putfield 58, 3) := by decide +kernel
theorem dX3_readKey_101 : decode cX3_readKey 101 = .ok (.aload_n 0, 1) := by decide +kernel
theorem dX3_readKey_102 : decode cX3_readKey 102 = .ok (.invokevirtual 71, 3) := by decide +kernel
theorem dX3_readKey_105 : decode cX3_readKey 105 = .ok (.iconst 3, 1) := by decide +kernel
theorem dX3_readKey_106 : decode cX3_readKey 106 = .ok (.if_icmp .eq 8, 3) := by decide +kernel
theorem dX3_readKey_114 : decode cX3_readKey 114 = .ok (.aload_n 0, 1) := by decide +kernel
theorem dX3_readKey_115 : decode cX3_readKey 115 = .ok (.getfield 21, 3) := by decide +kernel
theorem dX3_readKey_118 : decode cX3_readKey 118 = .ok (.lload_n 1, 1) := by decide +kernel
theorem dX3_readKey_119 : decode cX3_readKey 119 = .ok (.aload_n 0, 1) := by decide +kernel
theorem dX3_readKey_120 : decode cX3_readKey 120 = .ok (.invokevirtual 82, 3) := by decide +kernel
theorem dX3_readKey_123 : decode cX3_readKey 123 = .ok (.l2i, 1) := by decide +kernel
theorem dX3_readKey_124 : decode cX3_readKey 124 = .ok (.invokevirtual 177, 3) := by decide +kernel
theorem mw_567 : Cond.methodLink RX3 177 yX6_addKey ∈ wsL_law := inr_24 _ (List.mem_of_getElem? (i := 15) rfl)
theorem mw_570 : Cond.code yX6_addKey cX6_addKey 4 none ∈ wsL_law := inr_24 _ (List.mem_of_getElem? (i := 18) rfl)
theorem yk_X6_addKey : xY yX6_addKey RX6 cX6_addKey 4 none 2 := ⟨⟨rfl, by decide +kernel, by decide +kernel, by decide +kernel⟩, mw_57, mw_570⟩
theorem mw_568 : Cond.instanceMethod yX6_addKey ∈ wsL_law := inr_24 _ (List.mem_of_getElem? (i := 16) rfl)
theorem mw_569 : Cond.selects RX6 yX6_addKey yX6_addKey ∈ wsL_law := inr_24 _ (List.mem_of_getElem? (i := 17) rfl)
theorem dX3_readKey_127 : decode cX3_readKey 127 = .ok (.aload_n 0, 1) := by decide +kernel
theorem dX3_readKey_128 : decode cX3_readKey 128 = .ok (.dup, 1) := by decide +kernel
theorem dX3_readKey_129 : decode cX3_readKey 129 = .ok (.getfield 58, 3) := by decide +kernel
theorem dX3_readKey_132 : decode cX3_readKey 132 = .ok (.iconst 1, 1) := by decide +kernel
theorem dX3_readKey_133 : decode cX3_readKey 133 = .ok (.iadd, 1) := by decide +kernel
theorem dX3_readKey_134 : decode cX3_readKey 134 = .ok (.putfield 58, 3) := by decide +kernel
theorem dX3_readKey_137 : decode cX3_readKey 137 = .ok (.aload_n 0, 1) := by decide +kernel
theorem dX3_readKey_138 : decode cX3_readKey 138 = .ok (.invokevirtual 166, 3) := by decide +kernel
theorem dX3_readKey_141 : decode cX3_readKey 141 = .ok (.ireturn, 1) := by decide +kernel
theorem dX3_readKey_109 : decode cX3_readKey 109 = .ok (.aload_n 0, 1) := by decide +kernel
theorem dX3_readKey_110 : decode cX3_readKey 110 = .ok (.invokevirtual 119, 3) := by decide +kernel
theorem dX3_readKey_113 : decode cX3_readKey 113 = .ok (.ireturn, 1) := by decide +kernel
theorem dX3_readKey_86 : decode cX3_readKey 86 = .ok (.aload_n 0, 1) := by decide +kernel
theorem dX3_readKey_87 : decode cX3_readKey 87 = .ok (.invokevirtual 119, 3) := by decide +kernel
theorem dX3_readKey_90 : decode cX3_readKey 90 = .ok (.ireturn, 1) := by decide +kernel
theorem dX3_readKey_55 : decode cX3_readKey 55 = .ok (.aload_n 0, 1) := by decide +kernel
theorem dX3_readKey_56 : decode cX3_readKey 56 = .ok (.iconst 3, 1) := by decide +kernel
theorem dX3_readKey_57 : decode cX3_readKey 57 = .ok (.invokevirtual 75, 3) := by decide +kernel
theorem dX3_readKey_60 : decode cX3_readKey 60 = .ok (.ireturn, 1) := by decide +kernel
theorem dX3_readKey_35 : decode cX3_readKey 35 = .ok (.aload_n 0, 1) := by decide +kernel
theorem dX3_readKey_36 : decode cX3_readKey 36 = .ok (.invokevirtual 119, 3) := by decide +kernel
theorem dX3_readKey_39 : decode cX3_readKey 39 = .ok (.ireturn, 1) := by decide +kernel
theorem dX3_readKey_12 : decode cX3_readKey 12 = .ok (.aload_n 0, 1) := by decide +kernel
theorem dX3_readKey_13 : decode cX3_readKey 13 = .ok (.iconst 5, 1) := by decide +kernel
theorem dX3_readKey_14 : decode cX3_readKey 14 = .ok (.invokevirtual 75, 3) := by decide +kernel
theorem dX3_readKey_17 : decode cX3_readKey 17 = .ok (.ireturn, 1) := by decide +kernel
def rm_X3_readKey : Room := { frames := 3, cells := 0, slots := 0, locals := 61 }
set_option maxHeartbeats 4000000 in
set_option maxRecDepth 100000 in
theorem s_X3_readKey (l : Launch) (D : va_G) (cy : Nat → ClassId) (L : List Nat) (R O : Nat → Nat) (f0 : Nat → va_E) (hG : GG L R O f0) (a0 : Nat) (m_a0 : a0 ∈ L) (r_a0 : R a0 = 3) (pre0 : fi f0 a0 12 < fi f0 a0 8) : ∀ sz, Met l yX3_readKey (Cond.code yX3_readKey cX3_readKey 3 (some .boolean) :: wsL_law) rm_X3_readKey (va_Pc [.ref a0] (tPZ D cy L R (TT cy L R) f0 sz)) (va_Qi (fun (r : Int32) f1 => fr L R [(3, 2), (3, 3), (3, 12), (6, 15)] [3, 6, 23, 36, 37] f0 f1 ∧ 0 ≤ r.toInt ∧ r.toInt ≤ 1 ∧ fi f0 a0 12 ≤ fi f1 a0 12 ∧ OB L R O (rfa f0 a0 1) f0 f1) (tB D (tA L sz) L R (TT cy L R)) (tA L sz)) 0 0 (tA L sz) := by
  refine tw_enteri (by decide +kernel) rfl (Nat.le_of_ble_eq_true rfl) ?_
  intro p e s m below meth c A ls args Q F hZ h hl hret
  have hl : lv_has ls 3 [(0, .ref a0)] := hl
  have hk : fr L R [(3, 2), (3, 3), (3, 12), (6, 15)] [3, 6, 23, 36, 37] f0 f0 := fr.rf
  have t_a0_at := h.bfi m_a0 r_a0 (fun e q => (T_3 e).mp q) (k := 12) rfl
  have t_a0_tokenCount := h.bfi m_a0 r_a0 (fun e q => (T_3 e).mp q) (k := 8) rfl
  obtain ⟨a0_script, m_a0_script, r_a0_script, t_a0_script⟩ := h.rf m_a0 r_a0 (fun e q => (T_3 e).mp q) (k := 1) rfl
  have t_a0_script_partCount := h.bfi m_a0_script r_a0_script (fun e q => (T_6 e).mp q) (k := 14) rfl
  have hs1 := rfa_of t_a0_script
  have hX : OB L R O a0_script f0 f0 := OB_rf
  refine lv_aload_n F.1 F.2.1 dX3_readKey_0 rfl (lv_at hl 0 rfl) ?_
  refine g_3_21 F h m_a0 r_a0 dX3_readKey_1 (fun o1 m_o1 r_o1 ho1 => ?_)
  obtain rfl := (fld_inj t_a0_script ho1).symm
  refine g_3_169 F h m_a0_script r_a0_script dX3_readKey_4 (fun v2 hv2 hv2a hv2b => ?_)
  refine tw_bipush F dX3_readKey_7 kb_12 (fun z3 hz3 => ?_)
  refine tw_icmp_lt (tgt := 18) F dX3_readKey_9 (by decide) (fun b4 => ?_) (fun b4 => ?_)
  · refine lv_aload_n F.1 F.2.1 dX3_readKey_18 rfl (lv_at hl 0 rfl) ?_
    refine lv_dup F.1 F.2.1 dX3_readKey_19 rfl ?_
    refine g_3_58 F h m_a0 r_a0 dX3_readKey_20 (fun v5 hv5 hv5a hv5b => ?_)
    refine tw_iconst F dX3_readKey_23 ki_1 (fun z6 hz6 => ?_)
    refine tu_iadd F dX3_readKey_24 (by omega) (fun z7 hz7 => ?_)
    refine p_3_58 F h m_a0 r_a0 (by omega) dX3_readKey_25 (fun f8 H locs e8p hf8 h => ?_)
    have hX : OB L R O a0_script f0 f8 := OB_fr hX hf8 (by decide +kernel)
    have hk : fr L R [(3, 2), (3, 3), (3, 12), (6, 15)] [3, 6, 23, 36, 37] f0 f8 := hk.tr hf8 rfl rfl
    have e9 : fi f8 a0 8 = fi f0 a0 8 := hf8.efi m_a0 r_a0 rfl
    have e10 : fld f8 a0 1 = .ref a0_script := (hf8.efl m_a0 r_a0 rfl).trans t_a0_script
    have e11 : fi f8 a0_script 14 = fi f0 a0_script 14 := hf8.efi m_a0_script r_a0_script rfl
    refine lv_aload_n F.1 F.2.1 dX3_readKey_28 rfl (lv_at hl 0 rfl) ?_
    refine tw_Vi (As := []) F hZ h yk_X3_isName mw_536 mw_537 mw_538 (s_X3_isName l D cy L R O f8 a0 m_a0 r_a0) rfl rfl m_a0 r_a0 (fun e q => (T_3 e).mp q) rfl hl.1 rfl (Nat.le_of_ble_eq_true rfl) ⟨Nat.le_of_ble_eq_true rfl, Nat.le_of_ble_eq_true rfl⟩ ⟨Nat.le_of_ble_eq_true rfl, Nat.le_of_ble_eq_true rfl⟩ dX3_readKey_29 (fun v13 f12 H locs hp12 h => ?_)
    obtain ⟨rfl, hv13a, hv13b, hv13p0⟩ := hp12
    refine tw_if_ne (tgt := 40) F dX3_readKey_32 (by decide) (fun b14 => ?_) (fun b14 => ?_)
    · refine lv_aload_n F.1 F.2.1 dX3_readKey_40 rfl (lv_at hl 0 rfl) ?_
      refine g_3_21 F h m_a0 r_a0 dX3_readKey_41 (fun o15 m_o15 r_o15 ho15 => ?_)
      obtain rfl := (fld_inj e10 ho15).symm
      refine lv_aload_n F.1 F.2.1 dX3_readKey_44 rfl (lv_at hl 0 rfl) ?_
      refine tw_Vl (As := []) F hZ h yk_X3_value mw_424 mw_425 mw_426 (s_X3_value l D cy L R O f8 a0 m_a0 r_a0) rfl rfl m_a0 r_a0 (fun e q => (T_3 e).mp q) rfl hl.1 rfl (Nat.le_of_ble_eq_true rfl) ⟨Nat.le_of_ble_eq_true rfl, Nat.le_of_ble_eq_true rfl⟩ ⟨Nat.le_of_ble_eq_true rfl, Nat.le_of_ble_eq_true rfl⟩ dX3_readKey_45 (fun v17 f16 H locs hp16 h => ?_)
      obtain ⟨rfl, hv17p0⟩ := hp16
      refine tw_Vi (As := [.long v17]) F hZ h yk_X6_keyNamed mw_563 mw_564 mw_565 (s_X6_keyNamed l D cy L R O f8 a0_script m_a0_script r_a0_script v17) rfl rfl m_a0_script r_a0_script (fun e q => (T_6 e).mp q) rfl hl.1 rfl (Nat.le_of_ble_eq_true rfl) ⟨Nat.le_of_ble_eq_true rfl, Nat.le_of_ble_eq_true rfl⟩ ⟨Nat.le_of_ble_eq_true rfl, Nat.le_of_ble_eq_true rfl⟩ dX3_readKey_48 (fun v19 f18 H locs hp18 h => ?_)
      obtain ⟨rfl, hv19a, hv19b⟩ := hp18
      refine tw_iconst F dX3_readKey_51 ki_m1 (fun z20 hz20 => ?_)
      refine tw_icmp_eq (tgt := 61) F dX3_readKey_52 (by decide) (fun b21 => ?_) (fun b21 => ?_)
      · refine lv_aload_n F.1 F.2.1 dX3_readKey_61 rfl (lv_at hl 0 rfl) ?_
        refine tw_Vl (As := []) F hZ h yk_X3_value mw_424 mw_425 mw_426 (s_X3_value l D cy L R O f8 a0 m_a0 r_a0) rfl rfl m_a0 r_a0 (fun e q => (T_3 e).mp q) rfl hl.1 rfl (Nat.le_of_ble_eq_true rfl) ⟨Nat.le_of_ble_eq_true rfl, Nat.le_of_ble_eq_true rfl⟩ ⟨Nat.le_of_ble_eq_true rfl, Nat.le_of_ble_eq_true rfl⟩ dX3_readKey_62 (fun v23 f22 H locs hp22 h => ?_)
        obtain ⟨rfl, hv23p0⟩ := hp22
        refine lv_lstore_n (lv' := [(1, .long v23), (0, .ref a0)]) F.1 F.2.1 dX3_readKey_65 rfl hl (by decide) rfl (fun ls hl => ?_)
        refine lv_aload_n F.1 F.2.1 dX3_readKey_66 rfl (lv_at hl 1 rfl) ?_
        refine lv_dup F.1 F.2.1 dX3_readKey_67 rfl ?_
        refine g_3_58 F h m_a0 r_a0 dX3_readKey_68 (fun v24 hv24 hv24a hv24b => ?_)
        refine tw_iconst F dX3_readKey_71 ki_1 (fun z25 hz25 => ?_)
        refine tu_iadd F dX3_readKey_72 (by omega) (fun z26 hz26 => ?_)
        refine p_3_58 F h m_a0 r_a0 (by omega) dX3_readKey_73 (fun f27 H locs e27p hf27 h => ?_)
        have hX : OB L R O a0_script f0 f27 := OB_fr hX hf27 (by decide +kernel)
        have hk : fr L R [(3, 2), (3, 3), (3, 12), (6, 15)] [3, 6, 23, 36, 37] f0 f27 := hk.tr hf27 rfl rfl
        have e28 : fi f27 a0 8 = fi f8 a0 8 := hf27.efi m_a0 r_a0 rfl
        have e29 : fld f27 a0 1 = .ref a0_script := (hf27.efl m_a0 r_a0 rfl).trans e10
        have e30 : fi f27 a0_script 14 = fi f8 a0_script 14 := hf27.efi m_a0_script r_a0_script rfl
        refine lv_aload_n F.1 F.2.1 dX3_readKey_76 rfl (lv_at hl 1 rfl) ?_
        refine tu_ldc2 F mw_562 dX3_readKey_77 kl_591307 (fun z31 hz31 => ?_)
        refine tw_Vi (As := [.long z31]) F hZ h yk_X3_isThe mw_527 mw_528 mw_529 (s_X3_isThe l D cy L R O f27 a0 m_a0 r_a0 z31) rfl rfl m_a0 r_a0 (fun e q => (T_3 e).mp q) rfl hl.1 rfl (Nat.le_of_ble_eq_true rfl) ⟨Nat.le_of_ble_eq_true rfl, Nat.le_of_ble_eq_true rfl⟩ ⟨Nat.le_of_ble_eq_true rfl, Nat.le_of_ble_eq_true rfl⟩ dX3_readKey_80 (fun v33 f32 H locs hp32 h => ?_)
        obtain ⟨rfl, hv33a, hv33b, hv33p0⟩ := hp32
        refine tw_if_ne (tgt := 91) F dX3_readKey_83 (by decide) (fun b34 => ?_) (fun b34 => ?_)
        · refine lv_aload_n F.1 F.2.1 dX3_readKey_91 rfl (lv_at hl 1 rfl) ?_
          refine lv_dup F.1 F.2.1 dX3_readKey_92 rfl ?_
          refine g_3_58 F h m_a0 r_a0 dX3_readKey_93 (fun v35 hv35 hv35a hv35b => ?_)
          refine tw_iconst F dX3_readKey_96 ki_1 (fun z36 hz36 => ?_)
          refine tu_iadd F dX3_readKey_97 (by omega) (fun z37 hz37 => ?_)
          refine p_3_58 F h m_a0 r_a0 (by omega) dX3_readKey_98 (fun f38 H locs e38p hf38 h => ?_)
          have hX : OB L R O a0_script f0 f38 := OB_fr hX hf38 (by decide +kernel)
          have hk : fr L R [(3, 2), (3, 3), (3, 12), (6, 15)] [3, 6, 23, 36, 37] f0 f38 := hk.tr hf38 rfl rfl
          have e39 : fi f38 a0 8 = fi f27 a0 8 := hf38.efi m_a0 r_a0 rfl
          have e40 : fld f38 a0 1 = .ref a0_script := (hf38.efl m_a0 r_a0 rfl).trans e29
          have e41 : fi f38 a0_script 14 = fi f27 a0_script 14 := hf38.efi m_a0_script r_a0_script rfl
          refine lv_aload_n F.1 F.2.1 dX3_readKey_101 rfl (lv_at hl 1 rfl) ?_
          refine tw_Vi (As := []) F hZ h yk_X3_kind mw_416 mw_417 mw_418 (s_X3_kind l D cy L R O f38 a0 m_a0 r_a0) rfl rfl m_a0 r_a0 (fun e q => (T_3 e).mp q) rfl hl.1 rfl (Nat.le_of_ble_eq_true rfl) ⟨Nat.le_of_ble_eq_true rfl, Nat.le_of_ble_eq_true rfl⟩ ⟨Nat.le_of_ble_eq_true rfl, Nat.le_of_ble_eq_true rfl⟩ dX3_readKey_102 (fun v43 f42 H locs hp42 h => ?_)
          obtain ⟨rfl, hv43p0⟩ := hp42
          refine tw_iconst F dX3_readKey_105 ki_3 (fun z44 hz44 => ?_)
          refine tw_icmp_eq (tgt := 114) F dX3_readKey_106 (by decide) (fun b45 => ?_) (fun b45 => ?_)
          · refine lv_aload_n F.1 F.2.1 dX3_readKey_114 rfl (lv_at hl 1 rfl) ?_
            refine g_3_21 F h m_a0 r_a0 dX3_readKey_115 (fun o46 m_o46 r_o46 ho46 => ?_)
            obtain rfl := (fld_inj e40 ho46).symm
            refine lv_lload_n F.1 F.2.1 dX3_readKey_118 rfl (lv_at hl 0 rfl) ?_
            refine lv_aload_n F.1 F.2.1 dX3_readKey_119 rfl (lv_at hl 1 rfl) ?_
            refine tw_Vl (As := []) F hZ h yk_X3_value mw_424 mw_425 mw_426 (s_X3_value l D cy L R O f38 a0 m_a0 r_a0) rfl rfl m_a0 r_a0 (fun e q => (T_3 e).mp q) rfl hl.1 rfl (Nat.le_of_ble_eq_true rfl) ⟨Nat.le_of_ble_eq_true rfl, Nat.le_of_ble_eq_true rfl⟩ ⟨Nat.le_of_ble_eq_true rfl, Nat.le_of_ble_eq_true rfl⟩ dX3_readKey_120 (fun v48 f47 H locs hp47 h => ?_)
            obtain ⟨rfl, hv48p0⟩ := hp47
            refine lv_l2i F.1 F.2.1 dX3_readKey_123 rfl ?_
            refine lv_topi (fun z49 _ => ?_)
            refine tw_Vv (As := [.long v23, .int z49]) F hZ h yk_X6_addKey mw_567 mw_568 mw_569 (s_X6_addKey l D cy L R O f38 (hG.fr hk (by decide +kernel) (by decide +kernel)) a0_script m_a0_script r_a0_script v23 z49) rfl rfl m_a0_script r_a0_script (fun e q => (T_6 e).mp q) rfl hl.1 rfl (Nat.le_of_ble_eq_true rfl) ⟨Nat.le_of_ble_eq_true rfl, Nat.le_of_ble_eq_true rfl⟩ ⟨Nat.le_of_ble_eq_true rfl, Nat.le_of_ble_eq_true rfl⟩ dX3_readKey_124 (fun f50 H locs hp50 h => ?_)
            obtain ⟨hf50, hv51p0⟩ := hp50
            have hX : OB L R O a0_script f0 f50 := OB_tr hX hv51p0
            have hk : fr L R [(3, 2), (3, 3), (3, 12), (6, 15)] [3, 6, 23, 36, 37] f0 f50 := hk.tr hf50 rfl rfl
            have e52 : fi f50 a0 8 = fi f38 a0 8 := hf50.efi m_a0 r_a0 rfl
            have e53 : fld f50 a0 1 = .ref a0_script := (hf50.efl m_a0 r_a0 rfl).trans e40
            have e54 : fi f50 a0_script 14 = fi f38 a0_script 14 := hf50.efi m_a0_script r_a0_script rfl
            have e55 : fi f50 a0 12 = fi f38 a0 12 := hf50.efi m_a0 r_a0 rfl
            refine lv_aload_n F.1 F.2.1 dX3_readKey_127 rfl (lv_at hl 1 rfl) ?_
            refine lv_dup F.1 F.2.1 dX3_readKey_128 rfl ?_
            refine g_3_58 F h m_a0 r_a0 dX3_readKey_129 (fun v56 hv56 hv56a hv56b => ?_)
            refine tw_iconst F dX3_readKey_132 ki_1 (fun z57 hz57 => ?_)
            refine tu_iadd F dX3_readKey_133 (by omega) (fun z58 hz58 => ?_)
            refine p_3_58 F h m_a0 r_a0 (by omega) dX3_readKey_134 (fun f59 H locs e59p hf59 h => ?_)
            have hX : OB L R O a0_script f0 f59 := OB_fr hX hf59 (by decide +kernel)
            have hk : fr L R [(3, 2), (3, 3), (3, 12), (6, 15)] [3, 6, 23, 36, 37] f0 f59 := hk.tr hf59 rfl rfl
            have e60 : fi f59 a0 8 = fi f50 a0 8 := hf59.efi m_a0 r_a0 rfl
            have e61 : fld f59 a0 1 = .ref a0_script := (hf59.efl m_a0 r_a0 rfl).trans e53
            have e62 : fi f59 a0_script 14 = fi f50 a0_script 14 := hf59.efi m_a0_script r_a0_script rfl
            refine lv_aload_n F.1 F.2.1 dX3_readKey_137 rfl (lv_at hl 1 rfl) ?_
            refine tw_Vi (As := []) F hZ h yk_X3_readEnd mw_553 mw_554 mw_555 (s_X3_readEnd l D cy L R O f59 a0 m_a0 r_a0) rfl rfl m_a0 r_a0 (fun e q => (T_3 e).mp q) rfl hl.1 rfl (Nat.le_of_ble_eq_true rfl) ⟨Nat.le_of_ble_eq_true rfl, Nat.le_of_ble_eq_true rfl⟩ ⟨Nat.le_of_ble_eq_true rfl, Nat.le_of_ble_eq_true rfl⟩ dX3_readKey_138 (fun v64 f63 H locs hp63 h => ?_)
            obtain ⟨hf63, hv64a, hv64b, hv64p0⟩ := hp63
            have hX : OB L R O a0_script f0 f63 := OB_fr hX hf63 (by decide +kernel)
            have hk : fr L R [(3, 2), (3, 3), (3, 12), (6, 15)] [3, 6, 23, 36, 37] f0 f63 := hk.tr hf63 rfl rfl
            have e65 : fi f63 a0 8 = fi f59 a0 8 := hf63.efi m_a0 r_a0 rfl
            have e66 : fld f63 a0 1 = .ref a0_script := (hf63.efl m_a0 r_a0 rfl).trans e61
            have e67 : fi f63 a0_script 14 = fi f59 a0_script 14 := hf63.efi m_a0_script r_a0_script rfl
            exact hret f63 _ _ _ _ v64 dX3_readKey_141 (tw_nb (by omega)) ⟨hk, by omega, by omega, by omega, by rw [hs1]; exact hX⟩ h
          · refine lv_aload_n F.1 F.2.1 dX3_readKey_109 rfl (lv_at hl 1 rfl) ?_
            refine tw_Vi (As := []) F hZ h yk_X3_misplaced mw_541 mw_542 mw_543 (s_X3_misplaced l D cy L R O f38 a0 m_a0 r_a0) rfl rfl m_a0 r_a0 (fun e q => (T_3 e).mp q) rfl hl.1 rfl (Nat.le_of_ble_eq_true rfl) ⟨Nat.le_of_ble_eq_true rfl, Nat.le_of_ble_eq_true rfl⟩ ⟨Nat.le_of_ble_eq_true rfl, Nat.le_of_ble_eq_true rfl⟩ dX3_readKey_110 (fun v69 f68 H locs hp68 h => ?_)
            obtain ⟨hf68, hv69a, hv69b⟩ := hp68
            have hX : OB L R O a0_script f0 f68 := OB_fr hX hf68 (by decide +kernel)
            have hk : fr L R [(3, 2), (3, 3), (3, 12), (6, 15)] [3, 6, 23, 36, 37] f0 f68 := hk.tr hf68 rfl rfl
            have e70 : fi f68 a0 8 = fi f38 a0 8 := hf68.efi m_a0 r_a0 rfl
            have e71 : fld f68 a0 1 = .ref a0_script := (hf68.efl m_a0 r_a0 rfl).trans e40
            have e72 : fi f68 a0_script 14 = fi f38 a0_script 14 := hf68.efi m_a0_script r_a0_script rfl
            have e73 : fi f68 a0 12 = fi f38 a0 12 := hf68.efi m_a0 r_a0 rfl
            exact hret f68 _ _ _ _ v69 dX3_readKey_113 (tw_nb (by omega)) ⟨hk, by omega, by omega, by omega, by rw [hs1]; exact hX⟩ h
        · refine lv_aload_n F.1 F.2.1 dX3_readKey_86 rfl (lv_at hl 1 rfl) ?_
          refine tw_Vi (As := []) F hZ h yk_X3_misplaced mw_541 mw_542 mw_543 (s_X3_misplaced l D cy L R O f27 a0 m_a0 r_a0) rfl rfl m_a0 r_a0 (fun e q => (T_3 e).mp q) rfl hl.1 rfl (Nat.le_of_ble_eq_true rfl) ⟨Nat.le_of_ble_eq_true rfl, Nat.le_of_ble_eq_true rfl⟩ ⟨Nat.le_of_ble_eq_true rfl, Nat.le_of_ble_eq_true rfl⟩ dX3_readKey_87 (fun v75 f74 H locs hp74 h => ?_)
          obtain ⟨hf74, hv75a, hv75b⟩ := hp74
          have hX : OB L R O a0_script f0 f74 := OB_fr hX hf74 (by decide +kernel)
          have hk : fr L R [(3, 2), (3, 3), (3, 12), (6, 15)] [3, 6, 23, 36, 37] f0 f74 := hk.tr hf74 rfl rfl
          have e76 : fi f74 a0 8 = fi f27 a0 8 := hf74.efi m_a0 r_a0 rfl
          have e77 : fld f74 a0 1 = .ref a0_script := (hf74.efl m_a0 r_a0 rfl).trans e29
          have e78 : fi f74 a0_script 14 = fi f27 a0_script 14 := hf74.efi m_a0_script r_a0_script rfl
          have e79 : fi f74 a0 12 = fi f27 a0 12 := hf74.efi m_a0 r_a0 rfl
          exact hret f74 _ _ _ _ v75 dX3_readKey_90 (tw_nb (by omega)) ⟨hk, by omega, by omega, by omega, by rw [hs1]; exact hX⟩ h
      · refine lv_aload_n F.1 F.2.1 dX3_readKey_55 rfl (lv_at hl 0 rfl) ?_
        refine tw_iconst F dX3_readKey_56 ki_3 (fun z80 hz80 => ?_)
        refine tw_Vi (As := [.int z80]) F hZ h yk_X3_fail mw_420 mw_421 mw_422 (s_X3_fail l D cy L R O f8 a0 m_a0 r_a0 z80 ⟨by omega, by omega⟩) rfl rfl m_a0 r_a0 (fun e q => (T_3 e).mp q) rfl hl.1 rfl (Nat.le_of_ble_eq_true rfl) ⟨Nat.le_of_ble_eq_true rfl, Nat.le_of_ble_eq_true rfl⟩ ⟨Nat.le_of_ble_eq_true rfl, Nat.le_of_ble_eq_true rfl⟩ dX3_readKey_57 (fun v82 f81 H locs hp81 h => ?_)
        obtain ⟨hf81, hv82a, hv82b⟩ := hp81
        have hX : OB L R O a0_script f0 f81 := OB_fr hX hf81 (by decide +kernel)
        have hk : fr L R [(3, 2), (3, 3), (3, 12), (6, 15)] [3, 6, 23, 36, 37] f0 f81 := hk.tr hf81 rfl rfl
        have e83 : fi f81 a0 8 = fi f8 a0 8 := hf81.efi m_a0 r_a0 rfl
        have e84 : fld f81 a0 1 = .ref a0_script := (hf81.efl m_a0 r_a0 rfl).trans e10
        have e85 : fi f81 a0_script 14 = fi f8 a0_script 14 := hf81.efi m_a0_script r_a0_script rfl
        have e86 : fi f81 a0 12 = fi f8 a0 12 := hf81.efi m_a0 r_a0 rfl
        exact hret f81 _ _ _ _ v82 dX3_readKey_60 (tw_nb (by omega)) ⟨hk, by omega, by omega, by omega, by rw [hs1]; exact hX⟩ h
    · refine lv_aload_n F.1 F.2.1 dX3_readKey_35 rfl (lv_at hl 0 rfl) ?_
      refine tw_Vi (As := []) F hZ h yk_X3_misplaced mw_541 mw_542 mw_543 (s_X3_misplaced l D cy L R O f8 a0 m_a0 r_a0) rfl rfl m_a0 r_a0 (fun e q => (T_3 e).mp q) rfl hl.1 rfl (Nat.le_of_ble_eq_true rfl) ⟨Nat.le_of_ble_eq_true rfl, Nat.le_of_ble_eq_true rfl⟩ ⟨Nat.le_of_ble_eq_true rfl, Nat.le_of_ble_eq_true rfl⟩ dX3_readKey_36 (fun v88 f87 H locs hp87 h => ?_)
      obtain ⟨hf87, hv88a, hv88b⟩ := hp87
      have hX : OB L R O a0_script f0 f87 := OB_fr hX hf87 (by decide +kernel)
      have hk : fr L R [(3, 2), (3, 3), (3, 12), (6, 15)] [3, 6, 23, 36, 37] f0 f87 := hk.tr hf87 rfl rfl
      have e89 : fi f87 a0 8 = fi f8 a0 8 := hf87.efi m_a0 r_a0 rfl
      have e90 : fld f87 a0 1 = .ref a0_script := (hf87.efl m_a0 r_a0 rfl).trans e10
      have e91 : fi f87 a0_script 14 = fi f8 a0_script 14 := hf87.efi m_a0_script r_a0_script rfl
      have e92 : fi f87 a0 12 = fi f8 a0 12 := hf87.efi m_a0 r_a0 rfl
      exact hret f87 _ _ _ _ v88 dX3_readKey_39 (tw_nb (by omega)) ⟨hk, by omega, by omega, by omega, by rw [hs1]; exact hX⟩ h
  · refine lv_aload_n F.1 F.2.1 dX3_readKey_12 rfl (lv_at hl 0 rfl) ?_
    refine tw_iconst F dX3_readKey_13 ki_5 (fun z93 hz93 => ?_)
    refine tw_Vi (As := [.int z93]) F hZ h yk_X3_fail mw_420 mw_421 mw_422 (s_X3_fail l D cy L R O f0 a0 m_a0 r_a0 z93 ⟨by omega, by omega⟩) rfl rfl m_a0 r_a0 (fun e q => (T_3 e).mp q) rfl hl.1 rfl (Nat.le_of_ble_eq_true rfl) ⟨Nat.le_of_ble_eq_true rfl, Nat.le_of_ble_eq_true rfl⟩ ⟨Nat.le_of_ble_eq_true rfl, Nat.le_of_ble_eq_true rfl⟩ dX3_readKey_14 (fun v95 f94 H locs hp94 h => ?_)
    obtain ⟨hf94, hv95a, hv95b⟩ := hp94
    have hX : OB L R O a0_script f0 f94 := OB_fr hX hf94 (by decide +kernel)
    have hk : fr L R [(3, 2), (3, 3), (3, 12), (6, 15)] [3, 6, 23, 36, 37] f0 f94 := hk.tr hf94 rfl rfl
    have e96 : fi f94 a0 12 = fi f0 a0 12 := hf94.efi m_a0 r_a0 rfl
    have e97 : fi f94 a0 8 = fi f0 a0 8 := hf94.efi m_a0 r_a0 rfl
    have e98 : fld f94 a0 1 = .ref a0_script := (hf94.efl m_a0 r_a0 rfl).trans t_a0_script
    have e99 : fi f94 a0_script 14 = fi f0 a0_script 14 := hf94.efi m_a0_script r_a0_script rfl
    exact hret f94 _ _ _ _ v95 dX3_readKey_17 (tw_nb (by omega)) ⟨hk, by omega, by omega, by omega, by rw [hs1]; exact hX⟩ h
theorem dX3_readGo_0 : decode cX3_readGo 0 = .ok (.aload_n 0, 1) := by decide +kernel
theorem dX3_readGo_1 : decode cX3_readGo 1 = .ok (.dup, 1) := by decide +kernel
theorem dX3_readGo_2 : decode cX3_readGo 2 = .ok (.getfield 58, 3) := by decide +kernel
theorem dX3_readGo_5 : decode cX3_readGo 5 = .ok (.iconst 1, 1) := by decide +kernel
theorem dX3_readGo_6 : decode cX3_readGo 6 = .ok (.iadd, 1) := by decide +kernel
theorem dX3_readGo_7 : decode cX3_readGo 7 = .ok (.putfield 58, 3) := by decide +kernel
theorem dX3_readGo_10 : decode cX3_readGo 10 = .ok (.aload_n 0, 1) := by decide +kernel
theorem dX3_readGo_11 : decode cX3_readGo 11 = .ok (.invokevirtual 155, 3) := by decide +kernel
theorem dX3_readGo_14 : decode cX3_readGo 14 = .ok (.ifCond .ne 8, 3) := by decide +kernel
theorem dX3_readGo_22 : decode cX3_readGo 22 = .ok (.aload_n 0, 1) := by decide +kernel
theorem dX3_readGo_23 : decode cX3_readGo 23 = .ok (.getfield 55, 3) := by decide +kernel
theorem mw_69 : Cond.fieldLink RX3 55 "AskBack$Reader" "goCount" "I" ∈ wsL_law := inr_3 _ (List.mem_of_getElem? (i := 21) rfl)
section
variable {p : Program} {l : Launch} {e : Env} {R0 : Room} {s : State} {m : MethodId} {args : Array Value} {below : List Frame} {meth : Method} {c : Code} {H H0 : Heap} {locs : List Loc} {cells slots : Nat} {Q : State → Prop} {cc : ByteArray} {nL : Nat} {D : va_G} {cy : Nat → ClassId} {A : Nat → Prop} {L : List Nat} {R : Nat → Nat} {f : Nat → va_E} {pc : Nat} {ls : Array Slot} {rest : List Value} {a : Nat}
theorem g_3_55 (F : CallFix p m c cc nL s args wsL_law RX3) (h : tS D cy A H0 L R (TT cy L R) f s H locs) (ha : a ∈ L) (hr : R a = 3) (hdg : decode cc pc = .ok (.getfield 55, 3)) (kk : ∀ x : Int32, x.toInt = fi f a 11 → 0 ≤ x.toInt → x.toInt ≤ 100 → W p l e R0 s m args below meth c H locs cells slots Q (F0 m (pc + 3) ls (.int x :: rest))) : W p l e R0 s m args below meth c H locs cells slots Q (F0 m pc ls (.ref a :: rest)) := tu_geti F h ha hr (fun e q => (T_3 e).mp q) rfl inlX3 rfl (Nat.le_of_ble_eq_true rfl) mw_69 hdg (fun x h1 h2 h3 => kk x h1 h2 h3)
end
theorem dX3_readGo_26 : decode cX3_readGo 26 = .ok (.bipush 100, 2) := by decide +kernel
theorem dX3_readGo_64 : decode cX3_readGo 64 = .ok (.aload_n 0, 1) := by decide +kernel
theorem dX3_readGo_65 : decode cX3_readGo 65 = .ok (.dup, 1) := by decide +kernel
theorem dX3_readGo_66 : decode cX3_readGo 66 = .ok (.getfield 58, 3) := by decide +kernel
theorem dX3_readGo_69 : decode cX3_readGo 69 = .ok (.iconst 1, 1) := by decide +kernel
theorem dX3_readGo_70 : decode cX3_readGo 70 = .ok (.iadd, 1) := by decide +kernel
theorem dX3_readGo_71 : decode cX3_readGo 71 = .ok (.putfield 58, 3) := by decide +kernel
theorem dX3_readGo_74 : decode cX3_readGo 74 = .ok (.iconst 1, 1) := by decide +kernel
theorem dX3_readGo_75 : decode cX3_readGo 75 = .ok (.ireturn, 1) := by decide +kernel
theorem dX3_readGo_28 : decode cX3_readGo 28 = .ok (.if_icmp .ge 36, 3) := by decide +kernel
theorem dX3_readGo_31 : decode cX3_readGo 31 = .ok (.aload_n 0, 1) := by decide +kernel
theorem dX3_readGo_32 : decode cX3_readGo 32 = .ok (.getfield 49, 3) := by decide +kernel
theorem mw_67 : Cond.fieldLink RX3 49 "AskBack$Reader" "goTokens" "[I" ∈ wsL_law := inr_3 _ (List.mem_of_getElem? (i := 19) rfl)
section
variable {p : Program} {l : Launch} {e : Env} {R0 : Room} {s : State} {m : MethodId} {args : Array Value} {below : List Frame} {meth : Method} {c : Code} {H H0 : Heap} {locs : List Loc} {cells slots : Nat} {Q : State → Prop} {cc : ByteArray} {nL : Nat} {D : va_G} {cy : Nat → ClassId} {A : Nat → Prop} {L : List Nat} {R : Nat → Nat} {f : Nat → va_E} {pc : Nat} {ls : Array Slot} {rest : List Value} {a : Nat}
theorem g_3_49 (F : CallFix p m c cc nL s args wsL_law RX3) (h : tS D cy A H0 L R (TT cy L R) f s H locs) (ha : a ∈ L) (hr : R a = 3) (hdg : decode cc pc = .ok (.getfield 49, 3)) (kk : ∀ b : Nat, b ∈ L → R b = 32 → fld f a 9 = .ref b → W p l e R0 s m args below meth c H locs cells slots Q (F0 m (pc + 3) ls (.ref b :: rest))) : W p l e R0 s m args below meth c H locs cells slots Q (F0 m pc ls (.ref a :: rest)) := tu_getr F h ha hr (fun e q => (T_3 e).mp q) rfl inlX3 rfl (Nat.le_of_ble_eq_true rfl) mw_67 hdg kk
end
theorem dX3_readGo_35 : decode cX3_readGo 35 = .ok (.aload_n 0, 1) := by decide +kernel
theorem dX3_readGo_36 : decode cX3_readGo 36 = .ok (.getfield 55, 3) := by decide +kernel
theorem dX3_readGo_39 : decode cX3_readGo 39 = .ok (.aload_n 0, 1) := by decide +kernel
theorem dX3_readGo_40 : decode cX3_readGo 40 = .ok (.getfield 58, 3) := by decide +kernel
theorem dX3_readGo_43 : decode cX3_readGo 43 = .ok (.iastore, 1) := by decide +kernel
section
variable {p : Program} {l : Launch} {e : Env} {R0 : Room} {s : State} {m : MethodId} {args : Array Value} {below : List Frame} {meth : Method} {c : Code} {H H0 : Heap} {locs : List Loc} {cells slots : Nat} {Q : State → Prop} {cc : ByteArray} {nL : Nat} {D : va_G} {cy : Nat → ClassId} {A : Nat → Prop} {L : List Nat} {R : Nat → Nat} {f : Nat → va_E} {pc : Nat} {ls : Array Slot} {rest : List Value} {a : Nat}
theorem st_32 {own : String} (F : CallFix p m c cc nL s args wsL_law own) (h : tS D cy A H0 L R (TT cy L R) f s H locs) {i : Int32} {x : Int32} (ha : a ∈ L) (hr : R a = 32) (hb : 0 ≤ i.toInt ∧ i.toInt < 100) (hv : 0 ≤ x.toInt ∧ x.toInt ≤ 601) (hdg : decode cc pc = .ok (.iastore, 1)) (kk : ∀ (f1 : Nat → va_E) (H1 : Heap) (locs1 : List Loc), fr L R [] [32] f f1 → tS D cy A H0 L R (TT cy L R) f1 s H1 locs1 → W p l e R0 s m args below meth c H1 locs1 cells slots Q (F0 m (pc + 1) ls (rest))) : W p l e R0 s m args below meth c H locs cells slots Q (F0 m pc ls (.int x :: .int i :: .ref a :: rest)) := tu_iast F h ha hr T_32 hb.1 hb.2 hv hdg (fun f1 H1 locs1 h1 h2 h3 h4 => kk f1 H1 locs1 h3 h4)
end
theorem dX3_readGo_44 : decode cX3_readGo 44 = .ok (.aload_n 0, 1) := by decide +kernel
theorem dX3_readGo_45 : decode cX3_readGo 45 = .ok (.getfield 52, 3) := by decide +kernel
theorem mw_68 : Cond.fieldLink RX3 52 "AskBack$Reader" "goSlots" "[I" ∈ wsL_law := inr_3 _ (List.mem_of_getElem? (i := 20) rfl)
section
variable {p : Program} {l : Launch} {e : Env} {R0 : Room} {s : State} {m : MethodId} {args : Array Value} {below : List Frame} {meth : Method} {c : Code} {H H0 : Heap} {locs : List Loc} {cells slots : Nat} {Q : State → Prop} {cc : ByteArray} {nL : Nat} {D : va_G} {cy : Nat → ClassId} {A : Nat → Prop} {L : List Nat} {R : Nat → Nat} {f : Nat → va_E} {pc : Nat} {ls : Array Slot} {rest : List Value} {a : Nat}
theorem g_3_52 (F : CallFix p m c cc nL s args wsL_law RX3) (h : tS D cy A H0 L R (TT cy L R) f s H locs) (ha : a ∈ L) (hr : R a = 3) (hdg : decode cc pc = .ok (.getfield 52, 3)) (kk : ∀ b : Nat, b ∈ L → R b = 33 → fld f a 10 = .ref b → W p l e R0 s m args below meth c H locs cells slots Q (F0 m (pc + 3) ls (.ref b :: rest))) : W p l e R0 s m args below meth c H locs cells slots Q (F0 m pc ls (.ref a :: rest)) := tu_getr F h ha hr (fun e q => (T_3 e).mp q) rfl inlX3 rfl (Nat.le_of_ble_eq_true rfl) mw_68 hdg kk
end
theorem dX3_readGo_48 : decode cX3_readGo 48 = .ok (.aload_n 0, 1) := by decide +kernel
theorem dX3_readGo_49 : decode cX3_readGo 49 = .ok (.getfield 55, 3) := by decide +kernel
theorem dX3_readGo_52 : decode cX3_readGo 52 = .ok (.iload_n 1, 1) := by decide +kernel
theorem dX3_readGo_53 : decode cX3_readGo 53 = .ok (.iastore, 1) := by decide +kernel
section
variable {p : Program} {l : Launch} {e : Env} {R0 : Room} {s : State} {m : MethodId} {args : Array Value} {below : List Frame} {meth : Method} {c : Code} {H H0 : Heap} {locs : List Loc} {cells slots : Nat} {Q : State → Prop} {cc : ByteArray} {nL : Nat} {D : va_G} {cy : Nat → ClassId} {A : Nat → Prop} {L : List Nat} {R : Nat → Nat} {f : Nat → va_E} {pc : Nat} {ls : Array Slot} {rest : List Value} {a : Nat}
theorem se_33 {own : String} (F : CallFix p m c cc nL s args wsL_law own) (h : tS D cy A H0 L R (TT cy L R) f s H locs) {i : Int32} {x : Int32} (ha : a ∈ L) (hr : R a = 33) (hb : 0 ≤ i.toInt ∧ i.toInt < 100) (hv : 0 ≤ x.toInt ∧ x.toInt ≤ 99) (hdg : decode cc pc = .ok (.iastore, 1)) (kk : ∀ (f1 : Nat → va_E) (H1 : Heap) (locs1 : List Loc), (∀ j, eli f1 a j = if j = i.toInt.toNat then x.toInt else eli f a j) → (∀ a', a' ≠ a → f1 a' = f a') → fr L R [] [33] f f1 → tS D cy A H0 L R (TT cy L R) f1 s H1 locs1 → W p l e R0 s m args below meth c H1 locs1 cells slots Q (F0 m (pc + 1) ls (rest))) : W p l e R0 s m args below meth c H locs cells slots Q (F0 m pc ls (.int x :: .int i :: .ref a :: rest)) := tu_iast F h ha hr T_33 hb.1 hb.2 hv hdg (fun f1 H1 locs1 h1 h2 h3 h4 => kk f1 H1 locs1 h1 h2 h3 h4)
end
theorem dX3_readGo_54 : decode cX3_readGo 54 = .ok (.aload_n 0, 1) := by decide +kernel
theorem dX3_readGo_55 : decode cX3_readGo 55 = .ok (.dup, 1) := by decide +kernel
theorem dX3_readGo_56 : decode cX3_readGo 56 = .ok (.getfield 55, 3) := by decide +kernel
theorem dX3_readGo_59 : decode cX3_readGo 59 = .ok (.iconst 1, 1) := by decide +kernel
theorem dX3_readGo_60 : decode cX3_readGo 60 = .ok (.iadd, 1) := by decide +kernel
theorem dX3_readGo_61 : decode cX3_readGo 61 = .ok (.putfield 55, 3) := by decide +kernel
section
variable {p : Program} {l : Launch} {e : Env} {R0 : Room} {s : State} {m : MethodId} {args : Array Value} {below : List Frame} {meth : Method} {c : Code} {H H0 : Heap} {locs : List Loc} {cells slots : Nat} {Q : State → Prop} {cc : ByteArray} {nL : Nat} {D : va_G} {cy : Nat → ClassId} {A : Nat → Prop} {L : List Nat} {R : Nat → Nat} {f : Nat → va_E} {pc : Nat} {ls : Array Slot} {rest : List Value} {a : Nat}
theorem pe_3_55 (F : CallFix p m c cc nL s args wsL_law RX3) (h : tS D cy A H0 L R (TT cy L R) f s H locs) {x : Int32} (ha : a ∈ L) (hr : R a = 3) (hv : 0 ≤ x.toInt ∧ x.toInt ≤ 100) (hdg : decode cc pc = .ok (.putfield 55, 3)) (kk : ∀ (f1 : Nat → va_E) (H1 : Heap) (locs1 : List Loc), fld f1 a 11 = .int x → (∀ a', a' ≠ a → f1 a' = f a') → fr L R [(3, 11)] [3] f f1 → tS D cy A H0 L R (TT cy L R) f1 s H1 locs1 → W p l e R0 s m args below meth c H1 locs1 cells slots Q (F0 m (pc + 3) ls (rest))) : W p l e R0 s m args below meth c H locs cells slots Q (F0 m pc ls (.int x :: .ref a :: rest)) := tu_putiE (k := 11) F h ha hr T_3 rfl hv.1 hv.2 inlX3 tyX3_ok nmX3 rfl (Nat.le_of_ble_eq_true rfl) mw_69 rfl rfl rfl hdg kk
end
theorem dX3_readGo_17 : decode cX3_readGo 17 = .ok (.aload_n 0, 1) := by decide +kernel
theorem dX3_readGo_18 : decode cX3_readGo 18 = .ok (.invokevirtual 119, 3) := by decide +kernel
theorem dX3_readGo_21 : decode cX3_readGo 21 = .ok (.ireturn, 1) := by decide +kernel
def rm_X3_readGo : Room := { frames := 2, cells := 0, slots := 0, locals := 41 }
set_option maxHeartbeats 4000000 in
set_option maxRecDepth 100000 in
theorem s_X3_readGo (l : Launch) (D : va_G) (cy : Nat → ClassId) (L : List Nat) (R O : Nat → Nat) (f0 : Nat → va_E) (hG : GG L R O f0) (a0 : Nat) (m_a0 : a0 ∈ L) (r_a0 : R a0 = 3) (x1 : Int32) (b1 : 0 ≤ x1.toInt ∧ x1.toInt ≤ 99) (pre0 : fi f0 a0 12 < fi f0 a0 8) (pre1 : fi f0 a0 11 ≤ 99) : ∀ sz, Met l yX3_readGo (Cond.code yX3_readGo cX3_readGo 2 (some .boolean) :: wsL_law) rm_X3_readGo (va_Pc [.ref a0, .int x1] (tPZ D cy L R (TT cy L R) f0 sz)) (va_Qi (fun (r : Int32) f1 => fr L R [(3, 2), (3, 3), (3, 11), (3, 12)] [3, 32, 33] f0 f1 ∧ 0 ≤ r.toInt ∧ r.toInt ≤ 1 ∧ fi f0 a0 12 ≤ fi f1 a0 12 ∧ fi f1 a0 11 ≤ fi f0 a0 11 + 1 ∧ (∀ d, GOd f0 a0 d → GOd f1 a0 d) ∧ (r.toInt = 0 ∨ GOd f1 a0 x1.toInt.toNat) ∧ OB L R O (rfa f0 a0 1) f0 f1) (tB D (tA L sz) L R (TT cy L R)) (tA L sz)) 0 0 (tA L sz) := by
  refine tw_enteri (by decide +kernel) rfl (Nat.le_of_ble_eq_true rfl) ?_
  intro p e s m below meth c A ls args Q F hZ h hl hret
  have hl : lv_has ls 2 [(0, .ref a0), (1, .int x1)] := hl
  have hk : fr L R [(3, 2), (3, 3), (3, 11), (3, 12)] [3, 32, 33] f0 f0 := fr.rf
  have t_a0_at := h.bfi m_a0 r_a0 (fun e q => (T_3 e).mp q) (k := 12) rfl
  have t_a0_tokenCount := h.bfi m_a0 r_a0 (fun e q => (T_3 e).mp q) (k := 8) rfl
  obtain ⟨a0_script, m_a0_script, r_a0_script, t_a0_script⟩ := h.rf m_a0 r_a0 (fun e q => (T_3 e).mp q) (k := 1) rfl
  have t_a0_script_partCount := h.bfi m_a0_script r_a0_script (fun e q => (T_6 e).mp q) (k := 14) rfl
  obtain ⟨a0_goSlots, m_a0_goSlots, r_a0_goSlots, t_a0_goSlots⟩ := h.rf m_a0 r_a0 (fun e q => (T_3 e).mp q) (k := 10) rfl
  have t_a0_goCount := h.bfi m_a0 r_a0 (fun e q => (T_3 e).mp q) (k := 11) rfl
  have hs1 := rfa_of t_a0_script
  have hGm : ∀ d, GOd f0 a0 d → GOd f0 a0 d := fun _ q => q
  have hX : OB L R O a0_script f0 f0 := OB_rf
  refine lv_aload_n F.1 F.2.1 dX3_readGo_0 rfl (lv_at hl 0 rfl) ?_
  refine lv_dup F.1 F.2.1 dX3_readGo_1 rfl ?_
  refine g_3_58 F h m_a0 r_a0 dX3_readGo_2 (fun v1 hv1 hv1a hv1b => ?_)
  refine tw_iconst F dX3_readGo_5 ki_1 (fun z2 hz2 => ?_)
  refine tu_iadd F dX3_readGo_6 (by omega) (fun z3 hz3 => ?_)
  refine p_3_58 F h m_a0 r_a0 (by omega) dX3_readGo_7 (fun f4 H locs e4p hf4 h => ?_)
  have hX : OB L R O a0_script f0 f4 := OB_fr hX hf4 (by decide +kernel)
  have hGm : (∀ d, GOd f0 a0 d → GOd f4 a0 d) := (fun d q => GO_fr (hGm d q) hf4 (by decide +kernel) (by decide +kernel) (by decide +kernel) m_a0 r_a0 t_a0_goSlots m_a0_goSlots r_a0_goSlots)
  have hk : fr L R [(3, 2), (3, 3), (3, 11), (3, 12)] [3, 32, 33] f0 f4 := hk.tr hf4 rfl rfl
  have e5 : fi f4 a0 8 = fi f0 a0 8 := hf4.efi m_a0 r_a0 rfl
  have e6 : fld f4 a0 1 = .ref a0_script := (hf4.efl m_a0 r_a0 rfl).trans t_a0_script
  have e7 : fi f4 a0_script 14 = fi f0 a0_script 14 := hf4.efi m_a0_script r_a0_script rfl
  have e8 : fld f4 a0 10 = .ref a0_goSlots := (hf4.efl m_a0 r_a0 rfl).trans t_a0_goSlots
  have e9 : fi f4 a0 11 = fi f0 a0 11 := hf4.efi m_a0 r_a0 rfl
  refine lv_aload_n F.1 F.2.1 dX3_readGo_10 rfl (lv_at hl 0 rfl) ?_
  refine tw_Vi (As := []) F hZ h yk_X3_isName mw_536 mw_537 mw_538 (s_X3_isName l D cy L R O f4 a0 m_a0 r_a0) rfl rfl m_a0 r_a0 (fun e q => (T_3 e).mp q) rfl hl.1 rfl (Nat.le_of_ble_eq_true rfl) ⟨Nat.le_of_ble_eq_true rfl, Nat.le_of_ble_eq_true rfl⟩ ⟨Nat.le_of_ble_eq_true rfl, Nat.le_of_ble_eq_true rfl⟩ dX3_readGo_11 (fun v11 f10 H locs hp10 h => ?_)
  obtain ⟨rfl, hv11a, hv11b, hv11p0⟩ := hp10
  refine tw_if_ne (tgt := 22) F dX3_readGo_14 (by decide) (fun b12 => ?_) (fun b12 => ?_)
  · refine lv_aload_n F.1 F.2.1 dX3_readGo_22 rfl (lv_at hl 0 rfl) ?_
    refine g_3_55 F h m_a0 r_a0 dX3_readGo_23 (fun v13 hv13 hv13a hv13b => ?_)
    refine tw_bipush F dX3_readGo_26 kb_100 (fun z14 hz14 => ?_)
    have j_64 : ∀ (f15 : Nat → va_E) (H : Heap) (locs : List Loc) (ls : Array Slot), fi f15 a0 11 ≤ fi f0 a0 11 + 1 → (GOd f15 a0 x1.toInt.toNat) → tS D cy A s.heap L R (TT cy L R) f15 s H locs → OB L R O a0_script f0 f15 → (∀ d, GOd f0 a0 d → GOd f15 a0 d) → fr L R [(3, 2), (3, 3), (3, 11), (3, 12)] [3, 32, 33] f0 f15 → fr L R [(3, 11)] [3, 32, 33] f4 f15 → lv_has ls 2 [(0, .ref a0)] → W p l e rm_X3_readGo s m args below meth c H locs 0 0 Q (F0 m 64 ls []) := by
      intro f15 H locs ls b16 ip64_0 h hX hGm hk hb64 hl
      have e17 : fi f15 a0 8 = fi f4 a0 8 := hb64.efi m_a0 r_a0 rfl
      have e18 : fld f15 a0 1 = .ref a0_script := (hb64.efl m_a0 r_a0 rfl).trans e6
      have e19 : fi f15 a0_script 14 = fi f4 a0_script 14 := hb64.efi m_a0_script r_a0_script rfl
      have e20 : fld f15 a0 10 = .ref a0_goSlots := (hb64.efl m_a0 r_a0 rfl).trans e8
      have e21 : fi f15 a0 12 = fi f4 a0 12 := hb64.efi m_a0 r_a0 rfl
      refine lv_aload_n F.1 F.2.1 dX3_readGo_64 rfl (lv_at hl 0 rfl) ?_
      refine lv_dup F.1 F.2.1 dX3_readGo_65 rfl ?_
      refine g_3_58 F h m_a0 r_a0 dX3_readGo_66 (fun v22 hv22 hv22a hv22b => ?_)
      refine tw_iconst F dX3_readGo_69 ki_1 (fun z23 hz23 => ?_)
      refine tu_iadd F dX3_readGo_70 (by omega) (fun z24 hz24 => ?_)
      refine p_3_58 F h m_a0 r_a0 (by omega) dX3_readGo_71 (fun f25 H locs e25p hf25 h => ?_)
      have hX : OB L R O a0_script f0 f25 := OB_fr hX hf25 (by decide +kernel)
      have hGm : (∀ d, GOd f0 a0 d → GOd f25 a0 d) := (fun d q => GO_fr (hGm d q) hf25 (by decide +kernel) (by decide +kernel) (by decide +kernel) m_a0 r_a0 e20 m_a0_goSlots r_a0_goSlots)
      have hk : fr L R [(3, 2), (3, 3), (3, 11), (3, 12)] [3, 32, 33] f0 f25 := hk.tr hf25 rfl rfl
      have e26 : fi f25 a0 8 = fi f15 a0 8 := hf25.efi m_a0 r_a0 rfl
      have e27 : fld f25 a0 1 = .ref a0_script := (hf25.efl m_a0 r_a0 rfl).trans e18
      have e28 : fi f25 a0_script 14 = fi f15 a0_script 14 := hf25.efi m_a0_script r_a0_script rfl
      have e29 : fld f25 a0 10 = .ref a0_goSlots := (hf25.efl m_a0 r_a0 rfl).trans e20
      have e30 : fi f25 a0 11 = fi f15 a0 11 := hf25.efi m_a0 r_a0 rfl
      have hGz : GOd f25 a0 x1.toInt.toNat := GO_fr ip64_0 hf25 (by decide +kernel) (by decide +kernel) (by decide +kernel) m_a0 r_a0 e20 m_a0_goSlots r_a0_goSlots
      refine tw_iconst F dX3_readGo_74 ki_1 (fun z31 hz31 => ?_)
      exact hret f25 _ _ _ _ z31 dX3_readGo_75 (tw_nb (by omega)) ⟨hk, by omega, by omega, by omega, by omega, hGm, Or.inr hGz, by rw [hs1]; exact hX⟩ h
    have hb64 : fr L R [(3, 11)] [3, 32, 33] f4 f4 := fr.rf
    refine tw_icmp_ge (tgt := 64) F dX3_readGo_28 (by decide) (fun b32 => ?_) (fun b32 => ?_)
    · exact j_64 f4 _ _ _ (by omega) (False.elim (by omega)) h hX hGm hk hb64 (lv_sub hl [0] rfl)
    · refine lv_aload_n F.1 F.2.1 dX3_readGo_31 rfl (lv_at hl 0 rfl) ?_
      refine g_3_49 F h m_a0 r_a0 dX3_readGo_32 (fun o33 m_o33 r_o33 ho33 => ?_)
      refine lv_aload_n F.1 F.2.1 dX3_readGo_35 rfl (lv_at hl 0 rfl) ?_
      refine g_3_55 F h m_a0 r_a0 dX3_readGo_36 (fun v34 hv34 hv34a hv34b => ?_)
      refine lv_aload_n F.1 F.2.1 dX3_readGo_39 rfl (lv_at hl 0 rfl) ?_
      refine g_3_58 F h m_a0 r_a0 dX3_readGo_40 (fun v35 hv35 hv35a hv35b => ?_)
      refine st_32 F h m_o33 r_o33 (by omega) (by omega) dX3_readGo_43 (fun f36 H locs hf36 h => ?_)
      have hX : OB L R O a0_script f0 f36 := OB_fr hX hf36 (by decide +kernel)
      have hGm : (∀ d, GOd f0 a0 d → GOd f36 a0 d) := (fun d q => GO_fr (hGm d q) hf36 (by decide +kernel) (by decide +kernel) (by decide +kernel) m_a0 r_a0 e8 m_a0_goSlots r_a0_goSlots)
      have hk : fr L R [(3, 2), (3, 3), (3, 11), (3, 12)] [3, 32, 33] f0 f36 := hk.tr hf36 rfl rfl
      have hb64 : fr L R [(3, 11)] [3, 32, 33] f4 f36 := hb64.tr hf36 rfl rfl
      have e37 : fi f36 a0 8 = fi f4 a0 8 := hf36.efi m_a0 r_a0 rfl
      have e38 : fld f36 a0 1 = .ref a0_script := (hf36.efl m_a0 r_a0 rfl).trans e6
      have e39 : fi f36 a0_script 14 = fi f4 a0_script 14 := hf36.efi m_a0_script r_a0_script rfl
      have e40 : fld f36 a0 10 = .ref a0_goSlots := (hf36.efl m_a0 r_a0 rfl).trans e8
      have e41 : fi f36 a0 11 = fi f4 a0 11 := hf36.efi m_a0 r_a0 rfl
      have e42 : fi f36 a0 12 = fi f4 a0 12 := hf36.efi m_a0 r_a0 rfl
      refine lv_aload_n F.1 F.2.1 dX3_readGo_44 rfl (lv_at hl 0 rfl) ?_
      refine g_3_52 F h m_a0 r_a0 dX3_readGo_45 (fun o43 m_o43 r_o43 ho43 => ?_)
      obtain rfl := (fld_inj e40 ho43).symm
      refine lv_aload_n F.1 F.2.1 dX3_readGo_48 rfl (lv_at hl 0 rfl) ?_
      refine g_3_55 F h m_a0 r_a0 dX3_readGo_49 (fun v44 hv44 hv44a hv44b => ?_)
      refine lv_iload_n F.1 F.2.1 dX3_readGo_52 rfl (lv_at hl 1 rfl) ?_
      have hGo1 := hGm
      refine se_33 F h m_a0_goSlots r_a0_goSlots (by omega) (by omega) dX3_readGo_53 (fun f45 H locs e45a e45b hf45 h => ?_)
      have hX : OB L R O a0_script f0 f45 := OB_fr hX hf45 (by decide +kernel)
      have hk : fr L R [(3, 2), (3, 3), (3, 11), (3, 12)] [3, 32, 33] f0 f45 := hk.tr hf45 rfl rfl
      have hb64 : fr L R [(3, 11)] [3, 32, 33] f4 f45 := hb64.tr hf45 rfl rfl
      have e46 : fi f45 a0 8 = fi f36 a0 8 := hf45.efi m_a0 r_a0 rfl
      have e47 : fld f45 a0 1 = .ref a0_script := (hf45.efl m_a0 r_a0 rfl).trans e38
      have e48 : fi f45 a0_script 14 = fi f36 a0_script 14 := hf45.efi m_a0_script r_a0_script rfl
      have e49 : fld f45 a0 10 = .ref a0_goSlots := (hf45.efl m_a0 r_a0 rfl).trans e40
      have e50 : fi f45 a0 11 = fi f36 a0 11 := hf45.efi m_a0 r_a0 rfl
      have e51 : fi f45 a0 12 = fi f36 a0 12 := hf45.efi m_a0 r_a0 rfl
      refine lv_aload_n F.1 F.2.1 dX3_readGo_54 rfl (lv_at hl 0 rfl) ?_
      refine lv_dup F.1 F.2.1 dX3_readGo_55 rfl ?_
      refine g_3_55 F h m_a0 r_a0 dX3_readGo_56 (fun v52 hv52 hv52a hv52b => ?_)
      refine tw_iconst F dX3_readGo_59 ki_1 (fun z53 hz53 => ?_)
      refine tu_iadd F dX3_readGo_60 (by omega) (fun z54 hz54 => ?_)
      refine pe_3_55 F h m_a0 r_a0 (by omega) dX3_readGo_61 (fun f55 H locs e55pq e55po hf55 h => ?_)
      have e55p : fi f55 a0 11 = z54.toInt := by unfold fi; rw [e55pq]; rfl
      have hX : OB L R O a0_script f0 f55 := OB_fr hX hf55 (by decide +kernel)
      have hk : fr L R [(3, 2), (3, 3), (3, 11), (3, 12)] [3, 32, 33] f0 f55 := hk.tr hf55 rfl rfl
      have hb64 : fr L R [(3, 11)] [3, 32, 33] f4 f55 := hb64.tr hf55 rfl rfl
      have e56 : fi f55 a0 8 = fi f45 a0 8 := hf55.efi m_a0 r_a0 rfl
      have e57 : fld f55 a0 1 = .ref a0_script := (hf55.efl m_a0 r_a0 rfl).trans e47
      have e58 : fi f55 a0_script 14 = fi f45 a0_script 14 := hf55.efi m_a0_script r_a0_script rfl
      have e59 : fld f55 a0 10 = .ref a0_goSlots := (hf55.efl m_a0 r_a0 rfl).trans e49
      have e60 : fi f55 a0 12 = fi f45 a0 12 := hf55.efi m_a0 r_a0 rfl
      have n0 : a0 ≠ a0_goSlots := ne_r r_a0 r_a0_goSlots (by decide)
      have g10 : rfa f55 a0 10 = a0_goSlots := by rw [hf55.erf m_a0 r_a0 (by decide +kernel), hf45.erf m_a0 r_a0 (by decide +kernel)]; exact rfa_of e40
      have gel : ∀ j, eli f55 a0_goSlots j = if j = v44.toInt.toNat then x1.toInt else eli f36 a0_goSlots j := fun j => by rw [eli_o e55po (Ne.symm n0)]; exact e45a j
      have hGn : GOd f55 a0 x1.toInt.toNat := ⟨v44.toInt.toNat, by omega, by rw [g10, gel, if_pos rfl]; omega⟩
      have hGm : ∀ d, GOd f0 a0 d → GOd f55 a0 d := fun d q => by obtain ⟨i, q1, q2⟩ := hGo1 d q; rw [rfa_of e40] at q2; exact ⟨i, by omega, by rw [g10, gel, if_neg (by omega)]; exact q2⟩
      exact j_64 f55 _ _ _ (by omega) (hGn) h hX hGm hk hb64 (lv_sub hl [0] rfl)
  · refine lv_aload_n F.1 F.2.1 dX3_readGo_17 rfl (lv_at hl 0 rfl) ?_
    refine tw_Vi (As := []) F hZ h yk_X3_misplaced mw_541 mw_542 mw_543 (s_X3_misplaced l D cy L R O f4 a0 m_a0 r_a0) rfl rfl m_a0 r_a0 (fun e q => (T_3 e).mp q) rfl hl.1 rfl (Nat.le_of_ble_eq_true rfl) ⟨Nat.le_of_ble_eq_true rfl, Nat.le_of_ble_eq_true rfl⟩ ⟨Nat.le_of_ble_eq_true rfl, Nat.le_of_ble_eq_true rfl⟩ dX3_readGo_18 (fun v62 f61 H locs hp61 h => ?_)
    obtain ⟨hf61, hv62a, hv62b⟩ := hp61
    have hX : OB L R O a0_script f0 f61 := OB_fr hX hf61 (by decide +kernel)
    have hGm : (∀ d, GOd f0 a0 d → GOd f61 a0 d) := (fun d q => GO_fr (hGm d q) hf61 (by decide +kernel) (by decide +kernel) (by decide +kernel) m_a0 r_a0 e8 m_a0_goSlots r_a0_goSlots)
    have hk : fr L R [(3, 2), (3, 3), (3, 11), (3, 12)] [3, 32, 33] f0 f61 := hk.tr hf61 rfl rfl
    have e63 : fi f61 a0 8 = fi f4 a0 8 := hf61.efi m_a0 r_a0 rfl
    have e64 : fld f61 a0 1 = .ref a0_script := (hf61.efl m_a0 r_a0 rfl).trans e6
    have e65 : fi f61 a0_script 14 = fi f4 a0_script 14 := hf61.efi m_a0_script r_a0_script rfl
    have e66 : fld f61 a0 10 = .ref a0_goSlots := (hf61.efl m_a0 r_a0 rfl).trans e8
    have e67 : fi f61 a0 11 = fi f4 a0 11 := hf61.efi m_a0 r_a0 rfl
    have e68 : fi f61 a0 12 = fi f4 a0 12 := hf61.efi m_a0 r_a0 rfl
    exact hret f61 _ _ _ _ v62 dX3_readGo_21 (tw_nb (by omega)) ⟨hk, by omega, by omega, by omega, by omega, hGm, Or.inl (by omega), by rw [hs1]; exact hX⟩ h
theorem dX3_readPattern_0 : decode cX3_readPattern 0 = .ok (.aload_n 0, 1) := by decide +kernel
theorem dX3_readPattern_1 : decode cX3_readPattern 1 = .ok (.iconst 0, 1) := by decide +kernel
theorem dX3_readPattern_2 : decode cX3_readPattern 2 = .ok (.putfield 61, 3) := by decide +kernel
theorem mw_71 : Cond.fieldLink RX3 61 "AskBack$Reader" "gapCount" "I" ∈ wsL_law := inr_3 _ (List.mem_of_getElem? (i := 23) rfl)
section
variable {p : Program} {l : Launch} {e : Env} {R0 : Room} {s : State} {m : MethodId} {args : Array Value} {below : List Frame} {meth : Method} {c : Code} {H H0 : Heap} {locs : List Loc} {cells slots : Nat} {Q : State → Prop} {cc : ByteArray} {nL : Nat} {D : va_G} {cy : Nat → ClassId} {A : Nat → Prop} {L : List Nat} {R : Nat → Nat} {f : Nat → va_E} {pc : Nat} {ls : Array Slot} {rest : List Value} {a : Nat}
theorem p_3_61 (F : CallFix p m c cc nL s args wsL_law RX3) (h : tS D cy A H0 L R (TT cy L R) f s H locs) {x : Int32} (ha : a ∈ L) (hr : R a = 3) (hv : 0 ≤ x.toInt ∧ x.toInt ≤ 9) (hdg : decode cc pc = .ok (.putfield 61, 3)) (kk : ∀ (f1 : Nat → va_E) (H1 : Heap) (locs1 : List Loc), fi f1 a 13 = x.toInt → fr L R [(3, 13)] [3] f f1 → tS D cy A H0 L R (TT cy L R) f1 s H1 locs1 → W p l e R0 s m args below meth c H1 locs1 cells slots Q (F0 m (pc + 3) ls (rest))) : W p l e R0 s m args below meth c H locs cells slots Q (F0 m pc ls (.int x :: .ref a :: rest)) := tu_puti (k := 13) F h ha hr T_3 rfl hv.1 hv.2 inlX3 tyX3_ok nmX3 rfl (Nat.le_of_ble_eq_true rfl) mw_71 rfl rfl rfl hdg kk
end
theorem dX3_readPattern_5 : decode cX3_readPattern 5 = .ok (.iconst 0, 1) := by decide +kernel
theorem dX3_readPattern_6 : decode cX3_readPattern 6 = .ok (.istore_n 2, 1) := by decide +kernel
theorem dX3_readPattern_7 : decode cX3_readPattern 7 = .ok (.iload_n 2, 1) := by decide +kernel
theorem dX3_readPattern_8 : decode cX3_readPattern 8 = .ok (.bipush 8, 2) := by decide +kernel
theorem dX3_readPattern_10 : decode cX3_readPattern 10 = .ok (.if_icmp .gt 150, 3) := by decide +kernel
theorem dX3_readPattern_13 : decode cX3_readPattern 13 = .ok (.aload_n 0, 1) := by decide +kernel
theorem dX3_readPattern_14 : decode cX3_readPattern 14 = .ok (.invokevirtual 71, 3) := by decide +kernel
theorem dX3_readPattern_17 : decode cX3_readPattern 17 = .ok (.iconst 5, 1) := by decide +kernel
theorem dX3_readPattern_26 : decode cX3_readPattern 26 = .ok (.istore_n 3, 1) := by decide +kernel
theorem dX3_readPattern_27 : decode cX3_readPattern 27 = .ok (.aload_n 0, 1) := by decide +kernel
theorem dX3_readPattern_28 : decode cX3_readPattern 28 = .ok (.invokevirtual 71, 3) := by decide +kernel
theorem dX3_readPattern_31 : decode cX3_readPattern 31 = .ok (.bipush 6, 2) := by decide +kernel
theorem dX3_readPattern_41 : decode cX3_readPattern 41 = .ok (.istore 4, 2) := by decide +kernel
theorem dX3_readPattern_43 : decode cX3_readPattern 43 = .ok (.iload_n 3, 1) := by decide +kernel
theorem dX3_readPattern_76 : decode cX3_readPattern 76 = .ok (.iload_n 2, 1) := by decide +kernel
theorem dX3_readPattern_77 : decode cX3_readPattern 77 = .ok (.bipush 8, 2) := by decide +kernel
theorem dX3_readPattern_79 : decode cX3_readPattern 79 = .ok (.if_icmp .lt 9, 3) := by decide +kernel
theorem dX3_readPattern_88 : decode cX3_readPattern 88 = .ok (.aload_n 0, 1) := by decide +kernel
theorem dX3_readPattern_89 : decode cX3_readPattern 89 = .ok (.dup, 1) := by decide +kernel
theorem dX3_readPattern_90 : decode cX3_readPattern 90 = .ok (.getfield 61, 3) := by decide +kernel
section
variable {p : Program} {l : Launch} {e : Env} {R0 : Room} {s : State} {m : MethodId} {args : Array Value} {below : List Frame} {meth : Method} {c : Code} {H H0 : Heap} {locs : List Loc} {cells slots : Nat} {Q : State → Prop} {cc : ByteArray} {nL : Nat} {D : va_G} {cy : Nat → ClassId} {A : Nat → Prop} {L : List Nat} {R : Nat → Nat} {f : Nat → va_E} {pc : Nat} {ls : Array Slot} {rest : List Value} {a : Nat}
theorem g_3_61 (F : CallFix p m c cc nL s args wsL_law RX3) (h : tS D cy A H0 L R (TT cy L R) f s H locs) (ha : a ∈ L) (hr : R a = 3) (hdg : decode cc pc = .ok (.getfield 61, 3)) (kk : ∀ x : Int32, x.toInt = fi f a 13 → 0 ≤ x.toInt → x.toInt ≤ 9 → W p l e R0 s m args below meth c H locs cells slots Q (F0 m (pc + 3) ls (.int x :: rest))) : W p l e R0 s m args below meth c H locs cells slots Q (F0 m pc ls (.ref a :: rest)) := tu_geti F h ha hr (fun e q => (T_3 e).mp q) rfl inlX3 rfl (Nat.le_of_ble_eq_true rfl) mw_71 hdg (fun x h1 h2 h3 => kk x h1 h2 h3)
end
theorem dX3_readPattern_93 : decode cX3_readPattern 93 = .ok (.iload_n 3, 1) := by decide +kernel
theorem dX3_readPattern_107 : decode cX3_readPattern 107 = .ok (.iadd, 1) := by decide +kernel
theorem dX3_readPattern_108 : decode cX3_readPattern 108 = .ok (.putfield 61, 3) := by decide +kernel
theorem dX3_readPattern_111 : decode cX3_readPattern 111 = .ok (.aload_n 0, 1) := by decide +kernel
theorem dX3_readPattern_112 : decode cX3_readPattern 112 = .ok (.getfield 21, 3) := by decide +kernel
theorem dX3_readPattern_115 : decode cX3_readPattern 115 = .ok (.iload_n 1, 1) := by decide +kernel
theorem dX3_readPattern_116 : decode cX3_readPattern 116 = .ok (.iload_n 3, 1) := by decide +kernel
theorem dX3_readPattern_141 : decode cX3_readPattern 141 = .ok (.invokevirtual 202, 3) := by decide +kernel
theorem mw_586 : Cond.methodLink RX3 202 yX6_addItem ∈ wsL_law := inr_25 _ (List.mem_of_getElem? (i := 10) rfl)
theorem mw_589 : Cond.code yX6_addItem cX6_addItem 4 none ∈ wsL_law := inr_25 _ (List.mem_of_getElem? (i := 13) rfl)
theorem yk_X6_addItem : xY yX6_addItem RX6 cX6_addItem 4 none 2 := ⟨⟨rfl, by decide +kernel, by decide +kernel, by decide +kernel⟩, mw_57, mw_589⟩
theorem mw_587 : Cond.instanceMethod yX6_addItem ∈ wsL_law := inr_25 _ (List.mem_of_getElem? (i := 11) rfl)
theorem mw_588 : Cond.selects RX6 yX6_addItem yX6_addItem ∈ wsL_law := inr_25 _ (List.mem_of_getElem? (i := 12) rfl)
theorem dX3_readPattern_144 : decode cX3_readPattern 144 = .ok (.aload_n 0, 1) := by decide +kernel
theorem dX3_readPattern_145 : decode cX3_readPattern 145 = .ok (.dup, 1) := by decide +kernel
theorem dX3_readPattern_146 : decode cX3_readPattern 146 = .ok (.getfield 58, 3) := by decide +kernel
theorem dX3_readPattern_149 : decode cX3_readPattern 149 = .ok (.iconst 1, 1) := by decide +kernel
theorem dX3_readPattern_150 : decode cX3_readPattern 150 = .ok (.iadd, 1) := by decide +kernel
theorem dX3_readPattern_151 : decode cX3_readPattern 151 = .ok (.putfield 58, 3) := by decide +kernel
theorem dX3_readPattern_154 : decode cX3_readPattern 154 = .ok (.iinc 2 1, 3) := by decide +kernel
theorem dX3_readPattern_157 : decode cX3_readPattern 157 = .ok (.goto (-150), 3) := by decide +kernel
theorem dX3_readPattern_117 : decode cX3_readPattern 117 = .ok (.ifCond .eq 9, 3) := by decide +kernel
theorem dX3_readPattern_126 : decode cX3_readPattern 126 = .ok (.iload 4, 2) := by decide +kernel
theorem dX3_readPattern_128 : decode cX3_readPattern 128 = .ok (.ifCond .eq 9, 3) := by decide +kernel
theorem dX3_readPattern_137 : decode cX3_readPattern 137 = .ok (.aload_n 0, 1) := by decide +kernel
theorem dX3_readPattern_138 : decode cX3_readPattern 138 = .ok (.invokevirtual 82, 3) := by decide +kernel
theorem dX3_readPattern_131 : decode cX3_readPattern 131 = .ok (.ldc2_w 200, 3) := by decide +kernel
theorem mw_585 : Cond.constantLong RX3 200 (-2) ∈ wsL_law := inr_25 _ (List.mem_of_getElem? (i := 9) rfl)
theorem dX3_readPattern_134 : decode cX3_readPattern 134 = .ok (.goto 7, 3) := by decide +kernel
theorem dX3_readPattern_120 : decode cX3_readPattern 120 = .ok (.ldc2_w 147, 3) := by decide +kernel
theorem dX3_readPattern_123 : decode cX3_readPattern 123 = .ok (.goto 18, 3) := by decide +kernel
theorem dX3_readPattern_102 : decode cX3_readPattern 102 = .ok (.iconst 1, 1) := by decide +kernel
theorem dX3_readPattern_103 : decode cX3_readPattern 103 = .ok (.goto 4, 3) := by decide +kernel
theorem dX3_readPattern_94 : decode cX3_readPattern 94 = .ok (.ifCond .ne 8, 3) := by decide +kernel
theorem dX3_readPattern_97 : decode cX3_readPattern 97 = .ok (.iload 4, 2) := by decide +kernel
theorem dX3_readPattern_99 : decode cX3_readPattern 99 = .ok (.ifCond .eq 7, 3) := by decide +kernel
theorem dX3_readPattern_106 : decode cX3_readPattern 106 = .ok (.iconst 0, 1) := by decide +kernel
theorem dX3_readPattern_82 : decode cX3_readPattern 82 = .ok (.aload_n 0, 1) := by decide +kernel
theorem dX3_readPattern_83 : decode cX3_readPattern 83 = .ok (.iconst 5, 1) := by decide +kernel
theorem dX3_readPattern_84 : decode cX3_readPattern 84 = .ok (.invokevirtual 75, 3) := by decide +kernel
theorem dX3_readPattern_87 : decode cX3_readPattern 87 = .ok (.ireturn, 1) := by decide +kernel
theorem dX3_readPattern_44 : decode cX3_readPattern 44 = .ok (.ifCond .ne 32, 3) := by decide +kernel
theorem dX3_readPattern_47 : decode cX3_readPattern 47 = .ok (.iload 4, 2) := by decide +kernel
theorem dX3_readPattern_49 : decode cX3_readPattern 49 = .ok (.ifCond .ne 27, 3) := by decide +kernel
theorem dX3_readPattern_52 : decode cX3_readPattern 52 = .ok (.aload_n 0, 1) := by decide +kernel
theorem dX3_readPattern_53 : decode cX3_readPattern 53 = .ok (.invokevirtual 155, 3) := by decide +kernel
theorem dX3_readPattern_56 : decode cX3_readPattern 56 = .ok (.ifCond .ne 20, 3) := by decide +kernel
theorem dX3_readPattern_59 : decode cX3_readPattern 59 = .ok (.iload_n 2, 1) := by decide +kernel
theorem dX3_readPattern_60 : decode cX3_readPattern 60 = .ok (.ifCond .gt 10, 3) := by decide +kernel
theorem dX3_readPattern_70 : decode cX3_readPattern 70 = .ok (.iconst 1, 1) := by decide +kernel
theorem dX3_readPattern_71 : decode cX3_readPattern 71 = .ok (.goto 4, 3) := by decide +kernel
theorem dX3_readPattern_75 : decode cX3_readPattern 75 = .ok (.ireturn, 1) := by decide +kernel
theorem dX3_readPattern_63 : decode cX3_readPattern 63 = .ok (.aload_n 0, 1) := by decide +kernel
theorem dX3_readPattern_64 : decode cX3_readPattern 64 = .ok (.invokevirtual 119, 3) := by decide +kernel
theorem dX3_readPattern_67 : decode cX3_readPattern 67 = .ok (.ifCond .eq 7, 3) := by decide +kernel
theorem dX3_readPattern_74 : decode cX3_readPattern 74 = .ok (.iconst 0, 1) := by decide +kernel
theorem dX3_readPattern_33 : decode cX3_readPattern 33 = .ok (.if_icmp .ne 7, 3) := by decide +kernel
theorem dX3_readPattern_40 : decode cX3_readPattern 40 = .ok (.iconst 0, 1) := by decide +kernel
theorem dX3_readPattern_36 : decode cX3_readPattern 36 = .ok (.iconst 1, 1) := by decide +kernel
theorem dX3_readPattern_37 : decode cX3_readPattern 37 = .ok (.goto 4, 3) := by decide +kernel
theorem dX3_readPattern_18 : decode cX3_readPattern 18 = .ok (.if_icmp .ne 7, 3) := by decide +kernel
theorem dX3_readPattern_25 : decode cX3_readPattern 25 = .ok (.iconst 0, 1) := by decide +kernel
theorem dX3_readPattern_21 : decode cX3_readPattern 21 = .ok (.iconst 1, 1) := by decide +kernel
theorem dX3_readPattern_22 : decode cX3_readPattern 22 = .ok (.goto 4, 3) := by decide +kernel
def rm_X3_readPattern : Room := { frames := 2, cells := 0, slots := 0, locals := 45 }
set_option maxHeartbeats 4000000 in
set_option maxRecDepth 100000 in
theorem s_X3_readPattern (l : Launch) (D : va_G) (cy : Nat → ClassId) (L : List Nat) (R O : Nat → Nat) (f0 : Nat → va_E) (hG : GG L R O f0) (a0 : Nat) (m_a0 : a0 ∈ L) (r_a0 : R a0 = 3) (x1 : Int32) (b1 : 0 ≤ x1.toInt ∧ x1.toInt ≤ 23) (pre0 : TK L R f0 a0) (pre1 : PNZ f0 (rfa f0 a0 1)) (pre2 : fi f0 (rfa f0 a0 1) 14 ≤ fi f0 a0 12) (pre3 : eli f0 (rfa f0 (rfa f0 a0 1) 8) x1.toInt.toNat ≤ fi f0 (rfa f0 a0 1) 14) (pre4 : eli f0 (rfa f0 (rfa f0 a0 1) 9) x1.toInt.toNat = 0) : ∀ sz, Met l yX3_readPattern (Cond.code yX3_readPattern cX3_readPattern 5 (some .boolean) :: wsL_law) rm_X3_readPattern (va_Pc [.ref a0, .int x1] (tPZ D cy L R (TT cy L R) f0 sz)) (va_Qi (fun (r : Int32) f1 => fr L R [(3, 2), (3, 3), (3, 12), (3, 13), (6, 14)] [3, 6, 35, 40] f0 f1 ∧ 0 ≤ r.toInt ∧ r.toInt ≤ 1 ∧ GG L R O f1 ∧ fi f0 a0 12 ≤ fi f1 a0 12 ∧ PNZ f1 (rfa f0 a0 1) ∧ fi f1 (rfa f0 a0 1) 14 ≤ fi f1 a0 12 ∧ fi f0 (rfa f0 a0 1) 14 ≤ fi f1 (rfa f0 a0 1) 14 ∧ OB L R O (rfa f0 a0 1) f0 f1) (tB D (tA L sz) L R (TT cy L R)) (tA L sz)) 0 0 (tA L sz) := by
  refine tw_enteri (by decide +kernel) rfl (Nat.le_of_ble_eq_true rfl) ?_
  intro p e s m below meth c A ls args Q F hZ h hl hret
  have hl : lv_has ls 5 [(0, .ref a0), (1, .int x1)] := hl
  have hk : fr L R [(3, 2), (3, 3), (3, 12), (3, 13), (6, 14)] [3, 6, 35, 40] f0 f0 := fr.rf
  have t_a0_at := h.bfi m_a0 r_a0 (fun e q => (T_3 e).mp q) (k := 12) rfl
  have t_a0_tokenCount := h.bfi m_a0 r_a0 (fun e q => (T_3 e).mp q) (k := 8) rfl
  obtain ⟨a0_script, m_a0_script, r_a0_script, t_a0_script⟩ := h.rf m_a0 r_a0 (fun e q => (T_3 e).mp q) (k := 1) rfl
  have t_a0_script_partCount := h.bfi m_a0_script r_a0_script (fun e q => (T_6 e).mp q) (k := 14) rfl
  have hs1 := rfa_of t_a0_script
  rw [hs1] at pre1 pre2 pre3 pre4
  have hT := pre0
  have hP := pre1
  have hX : OB L R O a0_script f0 f0 := OB_rf
  refine lv_aload_n F.1 F.2.1 dX3_readPattern_0 rfl (lv_at hl 0 rfl) ?_
  refine tw_iconst F dX3_readPattern_1 ki_0 (fun z1 hz1 => ?_)
  refine p_3_61 F h m_a0 r_a0 (by omega) dX3_readPattern_2 (fun f2 H locs e2p hf2 h => ?_)
  have ea3 : eli f2 (rfa f2 a0_script 8) x1.toInt.toNat = eli f0 (rfa f0 a0_script 8) x1.toInt.toNat := E0i hG.1 hf2 (by decide +kernel) m_a0_script r_a0_script sk8 rfl (by decide +kernel) _
  have ea4 : eli f2 (rfa f2 a0_script 9) x1.toInt.toNat = eli f0 (rfa f0 a0_script 9) x1.toInt.toNat := E0i hG.1 hf2 (by decide +kernel) m_a0_script r_a0_script sk9 rfl (by decide +kernel) _
  have hX : OB L R O a0_script f0 f2 := OB_fr hX hf2 (by decide +kernel)
  have hT : TK L R f2 a0 := TK_fr hT hf2 (by decide +kernel) m_a0 r_a0
  have hP : PNZ f2 a0_script := PNZ_fr hP hG.1 hf2 (by decide +kernel) (by decide +kernel) (by decide +kernel) m_a0_script r_a0_script
  have hG : GG L R O f2 := hG.fr hf2 (by decide +kernel) (by decide +kernel)
  have hk : fr L R [(3, 2), (3, 3), (3, 12), (3, 13), (6, 14)] [3, 6, 35, 40] f0 f2 := hk.tr hf2 rfl rfl
  have e5 : fi f2 a0 12 = fi f0 a0 12 := hf2.efi m_a0 r_a0 rfl
  have e6 : fi f2 a0 8 = fi f0 a0 8 := hf2.efi m_a0 r_a0 rfl
  have e7 : fld f2 a0 1 = .ref a0_script := (hf2.efl m_a0 r_a0 rfl).trans t_a0_script
  have e8 : fi f2 a0_script 14 = fi f0 a0_script 14 := hf2.efi m_a0_script r_a0_script rfl
  refine tw_iconst F dX3_readPattern_5 ki_0 (fun z9 hz9 => ?_)
  refine lv_istore_n (lv' := [(2, .int z9), (0, .ref a0), (1, .int x1)]) F.1 F.2.1 dX3_readPattern_6 rfl hl (by decide) rfl (fun ls hl => ?_)
  have j_7 : ∀ (n7 : Nat) (f10 : Nat → va_E) (H : Heap) (locs : List Loc) (ls : Array Slot) (x2_7 : Int32), 0 ≤ x2_7.toInt → x2_7.toInt ≤ 8 → fi f0 a0_script 14 ≤ fi f10 a0_script 14 → eli f10 (rfa f10 a0_script 9) x1.toInt.toNat = x2_7.toInt → eli f10 (rfa f10 a0_script 8) x1.toInt.toNat + x2_7.toInt ≤ fi f10 a0_script 14 → fi f10 a0_script 14 ≤ fi f10 a0 12 → fi f10 a0 13 ≤ x2_7.toInt → fi f0 a0 12 ≤ fi f10 a0 12 → fi f10 a0 8 = fi f0 a0 8 → 0 ≤ fi f10 a0 13 → ((8 - x2_7.toInt)).toNat < n7 → tS D cy A s.heap L R (TT cy L R) f10 s H locs → GG L R O f10 → OB L R O a0_script f0 f10 → TK L R f10 a0 → PNZ f10 a0_script → fr L R [(3, 2), (3, 3), (3, 12), (3, 13), (6, 14)] [3, 6, 35, 40] f0 f10 → fr L R [(3, 12), (3, 13), (6, 14)] [3, 6, 35, 40] f2 f10 → lv_has ls 5 [(0, .ref a0), (1, .int x1), (2, .int x2_7)] → W p l e rm_X3_readPattern s m args below meth c H locs 0 0 Q (F0 m 7 ls []) := by
    intro n7
    induction n7 with
    | zero =>
      intro f10 H locs ls x2_7 b11 b12 b13 b14 b15 b16 b17 b18 b19 b20 b21 h hG hX hT hP hk hb7 hl
      exfalso
      omega
    | succ n7 ih7 =>
      intro f10 H locs ls x2_7 b11 b12 b13 b14 b15 b16 b17 b18 b19 b20 b21 h hG hX hT hP hk hb7 hl
      have e22 : fi f10 a0 8 = fi f2 a0 8 := hb7.efi m_a0 r_a0 rfl
      have e23 : fld f10 a0 1 = .ref a0_script := (hb7.efl m_a0 r_a0 rfl).trans e7
      refine lv_iload_n F.1 F.2.1 dX3_readPattern_7 rfl (lv_at hl 2 rfl) ?_
      refine tw_bipush F dX3_readPattern_8 kb_8 (fun z24 hz24 => ?_)
      refine tw_icmp_gt (tgt := 160) F dX3_readPattern_10 (by decide) (fun b25 => ?_) (fun b25 => ?_)
      · exfalso
        omega
      · refine lv_aload_n F.1 F.2.1 dX3_readPattern_13 rfl (lv_at hl 0 rfl) ?_
        refine tw_Vi (As := []) F hZ h yk_X3_kind mw_416 mw_417 mw_418 (s_X3_kind l D cy L R O f10 a0 m_a0 r_a0) rfl rfl m_a0 r_a0 (fun e q => (T_3 e).mp q) rfl hl.1 rfl (Nat.le_of_ble_eq_true rfl) ⟨Nat.le_of_ble_eq_true rfl, Nat.le_of_ble_eq_true rfl⟩ ⟨Nat.le_of_ble_eq_true rfl, Nat.le_of_ble_eq_true rfl⟩ dX3_readPattern_14 (fun v27 f26 H locs hp26 h => ?_)
        obtain ⟨rfl, hv27p0⟩ := hp26
        refine tw_iconst F dX3_readPattern_17 ki_5 (fun z28 hz28 => ?_)
        have j_26 : ∀ (ls : Array Slot) (y0_26 : Int32), 0 ≤ y0_26.toInt → y0_26.toInt ≤ 1 → (y0_26.toInt = 1 → fi f10 a0 12 < fi f10 a0 8) → lv_has ls 5 [(0, .ref a0), (1, .int x1), (2, .int x2_7)] → W p l e rm_X3_readPattern s m args below meth c H locs 0 0 Q (F0 m 26 ls [.int y0_26]) := by
          intro ls y0_26 b29 b30 b31 hl
          refine lv_istore_n (lv' := [(3, .int y0_26), (0, .ref a0), (1, .int x1), (2, .int x2_7)]) F.1 F.2.1 dX3_readPattern_26 rfl hl (by decide) rfl (fun ls hl => ?_)
          refine lv_aload_n F.1 F.2.1 dX3_readPattern_27 rfl (lv_at hl 1 rfl) ?_
          refine tw_Vi (As := []) F hZ h yk_X3_kind mw_416 mw_417 mw_418 (s_X3_kind l D cy L R O f10 a0 m_a0 r_a0) rfl rfl m_a0 r_a0 (fun e q => (T_3 e).mp q) rfl hl.1 rfl (Nat.le_of_ble_eq_true rfl) ⟨Nat.le_of_ble_eq_true rfl, Nat.le_of_ble_eq_true rfl⟩ ⟨Nat.le_of_ble_eq_true rfl, Nat.le_of_ble_eq_true rfl⟩ dX3_readPattern_28 (fun v33 f32 H locs hp32 h => ?_)
          obtain ⟨rfl, hv33p0⟩ := hp32
          refine tw_bipush F dX3_readPattern_31 kb_6 (fun z34 hz34 => ?_)
          have j_41 : ∀ (ls : Array Slot) (y0_41 : Int32), 0 ≤ y0_41.toInt → y0_41.toInt ≤ 1 → (y0_41.toInt = 1 → fi f10 a0 12 < fi f10 a0 8) → lv_has ls 5 [(0, .ref a0), (1, .int x1), (2, .int x2_7), (3, .int y0_26)] → W p l e rm_X3_readPattern s m args below meth c H locs 0 0 Q (F0 m 41 ls [.int y0_41]) := by
            intro ls y0_41 b35 b36 b37 hl
            refine lv_istore (lv' := [(4, .int y0_41), (0, .ref a0), (1, .int x1), (2, .int x2_7), (3, .int y0_26)]) F.1 F.2.1 dX3_readPattern_41 hl (by decide) rfl (fun ls hl => ?_)
            refine lv_iload_n F.1 F.2.1 dX3_readPattern_43 rfl (lv_at hl 4 rfl) ?_
            have j_76 : ∀ (H : Heap) (locs : List Loc) (ls : Array Slot), fi f10 a0 12 < fi f10 a0 8 → ((y0_26.toInt = 1 ∨ y0_41.toInt = 1 ∨ eli f10 (rfa f10 a0 4) (fi f10 a0 12).toNat = 1)) → tS D cy A s.heap L R (TT cy L R) f10 s H locs → lv_has ls 5 [(0, .ref a0), (1, .int x1), (2, .int x2_7), (3, .int y0_26), (4, .int y0_41)] → W p l e rm_X3_readPattern s m args below meth c H locs 0 0 Q (F0 m 76 ls []) := by
              intro H locs ls b38 ip76_0 h hl
              refine lv_iload_n F.1 F.2.1 dX3_readPattern_76 rfl (lv_at hl 2 rfl) ?_
              refine tw_bipush F dX3_readPattern_77 kb_8 (fun z39 hz39 => ?_)
              refine tw_icmp_lt (tgt := 88) F dX3_readPattern_79 (by decide) (fun b40 => ?_) (fun b40 => ?_)
              · have hTo := hT
                refine lv_aload_n F.1 F.2.1 dX3_readPattern_88 rfl (lv_at hl 0 rfl) ?_
                refine lv_dup F.1 F.2.1 dX3_readPattern_89 rfl ?_
                refine g_3_61 F h m_a0 r_a0 dX3_readPattern_90 (fun v41 hv41 hv41a hv41b => ?_)
                refine lv_iload_n F.1 F.2.1 dX3_readPattern_93 rfl (lv_at hl 3 rfl) ?_
                have j_107 : ∀ (ls : Array Slot) (y0_107 : Int32), 0 ≤ y0_107.toInt → y0_107.toInt ≤ 1 → lv_has ls 5 [(0, .ref a0), (1, .int x1), (2, .int x2_7), (3, .int y0_26), (4, .int y0_41)] → W p l e rm_X3_readPattern s m args below meth c H locs 0 0 Q (F0 m 107 ls [.int y0_107, .int v41, .ref a0]) := by
                  intro ls y0_107 b42 b43 hl
                  refine tu_iadd F dX3_readPattern_107 (by omega) (fun z44 hz44 => ?_)
                  refine p_3_61 F h m_a0 r_a0 (by omega) dX3_readPattern_108 (fun f45 H locs e45p hf45 h => ?_)
                  have ea46 : eli f45 (rfa f45 a0_script 8) x1.toInt.toNat = eli f10 (rfa f10 a0_script 8) x1.toInt.toNat := E0i hG.1 hf45 (by decide +kernel) m_a0_script r_a0_script sk8 rfl (by decide +kernel) _
                  have ea47 : eli f45 (rfa f45 a0_script 9) x1.toInt.toNat = eli f10 (rfa f10 a0_script 9) x1.toInt.toNat := E0i hG.1 hf45 (by decide +kernel) m_a0_script r_a0_script sk9 rfl (by decide +kernel) _
                  have hX : OB L R O a0_script f0 f45 := OB_fr hX hf45 (by decide +kernel)
                  have hT : TK L R f45 a0 := TK_fr hT hf45 (by decide +kernel) m_a0 r_a0
                  have hP : PNZ f45 a0_script := PNZ_fr hP hG.1 hf45 (by decide +kernel) (by decide +kernel) (by decide +kernel) m_a0_script r_a0_script
                  have hG : GG L R O f45 := hG.fr hf45 (by decide +kernel) (by decide +kernel)
                  have hk : fr L R [(3, 2), (3, 3), (3, 12), (3, 13), (6, 14)] [3, 6, 35, 40] f0 f45 := hk.tr hf45 rfl rfl
                  have hb7 : fr L R [(3, 12), (3, 13), (6, 14)] [3, 6, 35, 40] f2 f45 := hb7.tr hf45 rfl rfl
                  have e48 : fi f45 a0 12 = fi f10 a0 12 := hf45.efi m_a0 r_a0 rfl
                  have e49 : fi f45 a0 8 = fi f10 a0 8 := hf45.efi m_a0 r_a0 rfl
                  have e50 : fld f45 a0 1 = .ref a0_script := (hf45.efl m_a0 r_a0 rfl).trans e23
                  have e51 : fi f45 a0_script 14 = fi f10 a0_script 14 := hf45.efi m_a0_script r_a0_script rfl
                  refine lv_aload_n F.1 F.2.1 dX3_readPattern_111 rfl (lv_at hl 0 rfl) ?_
                  refine g_3_21 F h m_a0 r_a0 dX3_readPattern_112 (fun o52 m_o52 r_o52 ho52 => ?_)
                  obtain rfl := (fld_inj e50 ho52).symm
                  refine lv_iload_n F.1 F.2.1 dX3_readPattern_115 rfl (lv_at hl 1 rfl) ?_
                  refine lv_iload_n F.1 F.2.1 dX3_readPattern_116 rfl (lv_at hl 3 rfl) ?_
                  have j_141 : ∀ (H : Heap) (locs : List Loc) (ls : Array Slot) (y0_141 : Int64), -9 ≤ y0_141.toInt → y0_141.toInt ≠ 0 → tS D cy A s.heap L R (TT cy L R) f45 s H locs → lv_has ls 5 [(0, .ref a0), (1, .int x1), (2, .int x2_7)] → W p l e rm_X3_readPattern s m args below meth c H locs 0 0 Q (F0 m 141 ls [.long y0_141, .int x1, .ref a0_script]) := by
                    intro H locs ls y0_141 b53 b54 h hl
                    have hGo := hG
                    refine tw_Vv (As := [.int x1, .long y0_141]) F hZ h yk_X6_addItem mw_586 mw_587 mw_588 (s_X6_addItem l D cy L R O f45 hG a0_script m_a0_script r_a0_script x1 ⟨by omega, by omega⟩ y0_141 (by omega) (by omega) hP (by omega) (by omega)) rfl rfl m_a0_script r_a0_script (fun e q => (T_6 e).mp q) rfl hl.1 rfl (Nat.le_of_ble_eq_true rfl) ⟨Nat.le_of_ble_eq_true rfl, Nat.le_of_ble_eq_true rfl⟩ ⟨Nat.le_of_ble_eq_true rfl, Nat.le_of_ble_eq_true rfl⟩ dX3_readPattern_141 (fun f55 H locs hp55 h => ?_)
                    obtain ⟨hf55, hG, hv56p0, hv56p1, hv56p2, hv56p3⟩ := hp55
                    have ea57 : eli f55 (rfa f55 a0_script 8) x1.toInt.toNat = eli f45 (rfa f45 a0_script 8) x1.toInt.toNat := E0i hGo.1 hf55 (by decide +kernel) m_a0_script r_a0_script sk8 rfl (by decide +kernel) _
                    have hX : OB L R O a0_script f0 f55 := OB_tr hX hv56p3
                    have hT : TK L R f55 a0 := TK_fr hT hf55 (by decide +kernel) m_a0 r_a0
                    have hk : fr L R [(3, 2), (3, 3), (3, 12), (3, 13), (6, 14)] [3, 6, 35, 40] f0 f55 := hk.tr hf55 rfl rfl
                    have hb7 : fr L R [(3, 12), (3, 13), (6, 14)] [3, 6, 35, 40] f2 f55 := hb7.tr hf55 rfl rfl
                    have e58 : fi f55 a0 12 = fi f45 a0 12 := hf55.efi m_a0 r_a0 rfl
                    have e59 : fi f55 a0 8 = fi f45 a0 8 := hf55.efi m_a0 r_a0 rfl
                    have e60 : fld f55 a0 1 = .ref a0_script := (hf55.efl m_a0 r_a0 rfl).trans e50
                    have e61 : fi f55 a0 13 = fi f45 a0 13 := hf55.efi m_a0 r_a0 rfl
                    have hP : PNZ f55 a0_script := hv56p0
                    refine lv_aload_n F.1 F.2.1 dX3_readPattern_144 rfl (lv_at hl 0 rfl) ?_
                    refine lv_dup F.1 F.2.1 dX3_readPattern_145 rfl ?_
                    refine g_3_58 F h m_a0 r_a0 dX3_readPattern_146 (fun v62 hv62 hv62a hv62b => ?_)
                    refine tw_iconst F dX3_readPattern_149 ki_1 (fun z63 hz63 => ?_)
                    refine tu_iadd F dX3_readPattern_150 (by omega) (fun z64 hz64 => ?_)
                    refine p_3_58 F h m_a0 r_a0 (by omega) dX3_readPattern_151 (fun f65 H locs e65p hf65 h => ?_)
                    have ea66 : eli f65 (rfa f65 a0_script 8) x1.toInt.toNat = eli f55 (rfa f55 a0_script 8) x1.toInt.toNat := E0i hG.1 hf65 (by decide +kernel) m_a0_script r_a0_script sk8 rfl (by decide +kernel) _
                    have ea67 : eli f65 (rfa f65 a0_script 9) x1.toInt.toNat = eli f55 (rfa f55 a0_script 9) x1.toInt.toNat := E0i hG.1 hf65 (by decide +kernel) m_a0_script r_a0_script sk9 rfl (by decide +kernel) _
                    have hX : OB L R O a0_script f0 f65 := OB_fr hX hf65 (by decide +kernel)
                    have hT : TK L R f65 a0 := TK_fr hT hf65 (by decide +kernel) m_a0 r_a0
                    have hP : PNZ f65 a0_script := PNZ_fr hP hG.1 hf65 (by decide +kernel) (by decide +kernel) (by decide +kernel) m_a0_script r_a0_script
                    have hG : GG L R O f65 := hG.fr hf65 (by decide +kernel) (by decide +kernel)
                    have hk : fr L R [(3, 2), (3, 3), (3, 12), (3, 13), (6, 14)] [3, 6, 35, 40] f0 f65 := hk.tr hf65 rfl rfl
                    have hb7 : fr L R [(3, 12), (3, 13), (6, 14)] [3, 6, 35, 40] f2 f65 := hb7.tr hf65 rfl rfl
                    have e68 : fi f65 a0 8 = fi f55 a0 8 := hf65.efi m_a0 r_a0 rfl
                    have e69 : fld f65 a0 1 = .ref a0_script := (hf65.efl m_a0 r_a0 rfl).trans e60
                    have e70 : fi f65 a0_script 14 = fi f55 a0_script 14 := hf65.efi m_a0_script r_a0_script rfl
                    have e71 : fi f65 a0 13 = fi f55 a0 13 := hf65.efi m_a0 r_a0 rfl
                    refine tu_iinc F dX3_readPattern_154 hl (k := 2) rfl (by decide) ki_1 (by omega) (fun z72 ls hz72 hl => ?_)
                    have hl : lv_has ls 5 [(2, .int z72), (0, .ref a0), (1, .int x1)] := hl
                    refine lv_goto (tgt := 7) F.1 F.2.1 dX3_readPattern_157 (by decide) ?_
                    exact ih7 f65 _ _ _ z72 (by omega) (by omega) (by omega) (by omega) (by omega) (by omega) (by omega) (by omega) (by omega) (by omega) (by omega) h hG hX hT hP hk hb7 (lv_sub hl [1, 2, 0] rfl)
                  refine tw_if_eq (tgt := 126) F dX3_readPattern_117 (by decide) (fun b73 => ?_) (fun b73 => ?_)
                  · refine lv_iload F.1 F.2.1 dX3_readPattern_126 (lv_at hl 4 rfl) ?_
                    refine tw_if_eq (tgt := 137) F dX3_readPattern_128 (by decide) (fun b74 => ?_) (fun b74 => ?_)
                    · refine lv_aload_n F.1 F.2.1 dX3_readPattern_137 rfl (lv_at hl 0 rfl) ?_
                      have nm0 : eli f45 (rfa f45 a0 4) (fi f45 a0 12).toNat = 1 := by have q := ip76_0; rw [show (fi f45 a0 12) = (fi f10 a0 12) by omega]; have q4 := (ip76_0.resolve_left (by omega)).resolve_left (by omega); rw [← q4]; rw [hf45.erf m_a0 r_a0 (by decide +kernel)]; exact hf45.eeli hTo.1 hTo.2.1 (by decide +kernel) _
                      refine tw_Vl (As := []) F hZ h yk_X3_value mw_424 mw_425 mw_426 (s_X3_value l D cy L R O f45 a0 m_a0 r_a0) rfl rfl m_a0 r_a0 (fun e q => (T_3 e).mp q) rfl hl.1 rfl (Nat.le_of_ble_eq_true rfl) ⟨Nat.le_of_ble_eq_true rfl, Nat.le_of_ble_eq_true rfl⟩ ⟨Nat.le_of_ble_eq_true rfl, Nat.le_of_ble_eq_true rfl⟩ dX3_readPattern_138 (fun v76 f75 H locs hp75 h => ?_)
                      obtain ⟨rfl, hv76p0⟩ := hp75
                      have vp : 1 ≤ v76.toInt := by have q1 := hv76p0 (by omega); have q2 := (hT.2.2.2.2.2.2 (fi f45 a0 12).toNat (by omega) nm0).1; omega
                      exact j_141 _ _ _ v76 (by omega) (by omega) h (lv_sub hl [0, 1, 2] rfl)
                    · refine tu_ldc2 F mw_585 dX3_readPattern_131 kl_m2 (fun z77 hz77 => ?_)
                      refine lv_goto (tgt := 141) F.1 F.2.1 dX3_readPattern_134 (by decide) ?_
                      exact j_141 _ _ _ z77 (by omega) (by omega) h (lv_sub hl [0, 1, 2] rfl)
                  · refine tu_ldc2 F mw_428 dX3_readPattern_120 kl_m1 (fun z78 hz78 => ?_)
                    refine lv_goto (tgt := 141) F.1 F.2.1 dX3_readPattern_123 (by decide) ?_
                    exact j_141 _ _ _ z78 (by omega) (by omega) h (lv_sub hl [0, 1, 2] rfl)
                have j_102 : ∀ (ls : Array Slot), lv_has ls 5 [(0, .ref a0), (1, .int x1), (2, .int x2_7), (3, .int y0_26), (4, .int y0_41)] → W p l e rm_X3_readPattern s m args below meth c H locs 0 0 Q (F0 m 102 ls [.int v41, .ref a0]) := by
                  intro ls hl
                  refine tw_iconst F dX3_readPattern_102 ki_1 (fun z79 hz79 => ?_)
                  refine lv_goto (tgt := 107) F.1 F.2.1 dX3_readPattern_103 (by decide) ?_
                  exact j_107 _ z79 (by omega) (by omega) (lv_sub hl [0, 1, 2, 3, 4] rfl)
                refine tw_if_ne (tgt := 102) F dX3_readPattern_94 (by decide) (fun b80 => ?_) (fun b80 => ?_)
                · exact j_102 _ (lv_sub hl [0, 1, 2, 3, 4] rfl)
                · refine lv_iload F.1 F.2.1 dX3_readPattern_97 (lv_at hl 4 rfl) ?_
                  refine tw_if_eq (tgt := 106) F dX3_readPattern_99 (by decide) (fun b81 => ?_) (fun b81 => ?_)
                  · refine tw_iconst F dX3_readPattern_106 ki_0 (fun z82 hz82 => ?_)
                    exact j_107 _ z82 (by omega) (by omega) (lv_sub hl [0, 1, 2, 3, 4] rfl)
                  · exact j_102 _ (lv_sub hl [0, 1, 2, 3, 4] rfl)
              · refine lv_aload_n F.1 F.2.1 dX3_readPattern_82 rfl (lv_at hl 0 rfl) ?_
                refine tw_iconst F dX3_readPattern_83 ki_5 (fun z83 hz83 => ?_)
                refine tw_Vi (As := [.int z83]) F hZ h yk_X3_fail mw_420 mw_421 mw_422 (s_X3_fail l D cy L R O f10 a0 m_a0 r_a0 z83 ⟨by omega, by omega⟩) rfl rfl m_a0 r_a0 (fun e q => (T_3 e).mp q) rfl hl.1 rfl (Nat.le_of_ble_eq_true rfl) ⟨Nat.le_of_ble_eq_true rfl, Nat.le_of_ble_eq_true rfl⟩ ⟨Nat.le_of_ble_eq_true rfl, Nat.le_of_ble_eq_true rfl⟩ dX3_readPattern_84 (fun v85 f84 H locs hp84 h => ?_)
                obtain ⟨hf84, hv85a, hv85b⟩ := hp84
                have ea86 : eli f84 (rfa f84 a0_script 8) x1.toInt.toNat = eli f10 (rfa f10 a0_script 8) x1.toInt.toNat := E0i hG.1 hf84 (by decide +kernel) m_a0_script r_a0_script sk8 rfl (by decide +kernel) _
                have ea87 : eli f84 (rfa f84 a0_script 9) x1.toInt.toNat = eli f10 (rfa f10 a0_script 9) x1.toInt.toNat := E0i hG.1 hf84 (by decide +kernel) m_a0_script r_a0_script sk9 rfl (by decide +kernel) _
                have hX : OB L R O a0_script f0 f84 := OB_fr hX hf84 (by decide +kernel)
                have hT : TK L R f84 a0 := TK_fr hT hf84 (by decide +kernel) m_a0 r_a0
                have hP : PNZ f84 a0_script := PNZ_fr hP hG.1 hf84 (by decide +kernel) (by decide +kernel) (by decide +kernel) m_a0_script r_a0_script
                have hG : GG L R O f84 := hG.fr hf84 (by decide +kernel) (by decide +kernel)
                have hk : fr L R [(3, 2), (3, 3), (3, 12), (3, 13), (6, 14)] [3, 6, 35, 40] f0 f84 := hk.tr hf84 rfl rfl
                have e88 : fi f84 a0 12 = fi f10 a0 12 := hf84.efi m_a0 r_a0 rfl
                have e89 : fi f84 a0 8 = fi f10 a0 8 := hf84.efi m_a0 r_a0 rfl
                have e90 : fld f84 a0 1 = .ref a0_script := (hf84.efl m_a0 r_a0 rfl).trans e23
                have e91 : fi f84 a0_script 14 = fi f10 a0_script 14 := hf84.efi m_a0_script r_a0_script rfl
                have e92 : fi f84 a0 13 = fi f10 a0 13 := hf84.efi m_a0 r_a0 rfl
                exact hret f84 _ _ _ _ v85 dX3_readPattern_87 (tw_nb (by omega)) ⟨hk, by omega, by omega, hG, by omega, by rw [hs1]; exact hP, by rw [hs1]; omega, by rw [hs1]; omega, by rw [hs1]; exact hX⟩ h
            refine tw_if_ne (tgt := 76) F dX3_readPattern_44 (by decide) (fun b93 => ?_) (fun b93 => ?_)
            · exact j_76 _ _ _ (by omega) (by omega) h (lv_sub hl [1, 2, 3, 4, 0] rfl)
            · refine lv_iload F.1 F.2.1 dX3_readPattern_47 (lv_at hl 0 rfl) ?_
              refine tw_if_ne (tgt := 76) F dX3_readPattern_49 (by decide) (fun b94 => ?_) (fun b94 => ?_)
              · exact j_76 _ _ _ (by omega) (by omega) h (lv_sub hl [1, 2, 3, 4, 0] rfl)
              · refine lv_aload_n F.1 F.2.1 dX3_readPattern_52 rfl (lv_at hl 1 rfl) ?_
                refine tw_Vi (As := []) F hZ h yk_X3_isName mw_536 mw_537 mw_538 (s_X3_isName l D cy L R O f10 a0 m_a0 r_a0) rfl rfl m_a0 r_a0 (fun e q => (T_3 e).mp q) rfl hl.1 rfl (Nat.le_of_ble_eq_true rfl) ⟨Nat.le_of_ble_eq_true rfl, Nat.le_of_ble_eq_true rfl⟩ ⟨Nat.le_of_ble_eq_true rfl, Nat.le_of_ble_eq_true rfl⟩ dX3_readPattern_53 (fun v96 f95 H locs hp95 h => ?_)
                obtain ⟨rfl, hv96a, hv96b, hv96p0⟩ := hp95
                refine tw_if_ne (tgt := 76) F dX3_readPattern_56 (by decide) (fun b97 => ?_) (fun b97 => ?_)
                · exact j_76 _ _ _ (by omega) (Or.inr (Or.inr (hv96p0.resolve_left (by omega)).2)) h (lv_sub hl [1, 2, 3, 4, 0] rfl)
                · refine lv_iload_n F.1 F.2.1 dX3_readPattern_59 rfl (lv_at hl 3 rfl) ?_
                  refine tw_if_gt (tgt := 70) F dX3_readPattern_60 (by decide) (fun b98 => ?_) (fun b98 => ?_)
                  · refine tw_iconst F dX3_readPattern_70 ki_1 (fun z99 hz99 => ?_)
                    refine lv_goto (tgt := 75) F.1 F.2.1 dX3_readPattern_71 (by decide) ?_
                    exact hret f10 _ _ _ _ z99 dX3_readPattern_75 (tw_nb (by omega)) ⟨hk, by omega, by omega, hG, by omega, by rw [hs1]; exact hP, by rw [hs1]; omega, by rw [hs1]; omega, by rw [hs1]; exact hX⟩ h
                  · refine lv_aload_n F.1 F.2.1 dX3_readPattern_63 rfl (lv_at hl 1 rfl) ?_
                    refine tw_Vi (As := []) F hZ h yk_X3_misplaced mw_541 mw_542 mw_543 (s_X3_misplaced l D cy L R O f10 a0 m_a0 r_a0) rfl rfl m_a0 r_a0 (fun e q => (T_3 e).mp q) rfl hl.1 rfl (Nat.le_of_ble_eq_true rfl) ⟨Nat.le_of_ble_eq_true rfl, Nat.le_of_ble_eq_true rfl⟩ ⟨Nat.le_of_ble_eq_true rfl, Nat.le_of_ble_eq_true rfl⟩ dX3_readPattern_64 (fun v101 f100 H locs hp100 h => ?_)
                    obtain ⟨hf100, hv101a, hv101b⟩ := hp100
                    have ea102 : eli f100 (rfa f100 a0_script 8) x1.toInt.toNat = eli f10 (rfa f10 a0_script 8) x1.toInt.toNat := E0i hG.1 hf100 (by decide +kernel) m_a0_script r_a0_script sk8 rfl (by decide +kernel) _
                    have ea103 : eli f100 (rfa f100 a0_script 9) x1.toInt.toNat = eli f10 (rfa f10 a0_script 9) x1.toInt.toNat := E0i hG.1 hf100 (by decide +kernel) m_a0_script r_a0_script sk9 rfl (by decide +kernel) _
                    have hX : OB L R O a0_script f0 f100 := OB_fr hX hf100 (by decide +kernel)
                    have hT : TK L R f100 a0 := TK_fr hT hf100 (by decide +kernel) m_a0 r_a0
                    have hP : PNZ f100 a0_script := PNZ_fr hP hG.1 hf100 (by decide +kernel) (by decide +kernel) (by decide +kernel) m_a0_script r_a0_script
                    have hG : GG L R O f100 := hG.fr hf100 (by decide +kernel) (by decide +kernel)
                    have hk : fr L R [(3, 2), (3, 3), (3, 12), (3, 13), (6, 14)] [3, 6, 35, 40] f0 f100 := hk.tr hf100 rfl rfl
                    have e104 : fi f100 a0 12 = fi f10 a0 12 := hf100.efi m_a0 r_a0 rfl
                    have e105 : fi f100 a0 8 = fi f10 a0 8 := hf100.efi m_a0 r_a0 rfl
                    have e106 : fld f100 a0 1 = .ref a0_script := (hf100.efl m_a0 r_a0 rfl).trans e23
                    have e107 : fi f100 a0_script 14 = fi f10 a0_script 14 := hf100.efi m_a0_script r_a0_script rfl
                    have e108 : fi f100 a0 13 = fi f10 a0 13 := hf100.efi m_a0 r_a0 rfl
                    refine tw_if_eq (tgt := 74) F dX3_readPattern_67 (by decide) (fun b109 => ?_) (fun b109 => ?_)
                    · refine tw_iconst F dX3_readPattern_74 ki_0 (fun z110 hz110 => ?_)
                      exact hret f100 _ _ _ _ z110 dX3_readPattern_75 (tw_nb (by omega)) ⟨hk, by omega, by omega, hG, by omega, by rw [hs1]; exact hP, by rw [hs1]; omega, by rw [hs1]; omega, by rw [hs1]; exact hX⟩ h
                    · exfalso
                      omega
          refine tw_icmp_ne (tgt := 40) F dX3_readPattern_33 (by decide) (fun b111 => ?_) (fun b111 => ?_)
          · refine tw_iconst F dX3_readPattern_40 ki_0 (fun z112 hz112 => ?_)
            exact j_41 _ z112 (by omega) (by omega) (by omega) (lv_sub hl [1, 2, 3, 0] rfl)
          · refine tw_iconst F dX3_readPattern_36 ki_1 (fun z113 hz113 => ?_)
            refine lv_goto (tgt := 41) F.1 F.2.1 dX3_readPattern_37 (by decide) ?_
            exact j_41 _ z113 (by omega) (by omega) (by omega) (lv_sub hl [1, 2, 3, 0] rfl)
        refine tw_icmp_ne (tgt := 25) F dX3_readPattern_18 (by decide) (fun b114 => ?_) (fun b114 => ?_)
        · refine tw_iconst F dX3_readPattern_25 ki_0 (fun z115 hz115 => ?_)
          exact j_26 _ z115 (by omega) (by omega) (by omega) (lv_sub hl [0, 1, 2] rfl)
        · refine tw_iconst F dX3_readPattern_21 ki_1 (fun z116 hz116 => ?_)
          refine lv_goto (tgt := 26) F.1 F.2.1 dX3_readPattern_22 (by decide) ?_
          exact j_26 _ z116 (by omega) (by omega) (by omega) (lv_sub hl [0, 1, 2] rfl)
  have hb7 : fr L R [(3, 12), (3, 13), (6, 14)] [3, 6, 35, 40] f2 f2 := fr.rf
  exact j_7 (((8 - z9.toInt)).toNat + 1) f2 _ _ _ z9 (by omega) (by omega) (by omega) (by omega) (by omega) (by omega) (by omega) (by omega) (by omega) (by omega) (by omega) h hG hX hT hP hk hb7 (lv_sub hl [1, 2, 0] rfl)
theorem dX3_readPieces_0 : decode cX3_readPieces 0 = .ok (.aload_n 0, 1) := by decide +kernel
theorem dX3_readPieces_1 : decode cX3_readPieces 1 = .ok (.getfield 21, 3) := by decide +kernel
theorem dX3_readPieces_4 : decode cX3_readPieces 4 = .ok (.iload_n 1, 1) := by decide +kernel
theorem dX3_readPieces_5 : decode cX3_readPieces 5 = .ok (.invokevirtual 216, 3) := by decide +kernel
theorem mw_609 : Cond.methodLink RX3 216 yX6_openAnswer ∈ wsL_law := inr_26 _ (List.mem_of_getElem? (i := 9) rfl)
theorem mw_612 : Cond.code yX6_openAnswer cX6_openAnswer 2 none ∈ wsL_law := inr_26 _ (List.mem_of_getElem? (i := 12) rfl)
theorem yk_X6_openAnswer : xY yX6_openAnswer RX6 cX6_openAnswer 2 none 1 := ⟨⟨rfl, by decide +kernel, by decide +kernel, by decide +kernel⟩, mw_57, mw_612⟩
theorem mw_610 : Cond.instanceMethod yX6_openAnswer ∈ wsL_law := inr_26 _ (List.mem_of_getElem? (i := 10) rfl)
theorem mw_611 : Cond.selects RX6 yX6_openAnswer yX6_openAnswer ∈ wsL_law := inr_26 _ (List.mem_of_getElem? (i := 11) rfl)
theorem dX3_readPieces_8 : decode cX3_readPieces 8 = .ok (.iconst 0, 1) := by decide +kernel
theorem dX3_readPieces_9 : decode cX3_readPieces 9 = .ok (.istore_n 2, 1) := by decide +kernel
theorem dX3_readPieces_10 : decode cX3_readPieces 10 = .ok (.iload_n 2, 1) := by decide +kernel
theorem dX3_readPieces_11 : decode cX3_readPieces 11 = .ok (.bipush 10, 2) := by decide +kernel
theorem kb_10 : (Int8.ofInt 10).toInt32.toInt = 10 := by decide
theorem dX3_readPieces_13 : decode cX3_readPieces 13 = .ok (.if_icmp .gt 129, 3) := by decide +kernel
theorem dX3_readPieces_16 : decode cX3_readPieces 16 = .ok (.aload_n 0, 1) := by decide +kernel
theorem dX3_readPieces_17 : decode cX3_readPieces 17 = .ok (.invokevirtual 71, 3) := by decide +kernel
theorem dX3_readPieces_20 : decode cX3_readPieces 20 = .ok (.iconst 3, 1) := by decide +kernel
theorem dX3_readPieces_29 : decode cX3_readPieces 29 = .ok (.istore_n 3, 1) := by decide +kernel
theorem dX3_readPieces_30 : decode cX3_readPieces 30 = .ok (.iload_n 3, 1) := by decide +kernel
theorem dX3_readPieces_58 : decode cX3_readPieces 58 = .ok (.iload_n 3, 1) := by decide +kernel
theorem dX3_readPieces_90 : decode cX3_readPieces 90 = .ok (.iload_n 2, 1) := by decide +kernel
theorem dX3_readPieces_91 : decode cX3_readPieces 91 = .ok (.bipush 10, 2) := by decide +kernel
theorem dX3_readPieces_93 : decode cX3_readPieces 93 = .ok (.if_icmp .lt 9, 3) := by decide +kernel
theorem dX3_readPieces_102 : decode cX3_readPieces 102 = .ok (.aload_n 0, 1) := by decide +kernel
theorem dX3_readPieces_103 : decode cX3_readPieces 103 = .ok (.getfield 21, 3) := by decide +kernel
theorem dX3_readPieces_106 : decode cX3_readPieces 106 = .ok (.iload_n 1, 1) := by decide +kernel
theorem dX3_readPieces_107 : decode cX3_readPieces 107 = .ok (.iload_n 3, 1) := by decide +kernel
theorem dX3_readPieces_123 : decode cX3_readPieces 123 = .ok (.invokevirtual 219, 3) := by decide +kernel
theorem mw_613 : Cond.methodLink RX3 219 yX6_addPiece ∈ wsL_law := inr_26 _ (List.mem_of_getElem? (i := 13) rfl)
theorem mw_616 : Cond.code yX6_addPiece cX6_addPiece 4 none ∈ wsL_law := inr_26 _ (List.mem_of_getElem? (i := 16) rfl)
theorem yk_X6_addPiece : xY yX6_addPiece RX6 cX6_addPiece 4 none 2 := ⟨⟨rfl, by decide +kernel, by decide +kernel, by decide +kernel⟩, mw_57, mw_616⟩
theorem mw_614 : Cond.instanceMethod yX6_addPiece ∈ wsL_law := inr_26 _ (List.mem_of_getElem? (i := 14) rfl)
theorem mw_615 : Cond.selects RX6 yX6_addPiece yX6_addPiece ∈ wsL_law := inr_26 _ (List.mem_of_getElem? (i := 15) rfl)
theorem dX3_readPieces_126 : decode cX3_readPieces 126 = .ok (.aload_n 0, 1) := by decide +kernel
theorem dX3_readPieces_127 : decode cX3_readPieces 127 = .ok (.dup, 1) := by decide +kernel
theorem dX3_readPieces_128 : decode cX3_readPieces 128 = .ok (.getfield 58, 3) := by decide +kernel
theorem dX3_readPieces_131 : decode cX3_readPieces 131 = .ok (.iconst 1, 1) := by decide +kernel
theorem dX3_readPieces_132 : decode cX3_readPieces 132 = .ok (.iadd, 1) := by decide +kernel
theorem dX3_readPieces_133 : decode cX3_readPieces 133 = .ok (.putfield 58, 3) := by decide +kernel
theorem dX3_readPieces_136 : decode cX3_readPieces 136 = .ok (.iinc 2 1, 3) := by decide +kernel
theorem dX3_readPieces_139 : decode cX3_readPieces 139 = .ok (.goto (-129), 3) := by decide +kernel
theorem dX3_readPieces_108 : decode cX3_readPieces 108 = .ok (.ifCond .eq 11, 3) := by decide +kernel
theorem dX3_readPieces_119 : decode cX3_readPieces 119 = .ok (.aload_n 0, 1) := by decide +kernel
theorem dX3_readPieces_120 : decode cX3_readPieces 120 = .ok (.invokevirtual 82, 3) := by decide +kernel
theorem dX3_readPieces_111 : decode cX3_readPieces 111 = .ok (.aload_n 0, 1) := by decide +kernel
theorem dX3_readPieces_112 : decode cX3_readPieces 112 = .ok (.invokevirtual 82, 3) := by decide +kernel
theorem dX3_readPieces_115 : decode cX3_readPieces 115 = .ok (.lneg, 1) := by decide +kernel
theorem dX3_readPieces_116 : decode cX3_readPieces 116 = .ok (.goto 7, 3) := by decide +kernel
theorem dX3_readPieces_96 : decode cX3_readPieces 96 = .ok (.aload_n 0, 1) := by decide +kernel
theorem dX3_readPieces_97 : decode cX3_readPieces 97 = .ok (.iconst 5, 1) := by decide +kernel
theorem dX3_readPieces_98 : decode cX3_readPieces 98 = .ok (.invokevirtual 75, 3) := by decide +kernel
theorem dX3_readPieces_101 : decode cX3_readPieces 101 = .ok (.ireturn, 1) := by decide +kernel
theorem dX3_readPieces_59 : decode cX3_readPieces 59 = .ok (.ifCond .eq 31, 3) := by decide +kernel
theorem dX3_readPieces_62 : decode cX3_readPieces 62 = .ok (.aload_n 0, 1) := by decide +kernel
theorem dX3_readPieces_63 : decode cX3_readPieces 63 = .ok (.invokevirtual 82, 3) := by decide +kernel
theorem dX3_readPieces_66 : decode cX3_readPieces 66 = .ok (.lconst 1, 1) := by decide +kernel
theorem dX3_readPieces_67 : decode cX3_readPieces 67 = .ok (.lcmp, 1) := by decide +kernel
theorem dX3_readPieces_68 : decode cX3_readPieces 68 = .ok (.ifCond .lt 16, 3) := by decide +kernel
theorem dX3_readPieces_84 : decode cX3_readPieces 84 = .ok (.aload_n 0, 1) := by decide +kernel
theorem dX3_readPieces_85 : decode cX3_readPieces 85 = .ok (.iconst 4, 1) := by decide +kernel
theorem dX3_readPieces_86 : decode cX3_readPieces 86 = .ok (.invokevirtual 75, 3) := by decide +kernel
theorem dX3_readPieces_89 : decode cX3_readPieces 89 = .ok (.ireturn, 1) := by decide +kernel
theorem dX3_readPieces_71 : decode cX3_readPieces 71 = .ok (.aload_n 0, 1) := by decide +kernel
theorem dX3_readPieces_72 : decode cX3_readPieces 72 = .ok (.invokevirtual 82, 3) := by decide +kernel
theorem dX3_readPieces_75 : decode cX3_readPieces 75 = .ok (.aload_n 0, 1) := by decide +kernel
theorem dX3_readPieces_76 : decode cX3_readPieces 76 = .ok (.getfield 61, 3) := by decide +kernel
theorem dX3_readPieces_79 : decode cX3_readPieces 79 = .ok (.i2l, 1) := by decide +kernel
theorem dX3_readPieces_80 : decode cX3_readPieces 80 = .ok (.lcmp, 1) := by decide +kernel
theorem dX3_readPieces_81 : decode cX3_readPieces 81 = .ok (.ifCond .le 9, 3) := by decide +kernel
theorem dX3_readPieces_31 : decode cX3_readPieces 31 = .ok (.ifCond .ne 27, 3) := by decide +kernel
theorem dX3_readPieces_34 : decode cX3_readPieces 34 = .ok (.aload_n 0, 1) := by decide +kernel
theorem dX3_readPieces_35 : decode cX3_readPieces 35 = .ok (.invokevirtual 155, 3) := by decide +kernel
theorem dX3_readPieces_38 : decode cX3_readPieces 38 = .ok (.ifCond .ne 20, 3) := by decide +kernel
theorem dX3_readPieces_41 : decode cX3_readPieces 41 = .ok (.iload_n 2, 1) := by decide +kernel
theorem dX3_readPieces_42 : decode cX3_readPieces 42 = .ok (.ifCond .gt 10, 3) := by decide +kernel
theorem dX3_readPieces_52 : decode cX3_readPieces 52 = .ok (.iconst 1, 1) := by decide +kernel
theorem dX3_readPieces_53 : decode cX3_readPieces 53 = .ok (.goto 4, 3) := by decide +kernel
theorem dX3_readPieces_57 : decode cX3_readPieces 57 = .ok (.ireturn, 1) := by decide +kernel
theorem dX3_readPieces_45 : decode cX3_readPieces 45 = .ok (.aload_n 0, 1) := by decide +kernel
theorem dX3_readPieces_46 : decode cX3_readPieces 46 = .ok (.invokevirtual 119, 3) := by decide +kernel
theorem dX3_readPieces_49 : decode cX3_readPieces 49 = .ok (.ifCond .eq 7, 3) := by decide +kernel
theorem dX3_readPieces_56 : decode cX3_readPieces 56 = .ok (.iconst 0, 1) := by decide +kernel
theorem dX3_readPieces_21 : decode cX3_readPieces 21 = .ok (.if_icmp .ne 7, 3) := by decide +kernel
theorem dX3_readPieces_28 : decode cX3_readPieces 28 = .ok (.iconst 0, 1) := by decide +kernel
theorem dX3_readPieces_24 : decode cX3_readPieces 24 = .ok (.iconst 1, 1) := by decide +kernel
theorem dX3_readPieces_25 : decode cX3_readPieces 25 = .ok (.goto 4, 3) := by decide +kernel
def rm_X3_readPieces : Room := { frames := 2, cells := 0, slots := 0, locals := 45 }
set_option maxHeartbeats 4000000 in
set_option maxRecDepth 100000 in
theorem s_X3_readPieces (l : Launch) (D : va_G) (cy : Nat → ClassId) (L : List Nat) (R O : Nat → Nat) (f0 : Nat → va_E) (hG : GG L R O f0) (a0 : Nat) (m_a0 : a0 ∈ L) (r_a0 : R a0 = 3) (x1 : Int32) (b1 : 0 ≤ x1.toInt ∧ x1.toInt ≤ 99) (pre0 : TK L R f0 a0) (pre1 : PNZ f0 (rfa f0 a0 1)) (pre2 : fi f0 (rfa f0 a0 1) 14 ≤ fi f0 a0 12) : ∀ sz, Met l yX3_readPieces (Cond.code yX3_readPieces cX3_readPieces 4 (some .boolean) :: wsL_law) rm_X3_readPieces (va_Pc [.ref a0, .int x1] (tPZ D cy L R (TT cy L R) f0 sz)) (va_Qi (fun (r : Int32) f1 => fr L R [(3, 2), (3, 3), (3, 12), (6, 14)] [3, 6, 35, 42, 43] f0 f1 ∧ 0 ≤ r.toInt ∧ r.toInt ≤ 1 ∧ GG L R O f1 ∧ fi f0 a0 12 ≤ fi f1 a0 12 ∧ PNZ f1 (rfa f0 a0 1) ∧ fi f1 (rfa f0 a0 1) 14 ≤ fi f1 a0 12 ∧ (r.toInt = 0 ∨ VSd f1 (rfa f0 a0 1) x1.toInt.toNat) ∧ (∀ d, d ≠ x1.toInt.toNat → VSd f0 (rfa f0 a0 1) d → VSd f1 (rfa f0 a0 1) d) ∧ OB L R O (rfa f0 a0 1) f0 f1) (tB D (tA L sz) L R (TT cy L R)) (tA L sz)) 0 0 (tA L sz) := by
  refine tw_enteri (by decide +kernel) rfl (Nat.le_of_ble_eq_true rfl) ?_
  intro p e s m below meth c A ls args Q F hZ h hl hret
  have hl : lv_has ls 4 [(0, .ref a0), (1, .int x1)] := hl
  have hk : fr L R [(3, 2), (3, 3), (3, 12), (6, 14)] [3, 6, 35, 42, 43] f0 f0 := fr.rf
  have t_a0_at := h.bfi m_a0 r_a0 (fun e q => (T_3 e).mp q) (k := 12) rfl
  have t_a0_tokenCount := h.bfi m_a0 r_a0 (fun e q => (T_3 e).mp q) (k := 8) rfl
  obtain ⟨a0_script, m_a0_script, r_a0_script, t_a0_script⟩ := h.rf m_a0 r_a0 (fun e q => (T_3 e).mp q) (k := 1) rfl
  have t_a0_script_partCount := h.bfi m_a0_script r_a0_script (fun e q => (T_6 e).mp q) (k := 14) rfl
  have hs1 := rfa_of t_a0_script
  rw [hs1] at pre1 pre2
  have hT := pre0
  have hP := pre1
  have hX : OB L R O a0_script f0 f0 := OB_rf
  refine lv_aload_n F.1 F.2.1 dX3_readPieces_0 rfl (lv_at hl 0 rfl) ?_
  refine g_3_21 F h m_a0 r_a0 dX3_readPieces_1 (fun o1 m_o1 r_o1 ho1 => ?_)
  obtain rfl := (fld_inj t_a0_script ho1).symm
  refine lv_iload_n F.1 F.2.1 dX3_readPieces_4 rfl (lv_at hl 1 rfl) ?_
  have hGo := hG
  refine tw_Vv (As := [.int x1]) F hZ h yk_X6_openAnswer mw_609 mw_610 mw_611 (s_X6_openAnswer l D cy L R O f0 hG a0_script m_a0_script r_a0_script x1 ⟨by omega, by omega⟩) rfl rfl m_a0_script r_a0_script (fun e q => (T_6 e).mp q) rfl hl.1 rfl (Nat.le_of_ble_eq_true rfl) ⟨Nat.le_of_ble_eq_true rfl, Nat.le_of_ble_eq_true rfl⟩ ⟨Nat.le_of_ble_eq_true rfl, Nat.le_of_ble_eq_true rfl⟩ dX3_readPieces_5 (fun f2 H locs hp2 h => ?_)
  obtain ⟨hf2, hG, hv3p0, hv3p1, hv3p2, hv3p3⟩ := hp2
  have hX : OB L R O a0_script f0 f2 := OB_tr hX hv3p3
  have hT : TK L R f2 a0 := TK_fr hT hf2 (by decide +kernel) m_a0 r_a0
  have hP : PNZ f2 a0_script := PNZ_fr hP hGo.1 hf2 (by decide +kernel) (by decide +kernel) (by decide +kernel) m_a0_script r_a0_script
  have hk : fr L R [(3, 2), (3, 3), (3, 12), (6, 14)] [3, 6, 35, 42, 43] f0 f2 := hk.tr hf2 rfl rfl
  have e4 : fi f2 a0 12 = fi f0 a0 12 := hf2.efi m_a0 r_a0 rfl
  have e5 : fi f2 a0 8 = fi f0 a0 8 := hf2.efi m_a0 r_a0 rfl
  have e6 : fld f2 a0 1 = .ref a0_script := (hf2.efl m_a0 r_a0 rfl).trans t_a0_script
  have e7 : fi f2 a0_script 14 = fi f0 a0_script 14 := hf2.efi m_a0_script r_a0_script rfl
  have hV : VSd f2 a0_script x1.toInt.toNat := hv3p1
  have hM : ∀ d, d ≠ x1.toInt.toNat → VSd f0 a0_script d → VSd f2 a0_script d := hv3p2
  refine tw_iconst F dX3_readPieces_8 ki_0 (fun z8 hz8 => ?_)
  refine lv_istore_n (lv' := [(2, .int z8), (0, .ref a0), (1, .int x1)]) F.1 F.2.1 dX3_readPieces_9 rfl hl (by decide) rfl (fun ls hl => ?_)
  have j_10 : ∀ (n10 : Nat) (f9 : Nat → va_E) (H : Heap) (locs : List Loc) (ls : Array Slot) (x2_10 : Int32), 0 ≤ x2_10.toInt → x2_10.toInt ≤ 10 → eli f9 (rfa f9 a0_script 12) x1.toInt.toNat = x2_10.toInt → fi f9 a0_script 14 ≤ fi f9 a0 12 → fi f0 a0 12 ≤ fi f9 a0 12 → fi f9 a0 8 = fi f0 a0 8 → ((10 - x2_10.toInt)).toNat < n10 → tS D cy A s.heap L R (TT cy L R) f9 s H locs → GG L R O f9 → OB L R O a0_script f0 f9 → TK L R f9 a0 → PNZ f9 a0_script → VSd f9 a0_script x1.toInt.toNat → (∀ d, d ≠ x1.toInt.toNat → VSd f0 a0_script d → VSd f9 a0_script d) → fr L R [(3, 2), (3, 3), (3, 12), (6, 14)] [3, 6, 35, 42, 43] f0 f9 → fr L R [(3, 12), (6, 14)] [3, 6, 35, 43] f2 f9 → lv_has ls 4 [(0, .ref a0), (1, .int x1), (2, .int x2_10)] → W p l e rm_X3_readPieces s m args below meth c H locs 0 0 Q (F0 m 10 ls []) := by
    intro n10
    induction n10 with
    | zero =>
      intro f9 H locs ls x2_10 b10 b11 b12 b13 b14 b15 b16 h hG hX hT hP hV hM hk hb10 hl
      exfalso
      omega
    | succ n10 ih10 =>
      intro f9 H locs ls x2_10 b10 b11 b12 b13 b14 b15 b16 h hG hX hT hP hV hM hk hb10 hl
      have e17 : fi f9 a0 8 = fi f2 a0 8 := hb10.efi m_a0 r_a0 rfl
      have e18 : fld f9 a0 1 = .ref a0_script := (hb10.efl m_a0 r_a0 rfl).trans e6
      refine lv_iload_n F.1 F.2.1 dX3_readPieces_10 rfl (lv_at hl 2 rfl) ?_
      refine tw_bipush F dX3_readPieces_11 kb_10 (fun z19 hz19 => ?_)
      refine tw_icmp_gt (tgt := 142) F dX3_readPieces_13 (by decide) (fun b20 => ?_) (fun b20 => ?_)
      · exfalso
        omega
      · refine lv_aload_n F.1 F.2.1 dX3_readPieces_16 rfl (lv_at hl 0 rfl) ?_
        refine tw_Vi (As := []) F hZ h yk_X3_kind mw_416 mw_417 mw_418 (s_X3_kind l D cy L R O f9 a0 m_a0 r_a0) rfl rfl m_a0 r_a0 (fun e q => (T_3 e).mp q) rfl hl.1 rfl (Nat.le_of_ble_eq_true rfl) ⟨Nat.le_of_ble_eq_true rfl, Nat.le_of_ble_eq_true rfl⟩ ⟨Nat.le_of_ble_eq_true rfl, Nat.le_of_ble_eq_true rfl⟩ dX3_readPieces_17 (fun v22 f21 H locs hp21 h => ?_)
        obtain ⟨rfl, hv22p0⟩ := hp21
        refine tw_iconst F dX3_readPieces_20 ki_3 (fun z23 hz23 => ?_)
        have j_29 : ∀ (ls : Array Slot) (y0_29 : Int32), 0 ≤ y0_29.toInt → y0_29.toInt ≤ 1 → (y0_29.toInt = 1 → fi f9 a0 12 < fi f9 a0 8) → lv_has ls 4 [(0, .ref a0), (1, .int x1), (2, .int x2_10)] → W p l e rm_X3_readPieces s m args below meth c H locs 0 0 Q (F0 m 29 ls [.int y0_29]) := by
          intro ls y0_29 b24 b25 b26 hl
          refine lv_istore_n (lv' := [(3, .int y0_29), (0, .ref a0), (1, .int x1), (2, .int x2_10)]) F.1 F.2.1 dX3_readPieces_29 rfl hl (by decide) rfl (fun ls hl => ?_)
          refine lv_iload_n F.1 F.2.1 dX3_readPieces_30 rfl (lv_at hl 0 rfl) ?_
          have j_58 : ∀ (H : Heap) (locs : List Loc) (ls : Array Slot), fi f9 a0 12 < fi f9 a0 8 → ((y0_29.toInt = 1 ∨ eli f9 (rfa f9 a0 4) (fi f9 a0 12).toNat = 1)) → tS D cy A s.heap L R (TT cy L R) f9 s H locs → lv_has ls 4 [(0, .ref a0), (1, .int x1), (2, .int x2_10), (3, .int y0_29)] → W p l e rm_X3_readPieces s m args below meth c H locs 0 0 Q (F0 m 58 ls []) := by
            intro H locs ls b27 ip58_0 h hl
            refine lv_iload_n F.1 F.2.1 dX3_readPieces_58 rfl (lv_at hl 3 rfl) ?_
            have j_90 : ∀ (H : Heap) (locs : List Loc) (ls : Array Slot), (y0_29.toInt = 1 → (1 ≤ elj f9 (rfa f9 a0 7) (fi f9 a0 12).toNat ∧ elj f9 (rfa f9 a0 7) (fi f9 a0 12).toNat ≤ 9)) → tS D cy A s.heap L R (TT cy L R) f9 s H locs → lv_has ls 4 [(0, .ref a0), (1, .int x1), (2, .int x2_10), (3, .int y0_29)] → W p l e rm_X3_readPieces s m args below meth c H locs 0 0 Q (F0 m 90 ls []) := by
              intro H locs ls b28 h hl
              refine lv_iload_n F.1 F.2.1 dX3_readPieces_90 rfl (lv_at hl 2 rfl) ?_
              refine tw_bipush F dX3_readPieces_91 kb_10 (fun z29 hz29 => ?_)
              refine tw_icmp_lt (tgt := 102) F dX3_readPieces_93 (by decide) (fun b30 => ?_) (fun b30 => ?_)
              · refine lv_aload_n F.1 F.2.1 dX3_readPieces_102 rfl (lv_at hl 0 rfl) ?_
                refine g_3_21 F h m_a0 r_a0 dX3_readPieces_103 (fun o31 m_o31 r_o31 ho31 => ?_)
                obtain rfl := (fld_inj e18 ho31).symm
                refine lv_iload_n F.1 F.2.1 dX3_readPieces_106 rfl (lv_at hl 1 rfl) ?_
                refine lv_iload_n F.1 F.2.1 dX3_readPieces_107 rfl (lv_at hl 3 rfl) ?_
                have j_123 : ∀ (H : Heap) (locs : List Loc) (ls : Array Slot) (y0_123 : Int64), -9 ≤ y0_123.toInt → y0_123.toInt ≠ 0 → tS D cy A s.heap L R (TT cy L R) f9 s H locs → lv_has ls 4 [(0, .ref a0), (1, .int x1), (2, .int x2_10)] → W p l e rm_X3_readPieces s m args below meth c H locs 0 0 Q (F0 m 123 ls [.long y0_123, .int x1, .ref a0_script]) := by
                  intro H locs ls y0_123 b32 b33 h hl
                  have hGo := hG
                  refine tw_Vv (As := [.int x1, .long y0_123]) F hZ h yk_X6_addPiece mw_613 mw_614 mw_615 (s_X6_addPiece l D cy L R O f9 hG a0_script m_a0_script r_a0_script x1 ⟨by omega, by omega⟩ y0_123 (by omega) (by omega) hP (by omega) hV (by omega)) rfl rfl m_a0_script r_a0_script (fun e q => (T_6 e).mp q) rfl hl.1 rfl (Nat.le_of_ble_eq_true rfl) ⟨Nat.le_of_ble_eq_true rfl, Nat.le_of_ble_eq_true rfl⟩ ⟨Nat.le_of_ble_eq_true rfl, Nat.le_of_ble_eq_true rfl⟩ dX3_readPieces_123 (fun f34 H locs hp34 h => ?_)
                  obtain ⟨hf34, hG, hv35p0, hv35p1, hv35p2, hv35p3, hv35p4, hv35p5⟩ := hp34
                  have hX : OB L R O a0_script f0 f34 := OB_tr hX hv35p5
                  have hT : TK L R f34 a0 := TK_fr hT hf34 (by decide +kernel) m_a0 r_a0
                  have hk : fr L R [(3, 2), (3, 3), (3, 12), (6, 14)] [3, 6, 35, 42, 43] f0 f34 := hk.tr hf34 rfl rfl
                  have hb10 : fr L R [(3, 12), (6, 14)] [3, 6, 35, 43] f2 f34 := hb10.tr hf34 rfl rfl
                  have e36 : fi f34 a0 12 = fi f9 a0 12 := hf34.efi m_a0 r_a0 rfl
                  have e37 : fi f34 a0 8 = fi f9 a0 8 := hf34.efi m_a0 r_a0 rfl
                  have e38 : fld f34 a0 1 = .ref a0_script := (hf34.efl m_a0 r_a0 rfl).trans e18
                  have hP : PNZ f34 a0_script := hv35p0
                  have hV : VSd f34 a0_script x1.toInt.toNat := hv35p3
                  have hM : ∀ d, d ≠ x1.toInt.toNat → VSd f0 a0_script d → VSd f34 a0_script d := fun d hd q => hv35p4 d hd (hM d hd q)
                  refine lv_aload_n F.1 F.2.1 dX3_readPieces_126 rfl (lv_at hl 0 rfl) ?_
                  refine lv_dup F.1 F.2.1 dX3_readPieces_127 rfl ?_
                  refine g_3_58 F h m_a0 r_a0 dX3_readPieces_128 (fun v39 hv39 hv39a hv39b => ?_)
                  refine tw_iconst F dX3_readPieces_131 ki_1 (fun z40 hz40 => ?_)
                  refine tu_iadd F dX3_readPieces_132 (by omega) (fun z41 hz41 => ?_)
                  refine p_3_58 F h m_a0 r_a0 (by omega) dX3_readPieces_133 (fun f42 H locs e42p hf42 h => ?_)
                  have ea43 : eli f42 (rfa f42 a0_script 12) x1.toInt.toNat = eli f34 (rfa f34 a0_script 12) x1.toInt.toNat := E0i hG.1 hf42 (by decide +kernel) m_a0_script r_a0_script sk12 rfl (by decide +kernel) _
                  have hX : OB L R O a0_script f0 f42 := OB_fr hX hf42 (by decide +kernel)
                  have hT : TK L R f42 a0 := TK_fr hT hf42 (by decide +kernel) m_a0 r_a0
                  have hP : PNZ f42 a0_script := PNZ_fr hP hG.1 hf42 (by decide +kernel) (by decide +kernel) (by decide +kernel) m_a0_script r_a0_script
                  have hV : VSd f42 a0_script x1.toInt.toNat := VSd_fr hV hG.1 hf42 (by decide +kernel) (Int.le_of_eq (hf42.efi m_a0_script r_a0_script (by decide +kernel)).symm) (by decide +kernel) (by decide +kernel) m_a0_script r_a0_script
                  have hM : (∀ d, d ≠ x1.toInt.toNat → VSd f0 a0_script d → VSd f42 a0_script d) := (fun d hd q => VSd_fr (hM d hd q) hG.1 hf42 (by decide +kernel) (Int.le_of_eq (hf42.efi m_a0_script r_a0_script (by decide +kernel)).symm) (by decide +kernel) (by decide +kernel) m_a0_script r_a0_script)
                  have hG : GG L R O f42 := hG.fr hf42 (by decide +kernel) (by decide +kernel)
                  have hk : fr L R [(3, 2), (3, 3), (3, 12), (6, 14)] [3, 6, 35, 42, 43] f0 f42 := hk.tr hf42 rfl rfl
                  have hb10 : fr L R [(3, 12), (6, 14)] [3, 6, 35, 43] f2 f42 := hb10.tr hf42 rfl rfl
                  have e44 : fi f42 a0 8 = fi f34 a0 8 := hf42.efi m_a0 r_a0 rfl
                  have e45 : fld f42 a0 1 = .ref a0_script := (hf42.efl m_a0 r_a0 rfl).trans e38
                  have e46 : fi f42 a0_script 14 = fi f34 a0_script 14 := hf42.efi m_a0_script r_a0_script rfl
                  refine tu_iinc F dX3_readPieces_136 hl (k := 2) rfl (by decide) ki_1 (by omega) (fun z47 ls hz47 hl => ?_)
                  have hl : lv_has ls 4 [(2, .int z47), (0, .ref a0), (1, .int x1)] := hl
                  refine lv_goto (tgt := 10) F.1 F.2.1 dX3_readPieces_139 (by decide) ?_
                  exact ih10 f42 _ _ _ z47 (by omega) (by omega) (by omega) (by omega) (by omega) (by omega) (by omega) h hG hX hT hP hV hM hk hb10 (lv_sub hl [1, 2, 0] rfl)
                refine tw_if_eq (tgt := 119) F dX3_readPieces_108 (by decide) (fun b48 => ?_) (fun b48 => ?_)
                · refine lv_aload_n F.1 F.2.1 dX3_readPieces_119 rfl (lv_at hl 0 rfl) ?_
                  refine tw_Vl (As := []) F hZ h yk_X3_value mw_424 mw_425 mw_426 (s_X3_value l D cy L R O f9 a0 m_a0 r_a0) rfl rfl m_a0 r_a0 (fun e q => (T_3 e).mp q) rfl hl.1 rfl (Nat.le_of_ble_eq_true rfl) ⟨Nat.le_of_ble_eq_true rfl, Nat.le_of_ble_eq_true rfl⟩ ⟨Nat.le_of_ble_eq_true rfl, Nat.le_of_ble_eq_true rfl⟩ dX3_readPieces_120 (fun v50 f49 H locs hp49 h => ?_)
                  obtain ⟨rfl, hv50p0⟩ := hp49
                  have vp : 1 ≤ v50.toInt := by have q1 := hv50p0 (by omega); have q2 := (hT.2.2.2.2.2.2 (fi f9 a0 12).toNat (by omega) (ip58_0.resolve_left (by omega))).1; omega
                  exact j_123 _ _ _ v50 (by omega) (by omega) h (lv_sub hl [0, 1, 2] rfl)
                · refine lv_aload_n F.1 F.2.1 dX3_readPieces_111 rfl (lv_at hl 0 rfl) ?_
                  refine tw_Vl (As := []) F hZ h yk_X3_value mw_424 mw_425 mw_426 (s_X3_value l D cy L R O f9 a0 m_a0 r_a0) rfl rfl m_a0 r_a0 (fun e q => (T_3 e).mp q) rfl hl.1 rfl (Nat.le_of_ble_eq_true rfl) ⟨Nat.le_of_ble_eq_true rfl, Nat.le_of_ble_eq_true rfl⟩ ⟨Nat.le_of_ble_eq_true rfl, Nat.le_of_ble_eq_true rfl⟩ dX3_readPieces_112 (fun v52 f51 H locs hp51 h => ?_)
                  obtain ⟨rfl, hv52p0⟩ := hp51
                  refine tu_lneg F dX3_readPieces_115 (by omega) (fun z53 hz53 => ?_)
                  refine lv_goto (tgt := 123) F.1 F.2.1 dX3_readPieces_116 (by decide) ?_
                  exact j_123 _ _ _ z53 (by omega) (by omega) h (lv_sub hl [0, 1, 2] rfl)
              · refine lv_aload_n F.1 F.2.1 dX3_readPieces_96 rfl (lv_at hl 0 rfl) ?_
                refine tw_iconst F dX3_readPieces_97 ki_5 (fun z54 hz54 => ?_)
                refine tw_Vi (As := [.int z54]) F hZ h yk_X3_fail mw_420 mw_421 mw_422 (s_X3_fail l D cy L R O f9 a0 m_a0 r_a0 z54 ⟨by omega, by omega⟩) rfl rfl m_a0 r_a0 (fun e q => (T_3 e).mp q) rfl hl.1 rfl (Nat.le_of_ble_eq_true rfl) ⟨Nat.le_of_ble_eq_true rfl, Nat.le_of_ble_eq_true rfl⟩ ⟨Nat.le_of_ble_eq_true rfl, Nat.le_of_ble_eq_true rfl⟩ dX3_readPieces_98 (fun v56 f55 H locs hp55 h => ?_)
                obtain ⟨hf55, hv56a, hv56b⟩ := hp55
                have ea57 : eli f55 (rfa f55 a0_script 12) x1.toInt.toNat = eli f9 (rfa f9 a0_script 12) x1.toInt.toNat := E0i hG.1 hf55 (by decide +kernel) m_a0_script r_a0_script sk12 rfl (by decide +kernel) _
                have hX : OB L R O a0_script f0 f55 := OB_fr hX hf55 (by decide +kernel)
                have hT : TK L R f55 a0 := TK_fr hT hf55 (by decide +kernel) m_a0 r_a0
                have hP : PNZ f55 a0_script := PNZ_fr hP hG.1 hf55 (by decide +kernel) (by decide +kernel) (by decide +kernel) m_a0_script r_a0_script
                have hV : VSd f55 a0_script x1.toInt.toNat := VSd_fr hV hG.1 hf55 (by decide +kernel) (Int.le_of_eq (hf55.efi m_a0_script r_a0_script (by decide +kernel)).symm) (by decide +kernel) (by decide +kernel) m_a0_script r_a0_script
                have hM : (∀ d, d ≠ x1.toInt.toNat → VSd f0 a0_script d → VSd f55 a0_script d) := (fun d hd q => VSd_fr (hM d hd q) hG.1 hf55 (by decide +kernel) (Int.le_of_eq (hf55.efi m_a0_script r_a0_script (by decide +kernel)).symm) (by decide +kernel) (by decide +kernel) m_a0_script r_a0_script)
                have hG : GG L R O f55 := hG.fr hf55 (by decide +kernel) (by decide +kernel)
                have hk : fr L R [(3, 2), (3, 3), (3, 12), (6, 14)] [3, 6, 35, 42, 43] f0 f55 := hk.tr hf55 rfl rfl
                have e58 : fi f55 a0 12 = fi f9 a0 12 := hf55.efi m_a0 r_a0 rfl
                have e59 : fi f55 a0 8 = fi f9 a0 8 := hf55.efi m_a0 r_a0 rfl
                have e60 : fld f55 a0 1 = .ref a0_script := (hf55.efl m_a0 r_a0 rfl).trans e18
                have e61 : fi f55 a0_script 14 = fi f9 a0_script 14 := hf55.efi m_a0_script r_a0_script rfl
                exact hret f55 _ _ _ _ v56 dX3_readPieces_101 (tw_nb (by omega)) ⟨hk, by omega, by omega, hG, by omega, by rw [hs1]; exact hP, by rw [hs1]; omega, by rw [hs1]; exact Or.inr hV, by rw [hs1]; exact hM, by rw [hs1]; exact hX⟩ h
            refine tw_if_eq (tgt := 90) F dX3_readPieces_59 (by decide) (fun b62 => ?_) (fun b62 => ?_)
            · exact j_90 _ _ _ (by omega) h (lv_sub hl [0, 1, 2, 3] rfl)
            · refine lv_aload_n F.1 F.2.1 dX3_readPieces_62 rfl (lv_at hl 0 rfl) ?_
              refine tw_Vl (As := []) F hZ h yk_X3_value mw_424 mw_425 mw_426 (s_X3_value l D cy L R O f9 a0 m_a0 r_a0) rfl rfl m_a0 r_a0 (fun e q => (T_3 e).mp q) rfl hl.1 rfl (Nat.le_of_ble_eq_true rfl) ⟨Nat.le_of_ble_eq_true rfl, Nat.le_of_ble_eq_true rfl⟩ ⟨Nat.le_of_ble_eq_true rfl, Nat.le_of_ble_eq_true rfl⟩ dX3_readPieces_63 (fun v64 f63 H locs hp63 h => ?_)
              obtain ⟨rfl, hv64p0⟩ := hp63
              refine tu_lconst F dX3_readPieces_66 (by decide) (fun z65 (hz65 : z65.toInt = 1) => ?_)
              refine tw_lcmp F dX3_readPieces_67 (fun z66 hz66 => ?_)
              refine tw_if_lt (tgt := 84) F dX3_readPieces_68 (by decide) (fun b67 => ?_) (fun b67 => ?_)
              · refine lv_aload_n F.1 F.2.1 dX3_readPieces_84 rfl (lv_at hl 0 rfl) ?_
                refine tw_iconst F dX3_readPieces_85 ki_4 (fun z68 hz68 => ?_)
                refine tw_Vi (As := [.int z68]) F hZ h yk_X3_fail mw_420 mw_421 mw_422 (s_X3_fail l D cy L R O f9 a0 m_a0 r_a0 z68 ⟨by omega, by omega⟩) rfl rfl m_a0 r_a0 (fun e q => (T_3 e).mp q) rfl hl.1 rfl (Nat.le_of_ble_eq_true rfl) ⟨Nat.le_of_ble_eq_true rfl, Nat.le_of_ble_eq_true rfl⟩ ⟨Nat.le_of_ble_eq_true rfl, Nat.le_of_ble_eq_true rfl⟩ dX3_readPieces_86 (fun v70 f69 H locs hp69 h => ?_)
                obtain ⟨hf69, hv70a, hv70b⟩ := hp69
                have ea71 : eli f69 (rfa f69 a0_script 12) x1.toInt.toNat = eli f9 (rfa f9 a0_script 12) x1.toInt.toNat := E0i hG.1 hf69 (by decide +kernel) m_a0_script r_a0_script sk12 rfl (by decide +kernel) _
                have hX : OB L R O a0_script f0 f69 := OB_fr hX hf69 (by decide +kernel)
                have hT : TK L R f69 a0 := TK_fr hT hf69 (by decide +kernel) m_a0 r_a0
                have hP : PNZ f69 a0_script := PNZ_fr hP hG.1 hf69 (by decide +kernel) (by decide +kernel) (by decide +kernel) m_a0_script r_a0_script
                have hV : VSd f69 a0_script x1.toInt.toNat := VSd_fr hV hG.1 hf69 (by decide +kernel) (Int.le_of_eq (hf69.efi m_a0_script r_a0_script (by decide +kernel)).symm) (by decide +kernel) (by decide +kernel) m_a0_script r_a0_script
                have hM : (∀ d, d ≠ x1.toInt.toNat → VSd f0 a0_script d → VSd f69 a0_script d) := (fun d hd q => VSd_fr (hM d hd q) hG.1 hf69 (by decide +kernel) (Int.le_of_eq (hf69.efi m_a0_script r_a0_script (by decide +kernel)).symm) (by decide +kernel) (by decide +kernel) m_a0_script r_a0_script)
                have hG : GG L R O f69 := hG.fr hf69 (by decide +kernel) (by decide +kernel)
                have hk : fr L R [(3, 2), (3, 3), (3, 12), (6, 14)] [3, 6, 35, 42, 43] f0 f69 := hk.tr hf69 rfl rfl
                have e72 : fi f69 a0 12 = fi f9 a0 12 := hf69.efi m_a0 r_a0 rfl
                have e73 : fi f69 a0 8 = fi f9 a0 8 := hf69.efi m_a0 r_a0 rfl
                have e74 : fld f69 a0 1 = .ref a0_script := (hf69.efl m_a0 r_a0 rfl).trans e18
                have e75 : fi f69 a0_script 14 = fi f9 a0_script 14 := hf69.efi m_a0_script r_a0_script rfl
                exact hret f69 _ _ _ _ v70 dX3_readPieces_89 (tw_nb (by omega)) ⟨hk, by omega, by omega, hG, by omega, by rw [hs1]; exact hP, by rw [hs1]; omega, by rw [hs1]; exact Or.inr hV, by rw [hs1]; exact hM, by rw [hs1]; exact hX⟩ h
              · refine lv_aload_n F.1 F.2.1 dX3_readPieces_71 rfl (lv_at hl 0 rfl) ?_
                refine tw_Vl (As := []) F hZ h yk_X3_value mw_424 mw_425 mw_426 (s_X3_value l D cy L R O f9 a0 m_a0 r_a0) rfl rfl m_a0 r_a0 (fun e q => (T_3 e).mp q) rfl hl.1 rfl (Nat.le_of_ble_eq_true rfl) ⟨Nat.le_of_ble_eq_true rfl, Nat.le_of_ble_eq_true rfl⟩ ⟨Nat.le_of_ble_eq_true rfl, Nat.le_of_ble_eq_true rfl⟩ dX3_readPieces_72 (fun v77 f76 H locs hp76 h => ?_)
                obtain ⟨rfl, hv77p0⟩ := hp76
                refine lv_aload_n F.1 F.2.1 dX3_readPieces_75 rfl (lv_at hl 0 rfl) ?_
                refine g_3_61 F h m_a0 r_a0 dX3_readPieces_76 (fun v78 hv78 hv78a hv78b => ?_)
                refine tw_i2l F dX3_readPieces_79 (fun z79 hz79 => ?_)
                refine tw_lcmp F dX3_readPieces_80 (fun z80 hz80 => ?_)
                refine tw_if_le (tgt := 90) F dX3_readPieces_81 (by decide) (fun b81 => ?_) (fun b81 => ?_)
                · exact j_90 _ _ _ (by omega) h (lv_sub hl [0, 1, 2, 3] rfl)
                · refine lv_aload_n F.1 F.2.1 dX3_readPieces_84 rfl (lv_at hl 0 rfl) ?_
                  refine tw_iconst F dX3_readPieces_85 ki_4 (fun z82 hz82 => ?_)
                  refine tw_Vi (As := [.int z82]) F hZ h yk_X3_fail mw_420 mw_421 mw_422 (s_X3_fail l D cy L R O f9 a0 m_a0 r_a0 z82 ⟨by omega, by omega⟩) rfl rfl m_a0 r_a0 (fun e q => (T_3 e).mp q) rfl hl.1 rfl (Nat.le_of_ble_eq_true rfl) ⟨Nat.le_of_ble_eq_true rfl, Nat.le_of_ble_eq_true rfl⟩ ⟨Nat.le_of_ble_eq_true rfl, Nat.le_of_ble_eq_true rfl⟩ dX3_readPieces_86 (fun v84 f83 H locs hp83 h => ?_)
                  obtain ⟨hf83, hv84a, hv84b⟩ := hp83
                  have ea85 : eli f83 (rfa f83 a0_script 12) x1.toInt.toNat = eli f9 (rfa f9 a0_script 12) x1.toInt.toNat := E0i hG.1 hf83 (by decide +kernel) m_a0_script r_a0_script sk12 rfl (by decide +kernel) _
                  have hX : OB L R O a0_script f0 f83 := OB_fr hX hf83 (by decide +kernel)
                  have hT : TK L R f83 a0 := TK_fr hT hf83 (by decide +kernel) m_a0 r_a0
                  have hP : PNZ f83 a0_script := PNZ_fr hP hG.1 hf83 (by decide +kernel) (by decide +kernel) (by decide +kernel) m_a0_script r_a0_script
                  have hV : VSd f83 a0_script x1.toInt.toNat := VSd_fr hV hG.1 hf83 (by decide +kernel) (Int.le_of_eq (hf83.efi m_a0_script r_a0_script (by decide +kernel)).symm) (by decide +kernel) (by decide +kernel) m_a0_script r_a0_script
                  have hM : (∀ d, d ≠ x1.toInt.toNat → VSd f0 a0_script d → VSd f83 a0_script d) := (fun d hd q => VSd_fr (hM d hd q) hG.1 hf83 (by decide +kernel) (Int.le_of_eq (hf83.efi m_a0_script r_a0_script (by decide +kernel)).symm) (by decide +kernel) (by decide +kernel) m_a0_script r_a0_script)
                  have hG : GG L R O f83 := hG.fr hf83 (by decide +kernel) (by decide +kernel)
                  have hk : fr L R [(3, 2), (3, 3), (3, 12), (6, 14)] [3, 6, 35, 42, 43] f0 f83 := hk.tr hf83 rfl rfl
                  have e86 : fi f83 a0 12 = fi f9 a0 12 := hf83.efi m_a0 r_a0 rfl
                  have e87 : fi f83 a0 8 = fi f9 a0 8 := hf83.efi m_a0 r_a0 rfl
                  have e88 : fld f83 a0 1 = .ref a0_script := (hf83.efl m_a0 r_a0 rfl).trans e18
                  have e89 : fi f83 a0_script 14 = fi f9 a0_script 14 := hf83.efi m_a0_script r_a0_script rfl
                  have e90 : fi f83 a0 13 = fi f9 a0 13 := hf83.efi m_a0 r_a0 rfl
                  exact hret f83 _ _ _ _ v84 dX3_readPieces_89 (tw_nb (by omega)) ⟨hk, by omega, by omega, hG, by omega, by rw [hs1]; exact hP, by rw [hs1]; omega, by rw [hs1]; exact Or.inr hV, by rw [hs1]; exact hM, by rw [hs1]; exact hX⟩ h
          refine tw_if_ne (tgt := 58) F dX3_readPieces_31 (by decide) (fun b91 => ?_) (fun b91 => ?_)
          · exact j_58 _ _ _ (by omega) (Or.inl (by omega)) h (lv_sub hl [1, 2, 3, 0] rfl)
          · refine lv_aload_n F.1 F.2.1 dX3_readPieces_34 rfl (lv_at hl 1 rfl) ?_
            refine tw_Vi (As := []) F hZ h yk_X3_isName mw_536 mw_537 mw_538 (s_X3_isName l D cy L R O f9 a0 m_a0 r_a0) rfl rfl m_a0 r_a0 (fun e q => (T_3 e).mp q) rfl hl.1 rfl (Nat.le_of_ble_eq_true rfl) ⟨Nat.le_of_ble_eq_true rfl, Nat.le_of_ble_eq_true rfl⟩ ⟨Nat.le_of_ble_eq_true rfl, Nat.le_of_ble_eq_true rfl⟩ dX3_readPieces_35 (fun v93 f92 H locs hp92 h => ?_)
            obtain ⟨rfl, hv93a, hv93b, hv93p0⟩ := hp92
            refine tw_if_ne (tgt := 58) F dX3_readPieces_38 (by decide) (fun b94 => ?_) (fun b94 => ?_)
            · exact j_58 _ _ _ (by omega) (Or.inr (hv93p0.resolve_left (by omega)).2) h (lv_sub hl [1, 2, 3, 0] rfl)
            · refine lv_iload_n F.1 F.2.1 dX3_readPieces_41 rfl (lv_at hl 3 rfl) ?_
              refine tw_if_gt (tgt := 52) F dX3_readPieces_42 (by decide) (fun b95 => ?_) (fun b95 => ?_)
              · refine tw_iconst F dX3_readPieces_52 ki_1 (fun z96 hz96 => ?_)
                refine lv_goto (tgt := 57) F.1 F.2.1 dX3_readPieces_53 (by decide) ?_
                exact hret f9 _ _ _ _ z96 dX3_readPieces_57 (tw_nb (by omega)) ⟨hk, by omega, by omega, hG, by omega, by rw [hs1]; exact hP, by rw [hs1]; omega, by rw [hs1]; exact Or.inr hV, by rw [hs1]; exact hM, by rw [hs1]; exact hX⟩ h
              · refine lv_aload_n F.1 F.2.1 dX3_readPieces_45 rfl (lv_at hl 1 rfl) ?_
                refine tw_Vi (As := []) F hZ h yk_X3_misplaced mw_541 mw_542 mw_543 (s_X3_misplaced l D cy L R O f9 a0 m_a0 r_a0) rfl rfl m_a0 r_a0 (fun e q => (T_3 e).mp q) rfl hl.1 rfl (Nat.le_of_ble_eq_true rfl) ⟨Nat.le_of_ble_eq_true rfl, Nat.le_of_ble_eq_true rfl⟩ ⟨Nat.le_of_ble_eq_true rfl, Nat.le_of_ble_eq_true rfl⟩ dX3_readPieces_46 (fun v98 f97 H locs hp97 h => ?_)
                obtain ⟨hf97, hv98a, hv98b⟩ := hp97
                have ea99 : eli f97 (rfa f97 a0_script 12) x1.toInt.toNat = eli f9 (rfa f9 a0_script 12) x1.toInt.toNat := E0i hG.1 hf97 (by decide +kernel) m_a0_script r_a0_script sk12 rfl (by decide +kernel) _
                have hX : OB L R O a0_script f0 f97 := OB_fr hX hf97 (by decide +kernel)
                have hT : TK L R f97 a0 := TK_fr hT hf97 (by decide +kernel) m_a0 r_a0
                have hP : PNZ f97 a0_script := PNZ_fr hP hG.1 hf97 (by decide +kernel) (by decide +kernel) (by decide +kernel) m_a0_script r_a0_script
                have hV : VSd f97 a0_script x1.toInt.toNat := VSd_fr hV hG.1 hf97 (by decide +kernel) (Int.le_of_eq (hf97.efi m_a0_script r_a0_script (by decide +kernel)).symm) (by decide +kernel) (by decide +kernel) m_a0_script r_a0_script
                have hM : (∀ d, d ≠ x1.toInt.toNat → VSd f0 a0_script d → VSd f97 a0_script d) := (fun d hd q => VSd_fr (hM d hd q) hG.1 hf97 (by decide +kernel) (Int.le_of_eq (hf97.efi m_a0_script r_a0_script (by decide +kernel)).symm) (by decide +kernel) (by decide +kernel) m_a0_script r_a0_script)
                have hG : GG L R O f97 := hG.fr hf97 (by decide +kernel) (by decide +kernel)
                have hk : fr L R [(3, 2), (3, 3), (3, 12), (6, 14)] [3, 6, 35, 42, 43] f0 f97 := hk.tr hf97 rfl rfl
                have e100 : fi f97 a0 12 = fi f9 a0 12 := hf97.efi m_a0 r_a0 rfl
                have e101 : fi f97 a0 8 = fi f9 a0 8 := hf97.efi m_a0 r_a0 rfl
                have e102 : fld f97 a0 1 = .ref a0_script := (hf97.efl m_a0 r_a0 rfl).trans e18
                have e103 : fi f97 a0_script 14 = fi f9 a0_script 14 := hf97.efi m_a0_script r_a0_script rfl
                refine tw_if_eq (tgt := 56) F dX3_readPieces_49 (by decide) (fun b104 => ?_) (fun b104 => ?_)
                · refine tw_iconst F dX3_readPieces_56 ki_0 (fun z105 hz105 => ?_)
                  exact hret f97 _ _ _ _ z105 dX3_readPieces_57 (tw_nb (by omega)) ⟨hk, by omega, by omega, hG, by omega, by rw [hs1]; exact hP, by rw [hs1]; omega, by rw [hs1]; exact Or.inr hV, by rw [hs1]; exact hM, by rw [hs1]; exact hX⟩ h
                · exfalso
                  omega
        refine tw_icmp_ne (tgt := 28) F dX3_readPieces_21 (by decide) (fun b106 => ?_) (fun b106 => ?_)
        · refine tw_iconst F dX3_readPieces_28 ki_0 (fun z107 hz107 => ?_)
          exact j_29 _ z107 (by omega) (by omega) (by omega) (lv_sub hl [0, 1, 2] rfl)
        · refine tw_iconst F dX3_readPieces_24 ki_1 (fun z108 hz108 => ?_)
          refine lv_goto (tgt := 29) F.1 F.2.1 dX3_readPieces_25 (by decide) ?_
          exact j_29 _ z108 (by omega) (by omega) (by omega) (lv_sub hl [0, 1, 2] rfl)
  have hb10 : fr L R [(3, 12), (6, 14)] [3, 6, 35, 43] f2 f2 := fr.rf
  exact j_10 (((10 - z8.toInt)).toNat + 1) f2 _ _ _ z8 (by omega) (by omega) (by omega) (by omega) (by omega) (by omega) (by omega) h hG hX hT hP hV hM hk hb10 (lv_sub hl [1, 2, 0] rfl)
