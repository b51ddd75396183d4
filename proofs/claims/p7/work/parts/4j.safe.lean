theorem dX11_script_0 : decode cX11_script 0 = .ok (.iload_n 1, 1) := by decide +kernel
theorem dX11_script_1 : decode cX11_script 1 = .ok (.invokestatic 161, 3) := by decide +kernel
theorem dX11_script_4 : decode cX11_script 4 = .ok (.ifCond .eq 15, 3) := by decide +kernel
theorem dX11_script_19 : decode cX11_script 19 = .ok (.aload_n 0, 1) := by decide +kernel
theorem dX11_script_20 : decode cX11_script 20 = .ok (.iconst 1, 1) := by decide +kernel
theorem dX11_script_21 : decode cX11_script 21 = .ok (.invokevirtual 140, 3) := by decide +kernel
theorem dX11_script_24 : decode cX11_script 24 = .ok (.ireturn, 1) := by decide +kernel
theorem dX11_script_7 : decode cX11_script 7 = .ok (.iload_n 2, 1) := by decide +kernel
theorem dX11_script_8 : decode cX11_script 8 = .ok (.ifCond .lt 11, 3) := by decide +kernel
theorem dX11_script_11 : decode cX11_script 11 = .ok (.iload_n 2, 1) := by decide +kernel
theorem dX11_script_12 : decode cX11_script 12 = .ok (.aload_n 0, 1) := by decide +kernel
theorem dX11_script_13 : decode cX11_script 13 = .ok (.getfield 65, 3) := by decide +kernel
theorem dX11_script_16 : decode cX11_script 16 = .ok (.if_icmp .le 9, 3) := by decide +kernel
theorem dX11_script_25 : decode cX11_script 25 = .ok (.aload_n 0, 1) := by decide +kernel
theorem dX11_script_26 : decode cX11_script 26 = .ok (.getfield 22, 3) := by decide +kernel
theorem dX11_script_29 : decode cX11_script 29 = .ok (.aload_n 0, 1) := by decide +kernel
theorem dX11_script_30 : decode cX11_script 30 = .ok (.getfield 15, 3) := by decide +kernel
theorem dX11_script_33 : decode cX11_script 33 = .ok (.iload_n 2, 1) := by decide +kernel
theorem dX11_script_34 : decode cX11_script 34 = .ok (.invokevirtual 164, 3) := by decide +kernel
theorem mw_514 : Cond.methodLink RX11 164 yX3_readScript ∈ wsL_law := inr_22 _ (List.mem_of_getElem? (i := 10) rfl)
theorem mw_517 : Cond.code yX3_readScript cX3_readScript 5 (some .boolean) ∈ wsL_law := inr_22 _ (List.mem_of_getElem? (i := 13) rfl)
theorem yk_X3_readScript : xY yX3_readScript RX3 cX3_readScript 5 (some .boolean) 2 := ⟨⟨rfl, by decide +kernel, by decide +kernel, by decide +kernel⟩, mw_19, mw_517⟩
theorem mw_515 : Cond.instanceMethod yX3_readScript ∈ wsL_law := inr_22 _ (List.mem_of_getElem? (i := 11) rfl)
theorem mw_516 : Cond.selects RX3 yX3_readScript yX3_readScript ∈ wsL_law := inr_22 _ (List.mem_of_getElem? (i := 12) rfl)
theorem dX11_script_37 : decode cX11_script 37 = .ok (.istore_n 3, 1) := by decide +kernel
theorem dX11_script_38 : decode cX11_script 38 = .ok (.aload_n 0, 1) := by decide +kernel
theorem dX11_script_39 : decode cX11_script 39 = .ok (.iconst 0, 1) := by decide +kernel
theorem dX11_script_40 : decode cX11_script 40 = .ok (.putfield 65, 3) := by decide +kernel
theorem dX11_script_43 : decode cX11_script 43 = .ok (.iload_n 3, 1) := by decide +kernel
theorem dX11_script_44 : decode cX11_script 44 = .ok (.ifCond .ne 10, 3) := by decide +kernel
theorem dX11_script_54 : decode cX11_script 54 = .ok (.aload_n 0, 1) := by decide +kernel
theorem dX11_script_55 : decode cX11_script 55 = .ok (.getfield 29, 3) := by decide +kernel
theorem dX11_script_58 : decode cX11_script 58 = .ok (.getfield 167, 3) := by decide +kernel
theorem dX11_script_61 : decode cX11_script 61 = .ok (.iload_n 1, 1) := by decide +kernel
theorem dX11_script_62 : decode cX11_script 62 = .ok (.aaload, 1) := by decide +kernel
theorem dX11_script_63 : decode cX11_script 63 = .ok (.astore 4, 2) := by decide +kernel
theorem dX11_script_65 : decode cX11_script 65 = .ok (.aload_n 0, 1) := by decide +kernel
theorem dX11_script_66 : decode cX11_script 66 = .ok (.getfield 29, 3) := by decide +kernel
theorem dX11_script_69 : decode cX11_script 69 = .ok (.getfield 167, 3) := by decide +kernel
theorem dX11_script_72 : decode cX11_script 72 = .ok (.iload_n 1, 1) := by decide +kernel
theorem dX11_script_73 : decode cX11_script 73 = .ok (.aload_n 0, 1) := by decide +kernel
theorem dX11_script_74 : decode cX11_script 74 = .ok (.getfield 22, 3) := by decide +kernel
theorem dX11_script_77 : decode cX11_script 77 = .ok (.getfield 171, 3) := by decide +kernel
theorem mw_508 : Cond.fieldLink RX11 171 "AskBack$Reader" "script" "LAskBack$Script;" ∈ wsL_law := inr_22 _ (List.mem_of_getElem? (i := 4) rfl)
section
variable {p : Program} {l : Launch} {e : Env} {R0 : Room} {s : State} {m : MethodId} {args : Array Value} {below : List Frame} {meth : Method} {c : Code} {H H0 : Heap} {locs : List Loc} {cells slots : Nat} {Q : State → Prop} {cc : ByteArray} {nL : Nat} {D : va_G} {cy : Nat → ClassId} {A : Nat → Prop} {L : List Nat} {R : Nat → Nat} {f : Nat → va_E} {pc : Nat} {ls : Array Slot} {rest : List Value} {a : Nat}
theorem g_11_171 (F : CallFix p m c cc nL s args wsL_law RX11) (h : tS D cy A H0 L R (TT cy L R) f s H locs) (ha : a ∈ L) (hr : R a = 3) (hdg : decode cc pc = .ok (.getfield 171, 3)) (kk : ∀ b : Nat, b ∈ L → R b = 6 → fld f a 1 = .ref b → W p l e R0 s m args below meth c H locs cells slots Q (F0 m (pc + 3) ls (.ref b :: rest))) : W p l e R0 s m args below meth c H locs cells slots Q (F0 m pc ls (.ref a :: rest)) := tu_getr F h ha hr (fun e q => (T_3 e).mp q) rfl inlX3 rfl (Nat.le_of_ble_eq_true rfl) mw_508 hdg kk
end
theorem dX11_script_80 : decode cX11_script 80 = .ok (.aastore, 1) := by decide +kernel
section
variable {p : Program} {l : Launch} {e : Env} {R0 : Room} {s : State} {m : MethodId} {args : Array Value} {below : List Frame} {meth : Method} {c : Code} {H H0 : Heap} {locs : List Loc} {cells slots : Nat} {Q : State → Prop} {cc : ByteArray} {nL : Nat} {D : va_G} {cy : Nat → ClassId} {A : Nat → Prop} {L : List Nat} {R : Nat → Nat} {f : Nat → va_E} {pc : Nat} {ls : Array Slot} {rest : List Value} {a : Nat}
theorem st_20 {own : String} (F : CallFix p m c cc nL s args wsL_law own) (h : tS D cy A H0 L R (TT cy L R) f s H locs) {i : Int32} {b : Nat} (ha : a ∈ L) (hr : R a = 20) (hb : 0 ≤ i.toInt ∧ i.toInt < 3) (hm : b ∈ L) (hbr : R b = 6) (hdg : decode cc pc = .ok (.aastore, 1)) (kk : ∀ (f1 : Nat → va_E) (H1 : Heap) (locs1 : List Loc), fr L R [] [20] f f1 → tS D cy A H0 L R (TT cy L R) f1 s H1 locs1 → W p l e R0 s m args below meth c H1 locs1 cells slots Q (F0 m (pc + 1) ls (rest))) : W p l e R0 s m args below meth c H locs cells slots Q (F0 m pc ls (.ref b :: .int i :: .ref a :: rest)) := tu_aast (t0 := 7) (ci := 6) F h ha hr T_20 rfl hm hbr (fun e q => (T_6 e).mp q) rfl hb.1 hb.2 hdg (fun f1 H1 locs1 h1 h3 h4 => kk f1 H1 locs1 h3 h4)
end
theorem dX11_script_81 : decode cX11_script 81 = .ok (.aload_n 0, 1) := by decide +kernel
theorem dX11_script_82 : decode cX11_script 82 = .ok (.getfield 22, 3) := by decide +kernel
theorem dX11_script_85 : decode cX11_script 85 = .ok (.aload 4, 2) := by decide +kernel
theorem dX11_script_87 : decode cX11_script 87 = .ok (.putfield 171, 3) := by decide +kernel
section
variable {p : Program} {l : Launch} {e : Env} {R0 : Room} {s : State} {m : MethodId} {args : Array Value} {below : List Frame} {meth : Method} {c : Code} {H H0 : Heap} {locs : List Loc} {cells slots : Nat} {Q : State → Prop} {cc : ByteArray} {nL : Nat} {D : va_G} {cy : Nat → ClassId} {A : Nat → Prop} {L : List Nat} {R : Nat → Nat} {f : Nat → va_E} {pc : Nat} {ls : Array Slot} {rest : List Value} {a : Nat}
theorem p_11_171 (F : CallFix p m c cc nL s args wsL_law RX11) (h : tS D cy A H0 L R (TT cy L R) f s H locs) {b : Nat} (ha : a ∈ L) (hr : R a = 3) (hb : b ∈ L) (hbr : R b = 6) (hdg : decode cc pc = .ok (.putfield 171, 3)) (kk : ∀ (f1 : Nat → va_E) (H1 : Heap) (locs1 : List Loc), fld f1 a 1 = .ref b → fr L R [(3, 1)] [3] f f1 → tS D cy A H0 L R (TT cy L R) f1 s H1 locs1 → W p l e R0 s m args below meth c H1 locs1 cells slots Q (F0 m (pc + 3) ls (rest))) : W p l e R0 s m args below meth c H locs cells slots Q (F0 m pc ls (.ref b :: .ref a :: rest)) := tu_putr (k := 1) F h ha hr T_3 rfl hb hbr inlX3 tyX3_ok nmX3 rfl (Nat.le_of_ble_eq_true rfl) mw_508 rfl rfl rfl hdg kk
end
theorem dX11_script_90 : decode cX11_script 90 = .ok (.aload_n 0, 1) := by decide +kernel
theorem dX11_script_91 : decode cX11_script 91 = .ok (.getfield 29, 3) := by decide +kernel
theorem dX11_script_94 : decode cX11_script 94 = .ok (.getfield 175, 3) := by decide +kernel
theorem dX11_script_97 : decode cX11_script 97 = .ok (.iload_n 1, 1) := by decide +kernel
theorem dX11_script_98 : decode cX11_script 98 = .ok (.aaload, 1) := by decide +kernel
theorem dX11_script_99 : decode cX11_script 99 = .ok (.invokevirtual 179, 3) := by decide +kernel
theorem dX11_script_102 : decode cX11_script 102 = .ok (.aload_n 0, 1) := by decide +kernel
theorem dX11_script_103 : decode cX11_script 103 = .ok (.aload_n 0, 1) := by decide +kernel
theorem dX11_script_104 : decode cX11_script 104 = .ok (.getfield 29, 3) := by decide +kernel
theorem dX11_script_107 : decode cX11_script 107 = .ok (.getfield 167, 3) := by decide +kernel
theorem dX11_script_110 : decode cX11_script 110 = .ok (.iload_n 1, 1) := by decide +kernel
theorem dX11_script_111 : decode cX11_script 111 = .ok (.aaload, 1) := by decide +kernel
theorem dX11_script_112 : decode cX11_script 112 = .ok (.getfield 184, 3) := by decide +kernel
theorem dX11_script_115 : decode cX11_script 115 = .ok (.invokevirtual 158, 3) := by decide +kernel
theorem dX11_script_118 : decode cX11_script 118 = .ok (.ireturn, 1) := by decide +kernel
theorem dX11_script_47 : decode cX11_script 47 = .ok (.aload_n 0, 1) := by decide +kernel
theorem dX11_script_48 : decode cX11_script 48 = .ok (.bipush 9, 2) := by decide +kernel
theorem dX11_script_50 : decode cX11_script 50 = .ok (.invokevirtual 140, 3) := by decide +kernel
theorem dX11_script_53 : decode cX11_script 53 = .ok (.ireturn, 1) := by decide +kernel
def rm_X11_script : Room := { frames := 6, cells := 0, slots := 0, locals := 139 }
set_option maxHeartbeats 4000000 in
set_option maxRecDepth 100000 in
theorem s_X11_script (l : Launch) (D : va_G) (cy : Nat → ClassId) (L : List Nat) (R O : Nat → Nat) (f0 : Nat → va_E) (hG : GG L R O f0) (a0 : Nat) (m_a0 : a0 ∈ L) (r_a0 : R a0 = 11) (x1 : Int32) (x2 : Int32) : ∀ sz, Met l yX11_script (Cond.code yX11_script cX11_script 5 (some .int) :: wsL_law) rm_X11_script (va_Pc [.ref a0, .int x1, .int x2] (tPZ D cy L R (TT cy L R) f0 sz)) (va_Qi (fun (r : Int32) f1 => fr L R [(3, 1), (3, 2), (3, 3), (3, 8), (3, 11), (3, 12), (3, 13), (6, 14), (6, 15), (6, 16), (6, 17), (6, 18), (8, 1), (8, 2), (11, 10), (11, 14)] [3, 6, 8, 11, 20, 23, 30, 31, 32, 33, 35, 36, 37, 38, 39, 40, 41, 42, 43, 44, 59, 60] f0 f1 ∧ GG L R O f1) (tB D (tA L sz) L R (TT cy L R)) (tA L sz)) 0 0 (tA L sz) := by
  refine tw_enteri (by decide +kernel) rfl (Nat.le_of_ble_eq_true rfl) ?_
  intro p e s m below meth c A ls args Q F hZ h hl hret
  have hl : lv_has ls 5 [(0, .ref a0), (1, .int x1), (2, .int x2)] := hl
  have hk : fr L R [(3, 1), (3, 2), (3, 3), (3, 8), (3, 11), (3, 12), (3, 13), (6, 14), (6, 15), (6, 16), (6, 17), (6, 18), (8, 1), (8, 2), (11, 10), (11, 14)] [3, 6, 8, 11, 20, 23, 30, 31, 32, 33, 35, 36, 37, 38, 39, 40, 41, 42, 43, 44, 59, 60] f0 f0 := fr.rf
  refine lv_iload_n F.1 F.2.1 dX11_script_0 rfl (lv_at hl 1 rfl) ?_
  refine tw_Si (As := [.int x1]) F hZ h yk_X11_isScript mw_511 mw_512 (s_X11_isScript l D cy L R O f0 x1) rfl rfl hl.1 rfl (Nat.le_of_ble_eq_true rfl) ⟨Nat.le_of_ble_eq_true rfl, Nat.le_of_ble_eq_true rfl⟩ ⟨Nat.le_of_ble_eq_true rfl, Nat.le_of_ble_eq_true rfl⟩ dX11_script_1 (fun v2 f1 H locs hp1 h => ?_)
  obtain ⟨rfl, hv2a, hv2b, hv2p0⟩ := hp1
  refine tw_if_eq (tgt := 19) F dX11_script_4 (by decide) (fun b3 => ?_) (fun b3 => ?_)
  · refine lv_aload_n F.1 F.2.1 dX11_script_19 rfl (lv_at hl 0 rfl) ?_
    refine tw_iconst F dX11_script_20 ki_1 (fun z4 hz4 => ?_)
    refine tw_Vi (As := [.int z4]) F hZ h yk_X11_refuse mw_378 mw_379 mw_380 (s_X11_refuse l D cy L R O f0 a0 m_a0 r_a0 z4 ⟨by omega, by omega⟩) rfl rfl m_a0 r_a0 (fun e q => (T_11 e).mp q) rfl hl.1 rfl (Nat.le_of_ble_eq_true rfl) ⟨Nat.le_of_ble_eq_true rfl, Nat.le_of_ble_eq_true rfl⟩ ⟨Nat.le_of_ble_eq_true rfl, Nat.le_of_ble_eq_true rfl⟩ dX11_script_21 (fun v6 f5 H locs hp5 h => ?_)
    obtain ⟨hf5, hv6a, hv6b⟩ := hp5
    have hG : GG L R O f5 := hG.fr hf5 (by decide +kernel) (by decide +kernel)
    have hk : fr L R [(3, 1), (3, 2), (3, 3), (3, 8), (3, 11), (3, 12), (3, 13), (6, 14), (6, 15), (6, 16), (6, 17), (6, 18), (8, 1), (8, 2), (11, 10), (11, 14)] [3, 6, 8, 11, 20, 23, 30, 31, 32, 33, 35, 36, 37, 38, 39, 40, 41, 42, 43, 44, 59, 60] f0 f5 := hk.tr hf5 rfl rfl
    exact hret f5 _ _ _ _ v6 dX11_script_24 rfl ⟨hk, hG⟩ h
  · refine lv_iload_n F.1 F.2.1 dX11_script_7 rfl (lv_at hl 2 rfl) ?_
    refine tw_if_lt (tgt := 19) F dX11_script_8 (by decide) (fun b7 => ?_) (fun b7 => ?_)
    · refine lv_aload_n F.1 F.2.1 dX11_script_19 rfl (lv_at hl 0 rfl) ?_
      refine tw_iconst F dX11_script_20 ki_1 (fun z8 hz8 => ?_)
      refine tw_Vi (As := [.int z8]) F hZ h yk_X11_refuse mw_378 mw_379 mw_380 (s_X11_refuse l D cy L R O f0 a0 m_a0 r_a0 z8 ⟨by omega, by omega⟩) rfl rfl m_a0 r_a0 (fun e q => (T_11 e).mp q) rfl hl.1 rfl (Nat.le_of_ble_eq_true rfl) ⟨Nat.le_of_ble_eq_true rfl, Nat.le_of_ble_eq_true rfl⟩ ⟨Nat.le_of_ble_eq_true rfl, Nat.le_of_ble_eq_true rfl⟩ dX11_script_21 (fun v10 f9 H locs hp9 h => ?_)
      obtain ⟨hf9, hv10a, hv10b⟩ := hp9
      have hG : GG L R O f9 := hG.fr hf9 (by decide +kernel) (by decide +kernel)
      have hk : fr L R [(3, 1), (3, 2), (3, 3), (3, 8), (3, 11), (3, 12), (3, 13), (6, 14), (6, 15), (6, 16), (6, 17), (6, 18), (8, 1), (8, 2), (11, 10), (11, 14)] [3, 6, 8, 11, 20, 23, 30, 31, 32, 33, 35, 36, 37, 38, 39, 40, 41, 42, 43, 44, 59, 60] f0 f9 := hk.tr hf9 rfl rfl
      exact hret f9 _ _ _ _ v10 dX11_script_24 rfl ⟨hk, hG⟩ h
    · refine lv_iload_n F.1 F.2.1 dX11_script_11 rfl (lv_at hl 2 rfl) ?_
      refine lv_aload_n F.1 F.2.1 dX11_script_12 rfl (lv_at hl 0 rfl) ?_
      refine g_11_65 F h m_a0 r_a0 dX11_script_13 (fun v11 hv11 hv11a hv11b => ?_)
      refine tw_icmp_le (tgt := 25) F dX11_script_16 (by decide) (fun b12 => ?_) (fun b12 => ?_)
      · refine lv_aload_n F.1 F.2.1 dX11_script_25 rfl (lv_at hl 0 rfl) ?_
        refine g_11_22 F h m_a0 r_a0 dX11_script_26 (fun o13 m_o13 r_o13 ho13 => ?_)
        refine lv_aload_n F.1 F.2.1 dX11_script_29 rfl (lv_at hl 0 rfl) ?_
        refine g_11_15 F h m_a0 r_a0 dX11_script_30 (fun o14 m_o14 r_o14 ho14 => ?_)
        refine lv_iload_n F.1 F.2.1 dX11_script_33 rfl (lv_at hl 2 rfl) ?_
        have hGo := hG
        refine tw_Vi (As := [.ref o14, .int x2]) F hZ h yk_X3_readScript mw_514 mw_515 mw_516 (s_X3_readScript l D cy L R O f0 hG o13 m_o13 r_o13 o14 m_o14 r_o14 x2) rfl rfl m_o13 r_o13 (fun e q => (T_3 e).mp q) rfl hl.1 rfl (Nat.le_of_ble_eq_true rfl) ⟨Nat.le_of_ble_eq_true rfl, Nat.le_of_ble_eq_true rfl⟩ ⟨Nat.le_of_ble_eq_true rfl, Nat.le_of_ble_eq_true rfl⟩ dX11_script_34 (fun v16 f15 H locs hp15 h => ?_)
        obtain ⟨hf15, hv16a, hv16b, hG, hv16p0, hv16p1⟩ := hp15
        have hk : fr L R [(3, 1), (3, 2), (3, 3), (3, 8), (3, 11), (3, 12), (3, 13), (6, 14), (6, 15), (6, 16), (6, 17), (6, 18), (8, 1), (8, 2), (11, 10), (11, 14)] [3, 6, 8, 11, 20, 23, 30, 31, 32, 33, 35, 36, 37, 38, 39, 40, 41, 42, 43, 44, 59, 60] f0 f15 := hk.tr hf15 (by decide +kernel) (by decide +kernel)
        have e17 : fld f15 a0 2 = .ref o13 := (hf15.efl m_a0 r_a0 rfl).trans ho13
        refine lv_istore_n (lv' := [(3, .int v16), (0, .ref a0), (1, .int x1), (2, .int x2)]) F.1 F.2.1 dX11_script_37 rfl hl (by decide) rfl (fun ls hl => ?_)
        refine lv_aload_n F.1 F.2.1 dX11_script_38 rfl (lv_at hl 1 rfl) ?_
        refine tw_iconst F dX11_script_39 ki_0 (fun z18 hz18 => ?_)
        refine p_11_65 F h m_a0 r_a0 (by omega) dX11_script_40 (fun f19 H locs e19p hf19 h => ?_)
        have hG : GG L R O f19 := hG.fr hf19 (by decide +kernel) (by decide +kernel)
        have hk : fr L R [(3, 1), (3, 2), (3, 3), (3, 8), (3, 11), (3, 12), (3, 13), (6, 14), (6, 15), (6, 16), (6, 17), (6, 18), (8, 1), (8, 2), (11, 10), (11, 14)] [3, 6, 8, 11, 20, 23, 30, 31, 32, 33, 35, 36, 37, 38, 39, 40, 41, 42, 43, 44, 59, 60] f0 f19 := hk.tr hf19 rfl rfl
        have e20 : fld f19 a0 2 = .ref o13 := (hf19.efl m_a0 r_a0 rfl).trans e17
        refine lv_iload_n F.1 F.2.1 dX11_script_43 rfl (lv_at hl 0 rfl) ?_
        refine tw_if_ne (tgt := 54) F dX11_script_44 (by decide) (fun b21 => ?_) (fun b21 => ?_)
        · refine lv_aload_n F.1 F.2.1 dX11_script_54 rfl (lv_at hl 1 rfl) ?_
          refine g_11_29 F h m_a0 r_a0 dX11_script_55 (fun o22 m_o22 r_o22 ho22 => ?_)
          refine g_11_167 F h m_o22 r_o22 dX11_script_58 (fun o23 m_o23 r_o23 ho23 => ?_)
          refine lv_iload_n F.1 F.2.1 dX11_script_61 rfl (lv_at hl 2 rfl) ?_
          refine ld_20 F h m_o23 r_o23 (by omega) dX11_script_62 (fun o24 m_o24 r_o24 => ?_)
          refine lv_astore (lv' := [(4, .ref o24), (3, .int v16), (0, .ref a0), (1, .int x1), (2, .int x2)]) F.1 F.2.1 dX11_script_63 hl (by decide) rfl (fun ls hl => ?_)
          refine lv_aload_n F.1 F.2.1 dX11_script_65 rfl (lv_at hl 2 rfl) ?_
          refine g_11_29 F h m_a0 r_a0 dX11_script_66 (fun o25 m_o25 r_o25 ho25 => ?_)
          obtain rfl := (fld_inj ho22 ho25).symm
          refine g_11_167 F h m_o22 r_o22 dX11_script_69 (fun o26 m_o26 r_o26 ho26 => ?_)
          refine lv_iload_n F.1 F.2.1 dX11_script_72 rfl (lv_at hl 3 rfl) ?_
          refine lv_aload_n F.1 F.2.1 dX11_script_73 rfl (lv_at hl 2 rfl) ?_
          refine g_11_22 F h m_a0 r_a0 dX11_script_74 (fun o27 m_o27 r_o27 ho27 => ?_)
          obtain rfl := (fld_inj e20 ho27).symm
          refine g_11_171 F h m_o13 r_o13 dX11_script_77 (fun o28 m_o28 r_o28 ho28 => ?_)
          refine st_20 F h m_o26 r_o26 (by omega) m_o28 r_o28 dX11_script_80 (fun f29 H locs hf29 h => ?_)
          have hG : GG L R O f29 := hG.fr hf29 (by decide +kernel) (by decide +kernel)
          have hk : fr L R [(3, 1), (3, 2), (3, 3), (3, 8), (3, 11), (3, 12), (3, 13), (6, 14), (6, 15), (6, 16), (6, 17), (6, 18), (8, 1), (8, 2), (11, 10), (11, 14)] [3, 6, 8, 11, 20, 23, 30, 31, 32, 33, 35, 36, 37, 38, 39, 40, 41, 42, 43, 44, 59, 60] f0 f29 := hk.tr hf29 rfl rfl
          have e30 : fld f29 a0 2 = .ref o13 := (hf29.efl m_a0 r_a0 rfl).trans e20
          have e31 : fld f29 a0 3 = .ref o22 := (hf29.efl m_a0 r_a0 rfl).trans ho22
          refine lv_aload_n F.1 F.2.1 dX11_script_81 rfl (lv_at hl 2 rfl) ?_
          refine g_11_22 F h m_a0 r_a0 dX11_script_82 (fun o32 m_o32 r_o32 ho32 => ?_)
          obtain rfl := (fld_inj e30 ho32).symm
          refine lv_aload F.1 F.2.1 dX11_script_85 (lv_at hl 0 rfl) ?_
          refine p_11_171 F h m_o13 r_o13 m_o24 r_o24 dX11_script_87 (fun f33 H locs e33p hf33 h => ?_)
          have hG : GG L R O f33 := hG.fr hf33 (by decide +kernel) (by decide +kernel)
          have hk : fr L R [(3, 1), (3, 2), (3, 3), (3, 8), (3, 11), (3, 12), (3, 13), (6, 14), (6, 15), (6, 16), (6, 17), (6, 18), (8, 1), (8, 2), (11, 10), (11, 14)] [3, 6, 8, 11, 20, 23, 30, 31, 32, 33, 35, 36, 37, 38, 39, 40, 41, 42, 43, 44, 59, 60] f0 f33 := hk.tr hf33 rfl rfl
          have e34 : fld f33 a0 2 = .ref o13 := (hf33.efl m_a0 r_a0 rfl).trans e30
          have e35 : fld f33 a0 3 = .ref o22 := (hf33.efl m_a0 r_a0 rfl).trans e31
          refine lv_aload_n F.1 F.2.1 dX11_script_90 rfl (lv_at hl 2 rfl) ?_
          refine g_11_29 F h m_a0 r_a0 dX11_script_91 (fun o36 m_o36 r_o36 ho36 => ?_)
          obtain rfl := (fld_inj e35 ho36).symm
          refine g_11_175 F h m_o22 r_o22 dX11_script_94 (fun o37 m_o37 r_o37 ho37 => ?_)
          refine lv_iload_n F.1 F.2.1 dX11_script_97 rfl (lv_at hl 3 rfl) ?_
          refine ld_21 F h m_o37 r_o37 (by omega) dX11_script_98 (fun o38 m_o38 r_o38 => ?_)
          refine tw_Vv (As := []) F hZ h yk_X8_refresh mw_626 mw_627 mw_628 (s_X8_refresh l D cy L R O f33 o38 m_o38 r_o38) rfl rfl m_o38 r_o38 (fun e q => (T_8 e).mp q) rfl hl.1 rfl (Nat.le_of_ble_eq_true rfl) ⟨Nat.le_of_ble_eq_true rfl, Nat.le_of_ble_eq_true rfl⟩ ⟨Nat.le_of_ble_eq_true rfl, Nat.le_of_ble_eq_true rfl⟩ dX11_script_99 (fun f39 H locs hp39 h => ?_)
          obtain ⟨hf39, hv40p0, hv40p1⟩ := hp39
          have hG : GG L R O f39 := hG.fr hf39 (by decide +kernel) (by decide +kernel)
          have hk : fr L R [(3, 1), (3, 2), (3, 3), (3, 8), (3, 11), (3, 12), (3, 13), (6, 14), (6, 15), (6, 16), (6, 17), (6, 18), (8, 1), (8, 2), (11, 10), (11, 14)] [3, 6, 8, 11, 20, 23, 30, 31, 32, 33, 35, 36, 37, 38, 39, 40, 41, 42, 43, 44, 59, 60] f0 f39 := hk.tr hf39 rfl rfl
          have e41 : fld f39 a0 2 = .ref o13 := (hf39.efl m_a0 r_a0 rfl).trans e34
          have e42 : fld f39 a0 3 = .ref o22 := (hf39.efl m_a0 r_a0 rfl).trans e35
          refine lv_aload_n F.1 F.2.1 dX11_script_102 rfl (lv_at hl 2 rfl) ?_
          refine lv_aload_n F.1 F.2.1 dX11_script_103 rfl (lv_at hl 2 rfl) ?_
          refine g_11_29 F h m_a0 r_a0 dX11_script_104 (fun o43 m_o43 r_o43 ho43 => ?_)
          obtain rfl := (fld_inj e42 ho43).symm
          refine g_11_167 F h m_o22 r_o22 dX11_script_107 (fun o44 m_o44 r_o44 ho44 => ?_)
          refine lv_iload_n F.1 F.2.1 dX11_script_110 rfl (lv_at hl 3 rfl) ?_
          refine ld_20 F h m_o44 r_o44 (by omega) dX11_script_111 (fun o45 m_o45 r_o45 => ?_)
          refine g_11_184 F h m_o45 r_o45 dX11_script_112 (fun v46 hv46 hv46a hv46b => ?_)
          refine tw_Vi (As := [.int v46]) F hZ h yk_X11_grant mw_442 mw_443 mw_444 (s_X11_grant l D cy L R O f39 a0 m_a0 r_a0 v46) rfl rfl m_a0 r_a0 (fun e q => (T_11 e).mp q) rfl hl.1 rfl (Nat.le_of_ble_eq_true rfl) ⟨Nat.le_of_ble_eq_true rfl, Nat.le_of_ble_eq_true rfl⟩ ⟨Nat.le_of_ble_eq_true rfl, Nat.le_of_ble_eq_true rfl⟩ dX11_script_115 (fun v48 f47 H locs hp47 h => ?_)
          have hf47 := hp47
          have hG : GG L R O f47 := hG.fr hf47 (by decide +kernel) (by decide +kernel)
          have hk : fr L R [(3, 1), (3, 2), (3, 3), (3, 8), (3, 11), (3, 12), (3, 13), (6, 14), (6, 15), (6, 16), (6, 17), (6, 18), (8, 1), (8, 2), (11, 10), (11, 14)] [3, 6, 8, 11, 20, 23, 30, 31, 32, 33, 35, 36, 37, 38, 39, 40, 41, 42, 43, 44, 59, 60] f0 f47 := hk.tr hf47 rfl rfl
          have e49 : fld f47 a0 2 = .ref o13 := (hf47.efl m_a0 r_a0 rfl).trans e41
          have e50 : fld f47 a0 3 = .ref o22 := (hf47.efl m_a0 r_a0 rfl).trans e42
          exact hret f47 _ _ _ _ v48 dX11_script_118 rfl ⟨hk, hG⟩ h
        · refine lv_aload_n F.1 F.2.1 dX11_script_47 rfl (lv_at hl 1 rfl) ?_
          refine tw_bipush F dX11_script_48 kb_9 (fun z51 hz51 => ?_)
          refine tw_Vi (As := [.int z51]) F hZ h yk_X11_refuse mw_378 mw_379 mw_380 (s_X11_refuse l D cy L R O f19 a0 m_a0 r_a0 z51 ⟨by omega, by omega⟩) rfl rfl m_a0 r_a0 (fun e q => (T_11 e).mp q) rfl hl.1 rfl (Nat.le_of_ble_eq_true rfl) ⟨Nat.le_of_ble_eq_true rfl, Nat.le_of_ble_eq_true rfl⟩ ⟨Nat.le_of_ble_eq_true rfl, Nat.le_of_ble_eq_true rfl⟩ dX11_script_50 (fun v53 f52 H locs hp52 h => ?_)
          obtain ⟨hf52, hv53a, hv53b⟩ := hp52
          have hG : GG L R O f52 := hG.fr hf52 (by decide +kernel) (by decide +kernel)
          have hk : fr L R [(3, 1), (3, 2), (3, 3), (3, 8), (3, 11), (3, 12), (3, 13), (6, 14), (6, 15), (6, 16), (6, 17), (6, 18), (8, 1), (8, 2), (11, 10), (11, 14)] [3, 6, 8, 11, 20, 23, 30, 31, 32, 33, 35, 36, 37, 38, 39, 40, 41, 42, 43, 44, 59, 60] f0 f52 := hk.tr hf52 rfl rfl
          have e54 : fld f52 a0 2 = .ref o13 := (hf52.efl m_a0 r_a0 rfl).trans e20
          exact hret f52 _ _ _ _ v53 dX11_script_53 rfl ⟨hk, hG⟩ h
      · refine lv_aload_n F.1 F.2.1 dX11_script_19 rfl (lv_at hl 0 rfl) ?_
        refine tw_iconst F dX11_script_20 ki_1 (fun z55 hz55 => ?_)
        refine tw_Vi (As := [.int z55]) F hZ h yk_X11_refuse mw_378 mw_379 mw_380 (s_X11_refuse l D cy L R O f0 a0 m_a0 r_a0 z55 ⟨by omega, by omega⟩) rfl rfl m_a0 r_a0 (fun e q => (T_11 e).mp q) rfl hl.1 rfl (Nat.le_of_ble_eq_true rfl) ⟨Nat.le_of_ble_eq_true rfl, Nat.le_of_ble_eq_true rfl⟩ ⟨Nat.le_of_ble_eq_true rfl, Nat.le_of_ble_eq_true rfl⟩ dX11_script_21 (fun v57 f56 H locs hp56 h => ?_)
        obtain ⟨hf56, hv57a, hv57b⟩ := hp56
        have hG : GG L R O f56 := hG.fr hf56 (by decide +kernel) (by decide +kernel)
        have hk : fr L R [(3, 1), (3, 2), (3, 3), (3, 8), (3, 11), (3, 12), (3, 13), (6, 14), (6, 15), (6, 16), (6, 17), (6, 18), (8, 1), (8, 2), (11, 10), (11, 14)] [3, 6, 8, 11, 20, 23, 30, 31, 32, 33, 35, 36, 37, 38, 39, 40, 41, 42, 43, 44, 59, 60] f0 f56 := hk.tr hf56 rfl rfl
        exact hret f56 _ _ _ _ v57 dX11_script_24 rfl ⟨hk, hG⟩ h
