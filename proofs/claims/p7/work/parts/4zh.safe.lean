section
variable {p : Program} {l : Launch} {e : Env} {R0 : Room} {s : State} {m : MethodId} {args : Array Value} {below : List Frame} {meth : Method} {c : Code} {H H0 : Heap} {locs : List Loc} {cells slots : Nat} {Q : State → Prop} {cc : ByteArray} {nL : Nat} {D : va_G} {cy : Nat → ClassId} {A : Nat → Prop} {L : List Nat} {R : Nat → Nat} {f : Nat → va_E} {pc : Nat} {ls : Array Slot} {rest : List Value} {a : Nat}
theorem se_62 {own : String} (F : CallFix p m c cc nL s args wsL_law own) (h : tS D cy A H0 L R (TT cy L R) f s H locs) {i : Int32} {x : Int32} (ha : a ∈ L) (hr : R a = 62) (hb : 0 ≤ i.toInt ∧ i.toInt < 4) (hdg : decode cc pc = .ok (.iastore, 1)) (kk : ∀ (f1 : Nat → va_E) (H1 : Heap) (locs1 : List Loc), (∀ j, eli f1 a j = if j = i.toInt.toNat then x.toInt else eli f a j) → (∀ a', a' ≠ a → f1 a' = f a') → fr L R [] [62] f f1 → tS D cy A H0 L R (TT cy L R) f1 s H1 locs1 → W p l e R0 s m args below meth c H1 locs1 cells slots Q (F0 m (pc + 1) ls (rest))) : W p l e R0 s m args below meth c H locs cells slots Q (F0 m pc ls (.int x :: .int i :: .ref a :: rest)) := tu_iast F h ha hr T_62 hb.1 hb.2 trivial hdg (fun f1 H1 locs1 h1 h2 h3 h4 => kk f1 H1 locs1 h1 h2 h3 h4)
end
section
variable {p : Program} {l : Launch} {e : Env} {R0 : Room} {s : State} {m : MethodId} {args : Array Value} {below : List Frame} {meth : Method} {c : Code} {H H0 : Heap} {locs : List Loc} {cells slots : Nat} {Q : State → Prop} {cc : ByteArray} {nL : Nat} {D : va_G} {cy : Nat → ClassId} {A : Nat → Prop} {L : List Nat} {R : Nat → Nat} {f : Nat → va_E} {pc : Nat} {ls : Array Slot} {rest : List Value} {a : Nat}
theorem se_63 {own : String} (F : CallFix p m c cc nL s args wsL_law own) (h : tS D cy A H0 L R (TT cy L R) f s H locs) {i : Int32} {x : Int32} (ha : a ∈ L) (hr : R a = 63) (hb : 0 ≤ i.toInt ∧ i.toInt < 4) (hv : (-1) ≤ x.toInt ∧ x.toInt ≤ 60) (hdg : decode cc pc = .ok (.iastore, 1)) (kk : ∀ (f1 : Nat → va_E) (H1 : Heap) (locs1 : List Loc), (∀ j, eli f1 a j = if j = i.toInt.toNat then x.toInt else eli f a j) → (∀ a', a' ≠ a → f1 a' = f a') → fr L R [] [63] f f1 → tS D cy A H0 L R (TT cy L R) f1 s H1 locs1 → W p l e R0 s m args below meth c H1 locs1 cells slots Q (F0 m (pc + 1) ls (rest))) : W p l e R0 s m args below meth c H locs cells slots Q (F0 m pc ls (.int x :: .int i :: .ref a :: rest)) := tu_iast F h ha hr T_63 hb.1 hb.2 hv hdg (fun f1 H1 locs1 h1 h2 h3 h4 => kk f1 H1 locs1 h1 h2 h3 h4)
end
section
variable {p : Program} {l : Launch} {e : Env} {R0 : Room} {s : State} {m : MethodId} {args : Array Value} {below : List Frame} {meth : Method} {c : Code} {H H0 : Heap} {locs : List Loc} {cells slots : Nat} {Q : State → Prop} {cc : ByteArray} {nL : Nat} {D : va_G} {cy : Nat → ClassId} {A : Nat → Prop} {L : List Nat} {R : Nat → Nat} {f : Nat → va_E} {pc : Nat} {ls : Array Slot} {rest : List Value} {a : Nat}
theorem se_64 {own : String} (F : CallFix p m c cc nL s args wsL_law own) (h : tS D cy A H0 L R (TT cy L R) f s H locs) {i : Int32} {x : Int64} (ha : a ∈ L) (hr : R a = 64) (hb : 0 ≤ i.toInt ∧ i.toInt < 240) (hdg : decode cc pc = .ok (.lastore, 1)) (kk : ∀ (f1 : Nat → va_E) (H1 : Heap) (locs1 : List Loc), (∀ j, elj f1 a j = if j = i.toInt.toNat then x.toInt else elj f a j) → (∀ a', a' ≠ a → f1 a' = f a') → fr L R [] [64] f f1 → tS D cy A H0 L R (TT cy L R) f1 s H1 locs1 → W p l e R0 s m args below meth c H1 locs1 cells slots Q (F0 m (pc + 1) ls (rest))) : W p l e R0 s m args below meth c H locs cells slots Q (F0 m pc ls (.long x :: .int i :: .ref a :: rest)) := tu_last F h ha hr T_64 hb.1 hb.2 trivial hdg (fun f1 H1 locs1 h1 h2 h3 h4 => kk f1 H1 locs1 h1 h2 h3 h4)
end
def rm_X12_trayZ : Room := { frames := 1, cells := 0, slots := 0, locals := 21 }
set_option maxHeartbeats 4000000 in
set_option maxRecDepth 100000 in
theorem s_X12_trayZ (l : Launch) (D : va_G) (cy : Nat → ClassId) (L : List Nat) (R O : Nat → Nat) (f0 : Nat → va_E) (a0 : Nat) (m_a0 : a0 ∈ L) (r_a0 : R a0 = 12) (x1 : Int32) (x2 : Int32) (x3 : Int32) : ∀ sz, Met l yX12_tray (Cond.code yX12_tray cX12_tray 5 (some .boolean) :: wsL_law) rm_X12_trayZ (va_Pc [.ref a0, .int x1, .int x2, .int x3] (tPZ D cy L R (TT cy L R) f0 sz)) (va_Qi (fun (r : Int32) f1 => fr L R [(12, 1)] [12, 62, 63, 64] f0 f1 ∧ 0 ≤ r.toInt ∧ r.toInt ≤ 1 ∧ ((r.toInt = 1 ∧ (0 ≤ x1.toInt ∧ x1.toInt ≤ 3 ∧ 0 ≤ x2.toInt ∧ x2.toInt ≤ 3 ∧ 0 ≤ x3.toInt ∧ x3.toInt ≤ 60)) ∨ (r.toInt = 0 ∧ ¬ (0 ≤ x1.toInt ∧ x1.toInt ≤ 3 ∧ 0 ≤ x2.toInt ∧ x2.toInt ≤ 3 ∧ 0 ≤ x3.toInt ∧ x3.toInt ≤ 60))) ∧ (∀ i, i < 4 → ((i = x1.toInt.toNat ∧ r.toInt = 1 ∧ MS f1 a0 i = x3.toInt ∧ MT f1 a0 i = x2.toInt) ∨ ((i ≠ x1.toInt.toNat ∨ r.toInt = 0) ∧ MS f1 a0 i = MS f0 a0 i ∧ MT f1 a0 i = MT f0 a0 i))) ∧ (∀ i, i < 4 → ∀ j : Nat, j < 60 → ((i = x1.toInt.toNat ∧ r.toInt = 1 ∧ ((j : Int) < x3.toInt → MN f1 a0 i j = 0)) ∨ ((i ≠ x1.toInt.toNat ∨ r.toInt = 0) ∧ MN f1 a0 i j = MN f0 a0 i j)))) (tB D (tA L sz) L R (TT cy L R)) (tA L sz)) 0 0 (tA L sz) := by
  refine tw_enteri (by decide +kernel) rfl (Nat.le_of_ble_eq_true rfl) ?_
  intro p e s m below meth c A ls args Q F hZ h hl hret
  have hl : lv_has ls 5 [(0, .ref a0), (1, .int x1), (2, .int x2), (3, .int x3)] := hl
  have hk : fr L R [(12, 1)] [12, 62, 63, 64] f0 f0 := fr.rf
  obtain ⟨a0_sort, m_a0_sort, r_a0_sort, t_a0_sort⟩ := h.rf m_a0 r_a0 (fun e q => (T_12 e).mp q) (k := 4) rfl
  obtain ⟨a0_trayMany, m_a0_trayMany, r_a0_trayMany, t_a0_trayMany⟩ := h.rf m_a0 r_a0 (fun e q => (T_12 e).mp q) (k := 5) rfl
  obtain ⟨a0_trays, m_a0_trays, r_a0_trays, t_a0_trays⟩ := h.rf m_a0 r_a0 (fun e q => (T_12 e).mp q) (k := 6) rfl
  have h0 := h
  have hms := MS_of t_a0_trayMany
  have hmt := MT_of t_a0_sort
  have hT0 : (∀ p : Nat, elj f0 a0_trays p = elj f0 a0_trays p) := fun _ => rfl
  refine lv_iload_n F.1 F.2.1 dX12_tray_0 rfl (lv_at hl 1 rfl) ?_
  refine tw_Si (As := [.int x1]) F hZ h yk_X12_isTray mw_283 mw_284 (s_X12_isTray l D cy L R O f0 x1) rfl rfl hl.1 rfl (Nat.le_of_ble_eq_true rfl) ⟨Nat.le_of_ble_eq_true rfl, Nat.le_of_ble_eq_true rfl⟩ ⟨Nat.le_of_ble_eq_true rfl, Nat.le_of_ble_eq_true rfl⟩ dX12_tray_1 (fun v2 f1 H locs hp1 h => ?_)
  obtain ⟨rfl, hv2a, hv2b, hv2p0⟩ := hp1
  refine tw_if_eq (tgt := 26) F dX12_tray_4 (by decide) (fun b3 => ?_) (fun b3 => ?_)
  · refine lv_aload_n F.1 F.2.1 dX12_tray_26 rfl (lv_at hl 0 rfl) ?_
    refine tw_iconst F dX12_tray_27 ki_1 (fun z4 hz4 => ?_)
    refine tw_Vi (As := [.int z4]) F hZ h yk_X12_is mw_286 mw_287 mw_288 (s_X12_is l D cy L R O f0 a0 m_a0 r_a0 z4 ⟨by omega, by omega⟩) rfl rfl m_a0 r_a0 (fun e q => (T_12 e).mp q) rfl hl.1 rfl (Nat.le_of_ble_eq_true rfl) ⟨Nat.le_of_ble_eq_true rfl, Nat.le_of_ble_eq_true rfl⟩ ⟨Nat.le_of_ble_eq_true rfl, Nat.le_of_ble_eq_true rfl⟩ dX12_tray_28 (fun v6 f5 H locs hp5 h => ?_)
    obtain ⟨hf5, hv6a, hv6b, hv6p0⟩ := hp5
    have hT0 : (∀ p : Nat, elj f5 a0_trays p = elj f0 a0_trays p) := fun p => (hf5.eelj m_a0_trays r_a0_trays (by decide +kernel) p).trans (hT0 p)
    have hk : fr L R [(12, 1)] [12, 62, 63, 64] f0 f5 := hk.tr hf5 rfl rfl
    have e7 : fld f5 a0 4 = .ref a0_sort := (hf5.efl m_a0 r_a0 rfl).trans t_a0_sort
    have e8 : fld f5 a0 5 = .ref a0_trayMany := (hf5.efl m_a0 r_a0 rfl).trans t_a0_trayMany
    have e9 : fld f5 a0 6 = .ref a0_trays := (hf5.efl m_a0 r_a0 rfl).trans t_a0_trays
    exact hret f5 _ _ _ _ v6 dX12_tray_31 (tw_nb (by omega)) ⟨hk, by omega, by omega, by omega, (fun i hi => by have q := TRm (TMm_of h0 m_a0 r_a0) hf5 m_a0 r_a0 (by decide +kernel) (by decide +kernel) (by decide +kernel) (by decide +kernel) i; omega), (fun i hi j hj => by have q := TNm t_a0_trays m_a0_trays r_a0_trays hf5 m_a0 r_a0 (by decide +kernel) (by decide +kernel) i j; omega)⟩ h
  · refine lv_iload_n F.1 F.2.1 dX12_tray_7 rfl (lv_at hl 2 rfl) ?_
    refine tw_if_lt (tgt := 26) F dX12_tray_8 (by decide) (fun b10 => ?_) (fun b10 => ?_)
    · refine lv_aload_n F.1 F.2.1 dX12_tray_26 rfl (lv_at hl 0 rfl) ?_
      refine tw_iconst F dX12_tray_27 ki_1 (fun z11 hz11 => ?_)
      refine tw_Vi (As := [.int z11]) F hZ h yk_X12_is mw_286 mw_287 mw_288 (s_X12_is l D cy L R O f0 a0 m_a0 r_a0 z11 ⟨by omega, by omega⟩) rfl rfl m_a0 r_a0 (fun e q => (T_12 e).mp q) rfl hl.1 rfl (Nat.le_of_ble_eq_true rfl) ⟨Nat.le_of_ble_eq_true rfl, Nat.le_of_ble_eq_true rfl⟩ ⟨Nat.le_of_ble_eq_true rfl, Nat.le_of_ble_eq_true rfl⟩ dX12_tray_28 (fun v13 f12 H locs hp12 h => ?_)
      obtain ⟨hf12, hv13a, hv13b, hv13p0⟩ := hp12
      have hT0 : (∀ p : Nat, elj f12 a0_trays p = elj f0 a0_trays p) := fun p => (hf12.eelj m_a0_trays r_a0_trays (by decide +kernel) p).trans (hT0 p)
      have hk : fr L R [(12, 1)] [12, 62, 63, 64] f0 f12 := hk.tr hf12 rfl rfl
      have e14 : fld f12 a0 4 = .ref a0_sort := (hf12.efl m_a0 r_a0 rfl).trans t_a0_sort
      have e15 : fld f12 a0 5 = .ref a0_trayMany := (hf12.efl m_a0 r_a0 rfl).trans t_a0_trayMany
      have e16 : fld f12 a0 6 = .ref a0_trays := (hf12.efl m_a0 r_a0 rfl).trans t_a0_trays
      exact hret f12 _ _ _ _ v13 dX12_tray_31 (tw_nb (by omega)) ⟨hk, by omega, by omega, by omega, (fun i hi => by have q := TRm (TMm_of h0 m_a0 r_a0) hf12 m_a0 r_a0 (by decide +kernel) (by decide +kernel) (by decide +kernel) (by decide +kernel) i; omega), (fun i hi j hj => by have q := TNm t_a0_trays m_a0_trays r_a0_trays hf12 m_a0 r_a0 (by decide +kernel) (by decide +kernel) i j; omega)⟩ h
    · refine lv_iload_n F.1 F.2.1 dX12_tray_11 rfl (lv_at hl 2 rfl) ?_
      refine tw_iconst F dX12_tray_12 ki_3 (fun z17 hz17 => ?_)
      refine tw_icmp_gt (tgt := 26) F dX12_tray_13 (by decide) (fun b18 => ?_) (fun b18 => ?_)
      · refine lv_aload_n F.1 F.2.1 dX12_tray_26 rfl (lv_at hl 0 rfl) ?_
        refine tw_iconst F dX12_tray_27 ki_1 (fun z19 hz19 => ?_)
        refine tw_Vi (As := [.int z19]) F hZ h yk_X12_is mw_286 mw_287 mw_288 (s_X12_is l D cy L R O f0 a0 m_a0 r_a0 z19 ⟨by omega, by omega⟩) rfl rfl m_a0 r_a0 (fun e q => (T_12 e).mp q) rfl hl.1 rfl (Nat.le_of_ble_eq_true rfl) ⟨Nat.le_of_ble_eq_true rfl, Nat.le_of_ble_eq_true rfl⟩ ⟨Nat.le_of_ble_eq_true rfl, Nat.le_of_ble_eq_true rfl⟩ dX12_tray_28 (fun v21 f20 H locs hp20 h => ?_)
        obtain ⟨hf20, hv21a, hv21b, hv21p0⟩ := hp20
        have hT0 : (∀ p : Nat, elj f20 a0_trays p = elj f0 a0_trays p) := fun p => (hf20.eelj m_a0_trays r_a0_trays (by decide +kernel) p).trans (hT0 p)
        have hk : fr L R [(12, 1)] [12, 62, 63, 64] f0 f20 := hk.tr hf20 rfl rfl
        have e22 : fld f20 a0 4 = .ref a0_sort := (hf20.efl m_a0 r_a0 rfl).trans t_a0_sort
        have e23 : fld f20 a0 5 = .ref a0_trayMany := (hf20.efl m_a0 r_a0 rfl).trans t_a0_trayMany
        have e24 : fld f20 a0 6 = .ref a0_trays := (hf20.efl m_a0 r_a0 rfl).trans t_a0_trays
        exact hret f20 _ _ _ _ v21 dX12_tray_31 (tw_nb (by omega)) ⟨hk, by omega, by omega, by omega, (fun i hi => by have q := TRm (TMm_of h0 m_a0 r_a0) hf20 m_a0 r_a0 (by decide +kernel) (by decide +kernel) (by decide +kernel) (by decide +kernel) i; omega), (fun i hi j hj => by have q := TNm t_a0_trays m_a0_trays r_a0_trays hf20 m_a0 r_a0 (by decide +kernel) (by decide +kernel) i j; omega)⟩ h
      · refine lv_iload_n F.1 F.2.1 dX12_tray_16 rfl (lv_at hl 3 rfl) ?_
        refine tw_if_lt (tgt := 26) F dX12_tray_17 (by decide) (fun b25 => ?_) (fun b25 => ?_)
        · refine lv_aload_n F.1 F.2.1 dX12_tray_26 rfl (lv_at hl 0 rfl) ?_
          refine tw_iconst F dX12_tray_27 ki_1 (fun z26 hz26 => ?_)
          refine tw_Vi (As := [.int z26]) F hZ h yk_X12_is mw_286 mw_287 mw_288 (s_X12_is l D cy L R O f0 a0 m_a0 r_a0 z26 ⟨by omega, by omega⟩) rfl rfl m_a0 r_a0 (fun e q => (T_12 e).mp q) rfl hl.1 rfl (Nat.le_of_ble_eq_true rfl) ⟨Nat.le_of_ble_eq_true rfl, Nat.le_of_ble_eq_true rfl⟩ ⟨Nat.le_of_ble_eq_true rfl, Nat.le_of_ble_eq_true rfl⟩ dX12_tray_28 (fun v28 f27 H locs hp27 h => ?_)
          obtain ⟨hf27, hv28a, hv28b, hv28p0⟩ := hp27
          have hT0 : (∀ p : Nat, elj f27 a0_trays p = elj f0 a0_trays p) := fun p => (hf27.eelj m_a0_trays r_a0_trays (by decide +kernel) p).trans (hT0 p)
          have hk : fr L R [(12, 1)] [12, 62, 63, 64] f0 f27 := hk.tr hf27 rfl rfl
          have e29 : fld f27 a0 4 = .ref a0_sort := (hf27.efl m_a0 r_a0 rfl).trans t_a0_sort
          have e30 : fld f27 a0 5 = .ref a0_trayMany := (hf27.efl m_a0 r_a0 rfl).trans t_a0_trayMany
          have e31 : fld f27 a0 6 = .ref a0_trays := (hf27.efl m_a0 r_a0 rfl).trans t_a0_trays
          exact hret f27 _ _ _ _ v28 dX12_tray_31 (tw_nb (by omega)) ⟨hk, by omega, by omega, by omega, (fun i hi => by have q := TRm (TMm_of h0 m_a0 r_a0) hf27 m_a0 r_a0 (by decide +kernel) (by decide +kernel) (by decide +kernel) (by decide +kernel) i; omega), (fun i hi j hj => by have q := TNm t_a0_trays m_a0_trays r_a0_trays hf27 m_a0 r_a0 (by decide +kernel) (by decide +kernel) i j; omega)⟩ h
        · refine lv_iload_n F.1 F.2.1 dX12_tray_20 rfl (lv_at hl 3 rfl) ?_
          refine tw_bipush F dX12_tray_21 kb_60 (fun z32 hz32 => ?_)
          refine tw_icmp_le (tgt := 32) F dX12_tray_23 (by decide) (fun b33 => ?_) (fun b33 => ?_)
          · refine lv_aload_n F.1 F.2.1 dX12_tray_32 rfl (lv_at hl 0 rfl) ?_
            refine g_12_17 F h m_a0 r_a0 dX12_tray_33 (fun o34 m_o34 r_o34 ho34 => ?_)
            obtain rfl := (fld_inj t_a0_sort ho34).symm
            refine lv_iload_n F.1 F.2.1 dX12_tray_36 rfl (lv_at hl 1 rfl) ?_
            refine lv_iload_n F.1 F.2.1 dX12_tray_37 rfl (lv_at hl 2 rfl) ?_
            refine se_62 F h m_a0_sort r_a0_sort (by omega) dX12_tray_38 (fun f35 H locs e35a e35b hf35 h => ?_)
            have hT0 : (∀ p : Nat, elj f35 a0_trays p = elj f0 a0_trays p) := fun p => (hf35.eelj m_a0_trays r_a0_trays (by decide +kernel) p).trans (hT0 p)
            have hk : fr L R [(12, 1)] [12, 62, 63, 64] f0 f35 := hk.tr hf35 rfl rfl
            have e36 : fld f35 a0 4 = .ref a0_sort := (hf35.efl m_a0 r_a0 rfl).trans t_a0_sort
            have e37 : fld f35 a0 5 = .ref a0_trayMany := (hf35.efl m_a0 r_a0 rfl).trans t_a0_trayMany
            have e38 : fld f35 a0 6 = .ref a0_trays := (hf35.efl m_a0 r_a0 rfl).trans t_a0_trays
            have hS := e35a
            refine lv_aload_n F.1 F.2.1 dX12_tray_39 rfl (lv_at hl 0 rfl) ?_
            refine g_12_21 F h m_a0 r_a0 dX12_tray_40 (fun o39 m_o39 r_o39 ho39 => ?_)
            obtain rfl := (fld_inj e37 ho39).symm
            refine lv_iload_n F.1 F.2.1 dX12_tray_43 rfl (lv_at hl 1 rfl) ?_
            refine lv_iload_n F.1 F.2.1 dX12_tray_44 rfl (lv_at hl 3 rfl) ?_
            refine se_63 F h m_a0_trayMany r_a0_trayMany (by omega) (by omega) dX12_tray_45 (fun f40 H locs e40a e40b hf40 h => ?_)
            have hT0 : (∀ p : Nat, elj f40 a0_trays p = elj f0 a0_trays p) := fun p => (hf40.eelj m_a0_trays r_a0_trays (by decide +kernel) p).trans (hT0 p)
            have hS : (∀ i, eli f40 a0_sort i = if i = x1.toInt.toNat then x2.toInt else eli f0 a0_sort i) := fun i => (hf40.eeli m_a0_sort r_a0_sort (by decide +kernel) i).trans (hS i)
            have hk : fr L R [(12, 1)] [12, 62, 63, 64] f0 f40 := hk.tr hf40 rfl rfl
            have e41 : fld f40 a0 4 = .ref a0_sort := (hf40.efl m_a0 r_a0 rfl).trans e36
            have e42 : fld f40 a0 5 = .ref a0_trayMany := (hf40.efl m_a0 r_a0 rfl).trans e37
            have e43 : fld f40 a0 6 = .ref a0_trays := (hf40.efl m_a0 r_a0 rfl).trans e38
            have hM : (∀ i, eli f40 a0_trayMany i = if i = x1.toInt.toNat then x3.toInt else eli f0 a0_trayMany i) := fun i => by rw [e40a i, hf35.eeli m_a0_trayMany r_a0_trayMany (by decide +kernel) i]
            refine tw_iconst F dX12_tray_46 ki_0 (fun z44 hz44 => ?_)
            refine lv_istore (lv' := [(4, .int z44), (0, .ref a0), (1, .int x1), (2, .int x2), (3, .int x3)]) F.1 F.2.1 dX12_tray_47 hl (by decide) rfl (fun ls hl => ?_)
            have j_49 : ∀ (n49 : Nat) (f45 : Nat → va_E) (H : Heap) (locs : List Loc) (ls : Array Slot) (x4_49 : Int32), 0 ≤ x4_49.toInt → x4_49.toInt ≤ 60 → 0 ≤ x4_49.toInt → x4_49.toInt ≤ x3.toInt → (∀ p : Nat, ((60 * x1.toInt.toNat ≤ p ∧ (p : Int) < 60 * x1.toInt + x4_49.toInt) → elj f45 a0_trays p = 0) ∧ ((p < 60 * x1.toInt.toNat ∨ 60 * x1.toInt + x4_49.toInt ≤ (p : Int)) → elj f45 a0_trays p = elj f0 a0_trays p)) → ((60 - x4_49.toInt)).toNat < n49 → tS D cy A s.heap L R (TT cy L R) f45 s H locs → (∀ i, eli f45 a0_sort i = if i = x1.toInt.toNat then x2.toInt else eli f0 a0_sort i) → (∀ i, eli f45 a0_trayMany i = if i = x1.toInt.toNat then x3.toInt else eli f0 a0_trayMany i) → fr L R [(12, 1)] [12, 62, 63, 64] f0 f45 → fr L R [] [64] f40 f45 → lv_has ls 5 [(0, .ref a0), (1, .int x1), (3, .int x3), (4, .int x4_49)] → W p l e rm_X12_trayZ s m args below meth c H locs 0 0 Q (F0 m 49 ls []) := by
              intro n49
              induction n49 with
              | zero =>
                intro f45 H locs ls x4_49 b46 b47 b48 b49 ip49_0 b50 h hS hM hk hb49 hl
                exfalso
                omega
              | succ n49 ih49 =>
                intro f45 H locs ls x4_49 b46 b47 b48 b49 ip49_0 b50 h hS hM hk hb49 hl
                have e51 : fld f45 a0 4 = .ref a0_sort := (hb49.efl m_a0 r_a0 rfl).trans e41
                have e52 : fld f45 a0 5 = .ref a0_trayMany := (hb49.efl m_a0 r_a0 rfl).trans e42
                have e53 : fld f45 a0 6 = .ref a0_trays := (hb49.efl m_a0 r_a0 rfl).trans e43
                refine lv_iload F.1 F.2.1 dX12_tray_49 (lv_at hl 3 rfl) ?_
                refine lv_iload_n F.1 F.2.1 dX12_tray_51 rfl (lv_at hl 2 rfl) ?_
                refine tw_icmp_ge (tgt := 74) F dX12_tray_52 (by decide) (fun b54 => ?_) (fun b54 => ?_)
                · refine lv_aload_n F.1 F.2.1 dX12_tray_74 rfl (lv_at hl 0 rfl) ?_
                  refine tw_iconst F dX12_tray_75 ki_0 (fun z55 hz55 => ?_)
                  refine tw_Vi (As := [.int z55]) F hZ h yk_X12_is mw_286 mw_287 mw_288 (s_X12_is l D cy L R O f45 a0 m_a0 r_a0 z55 ⟨by omega, by omega⟩) rfl rfl m_a0 r_a0 (fun e q => (T_12 e).mp q) rfl hl.1 rfl (Nat.le_of_ble_eq_true rfl) ⟨Nat.le_of_ble_eq_true rfl, Nat.le_of_ble_eq_true rfl⟩ ⟨Nat.le_of_ble_eq_true rfl, Nat.le_of_ble_eq_true rfl⟩ dX12_tray_76 (fun v57 f56 H locs hp56 h => ?_)
                  obtain ⟨hf56, hv57a, hv57b, hv57p0⟩ := hp56
                  have hS : (∀ i, eli f56 a0_sort i = if i = x1.toInt.toNat then x2.toInt else eli f0 a0_sort i) := fun i => (hf56.eeli m_a0_sort r_a0_sort (by decide +kernel) i).trans (hS i)
                  have hM : (∀ i, eli f56 a0_trayMany i = if i = x1.toInt.toNat then x3.toInt else eli f0 a0_trayMany i) := fun i => (hf56.eeli m_a0_trayMany r_a0_trayMany (by decide +kernel) i).trans (hM i)
                  have hk : fr L R [(12, 1)] [12, 62, 63, 64] f0 f56 := hk.tr hf56 rfl rfl
                  have e58 : fld f56 a0 4 = .ref a0_sort := (hf56.efl m_a0 r_a0 rfl).trans e51
                  have e59 : fld f56 a0 5 = .ref a0_trayMany := (hf56.efl m_a0 r_a0 rfl).trans e52
                  have e60 : fld f56 a0 6 = .ref a0_trays := (hf56.efl m_a0 r_a0 rfl).trans e53
                  exact hret f56 _ _ _ _ v57 dX12_tray_79 (tw_nb (by omega)) ⟨hk, by omega, by omega, by omega, (fun i hi => if e : i = x1.toInt.toNat then (by have q1 := hS i; have q2 := hM i; have q3 := MS_of e59 i; have q4 := MT_of e58 i; have q5 := hms i; have q6 := hmt i; rw [if_pos e] at q1 q2; omega) else (by have q1 := hS i; have q2 := hM i; have q3 := MS_of e59 i; have q4 := MT_of e58 i; have q5 := hms i; have q6 := hmt i; rw [if_neg e] at q1 q2; omega)), (fun i hi j hj => by have q0 := MN_of e60 i j; have q1 := hf56.eelj m_a0_trays r_a0_trays (by decide +kernel) (60 * i + j); have q2 := ip49_0 (60 * i + j); have q3 := MN_of t_a0_trays i j; exact (if e : i = x1.toInt.toNat then Or.inl ⟨e, by omega, fun q => by have q4 := q2.1 (by omega); omega⟩ else Or.inr ⟨Or.inl e, by have q4 := q2.2 (by omega); omega⟩))⟩ h
                · refine lv_aload_n F.1 F.2.1 dX12_tray_55 rfl (lv_at hl 0 rfl) ?_
                  refine g_12_24 F h m_a0 r_a0 dX12_tray_56 (fun o61 m_o61 r_o61 ho61 => ?_)
                  obtain rfl := (fld_inj e53 ho61).symm
                  refine tw_bipush F dX12_tray_59 kb_60 (fun z62 hz62 => ?_)
                  refine lv_iload_n F.1 F.2.1 dX12_tray_61 rfl (lv_at hl 1 rfl) ?_
                  refine tu_imull F dX12_tray_62 hz62 (by omega) (fun z63 hz63 => ?_)
                  refine lv_iload F.1 F.2.1 dX12_tray_63 (lv_at hl 3 rfl) ?_
                  refine tu_iadd F dX12_tray_65 (by omega) (fun z64 hz64 => ?_)
                  refine tu_lconst F dX12_tray_66 (by decide) (fun z65 (hz65 : z65.toInt = 0) => ?_)
                  refine se_64 F h m_a0_trays r_a0_trays (by omega) dX12_tray_67 (fun f66 H locs e66a e66b hf66 h => ?_)
                  have hS : (∀ i, eli f66 a0_sort i = if i = x1.toInt.toNat then x2.toInt else eli f0 a0_sort i) := fun i => (hf66.eeli m_a0_sort r_a0_sort (by decide +kernel) i).trans (hS i)
                  have hM : (∀ i, eli f66 a0_trayMany i = if i = x1.toInt.toNat then x3.toInt else eli f0 a0_trayMany i) := fun i => (hf66.eeli m_a0_trayMany r_a0_trayMany (by decide +kernel) i).trans (hM i)
                  have hk : fr L R [(12, 1)] [12, 62, 63, 64] f0 f66 := hk.tr hf66 rfl rfl
                  have hb49 : fr L R [] [64] f40 f66 := hb49.tr hf66 rfl rfl
                  have e67 : fld f66 a0 4 = .ref a0_sort := (hf66.efl m_a0 r_a0 rfl).trans e51
                  have e68 : fld f66 a0 5 = .ref a0_trayMany := (hf66.efl m_a0 r_a0 rfl).trans e52
                  have e69 : fld f66 a0 6 = .ref a0_trays := (hf66.efl m_a0 r_a0 rfl).trans e53
                  refine tu_iinc F dX12_tray_68 hl (k := 3) rfl (by decide) ki_1 (by omega) (fun z70 ls hz70 hl => ?_)
                  have hl : lv_has ls 5 [(4, .int z70), (0, .ref a0), (1, .int x1), (3, .int x3)] := hl
                  refine lv_goto (tgt := 49) F.1 F.2.1 dX12_tray_71 (by decide) ?_
                  exact ih49 f66 _ _ _ z70 (by omega) (by omega) (by omega) (by omega) (fun p => ⟨fun q => by rw [e66a p]; exact (if e : p = z64.toInt.toNat then (by rw [if_pos e]; omega) else (by rw [if_neg e]; exact (ip49_0 p).1 (by omega))), fun q => by rw [e66a p, if_neg (by omega)]; exact (ip49_0 p).2 (by omega)⟩) (by omega) h hS hM hk hb49 (lv_sub hl [1, 2, 3, 0] rfl)
            have hb49 : fr L R [] [64] f40 f40 := fr.rf
            exact j_49 (((60 - z44.toInt)).toNat + 1) f40 _ _ _ z44 (by omega) (by omega) (by omega) (by omega) (fun p => ⟨fun q => by exfalso; omega, fun _ => hT0 p⟩) (by omega) h hS hM hk hb49 (lv_sub hl [1, 2, 4, 0] rfl)
          · refine lv_aload_n F.1 F.2.1 dX12_tray_26 rfl (lv_at hl 0 rfl) ?_
            refine tw_iconst F dX12_tray_27 ki_1 (fun z71 hz71 => ?_)
            refine tw_Vi (As := [.int z71]) F hZ h yk_X12_is mw_286 mw_287 mw_288 (s_X12_is l D cy L R O f0 a0 m_a0 r_a0 z71 ⟨by omega, by omega⟩) rfl rfl m_a0 r_a0 (fun e q => (T_12 e).mp q) rfl hl.1 rfl (Nat.le_of_ble_eq_true rfl) ⟨Nat.le_of_ble_eq_true rfl, Nat.le_of_ble_eq_true rfl⟩ ⟨Nat.le_of_ble_eq_true rfl, Nat.le_of_ble_eq_true rfl⟩ dX12_tray_28 (fun v73 f72 H locs hp72 h => ?_)
            obtain ⟨hf72, hv73a, hv73b, hv73p0⟩ := hp72
            have hT0 : (∀ p : Nat, elj f72 a0_trays p = elj f0 a0_trays p) := fun p => (hf72.eelj m_a0_trays r_a0_trays (by decide +kernel) p).trans (hT0 p)
            have hk : fr L R [(12, 1)] [12, 62, 63, 64] f0 f72 := hk.tr hf72 rfl rfl
            have e74 : fld f72 a0 4 = .ref a0_sort := (hf72.efl m_a0 r_a0 rfl).trans t_a0_sort
            have e75 : fld f72 a0 5 = .ref a0_trayMany := (hf72.efl m_a0 r_a0 rfl).trans t_a0_trayMany
            have e76 : fld f72 a0 6 = .ref a0_trays := (hf72.efl m_a0 r_a0 rfl).trans t_a0_trays
            exact hret f72 _ _ _ _ v73 dX12_tray_31 (tw_nb (by omega)) ⟨hk, by omega, by omega, by omega, (fun i hi => by have q := TRm (TMm_of h0 m_a0 r_a0) hf72 m_a0 r_a0 (by decide +kernel) (by decide +kernel) (by decide +kernel) (by decide +kernel) i; omega), (fun i hi j hj => by have q := TNm t_a0_trays m_a0_trays r_a0_trays hf72 m_a0 r_a0 (by decide +kernel) (by decide +kernel) i j; omega)⟩ h
section
variable {p : Program} {l : Launch} {e : Env} {R0 : Room} {s : State} {m : MethodId} {args : Array Value} {below : List Frame} {meth : Method} {c : Code} {H H0 : Heap} {locs : List Loc} {cells slots : Nat} {Q : State → Prop} {cc : ByteArray} {nL : Nat} {D : va_G} {cy : Nat → ClassId} {A : Nat → Prop} {L : List Nat} {R : Nat → Nat} {f : Nat → va_E} {pc : Nat} {ls : Array Slot} {rest : List Value} {a : Nat}
theorem le_62 {own : String} (F : CallFix p m c cc nL s args wsL_law own) (h : tS D cy A H0 L R (TT cy L R) f s H locs) {i : Int32} (ha : a ∈ L) (hr : R a = 62) (hb : 0 ≤ i.toInt ∧ i.toInt < 4) (hdg : decode cc pc = .ok (.iaload, 1)) (kk : ∀ x : Int32, x.toInt = eli f a i.toInt.toNat → W p l e R0 s m args below meth c H locs cells slots Q (F0 m (pc + 1) ls (.int x :: rest))) : W p l e R0 s m args below meth c H locs cells slots Q (F0 m pc ls (.int i :: .ref a :: rest)) := tu_iald F h ha hr (fun e q => (T_62 e).mp q) hb.1 hb.2 hdg (fun x h1 h2 => kk x h2)
end
def rm_X12_writeZ : Room := { frames := 2, cells := 0, slots := 0, locals := 42 }
set_option maxHeartbeats 4000000 in
set_option maxRecDepth 100000 in
theorem s_X12_writeZ (l : Launch) (D : va_G) (cy : Nat → ClassId) (L : List Nat) (R O : Nat → Nat) (f0 : Nat → va_E) (a0 : Nat) (m_a0 : a0 ∈ L) (r_a0 : R a0 = 12) (x1 : Int32) (x2 : Int32) (x3 : Int64) : ∀ sz, Met l yX12_write (Cond.code yX12_write cX12_write 6 (some .boolean) :: wsL_law) rm_X12_writeZ (va_Pc [.ref a0, .int x1, .int x2, .long x3] (tPZ D cy L R (TT cy L R) f0 sz)) (va_Qi (fun (r : Int32) f1 => fr L R [(12, 1)] [12, 64] f0 f1 ∧ 0 ≤ r.toInt ∧ r.toInt ≤ 1 ∧ ((r.toInt = 1 ∧ (0 ≤ x1.toInt ∧ x1.toInt ≤ 3 ∧ 0 ≤ x2.toInt ∧ x2.toInt < MS f0 a0 x1.toInt.toNat)) ∨ (r.toInt = 0 ∧ ¬ (0 ≤ x1.toInt ∧ x1.toInt ≤ 3 ∧ 0 ≤ x2.toInt ∧ x2.toInt < MS f0 a0 x1.toInt.toNat))) ∧ (∀ i, i < 4 → ∀ j : Nat, j < 60 → ((((0 ≤ x1.toInt ∧ x1.toInt ≤ 3 ∧ 0 ≤ x2.toInt ∧ x2.toInt < MS f0 a0 i) ∧ i = x1.toInt.toNat ∧ j = x2.toInt.toNat) ∧ MN f1 a0 i j = cutf (MT f0 a0 i) x3) ∨ (¬ ((0 ≤ x1.toInt ∧ x1.toInt ≤ 3 ∧ 0 ≤ x2.toInt ∧ x2.toInt < MS f0 a0 i) ∧ i = x1.toInt.toNat ∧ j = x2.toInt.toNat) ∧ MN f1 a0 i j = MN f0 a0 i j)))) (tB D (tA L sz) L R (TT cy L R)) (tA L sz)) 0 0 (tA L sz) := by
  refine tw_enteri (by decide +kernel) rfl (Nat.le_of_ble_eq_true rfl) ?_
  intro p e s m below meth c A ls args Q F hZ h hl hret
  have hl : lv_has ls 6 [(0, .ref a0), (1, .int x1), (2, .int x2), (3, .long x3)] := hl
  have hk : fr L R [(12, 1)] [12, 64] f0 f0 := fr.rf
  obtain ⟨a0_sort, m_a0_sort, r_a0_sort, t_a0_sort⟩ := h.rf m_a0 r_a0 (fun e q => (T_12 e).mp q) (k := 4) rfl
  obtain ⟨a0_trays, m_a0_trays, r_a0_trays, t_a0_trays⟩ := h.rf m_a0 r_a0 (fun e q => (T_12 e).mp q) (k := 6) rfl
  refine lv_aload_n F.1 F.2.1 dX12_write_0 rfl (lv_at hl 0 rfl) ?_
  refine lv_iload_n F.1 F.2.1 dX12_write_1 rfl (lv_at hl 1 rfl) ?_
  refine lv_iload_n F.1 F.2.1 dX12_write_2 rfl (lv_at hl 2 rfl) ?_
  refine tw_Vi (As := [.int x1, .int x2]) F hZ h yk_X12_wrongPlace mw_319 mw_320 mw_321 (s_X12_wrongPlaceY l D cy L R O f0 a0 m_a0 r_a0 x1 x2) rfl rfl m_a0 r_a0 (fun e q => (T_12 e).mp q) rfl hl.1 rfl (Nat.le_of_ble_eq_true rfl) ⟨Nat.le_of_ble_eq_true rfl, Nat.le_of_ble_eq_true rfl⟩ ⟨Nat.le_of_ble_eq_true rfl, Nat.le_of_ble_eq_true rfl⟩ dX12_write_3 (fun v2 f1 H locs hp1 h => ?_)
  obtain ⟨rfl, hv2a, hv2b, hv2p0, hv2p1⟩ := hp1
  refine lv_istore (lv' := [(5, .int v2), (0, .ref a0), (1, .int x1), (2, .int x2), (3, .long x3)]) F.1 F.2.1 dX12_write_6 hl (by decide) rfl (fun ls hl => ?_)
  refine lv_iload F.1 F.2.1 dX12_write_8 (lv_at hl 0 rfl) ?_
  refine tw_if_ne (tgt := 34) F dX12_write_10 (by decide) (fun b3 => ?_) (fun b3 => ?_)
  · refine lv_aload_n F.1 F.2.1 dX12_write_34 rfl (lv_at hl 1 rfl) ?_
    refine lv_iload F.1 F.2.1 dX12_write_35 (lv_at hl 0 rfl) ?_
    refine tw_Vi (As := [.int v2]) F hZ h yk_X12_is mw_286 mw_287 mw_288 (s_X12_is l D cy L R O f0 a0 m_a0 r_a0 v2 ⟨by omega, by omega⟩) rfl rfl m_a0 r_a0 (fun e q => (T_12 e).mp q) rfl hl.1 rfl (Nat.le_of_ble_eq_true rfl) ⟨Nat.le_of_ble_eq_true rfl, Nat.le_of_ble_eq_true rfl⟩ ⟨Nat.le_of_ble_eq_true rfl, Nat.le_of_ble_eq_true rfl⟩ dX12_write_37 (fun v5 f4 H locs hp4 h => ?_)
    obtain ⟨hf4, hv5a, hv5b, hv5p0⟩ := hp4
    have hk : fr L R [(12, 1)] [12, 64] f0 f4 := hk.tr hf4 rfl rfl
    have e6 : fld f4 a0 4 = .ref a0_sort := (hf4.efl m_a0 r_a0 rfl).trans t_a0_sort
    have e7 : fld f4 a0 6 = .ref a0_trays := (hf4.efl m_a0 r_a0 rfl).trans t_a0_trays
    exact hret f4 _ _ _ _ v5 dX12_write_40 (tw_nb (by omega)) ⟨hk, by omega, by omega, by omega, (fun i hi j hj => by have q := TNm t_a0_trays m_a0_trays r_a0_trays hf4 m_a0 r_a0 (by decide +kernel) (by decide +kernel) i j; exact Or.inr ⟨fun w => by obtain ⟨w1, w2, w3⟩ := w; rw [w2] at w1; omega, q⟩)⟩ h
  · refine lv_aload_n F.1 F.2.1 dX12_write_13 rfl (lv_at hl 1 rfl) ?_
    refine g_12_24 F h m_a0 r_a0 dX12_write_14 (fun o8 m_o8 r_o8 ho8 => ?_)
    obtain rfl := (fld_inj t_a0_trays ho8).symm
    refine tw_bipush F dX12_write_17 kb_60 (fun z9 hz9 => ?_)
    refine lv_iload_n F.1 F.2.1 dX12_write_19 rfl (lv_at hl 2 rfl) ?_
    refine tu_imull F dX12_write_20 hz9 (by omega) (fun z10 hz10 => ?_)
    refine lv_iload_n F.1 F.2.1 dX12_write_21 rfl (lv_at hl 3 rfl) ?_
    refine tu_iadd F dX12_write_22 (by omega) (fun z11 hz11 => ?_)
    refine lv_lload_n F.1 F.2.1 dX12_write_23 rfl (lv_at hl 4 rfl) ?_
    refine lv_aload_n F.1 F.2.1 dX12_write_24 rfl (lv_at hl 1 rfl) ?_
    refine g_12_17 F h m_a0 r_a0 dX12_write_25 (fun o12 m_o12 r_o12 ho12 => ?_)
    obtain rfl := (fld_inj t_a0_sort ho12).symm
    refine lv_iload_n F.1 F.2.1 dX12_write_28 rfl (lv_at hl 2 rfl) ?_
    refine le_62 F h m_a0_sort r_a0_sort (by omega) dX12_write_29 (fun v13 ev13 => ?_)
    refine tw_Sl (As := [.long x3, .int v13]) F hZ h yk_X12_cut mw_323 mw_324 (s_X12_cutZ l D cy L R O f0 x3 v13) rfl rfl hl.1 rfl (Nat.le_of_ble_eq_true rfl) ⟨Nat.le_of_ble_eq_true rfl, Nat.le_of_ble_eq_true rfl⟩ ⟨Nat.le_of_ble_eq_true rfl, Nat.le_of_ble_eq_true rfl⟩ dX12_write_30 (fun v15 f14 H locs hp14 h => ?_)
    obtain ⟨rfl, hv15p0⟩ := hp14
    refine se_64 F h m_a0_trays r_a0_trays (by omega) dX12_write_33 (fun f16 H locs e16a e16b hf16 h => ?_)
    have hk : fr L R [(12, 1)] [12, 64] f0 f16 := hk.tr hf16 rfl rfl
    have e17 : fld f16 a0 4 = .ref a0_sort := (hf16.efl m_a0 r_a0 rfl).trans t_a0_sort
    have e18 : fld f16 a0 6 = .ref a0_trays := (hf16.efl m_a0 r_a0 rfl).trans t_a0_trays
    refine lv_aload_n F.1 F.2.1 dX12_write_34 rfl (lv_at hl 1 rfl) ?_
    refine lv_iload F.1 F.2.1 dX12_write_35 (lv_at hl 0 rfl) ?_
    refine tw_Vi (As := [.int v2]) F hZ h yk_X12_is mw_286 mw_287 mw_288 (s_X12_is l D cy L R O f16 a0 m_a0 r_a0 v2 ⟨by omega, by omega⟩) rfl rfl m_a0 r_a0 (fun e q => (T_12 e).mp q) rfl hl.1 rfl (Nat.le_of_ble_eq_true rfl) ⟨Nat.le_of_ble_eq_true rfl, Nat.le_of_ble_eq_true rfl⟩ ⟨Nat.le_of_ble_eq_true rfl, Nat.le_of_ble_eq_true rfl⟩ dX12_write_37 (fun v20 f19 H locs hp19 h => ?_)
    obtain ⟨hf19, hv20a, hv20b, hv20p0⟩ := hp19
    have hk : fr L R [(12, 1)] [12, 64] f0 f19 := hk.tr hf19 rfl rfl
    have e21 : fld f19 a0 4 = .ref a0_sort := (hf19.efl m_a0 r_a0 rfl).trans e17
    have e22 : fld f19 a0 6 = .ref a0_trays := (hf19.efl m_a0 r_a0 rfl).trans e18
    exact hret f19 _ _ _ _ v20 dX12_write_40 (tw_nb (by omega)) ⟨hk, by omega, by omega, by omega, (fun i hi j hj => by have q0 := MN_of e22 i j; have q1 := hf19.eelj m_a0_trays r_a0_trays (by decide +kernel) (60 * i + j); have q2 := e16a (60 * i + j); have q3 := MN_of t_a0_trays i j; have q4 := MT_of t_a0_sort i; have q5 := hv15p0; exact (if e1 : i = x1.toInt.toNat then (if e2 : j = x2.toInt.toNat then Or.inl ⟨⟨by rw [e1]; omega, e1, e2⟩, by have q6 : cutf (MT f0 a0 i) x3 = cutf v13.toInt x3 := (by rw [q4, e1, ev13]); rw [if_pos (by omega)] at q2; omega⟩ else Or.inr ⟨fun w => e2 w.2.2, by rw [if_neg (by omega)] at q2; omega⟩) else Or.inr ⟨fun w => e1 w.2.1, by rw [if_neg (by omega)] at q2; omega⟩))⟩ h
def rm_X12_readZ : Room := { frames := 2, cells := 0, slots := 0, locals := 42 }
set_option maxHeartbeats 4000000 in
set_option maxRecDepth 100000 in
theorem s_X12_readZ (l : Launch) (D : va_G) (cy : Nat → ClassId) (L : List Nat) (R O : Nat → Nat) (f0 : Nat → va_E) (a0 : Nat) (m_a0 : a0 ∈ L) (r_a0 : R a0 = 12) (x1 : Int32) (x2 : Int32) : ∀ sz, Met l yX12_read (Cond.code yX12_read cX12_read 3 (some .long) :: wsL_law) rm_X12_readZ (va_Pc [.ref a0, .int x1, .int x2] (tPZ D cy L R (TT cy L R) f0 sz)) (va_Ql (fun (r : Int64) f1 => fr L R [(12, 1)] [12] f0 f1 ∧ (((0 ≤ x1.toInt ∧ x1.toInt ≤ 3 ∧ 0 ≤ x2.toInt ∧ x2.toInt < MS f0 a0 x1.toInt.toNat) ∧ r.toInt = MN f0 a0 x1.toInt.toNat x2.toInt.toNat) ∨ (¬ (0 ≤ x1.toInt ∧ x1.toInt ≤ 3 ∧ 0 ≤ x2.toInt ∧ x2.toInt < MS f0 a0 x1.toInt.toNat) ∧ r.toInt = -1))) (tB D (tA L sz) L R (TT cy L R)) (tA L sz)) 0 0 (tA L sz) := by
  refine tw_enterl (by decide +kernel) rfl (Nat.le_of_ble_eq_true rfl) ?_
  intro p e s m below meth c A ls args Q F hZ h hl hret
  have hl : lv_has ls 3 [(0, .ref a0), (1, .int x1), (2, .int x2)] := hl
  have hk : fr L R [(12, 1)] [12] f0 f0 := fr.rf
  obtain ⟨a0_trayMany, m_a0_trayMany, r_a0_trayMany, t_a0_trayMany⟩ := h.rf m_a0 r_a0 (fun e q => (T_12 e).mp q) (k := 5) rfl
  obtain ⟨a0_trays, m_a0_trays, r_a0_trays, t_a0_trays⟩ := h.rf m_a0 r_a0 (fun e q => (T_12 e).mp q) (k := 6) rfl
  refine lv_aload_n F.1 F.2.1 dX12_read_0 rfl (lv_at hl 0 rfl) ?_
  refine lv_aload_n F.1 F.2.1 dX12_read_1 rfl (lv_at hl 0 rfl) ?_
  refine lv_iload_n F.1 F.2.1 dX12_read_2 rfl (lv_at hl 1 rfl) ?_
  refine lv_iload_n F.1 F.2.1 dX12_read_3 rfl (lv_at hl 2 rfl) ?_
  refine tw_Vi (As := [.int x1, .int x2]) F hZ h yk_X12_wrongPlace mw_319 mw_320 mw_321 (s_X12_wrongPlaceY l D cy L R O f0 a0 m_a0 r_a0 x1 x2) rfl rfl m_a0 r_a0 (fun e q => (T_12 e).mp q) rfl hl.1 rfl (Nat.le_of_ble_eq_true rfl) ⟨Nat.le_of_ble_eq_true rfl, Nat.le_of_ble_eq_true rfl⟩ ⟨Nat.le_of_ble_eq_true rfl, Nat.le_of_ble_eq_true rfl⟩ dX12_read_4 (fun v2 f1 H locs hp1 h => ?_)
  obtain ⟨rfl, hv2a, hv2b, hv2p0, hv2p1⟩ := hp1
  refine p_12_121 F h m_a0 r_a0 dX12_read_7 (fun f3 H locs e3p hf3 h => ?_)
  have hk : fr L R [(12, 1)] [12] f0 f3 := hk.tr hf3 rfl rfl
  have e4 : fld f3 a0 5 = .ref a0_trayMany := (hf3.efl m_a0 r_a0 rfl).trans t_a0_trayMany
  have e5 : fld f3 a0 6 = .ref a0_trays := (hf3.efl m_a0 r_a0 rfl).trans t_a0_trays
  refine lv_aload_n F.1 F.2.1 dX12_read_10 rfl (lv_at hl 0 rfl) ?_
  refine g_12_121 F h m_a0 r_a0 dX12_read_11 (fun v6 hv6 => ?_)
  refine tw_if_le (tgt := 23) F dX12_read_14 (by decide) (fun b7 => ?_) (fun b7 => ?_)
  · refine lv_aload_n F.1 F.2.1 dX12_read_23 rfl (lv_at hl 0 rfl) ?_
    refine g_12_24 F h m_a0 r_a0 dX12_read_24 (fun o8 m_o8 r_o8 ho8 => ?_)
    obtain rfl := (fld_inj e5 ho8).symm
    refine tw_bipush F dX12_read_27 kb_60 (fun z9 hz9 => ?_)
    refine lv_iload_n F.1 F.2.1 dX12_read_29 rfl (lv_at hl 1 rfl) ?_
    refine tu_imull F dX12_read_30 hz9 (by omega) (fun z10 hz10 => ?_)
    refine lv_iload_n F.1 F.2.1 dX12_read_31 rfl (lv_at hl 2 rfl) ?_
    refine tu_iadd F dX12_read_32 (by omega) (fun z11 hz11 => ?_)
    refine le_64 F h m_a0_trays r_a0_trays (by omega) dX12_read_33 (fun v12 ev12 => ?_)
    exact hret f3 _ _ _ _ v12 dX12_read_34 ⟨hk, (by have q := MN_of t_a0_trays x1.toInt.toNat x2.toInt.toNat; have q2 := ev12; rw [show z11.toInt.toNat = 60 * x1.toInt.toNat + x2.toInt.toNat by omega, hf3.eelj m_a0_trays r_a0_trays (by decide +kernel)] at q2; omega)⟩ h
  · refine tu_ldc2 F mw_340 dX12_read_17 kl_m1 (fun z13 hz13 => ?_)
    refine lv_goto (tgt := 34) F.1 F.2.1 dX12_read_20 (by decide) ?_
    exact hret f3 _ _ _ _ z13 dX12_read_34 ⟨hk, (by omega)⟩ h
