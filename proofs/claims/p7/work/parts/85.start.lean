theorem dL_law_0 : decode cL_law 0 = .ok (.new 7, 3) := by decide +kernel
theorem dfX11 : ∀ j, j < 17 → defaultValue (tyX11 j) = vp_V [.null, .null, .null, .null, .null, .null, .null, .null, .null, .null, .int 0, .int 0, .int 0, .int 0, .int 0, .long 0, .long 0] j := by
  intro j hj
  match j, hj with
  | 0, _ => rfl
  | 1, _ => rfl
  | 2, _ => rfl
  | 3, _ => rfl
  | 4, _ => rfl
  | 5, _ => rfl
  | 6, _ => rfl
  | 7, _ => rfl
  | 8, _ => rfl
  | 9, _ => rfl
  | 10, _ => rfl
  | 11, _ => rfl
  | 12, _ => rfl
  | 13, _ => rfl
  | 14, _ => rfl
  | 15, _ => rfl
  | 16, _ => rfl
  | k + 17, hj => omega
theorem mw_0 : Cond.classLink RL 7 RX11 ∈ wsL_law := inr_1 _ (List.mem_of_getElem? (i := 0) rfl)
theorem mw_1 : Cond.instantiable RX11 17 ∈ wsL_law := inr_1 _ (List.mem_of_getElem? (i := 1) rfl)
theorem dL_law_3 : decode cL_law 3 = .ok (.dup, 1) := by decide +kernel
theorem dL_law_4 : decode cL_law 4 = .ok (.invokespecial 9, 3) := by decide +kernel
theorem mw_7 : Cond.methodLink RL 9 yX11_init ∈ wsL_law := inr_1 _ (List.mem_of_getElem? (i := 7) rfl)
theorem mw_9 : Cond.code yX11_init cX11_init 2 none ∈ wsL_law := inr_1 _ (List.mem_of_getElem? (i := 9) rfl)
theorem yk_X11_init : xY yX11_init RX11 cX11_init 2 none 0 := ⟨⟨rfl, by decide +kernel, by decide +kernel, by decide +kernel⟩, mw_2, mw_9⟩
theorem mw_8 : Cond.instanceMethod yX11_init ∈ wsL_law := inr_1 _ (List.mem_of_getElem? (i := 8) rfl)
theorem dL_law_7 : decode cL_law 7 = .ok (.astore_n 1, 1) := by decide +kernel
theorem dL_law_8 : decode cL_law 8 = .ok (.new 10, 3) := by decide +kernel
theorem dfX12 : ∀ j, j < 65 → defaultValue (tyX12 j) = vp_V [.null, .int 0, .long 0, .long 0, .null, .null, .null, .null, .null, .int 0, .int 0, .int 0, .int 0, .int 0, .int 0, .int 0, .int 0, .int 0, .null, .int 0, .int 0, .null, .null, .null, .null, .null, .null, .null, .int 0, .int 0, .int 0, .int 0, .int 0, .int 0, .null, .int 0, .int 0, .int 0, .int 0, .int 0, .null, .null, .int 0, .int 0, .int 0, .int 0, .int 0, .int 0, .null, .null, .null, .int 0, .null, .null, .int 0, .null, .int 0, .int 0, .null, .int 0, .int 0, .int 0, .null, .null, .int 0] j := by
  intro j hj
  match j, hj with
  | 0, _ => rfl
  | 1, _ => rfl
  | 2, _ => rfl
  | 3, _ => rfl
  | 4, _ => rfl
  | 5, _ => rfl
  | 6, _ => rfl
  | 7, _ => rfl
  | 8, _ => rfl
  | 9, _ => rfl
  | 10, _ => rfl
  | 11, _ => rfl
  | 12, _ => rfl
  | 13, _ => rfl
  | 14, _ => rfl
  | 15, _ => rfl
  | 16, _ => rfl
  | 17, _ => rfl
  | 18, _ => rfl
  | 19, _ => rfl
  | 20, _ => rfl
  | 21, _ => rfl
  | 22, _ => rfl
  | 23, _ => rfl
  | 24, _ => rfl
  | 25, _ => rfl
  | 26, _ => rfl
  | 27, _ => rfl
  | 28, _ => rfl
  | 29, _ => rfl
  | 30, _ => rfl
  | 31, _ => rfl
  | 32, _ => rfl
  | 33, _ => rfl
  | 34, _ => rfl
  | 35, _ => rfl
  | 36, _ => rfl
  | 37, _ => rfl
  | 38, _ => rfl
  | 39, _ => rfl
  | 40, _ => rfl
  | 41, _ => rfl
  | 42, _ => rfl
  | 43, _ => rfl
  | 44, _ => rfl
  | 45, _ => rfl
  | 46, _ => rfl
  | 47, _ => rfl
  | 48, _ => rfl
  | 49, _ => rfl
  | 50, _ => rfl
  | 51, _ => rfl
  | 52, _ => rfl
  | 53, _ => rfl
  | 54, _ => rfl
  | 55, _ => rfl
  | 56, _ => rfl
  | 57, _ => rfl
  | 58, _ => rfl
  | 59, _ => rfl
  | 60, _ => rfl
  | 61, _ => rfl
  | 62, _ => rfl
  | 63, _ => rfl
  | 64, _ => rfl
  | k + 65, hj => omega
theorem mw_3 : Cond.classLink RL 10 RX12 ∈ wsL_law := inr_1 _ (List.mem_of_getElem? (i := 3) rfl)
theorem mw_4 : Cond.instantiable RX12 65 ∈ wsL_law := inr_1 _ (List.mem_of_getElem? (i := 4) rfl)
theorem dL_law_11 : decode cL_law 11 = .ok (.dup, 1) := by decide +kernel
theorem dL_law_12 : decode cL_law 12 = .ok (.invokespecial 12, 3) := by decide +kernel
theorem mw_198 : Cond.methodLink RL 12 yX12_init ∈ wsL_law := inr_9 _ (List.mem_of_getElem? (i := 6) rfl)
theorem mw_200 : Cond.code yX12_init cX12_init 1 none ∈ wsL_law := inr_9 _ (List.mem_of_getElem? (i := 8) rfl)
theorem yk_X12_init : xY yX12_init RX12 cX12_init 1 none 0 := ⟨⟨rfl, by decide +kernel, by decide +kernel, by decide +kernel⟩, mw_5, mw_200⟩
theorem mw_199 : Cond.instanceMethod yX12_init ∈ wsL_law := inr_9 _ (List.mem_of_getElem? (i := 7) rfl)
theorem dL_law_15 : decode cL_law 15 = .ok (.astore_n 2, 1) := by decide +kernel
theorem dL_law_16 : decode cL_law 16 = .ok (.iconst 0, 1) := by decide +kernel
theorem dL_law_17 : decode cL_law 17 = .ok (.istore_n 3, 1) := by decide +kernel
set_option maxHeartbeats 4000000 in
set_option maxRecDepth 100000 in
theorem law_open {p : Program} {l : Launch} {e : Env} {s : State} {m : MethodId} {below : List Frame} {meth : Method} {c : Code} {b : Nat} {xs : Nat → Int32} {D : va_G} {cy : Nat → ClassId} {A : Nat → Prop} {ls : Array Slot} {L : Nat} (hL : L ≤ 3072) (F : CallFix p m c cL_law 4 s #[Value.ref b] wsL_law RL) (hZ : tZ A s s.heap) (hr : meth.sig.returnType = ret) (hlocks : meth.locks = false) (hX : va_X b L xs s s.heap) (hbl : b < s.heap.size) (hAs : ∀ q, A q → s.heap.size ≤ q) (h : xS D cy A s.heap [] s s.heap []) (hl : lv_has ls 4 [(0, .ref b)]) : W p l e room_1 s m #[Value.ref b] below meth c s.heap [] 0 0 (lw_Z below #[Value.ref b] s) (F0 m 0 ls []) := by
  refine x_new F h inlX11 tyX11_ok dfX11 rfl mw_0 mw_1 mw_2 dL_law_0 (Nat.le_of_ble_eq_true rfl) (Nat.le_of_ble_eq_true rfl) (ws' := fun q1 => [(q1, .inr (11, [.null, .null, .null, .null, .null, .null, .null, .null, .null, .null, .int 0, .int 0, .int 0, .int 0, .int 0, .long 0, .long 0]))]) (fun _ => rfl) (fun q1 H h => ?_)
  refine lv_dup F.1 F.2.1 dL_law_3 rfl ?_
  refine x_It (wr := []) F h yk_X11_init mw_7 mw_8 rfl (c_askF_init l D cy q1) rfl hl.1 rfl (Nat.le_of_ble_eq_true rfl) ⟨Nat.le_of_ble_eq_true rfl, Nat.le_of_ble_eq_true rfl⟩ ⟨Nat.le_of_ble_eq_true rfl, Nat.le_of_ble_eq_true rfl⟩ dL_law_4 (fun u4 H locs hp2 h => ?_)
  have h : xS D cy A s.heap (askFW cy q1 u4) s H locs := h
  refine lv_astore_n (lv' := [(1, .ref q1), (0, .ref b)]) F.1 F.2.1 dL_law_7 rfl hl (by decide) rfl (fun ls hl => ?_)
  refine x_new F h inlX12 tyX12_ok dfX12 rfl mw_3 mw_4 mw_5 dL_law_8 (Nat.le_of_ble_eq_true rfl) (Nat.le_of_ble_eq_true rfl) (ws' := fun q5 => askFW cy q1 u4 ++ [(q5, .inr (12, [.null, .int 0, .long 0, .long 0, .null, .null, .null, .null, .null, .int 0, .int 0, .int 0, .int 0, .int 0, .int 0, .int 0, .int 0, .int 0, .null, .int 0, .int 0, .null, .null, .null, .null, .null, .null, .null, .int 0, .int 0, .int 0, .int 0, .int 0, .int 0, .null, .int 0, .int 0, .int 0, .int 0, .int 0, .null, .null, .int 0, .int 0, .int 0, .int 0, .int 0, .int 0, .null, .null, .null, .int 0, .null, .null, .int 0, .null, .int 0, .int 0, .null, .int 0, .int 0, .int 0, .null, .null, .int 0]))]) (fun _ => rfl) (fun q5 H h => ?_)
  refine lv_dup F.1 F.2.1 dL_law_11 rfl ?_
  refine x_It (wr := askFW cy q1 u4) F h yk_X12_init mw_198 mw_199 rfl (c_modF_init l D cy q5) rfl hl.1 rfl (Nat.le_of_ble_eq_true rfl) ⟨Nat.le_of_ble_eq_true rfl, Nat.le_of_ble_eq_true rfl⟩ ⟨Nat.le_of_ble_eq_true rfl, Nat.le_of_ble_eq_true rfl⟩ dL_law_12 (fun u8 H locs hp6 h => ?_)
  have h : xS D cy A s.heap (askFW cy q1 u4 ++ modFW cy q5 u8) s H locs := h
  refine lv_astore_n (lv' := [(2, .ref q5), (1, .ref q1), (0, .ref b)]) F.1 F.2.1 dL_law_15 rfl hl (by decide) rfl (fun ls hl => ?_)
  refine lv_iconst (v := 0) F.1 F.2.1 dL_law_16 (by decide) ?_
  refine lv_istore_n (lv' := [(3, .int 0), (2, .ref q5), (1, .ref q1), (0, .ref b)]) F.1 F.2.1 dL_law_17 rfl hl (by decide) rfl (fun ls hl => ?_)
  obtain ⟨hinj, hT⟩ := tS_start h
  have mm := mem_start hinj
  have hw := LWS_start hinj hT
  have hl4 : lv_has ls 4 [(3, .int 0), (2, .ref (adP q1 u4 q5 u8 830)), (1, .ref (adP q1 u4 q5 u8 0)), (0, .ref b)] := lv_sub hl [0, 1, 2, 3] rfl
  exact law_loop0 (cs := 857) (sl := 99087) F hZ hX hbl (fun ha => absurd (hAs b ha) (Nat.not_le.mpr hbl)) (Nat.le_of_ble_eq_true rfl) (Nat.le_of_ble_eq_true rfl) hr hlocks hAs hL mm.1.1 mm.1.2 mm.2.1.1 mm.2.1.2 mm.2.2.1.1 mm.2.2.1.2 mm.2.2.2.1.1 mm.2.2.2.1.2 mm.2.2.2.2.1.1 mm.2.2.2.2.1.2 mm.2.2.2.2.2.1 mm.2.2.2.2.2.2 (Nat.le_of_ble_eq_true rfl) (Nat.le_of_ble_eq_true rfl) 3073 0 _ _ _ _ (by decide) (by decide) (by decide) hw hl4
theorem xs_B {s : State} {args : Array Value} (h : (Cond.arrayClass .byte).before args s = true) : ∃ cA, ArrOfT s cA .byte ∧ va_RA s cA .byte := by
  obtain ⟨cA, kA, comp, f1, f2, f3⟩ := Cond.arrayClass_spec h
  exact ⟨cA, fun N z => ⟨(fun k h => by cases h), kA, f2, comp, f3⟩, f1⟩
theorem xs_I {s : State} {args : Array Value} (h : (Cond.arrayClass .int).before args s = true) : ∃ cA, ArrOfT s cA .int ∧ va_RA s cA .int := by
  obtain ⟨cA, kA, comp, f1, f2, f3⟩ := Cond.arrayClass_spec h
  exact ⟨cA, fun N z => ⟨(fun k h => by cases h), kA, f2, comp, f3⟩, f1⟩
theorem xs_J {s : State} {args : Array Value} (h : (Cond.arrayClass .long).before args s = true) : ∃ cA, ArrOfT s cA .long ∧ va_RA s cA .long := by
  obtain ⟨cA, kA, comp, f1, f2, f3⟩ := Cond.arrayClass_spec h
  exact ⟨cA, fun N z => ⟨(fun k h => by cases h), kA, f2, comp, f3⟩, f1⟩
theorem xs_Z {s : State} {args : Array Value} (h : (Cond.arrayClass .boolean).before args s = true) : ∃ cA, ArrOfT s cA .boolean ∧ va_RA s cA .boolean := by
  obtain ⟨cA, kA, comp, f1, f2, f3⟩ := Cond.arrayClass_spec h
  exact ⟨cA, fun N z => ⟨(fun k h => by cases h), kA, f2, comp, f3⟩, f1⟩
theorem xs_O {s : State} {args : Array Value} {C : String} (h : (Cond.arrayOver (.object C)).before args s = true) : ∃ cA, ArrOfT s cA (.object C) ∧ va_RA s cA (.object C) := by
  obtain ⟨comp, cA, kA, f4, -, f2, f3, f1⟩ := Cond.arrayOver_spec h
  exact ⟨cA, fun N z => ⟨(fun k h => by cases h), kA, f2, comp, f3⟩, kA, comp, f2, f3, f4, f1⟩
set_option maxHeartbeats 4000000 in
set_option maxRecDepth 100000 in
theorem whole_start {p : Program} {e : Env} {s : State} {m : MethodId} {below : List Frame} {meth : Method} {c : Code} (l : Launch) (hflags : l.flags = flags0) {b L : Nat} {xs : Nat → Int32} (hL : L ≤ 3072) (C0 : lw_At p s m meth c b L xs) : W p l e room_1 s m #[Value.ref b] below meth c s.heap [] 0 0 (lw_Z below #[Value.ref b] s) (entryFrame m ([Value.ref b] : List Value).toArray 4) := by
  obtain ⟨hx, hb, hr, hml, hown, hts, hX, hbl, hlocks, hgv⟩ := id C0
  have hta : ∀ w ∈ wsL_law, w.before #[Value.ref b] s = true := fun w h => hts w (wsL_law_in w h)
  have F : CallFix p m c cL_law 4 s #[Value.ref b] wsL_law RL := ⟨hx, hb, hml, hown, hta⟩
  obtain ⟨c0, i0, k0⟩ := u_known (C := RX0) (T := TX0) (N := 7) (n := 7) hta inlX0 (hta _ mw_22)
  obtain ⟨c1, i1, k1⟩ := u_known (C := RX1) (T := TX1) (N := 9) (n := 9) hta inlX1 (hta _ mw_158)
  obtain ⟨c2, i2, k2⟩ := u_known (C := RX2) (T := TX2) (N := 4) (n := 4) hta inlX2 (hta _ mw_1253)
  obtain ⟨c3, i3, k3⟩ := u_known (C := RX3) (T := TX3) (N := 14) (n := 14) hta inlX3 (hta _ mw_18)
  obtain ⟨c4, i4, k4⟩ := u_known (C := RX4) (T := TX4) (N := 2) (n := 2) hta inlX4 (hta _ mw_35)
  obtain ⟨c5, i5, k5⟩ := u_known (C := RX5) (T := TX5) (N := 8) (n := 8) hta inlX5 (hta _ mw_161)
  obtain ⟨c6, i6, k6⟩ := u_known (C := RX6) (T := TX6) (N := 19) (n := 19) hta inlX6 (hta _ mw_56)
  obtain ⟨c7, i7, k7⟩ := u_known (C := RX7) (T := TX7) (N := 17) (n := 17) hta inlX7 (hta _ mw_31)
  obtain ⟨c8, i8, k8⟩ := u_known (C := RX8) (T := TX8) (N := 3) (n := 3) hta inlX8 (hta _ mw_113)
  obtain ⟨c9, i9, k9⟩ := u_known (C := RX9) (T := TX9) (N := 5) (n := 5) hta inlX9 (hta _ mw_27)
  obtain ⟨c10, i10, k10⟩ := u_known (C := RX10) (T := TX10) (N := 3) (n := 3) hta inlX10 (hta _ mw_48)
  obtain ⟨c11, i11, k11⟩ := u_known (C := RX11) (T := TX11) (N := 17) (n := 17) hta inlX11 (hta _ mw_1)
  obtain ⟨c12, i12, k12⟩ := u_known (C := RX12) (T := TX12) (N := 65) (n := 65) hta inlX12 (hta _ mw_4)
  obtain ⟨yB, aB⟩ := xs_B (hta _ mw_15)
  obtain ⟨yI, aI⟩ := xs_I (hta _ mw_38)
  obtain ⟨yJ, aJ⟩ := xs_J (hta _ mw_64)
  obtain ⟨yZ, aZ⟩ := xs_Z (hta _ mw_130)
  have oBook : (Cond.arrayOver (.object "AskBack$Book")).before #[Value.ref b] s = true := hts _ (by decide +kernel)
  have oEar : (Cond.arrayOver (.object "AskBack$Ear")).before #[Value.ref b] s = true := hts _ (by decide +kernel)
  have oRow : (Cond.arrayOver (.object "AskBack$Row")).before #[Value.ref b] s = true := hts _ (by decide +kernel)
  have oScript : (Cond.arrayOver (.object "AskBack$Script")).before #[Value.ref b] s = true := hts _ (by decide +kernel)
  have oState : (Cond.arrayOver (.object "AskBack$State")).before #[Value.ref b] s = true := hts _ (by decide +kernel)
  have oTray : (Cond.arrayOver (.object "AskBack$Tray")).before #[Value.ref b] s = true := hts _ (by decide +kernel)
  obtain ⟨yBook, aBook⟩ := xs_O oBook
  obtain ⟨yEar, aEar⟩ := xs_O oEar
  obtain ⟨yRow, aRow⟩ := xs_O oRow
  obtain ⟨yScript, aScript⟩ := xs_O oScript
  obtain ⟨yState, aState⟩ := xs_O oState
  obtain ⟨yTray, aTray⟩ := xs_O oTray
  obtain ⟨D, cy, hK⟩ : ∃ (D : va_G) (cy : Nat → ClassId), va_K D vwCl (xTy cy) s := by
    refine ⟨(fun k => ([c0, c1, c2, c3, c4, c5, c6, c7, c8, c9, c10, c11, c12] : List Nat).getD k 0, fun k => ([i0, i1, i2, i3, i4, i5, i6, i7, i8, i9, i10, i11, i12] : List (Nat → Nat)).getD k (fun _ => 0)), fun k => ([yB, yI, yJ, yZ, yBook, yEar, yRow, yScript, yState, yTray] : List Nat).getD k 0, ?_, ?_⟩
    · intro k q hq
      match k, hq with
      | 0, hq => cases hq; exact k0
      | 1, hq => cases hq; exact k1
      | 2, hq => cases hq; exact k2
      | 3, hq => cases hq; exact k3
      | 4, hq => cases hq; exact k4
      | 5, hq => cases hq; exact k5
      | 6, hq => cases hq; exact k6
      | 7, hq => cases hq; exact k7
      | 8, hq => cases hq; exact k8
      | 9, hq => cases hq; exact k9
      | 10, hq => cases hq; exact k10
      | 11, hq => cases hq; exact k11
      | 12, hq => cases hq; exact k12
      | k + 13, hq => simp [vwCl] at hq
    · intro k q hq
      match k, hq with
      | 0, hq => cases hq; exact aB
      | 1, hq => cases hq; exact aI
      | 2, hq => cases hq; exact aJ
      | 3, hq => cases hq; exact aZ
      | 4, hq => cases hq; exact aBook
      | 5, hq => cases hq; exact aEar
      | 6, hq => cases hq; exact aRow
      | 7, hq => cases hq; exact aScript
      | 8, hq => cases hq; exact aState
      | 9, hq => cases hq; exact aTray
      | k + 10, hq => simp [xTy] at hq
  have hE : xE s := ⟨⟨va_AO.of oBook, va_AO.of oEar, va_AO.of oRow, va_AO.of oScript, va_AO.of oState, va_AO.of oTray⟩, va_Nw.of rfl (hts _ (by decide +kernel)), va_Nw.of rfl (hts _ (by decide +kernel)), va_Nw.of rfl (hts _ (by decide +kernel)), va_Nw.of rfl (hts _ (by decide +kernel)), va_Nw.of rfl (hts _ (by decide +kernel)), va_Nw.of rfl (hts _ (by decide +kernel)), va_Nw.of rfl (hts _ (by decide +kernel)), va_Nw.of rfl (hts _ (by decide +kernel)), va_Nw.of rfl (hts _ (by decide +kernel)), va_Nw.of rfl (hts _ (by decide +kernel)), va_Nw.of rfl (hts _ (by decide +kernel)), va_Nw.of rfl (hts _ (by decide +kernel)), va_Nw.of rfl (hts _ (by decide +kernel))⟩
  have h0 : xS D cy (fun q => s.heap.size ≤ q) s.heap [] s s.heap [] := ⟨fun k q h => by simp at h, ⟨fun i j p q h => by simp at h, fun k q h => by simp at h⟩, hK, va_S.rf, fun _ h => h, hE⟩
  have hl := lv_entry ([.ref b]) (n := 4) (Nat.le_of_ble_eq_true rfl)
  rw [lg_entry_eq]
  generalize (lg_sl ([.ref b]) ++ List.replicate (4 - (lg_sl ([.ref b])).length) Slot.unset).toArray = ls at hl ⊢
  have hl : lv_has ls 4 [(0, .ref b)] := hl
  exact law_open hL F (tZ_start hgv hts) hr hlocks hX hbl (fun _ h => h) h0 hl
