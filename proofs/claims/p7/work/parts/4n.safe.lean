theorem dX2_init_0 : decode cX2_init 0 = .ok (.aload_n 0, 1) := by decide +kernel
theorem dX2_init_1 : decode cX2_init 1 = .ok (.invokespecial 5, 3) := by decide +kernel
theorem mw_1257 : Cond.methodLink RX2 5 objectInit ∈ wsL_law := inr_53 _ (List.mem_of_getElem? (i := 9) rfl)
theorem mw_11 : Cond.instanceMethod objectInit ∈ wsL_law := inr_1 _ (List.mem_of_getElem? (i := 11) rfl)
theorem mw_12 : Cond.code objectInit ⟨#[0xb1]⟩ 1 none ∈ wsL_law := inr_1 _ (List.mem_of_getElem? (i := 12) rfl)
theorem dX2_init_4 : decode cX2_init 4 = .ok (.aload_n 0, 1) := by decide +kernel
theorem dX2_init_5 : decode cX2_init 5 = .ok (.ldc 11, 2) := by decide +kernel
theorem mw_1258 : Cond.constant RX2 11 (34773) ∈ wsL_law := inr_53 _ (List.mem_of_getElem? (i := 10) rfl)
theorem dX2_init_7 : decode cX2_init 7 = .ok (.newarray .long, 2) := by decide +kernel
theorem mw_64 : Cond.arrayClass .long ∈ wsL_law := inr_3 _ (List.mem_of_getElem? (i := 16) rfl)
theorem dX2_init_9 : decode cX2_init 9 = .ok (.putfield 12, 3) := by decide +kernel
theorem dX2_init_12 : decode cX2_init 12 = .ok (.aload_n 0, 1) := by decide +kernel
theorem dX2_init_13 : decode cX2_init 13 = .ok (.sipush 202, 3) := by decide +kernel
theorem dX2_init_16 : decode cX2_init 16 = .ok (.newarray .int, 2) := by decide +kernel
theorem mw_38 : Cond.arrayClass .int ∈ wsL_law := inr_2 _ (List.mem_of_getElem? (i := 14) rfl)
theorem dX2_init_18 : decode cX2_init 18 = .ok (.putfield 16, 3) := by decide +kernel
theorem dX2_init_21 : decode cX2_init 21 = .ok (.aload_n 0, 1) := by decide +kernel
theorem dX2_init_22 : decode cX2_init 22 = .ok (.iconst 0, 1) := by decide +kernel
theorem dX2_init_23 : decode cX2_init 23 = .ok (.putfield 20, 3) := by decide +kernel
theorem dX2_init_26 : decode cX2_init 26 = .ok (.aload_n 0, 1) := by decide +kernel
theorem dX2_init_27 : decode cX2_init 27 = .ok (.iconst 0, 1) := by decide +kernel
theorem dX2_init_28 : decode cX2_init 28 = .ok (.putfield 24, 3) := by decide +kernel
theorem dX2_init_31 : decode cX2_init 31 = .ok (.return_, 1) := by decide +kernel
def pastW (cy : Nat → ClassId) (q : Nat) (u : Nat → Nat) : va_W := [(q, .inr (2, [.ref ((u 0)), .ref ((u 1)), .int 0, .int 0])), (((u 0)), .inl (cy 2, 34773, .inr (.inl (fun _ => 0)))), (((u 1)), .inl (cy 1, 202, .inl (fun _ => 0)))]
set_option maxHeartbeats 4000000 in
set_option maxRecDepth 100000 in
theorem c_Past_init (l : Launch) (D : va_G) (cy : Nat → ClassId) (q : Nat) : ∀ sz, Met l yX2_init (Cond.code yX2_init cX2_init 1 none :: wsL_law) { frames := 1, cells := 2, slots := 34975, locals := 20 } (va_Pc [.ref q] (xP D cy ([(q, .inr (2, [.null, .null, .int 0, .int 0]))]) sz)) (va_Qv (fun _ => True) (xB D (va_A ([(q, .inr (2, [.null, .null, .int 0, .int 0]))]) sz) (fun u => pastW cy q u)) (va_A ([(q, .inr (2, [.null, .null, .int 0, .int 0]))]) sz)) 2 34975 (va_A ([(q, .inr (2, [.null, .null, .int 0, .int 0]))]) sz) := by
  refine x_enter (fun A => va_Qv (fun _ => True) (xB D A (fun u => pastW cy q u)) A) (by decide +kernel) rfl (Nat.le_of_ble_eq_true rfl) ?_
  intro p e s m below meth c A ls F hr hlk hin h hl
  have hl : lv_has ls 1 [(0, .ref q)] := hl
  refine lv_aload_n F.1 F.2.1 dX2_init_0 rfl (lv_at hl 0 rfl) ?_
  refine x_obj F mw_1257 mw_11 mw_12 hl.1 dX2_init_1 (Nat.le_of_ble_eq_true rfl) (Nat.le_of_ble_eq_true rfl) ?_
  refine lv_aload_n F.1 F.2.1 dX2_init_4 rfl (lv_at hl 0 rfl) ?_
  refine lv_ldc (v := 34773) F.1 F.2.1 F.2.2.2.1 (F.2.2.2.2 _ mw_1258) dX2_init_5 ?_
  refine x_newa (atype := .long) (ty := .long) (k := 2) (N' := 34773) (a0 := (34773, .inr (.inl (fun _ => 0)))) F h rfl rfl mw_64 (fun _ => rfl) (by decide) (by decide) (Nat.le_of_ble_eq_true rfl) (Nat.le_of_ble_eq_true rfl) (Nat.le_of_ble_eq_true rfl) dX2_init_7 (ws' := fun q1 => [(q, .inr (2, [.null, .null, .int 0, .int 0])), (q1, .inl (cy 2, 34773, .inr (.inl (fun _ => 0))))]) (fun _ => rfl) (fun q1 H h => ?_)
  refine x_putF F h hin 0 0 inlX2 tyX2_ok nmX2 rfl (by decide) mw_1259 dX2_init_9 rfl rfl rfl rfl rfl (Nat.le_of_ble_eq_true rfl) (ws' := [(q, .inr (2, [.ref q1, .null, .int 0, .int 0])), (q1, .inl (cy 2, 34773, .inr (.inl (fun _ => 0))))]) rfl (fun H locs h => ?_)
  refine lv_aload_n F.1 F.2.1 dX2_init_12 rfl (lv_at hl 0 rfl) ?_
  refine lv_sipush (v := 202) F.1 F.2.1 dX2_init_13 (by decide) ?_
  refine x_newa (atype := .int) (ty := .int) (k := 1) (N' := 202) (a0 := (202, .inl (fun _ => 0))) F h rfl rfl mw_38 (fun _ => rfl) (by decide) (by decide) (Nat.le_of_ble_eq_true rfl) (Nat.le_of_ble_eq_true rfl) (Nat.le_of_ble_eq_true rfl) dX2_init_16 (ws' := fun q2 => [(q, .inr (2, [.ref q1, .null, .int 0, .int 0])), (q1, .inl (cy 2, 34773, .inr (.inl (fun _ => 0)))), (q2, .inl (cy 1, 202, .inl (fun _ => 0)))]) (fun _ => rfl) (fun q2 H h => ?_)
  refine x_putF F h hin 0 1 inlX2 tyX2_ok nmX2 rfl (by decide) mw_1260 dX2_init_18 rfl rfl rfl rfl rfl (Nat.le_of_ble_eq_true rfl) (ws' := [(q, .inr (2, [.ref q1, .ref q2, .int 0, .int 0])), (q1, .inl (cy 2, 34773, .inr (.inl (fun _ => 0)))), (q2, .inl (cy 1, 202, .inl (fun _ => 0)))]) rfl (fun H locs h => ?_)
  refine lv_aload_n F.1 F.2.1 dX2_init_21 rfl (lv_at hl 0 rfl) ?_
  refine lv_iconst (v := 0) F.1 F.2.1 dX2_init_22 (by decide) ?_
  refine x_put F h 0 2 inlX2 tyX2_ok nmX2 rfl (by decide) mw_1261 dX2_init_23 rfl rfl rfl rfl (Nat.le_of_ble_eq_true rfl) (ws' := [(q, .inr (2, [.ref q1, .ref q2, .int 0, .int 0])), (q1, .inl (cy 2, 34773, .inr (.inl (fun _ => 0)))), (q2, .inl (cy 1, 202, .inl (fun _ => 0)))]) rfl (fun H locs h => ?_)
  refine lv_aload_n F.1 F.2.1 dX2_init_26 rfl (lv_at hl 0 rfl) ?_
  refine lv_iconst (v := 0) F.1 F.2.1 dX2_init_27 (by decide) ?_
  refine x_put F h 0 3 inlX2 tyX2_ok nmX2 rfl (by decide) mw_1262 dX2_init_28 rfl rfl rfl rfl (Nat.le_of_ble_eq_true rfl) (ws' := [(q, .inr (2, [.ref q1, .ref q2, .int 0, .int 0])), (q1, .inl (cy 2, 34773, .inr (.inl (fun _ => 0)))), (q2, .inl (cy 1, 202, .inl (fun _ => 0)))]) rfl (fun H locs h => ?_)
  exact x_vret F h hr hlk (fun k => ([q1, q2] : List Nat).getD k 0) [0, 1, 2] (trivial) (by decide +kernel) rfl (Nat.le_of_ble_eq_true rfl) (Nat.le_of_ble_eq_true rfl) dX2_init_31
