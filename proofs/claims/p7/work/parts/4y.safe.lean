theorem mw_657 : Cond.fieldLink RJ0 38 "java/lang/String" "COMPACT_STRINGS" "Z" ∈ wsL_law := inr_28 _ (List.mem_of_getElem? (i := 9) rfl)
theorem dJ0_coder_7d493_0 : decode cJ0_coder_7d493 0 = .ok (.getstatic 38, 3) := by decide +kernel
theorem dJ0_coder_7d493_3 : decode cJ0_coder_7d493 3 = .ok (.ifCond .eq 10, 3) := by decide +kernel
theorem dJ0_coder_7d493_6 : decode cJ0_coder_7d493 6 = .ok (.aload_n 0, 1) := by decide +kernel
theorem mw_658 : Cond.fieldLink RJ0 15 "java/lang/String" "coder" "B" ∈ wsL_law := inr_28 _ (List.mem_of_getElem? (i := 10) rfl)
theorem dJ0_coder_7d493_7 : decode cJ0_coder_7d493 7 = .ok (.getfield 15, 3) := by decide +kernel
theorem dJ0_coder_7d493_10 : decode cJ0_coder_7d493 10 = .ok (.goto 4, 3) := by decide +kernel
theorem dJ0_coder_7d493_14 : decode cJ0_coder_7d493 14 = .ok (.ireturn, 1) := by decide +kernel
theorem dJ0_isLatin1_aae02_0 : decode cJ0_isLatin1_aae02 0 = .ok (.getstatic 38, 3) := by decide +kernel
theorem dJ0_isLatin1_aae02_3 : decode cJ0_isLatin1_aae02 3 = .ok (.ifCond .eq 14, 3) := by decide +kernel
theorem dJ0_isLatin1_aae02_6 : decode cJ0_isLatin1_aae02 6 = .ok (.aload_n 0, 1) := by decide +kernel
theorem dJ0_isLatin1_aae02_7 : decode cJ0_isLatin1_aae02 7 = .ok (.getfield 15, 3) := by decide +kernel
theorem dJ0_isLatin1_aae02_10 : decode cJ0_isLatin1_aae02 10 = .ok (.ifCond .ne 7, 3) := by decide +kernel
theorem dJ0_isLatin1_aae02_13 : decode cJ0_isLatin1_aae02 13 = .ok (.iconst 1, 1) := by decide +kernel
theorem dJ0_isLatin1_aae02_14 : decode cJ0_isLatin1_aae02 14 = .ok (.goto 4, 3) := by decide +kernel
theorem dJ0_isLatin1_aae02_18 : decode cJ0_isLatin1_aae02 18 = .ok (.ireturn, 1) := by decide +kernel
theorem dJ0_length_8abf5_0 : decode cJ0_length_8abf5 0 = .ok (.aload_n 0, 1) := by decide +kernel
theorem mw_652 : Cond.fieldLink RJ0 9 "java/lang/String" "value" "[B" ∈ wsL_law := inr_28 _ (List.mem_of_getElem? (i := 4) rfl)
theorem dJ0_length_8abf5_1 : decode cJ0_length_8abf5 1 = .ok (.getfield 9, 3) := by decide +kernel
theorem dJ0_length_8abf5_4 : decode cJ0_length_8abf5 4 = .ok (.arraylength, 1) := by decide +kernel
theorem dJ0_length_8abf5_5 : decode cJ0_length_8abf5 5 = .ok (.aload_n 0, 1) := by decide +kernel
theorem mw_650 : Cond.initialized RJ0 ∈ wsL_law := inr_28 _ (List.mem_of_getElem? (i := 2) rfl)
theorem mw_656 : Cond.code yJ0_coder_7d493 cJ0_coder_7d493 1 (some .byte) ∈ wsL_law := inr_28 _ (List.mem_of_getElem? (i := 8) rfl)
theorem yk_J0_coder_7d493 : xY yJ0_coder_7d493 RJ0 cJ0_coder_7d493 1 (some .byte) 0 := ⟨⟨rfl, by decide +kernel, by decide +kernel, by decide +kernel⟩, mw_650, mw_656⟩
theorem mw_653 : Cond.methodLink RJ0 335 yJ0_coder_7d493 ∈ wsL_law := inr_28 _ (List.mem_of_getElem? (i := 5) rfl)
theorem mw_654 : Cond.instanceMethod yJ0_coder_7d493 ∈ wsL_law := inr_28 _ (List.mem_of_getElem? (i := 6) rfl)
theorem mw_655 : Cond.selects RJ0 yJ0_coder_7d493 yJ0_coder_7d493 ∈ wsL_law := inr_28 _ (List.mem_of_getElem? (i := 7) rfl)
theorem dJ0_length_8abf5_6 : decode cJ0_length_8abf5 6 = .ok (.invokevirtual 335, 3) := by decide +kernel
theorem dJ0_length_8abf5_9 : decode cJ0_length_8abf5 9 = .ok (.ishr, 1) := by decide +kernel
theorem dJ0_length_8abf5_10 : decode cJ0_length_8abf5 10 = .ok (.ireturn, 1) := by decide +kernel
theorem dJ3_checkIndex_8e157_0 : decode cJ3_checkIndex_8e157 0 = .ok (.iload_n 0, 1) := by decide +kernel
theorem dJ3_checkIndex_8e157_1 : decode cJ3_checkIndex_8e157 1 = .ok (.ifCond .lt 8, 3) := by decide +kernel
theorem dJ3_checkIndex_8e157_4 : decode cJ3_checkIndex_8e157 4 = .ok (.iload_n 0, 1) := by decide +kernel
theorem dJ3_checkIndex_8e157_5 : decode cJ3_checkIndex_8e157 5 = .ok (.iload_n 1, 1) := by decide +kernel
theorem dJ3_checkIndex_8e157_6 : decode cJ3_checkIndex_8e157 6 = .ok (.if_icmp .lt 10, 3) := by decide +kernel
theorem dJ3_checkIndex_8e157_16 : decode cJ3_checkIndex_8e157 16 = .ok (.iload_n 0, 1) := by decide +kernel
theorem dJ3_checkIndex_8e157_17 : decode cJ3_checkIndex_8e157 17 = .ok (.ireturn, 1) := by decide +kernel
theorem mw_677 : Cond.initialized RJ3 ∈ wsL_law := inr_29 _ (List.mem_of_getElem? (i := 5) rfl)
theorem mw_678 : Cond.code yJ3_checkIndex_8e157 cJ3_checkIndex_8e157 3 (some .int) ∈ wsL_law := inr_29 _ (List.mem_of_getElem? (i := 6) rfl)
theorem yk_J3_checkIndex_8e157 : xY yJ3_checkIndex_8e157 RJ3 cJ3_checkIndex_8e157 3 (some .int) 3 := ⟨⟨rfl, by decide +kernel, by decide +kernel, by decide +kernel⟩, mw_677, mw_678⟩
theorem mw_675 : Cond.methodLink RJ0 1059 yJ3_checkIndex_8e157 ∈ wsL_law := inr_29 _ (List.mem_of_getElem? (i := 3) rfl)
theorem mw_676 : Cond.static yJ3_checkIndex_8e157 ∈ wsL_law := inr_29 _ (List.mem_of_getElem? (i := 4) rfl)
theorem dJ0_checkIndex_df160_5 : decode cJ0_checkIndex_df160 5 = .ok (.invokestatic 1059, 3) := by decide +kernel
theorem dJ0_checkIndex_df160_0 : decode cJ0_checkIndex_df160 0 = .ok (.iload_n 0, 1) := by decide +kernel
theorem dJ0_checkIndex_df160_1 : decode cJ0_checkIndex_df160 1 = .ok (.iload_n 1, 1) := by decide +kernel
theorem mw_674 : Cond.fieldLink RJ0 1053 "jdk/internal/util/Preconditions" "SIOOBE_FORMATTER" "Ljava/util/function/BiFunction;" ∈ wsL_law := inr_29 _ (List.mem_of_getElem? (i := 2) rfl)
theorem dJ0_checkIndex_df160_2 : decode cJ0_checkIndex_df160 2 = .ok (.getstatic 1053, 3) := by decide +kernel
theorem dJ0_checkIndex_df160_8 : decode cJ0_checkIndex_df160 8 = .ok (.pop, 1) := by decide +kernel
theorem dJ0_checkIndex_df160_9 : decode cJ0_checkIndex_df160 9 = .ok (.return_, 1) := by decide +kernel
theorem dJ1_charAt_3b067_0 : decode cJ1_charAt_3b067 0 = .ok (.iload_n 1, 1) := by decide +kernel
theorem dJ1_charAt_3b067_1 : decode cJ1_charAt_3b067 1 = .ok (.aload_n 0, 1) := by decide +kernel
theorem dJ1_charAt_3b067_2 : decode cJ1_charAt_3b067 2 = .ok (.arraylength, 1) := by decide +kernel
theorem mw_673 : Cond.code yJ0_checkIndex_df160 cJ0_checkIndex_df160 2 none ∈ wsL_law := inr_29 _ (List.mem_of_getElem? (i := 1) rfl)
theorem yk_J0_checkIndex_df160 : xY yJ0_checkIndex_df160 RJ0 cJ0_checkIndex_df160 2 none 2 := ⟨⟨rfl, by decide +kernel, by decide +kernel, by decide +kernel⟩, mw_650, mw_673⟩
theorem mw_671 : Cond.methodLink RJ1 9 yJ0_checkIndex_df160 ∈ wsL_law := inr_28 _ (List.mem_of_getElem? (i := 23) rfl)
theorem mw_672 : Cond.static yJ0_checkIndex_df160 ∈ wsL_law := inr_29 _ (List.mem_of_getElem? (i := 0) rfl)
theorem dJ1_charAt_3b067_3 : decode cJ1_charAt_3b067 3 = .ok (.invokestatic 9, 3) := by decide +kernel
theorem dJ1_charAt_3b067_6 : decode cJ1_charAt_3b067 6 = .ok (.aload_n 0, 1) := by decide +kernel
theorem dJ1_charAt_3b067_7 : decode cJ1_charAt_3b067 7 = .ok (.iload_n 1, 1) := by decide +kernel
theorem dJ1_charAt_3b067_8 : decode cJ1_charAt_3b067 8 = .ok (.baload, 1) := by decide +kernel
theorem dJ1_charAt_3b067_9 : decode cJ1_charAt_3b067 9 = .ok (.sipush 255, 3) := by decide +kernel
theorem dJ1_charAt_3b067_12 : decode cJ1_charAt_3b067 12 = .ok (.iand, 1) := by decide +kernel
theorem dJ1_charAt_3b067_13 : decode cJ1_charAt_3b067 13 = .ok (.i2c, 1) := by decide +kernel
theorem dJ1_charAt_3b067_14 : decode cJ1_charAt_3b067 14 = .ok (.ireturn, 1) := by decide +kernel
theorem dJ0_charAt_5068e_0 : decode cJ0_charAt_5068e 0 = .ok (.aload_n 0, 1) := by decide +kernel
theorem mw_666 : Cond.code yJ0_isLatin1_aae02 cJ0_isLatin1_aae02 1 (some .boolean) ∈ wsL_law := inr_28 _ (List.mem_of_getElem? (i := 18) rfl)
theorem yk_J0_isLatin1_aae02 : xY yJ0_isLatin1_aae02 RJ0 cJ0_isLatin1_aae02 1 (some .boolean) 0 := ⟨⟨rfl, by decide +kernel, by decide +kernel, by decide +kernel⟩, mw_650, mw_666⟩
theorem mw_663 : Cond.methodLink RJ0 492 yJ0_isLatin1_aae02 ∈ wsL_law := inr_28 _ (List.mem_of_getElem? (i := 15) rfl)
theorem mw_664 : Cond.instanceMethod yJ0_isLatin1_aae02 ∈ wsL_law := inr_28 _ (List.mem_of_getElem? (i := 16) rfl)
theorem mw_665 : Cond.selects RJ0 yJ0_isLatin1_aae02 yJ0_isLatin1_aae02 ∈ wsL_law := inr_28 _ (List.mem_of_getElem? (i := 17) rfl)
theorem dJ0_charAt_5068e_1 : decode cJ0_charAt_5068e 1 = .ok (.invokevirtual 492, 3) := by decide +kernel
theorem dJ0_charAt_5068e_4 : decode cJ0_charAt_5068e 4 = .ok (.ifCond .eq 12, 3) := by decide +kernel
theorem dJ0_charAt_5068e_7 : decode cJ0_charAt_5068e 7 = .ok (.aload_n 0, 1) := by decide +kernel
theorem dJ0_charAt_5068e_8 : decode cJ0_charAt_5068e 8 = .ok (.getfield 9, 3) := by decide +kernel
theorem dJ0_charAt_5068e_11 : decode cJ0_charAt_5068e 11 = .ok (.iload_n 1, 1) := by decide +kernel
theorem mw_669 : Cond.initialized RJ1 ∈ wsL_law := inr_28 _ (List.mem_of_getElem? (i := 21) rfl)
theorem mw_670 : Cond.code yJ1_charAt_3b067 cJ1_charAt_3b067 2 (some .char) ∈ wsL_law := inr_28 _ (List.mem_of_getElem? (i := 22) rfl)
theorem yk_J1_charAt_3b067 : xY yJ1_charAt_3b067 RJ1 cJ1_charAt_3b067 2 (some .char) 2 := ⟨⟨rfl, by decide +kernel, by decide +kernel, by decide +kernel⟩, mw_669, mw_670⟩
theorem mw_667 : Cond.methodLink RJ0 495 yJ1_charAt_3b067 ∈ wsL_law := inr_28 _ (List.mem_of_getElem? (i := 19) rfl)
theorem mw_668 : Cond.static yJ1_charAt_3b067 ∈ wsL_law := inr_28 _ (List.mem_of_getElem? (i := 20) rfl)
theorem dJ0_charAt_5068e_12 : decode cJ0_charAt_5068e 12 = .ok (.invokestatic 495, 3) := by decide +kernel
theorem dJ0_charAt_5068e_15 : decode cJ0_charAt_5068e 15 = .ok (.ireturn, 1) := by decide +kernel
theorem tx_40 : (Int32.ofNat 40).toInt = 40 := by decide
theorem tx_nar : ∀ n, n < 40 → narrow .char (.int (tx40.getD n 0)) = .int (tx40.getD n 0) := by decide
def rm_J0_coder_7d493 : Room := { frames := 0, cells := 0, slots := 0, locals := 0 }
theorem s_J0_coder_7d493 (l : Launch) (D : va_G) (cy : Nat → ClassId) (L : List Nat) (R O : Nat → Nat) (f0 : Nat → va_E) (k v : Nat)  : ∀ sz, Met l yJ0_coder_7d493 (Cond.code yJ0_coder_7d493 cJ0_coder_7d493 1 (some .byte) :: wsL_law) rm_J0_coder_7d493 (va_Pc [.ref k] (tPK k v D cy L R (TT cy L R) f0 sz)) (va_Qi (fun (r : Int32) f1 => f0 = f1 ∧ r = 0) (tB D (tA L sz) L R (TT cy L R)) (tA L sz)) 0 0 (tA L sz) := by
  refine tw_enteriK (by decide +kernel) rfl (Nat.le_of_ble_eq_true rfl) ?_
  intro p e s m below meth c A ls args Q F hZ hK h hl hret
  have hl : lv_has ls 1 [(0, .ref k)] := hl
  refine va_gets F.1 F.2.1 hZ.2.2.1 h.dd.2.2 F.2.2.2.1 (F.2.2.2.2 _ mw_657) (fun _ q => q) dJ0_coder_7d493_0 ?_
  refine tw_if_eq (tgt := 13) F dJ0_coder_7d493_3 (by decide) (fun b => absurd b (by decide)) (fun b => ?_)
  refine lv_aload_n F.1 F.2.1 dJ0_coder_7d493_6 rfl (lv_at hl 0 rfl) ?_
  refine vk_getf F.1 F.2.1 hK.2.1 h.dd.2.2 F.2.2.2.1 (F.2.2.2.2 _ mw_658) (fun _ q => q) dJ0_coder_7d493_7 ?_
  refine lv_goto (tgt := 14) F.1 F.2.1 dJ0_coder_7d493_10 (by decide) ?_
  exact hret f0 _ _ _ _ 0 dJ0_coder_7d493_14 rfl ⟨rfl, rfl⟩ h
def rm_J0_isLatin1_aae02 : Room := { frames := 0, cells := 0, slots := 0, locals := 0 }
theorem s_J0_isLatin1_aae02 (l : Launch) (D : va_G) (cy : Nat → ClassId) (L : List Nat) (R O : Nat → Nat) (f0 : Nat → va_E) (k v : Nat)  : ∀ sz, Met l yJ0_isLatin1_aae02 (Cond.code yJ0_isLatin1_aae02 cJ0_isLatin1_aae02 1 (some .boolean) :: wsL_law) rm_J0_isLatin1_aae02 (va_Pc [.ref k] (tPK k v D cy L R (TT cy L R) f0 sz)) (va_Qi (fun (r : Int32) f1 => f0 = f1 ∧ r = 1) (tB D (tA L sz) L R (TT cy L R)) (tA L sz)) 0 0 (tA L sz) := by
  refine tw_enteriK (by decide +kernel) rfl (Nat.le_of_ble_eq_true rfl) ?_
  intro p e s m below meth c A ls args Q F hZ hK h hl hret
  have hl : lv_has ls 1 [(0, .ref k)] := hl
  refine va_gets F.1 F.2.1 hZ.2.2.1 h.dd.2.2 F.2.2.2.1 (F.2.2.2.2 _ mw_657) (fun _ q => q) dJ0_isLatin1_aae02_0 ?_
  refine tw_if_eq (tgt := 17) F dJ0_isLatin1_aae02_3 (by decide) (fun b => absurd b (by decide)) (fun b => ?_)
  refine lv_aload_n F.1 F.2.1 dJ0_isLatin1_aae02_6 rfl (lv_at hl 0 rfl) ?_
  refine vk_getf F.1 F.2.1 hK.2.1 h.dd.2.2 F.2.2.2.1 (F.2.2.2.2 _ mw_658) (fun _ q => q) dJ0_isLatin1_aae02_7 ?_
  refine tw_if_ne (tgt := 17) F dJ0_isLatin1_aae02_10 (by decide) (fun b => absurd rfl b) (fun b => ?_)
  refine lv_iconst F.1 F.2.1 dJ0_isLatin1_aae02_13 rfl ?_
  refine lv_goto (tgt := 18) F.1 F.2.1 dJ0_isLatin1_aae02_14 (by decide) ?_
  exact hret f0 _ _ _ _ 1 dJ0_isLatin1_aae02_18 rfl ⟨rfl, rfl⟩ h
def rm_J0_length_8abf5 : Room := { frames := 1, cells := 0, slots := 0, locals := 20 }
theorem s_J0_length_8abf5 (l : Launch) (D : va_G) (cy : Nat → ClassId) (L : List Nat) (R O : Nat → Nat) (f0 : Nat → va_E) (k v : Nat)  : ∀ sz, Met l yJ0_length_8abf5 (Cond.code yJ0_length_8abf5 cJ0_length_8abf5 1 (some .int) :: wsL_law) rm_J0_length_8abf5 (va_Pc [.ref k] (tPK k v D cy L R (TT cy L R) f0 sz)) (va_Qi (fun (r : Int32) f1 => f0 = f1 ∧ r.toInt = 40) (tB D (tA L sz) L R (TT cy L R)) (tA L sz)) 0 0 (tA L sz) := by
  refine tw_enteriK (by decide +kernel) rfl (Nat.le_of_ble_eq_true rfl) ?_
  intro p e s m below meth c A ls args Q F hZ hK h hl hret
  have hl : lv_has ls 1 [(0, .ref k)] := hl
  refine lv_aload_n F.1 F.2.1 dJ0_length_8abf5_0 rfl (lv_at hl 0 rfl) ?_
  refine vk_getf F.1 F.2.1 hK.2.2.1 h.dd.2.2 F.2.2.2.1 (F.2.2.2.2 _ mw_652) (fun _ q => q) dJ0_length_8abf5_1 ?_
  refine va_tlen F.1 F.2.1 hK.2.2.2 h.dd.2.2 rfl dJ0_length_8abf5_4 ?_
  refine lv_aload_n F.1 F.2.1 dJ0_length_8abf5_5 rfl (lv_at hl 0 rfl) ?_
  refine tw_ViK (As := []) F hZ hK h yk_J0_coder_7d493 mw_653 mw_654 mw_655 (s_J0_coder_7d493 l D cy L R O f0 k v) rfl rfl hl.1 rfl (Nat.le_of_ble_eq_true rfl) ⟨Nat.le_of_ble_eq_true rfl, Nat.le_of_ble_eq_true rfl⟩ ⟨Nat.le_of_ble_eq_true rfl, Nat.le_of_ble_eq_true rfl⟩ dJ0_length_8abf5_6 (fun r f1 H locs hp h => ?_)
  obtain ⟨rfl, rfl⟩ := hp
  refine lv_ishr F.1 F.2.1 dJ0_length_8abf5_9 ?_
  exact hret f0 _ _ _ _ _ dJ0_length_8abf5_10 rfl ⟨rfl, by decide⟩ h
def rm_J3_checkIndex_8e157 : Room := { frames := 0, cells := 0, slots := 0, locals := 0 }
theorem s_J3_checkIndex_8e157 (l : Launch) (D : va_G) (cy : Nat → ClassId) (L : List Nat) (R O : Nat → Nat) (f0 : Nat → va_E) (k v : Nat) (i n : Int32) (w : Value) (hw : w = .null ∨ ∃ t, w = .ref t) (hb : 0 ≤ i.toInt ∧ i.toInt < n.toInt) : ∀ sz, Met l yJ3_checkIndex_8e157 (Cond.code yJ3_checkIndex_8e157 cJ3_checkIndex_8e157 3 (some .int) :: wsL_law) rm_J3_checkIndex_8e157 (va_Pc [.int i, .int n, w] (tPK k v D cy L R (TT cy L R) f0 sz)) (va_Qi (fun (r : Int32) f1 => f0 = f1 ∧ True) (tB D (tA L sz) L R (TT cy L R)) (tA L sz)) 0 0 (tA L sz) := by
  rcases hw with rfl | ⟨t, rfl⟩
  · refine tw_enteriK (by decide +kernel) rfl (Nat.le_of_ble_eq_true rfl) ?_
    intro p e s m below meth c A ls args Q F hZ hK h hl hret
    have hl : lv_has ls 3 [(0, .int i), (1, .int n), (2, .null)] := hl
    refine lv_iload_n F.1 F.2.1 dJ3_checkIndex_8e157_0 rfl (lv_at hl 0 rfl) ?_
    refine tw_if_lt (tgt := 9) F dJ3_checkIndex_8e157_1 (by decide) (fun b => ?_) (fun b => ?_)
    · exfalso; omega
    refine lv_iload_n F.1 F.2.1 dJ3_checkIndex_8e157_4 rfl (lv_at hl 0 rfl) ?_
    refine lv_iload_n F.1 F.2.1 dJ3_checkIndex_8e157_5 rfl (lv_at hl 1 rfl) ?_
    refine tw_icmp_lt (tgt := 16) F dJ3_checkIndex_8e157_6 (by decide) (fun b => ?_) (fun b => ?_)
    · refine lv_iload_n F.1 F.2.1 dJ3_checkIndex_8e157_16 rfl (lv_at hl 0 rfl) ?_
      exact hret f0 _ _ _ _ i dJ3_checkIndex_8e157_17 rfl ⟨rfl, trivial⟩ h
    · exfalso; omega
  · refine tw_enteriK (by decide +kernel) rfl (Nat.le_of_ble_eq_true rfl) ?_
    intro p e s m below meth c A ls args Q F hZ hK h hl hret
    have hl : lv_has ls 3 [(0, .int i), (1, .int n), (2, .ref t)] := hl
    refine lv_iload_n F.1 F.2.1 dJ3_checkIndex_8e157_0 rfl (lv_at hl 0 rfl) ?_
    refine tw_if_lt (tgt := 9) F dJ3_checkIndex_8e157_1 (by decide) (fun b => ?_) (fun b => ?_)
    · exfalso; omega
    refine lv_iload_n F.1 F.2.1 dJ3_checkIndex_8e157_4 rfl (lv_at hl 0 rfl) ?_
    refine lv_iload_n F.1 F.2.1 dJ3_checkIndex_8e157_5 rfl (lv_at hl 1 rfl) ?_
    refine tw_icmp_lt (tgt := 16) F dJ3_checkIndex_8e157_6 (by decide) (fun b => ?_) (fun b => ?_)
    · refine lv_iload_n F.1 F.2.1 dJ3_checkIndex_8e157_16 rfl (lv_at hl 0 rfl) ?_
      exact hret f0 _ _ _ _ i dJ3_checkIndex_8e157_17 rfl ⟨rfl, trivial⟩ h
    · exfalso; omega
def rm_J0_checkIndex_df160 : Room := { frames := 1, cells := 0, slots := 0, locals := 22 }
theorem s_J0_checkIndex_df160 (l : Launch) (D : va_G) (cy : Nat → ClassId) (L : List Nat) (R O : Nat → Nat) (f0 : Nat → va_E) (k v : Nat) (i n : Int32) (hb : 0 ≤ i.toInt ∧ i.toInt < n.toInt) : ∀ sz, Met l yJ0_checkIndex_df160 (Cond.code yJ0_checkIndex_df160 cJ0_checkIndex_df160 2 none :: wsL_law) rm_J0_checkIndex_df160 (va_Pc [.int i, .int n] (tPK k v D cy L R (TT cy L R) f0 sz)) (va_Qv (fun f1 => f0 = f1) (tB D (tA L sz) L R (TT cy L R)) (tA L sz)) 0 0 (tA L sz) := by
  refine tw_entervK (by decide +kernel) rfl (Nat.le_of_ble_eq_true rfl) ?_
  intro p e s m below meth c A ls args Q F hZ hK h hl hret
  have hl : lv_has ls 2 [(0, .int i), (1, .int n)] := hl
  refine lv_iload_n F.1 F.2.1 dJ0_checkIndex_df160_0 rfl (lv_at hl 0 rfl) ?_
  refine lv_iload_n F.1 F.2.1 dJ0_checkIndex_df160_1 rfl (lv_at hl 1 rfl) ?_
  rcases hZ.2.2.2 with hq | ⟨t, hq⟩
  · refine va_gets F.1 F.2.1 hq h.dd.2.2 F.2.2.2.1 (F.2.2.2.2 _ mw_674) (fun _ q => q) dJ0_checkIndex_df160_2 ?_
    refine tw_SiK (As := [.int i, .int n, .null]) F hZ hK h yk_J3_checkIndex_8e157 mw_675 mw_676 (s_J3_checkIndex_8e157 l D cy L R O f0 k v i n _ (Or.inl rfl) hb) rfl rfl hl.1 rfl (Nat.le_of_ble_eq_true rfl) ⟨Nat.le_of_ble_eq_true rfl, Nat.le_of_ble_eq_true rfl⟩ ⟨Nat.le_of_ble_eq_true rfl, Nat.le_of_ble_eq_true rfl⟩ dJ0_checkIndex_df160_5 (fun r f1 H locs hp h => ?_)
    obtain ⟨rfl, -⟩ := hp
    refine lv_pop F.1 F.2.1 dJ0_checkIndex_df160_8 rfl ?_
    exact hret f0 _ _ _ _ dJ0_checkIndex_df160_9 rfl h
  · refine va_gets F.1 F.2.1 hq h.dd.2.2 F.2.2.2.1 (F.2.2.2.2 _ mw_674) (fun _ q => q) dJ0_checkIndex_df160_2 ?_
    refine tw_SiK (As := [.int i, .int n, .ref t]) F hZ hK h yk_J3_checkIndex_8e157 mw_675 mw_676 (s_J3_checkIndex_8e157 l D cy L R O f0 k v i n _ (Or.inr ⟨t, rfl⟩) hb) rfl rfl hl.1 rfl (Nat.le_of_ble_eq_true rfl) ⟨Nat.le_of_ble_eq_true rfl, Nat.le_of_ble_eq_true rfl⟩ ⟨Nat.le_of_ble_eq_true rfl, Nat.le_of_ble_eq_true rfl⟩ dJ0_checkIndex_df160_5 (fun r f1 H locs hp h => ?_)
    obtain ⟨rfl, -⟩ := hp
    refine lv_pop F.1 F.2.1 dJ0_checkIndex_df160_8 rfl ?_
    exact hret f0 _ _ _ _ dJ0_checkIndex_df160_9 rfl h
def rm_J1_charAt_3b067 : Room := { frames := 2, cells := 0, slots := 0, locals := 43 }
theorem s_J1_charAt_3b067 (l : Launch) (D : va_G) (cy : Nat → ClassId) (L : List Nat) (R O : Nat → Nat) (f0 : Nat → va_E) (k v : Nat) (i : Int32) (hb : 0 ≤ i.toInt ∧ i.toInt < 40) : ∀ sz, Met l yJ1_charAt_3b067 (Cond.code yJ1_charAt_3b067 cJ1_charAt_3b067 2 (some .char) :: wsL_law) rm_J1_charAt_3b067 (va_Pc [.ref v, .int i] (tPK k v D cy L R (TT cy L R) f0 sz)) (va_Qi (fun (r : Int32) f1 => f0 = f1 ∧ r = tx40.getD i.toInt.toNat 0) (tB D (tA L sz) L R (TT cy L R)) (tA L sz)) 0 0 (tA L sz) := by
  refine tw_enteriK (by decide +kernel) rfl (Nat.le_of_ble_eq_true rfl) ?_
  intro p e s m below meth c A ls args Q F hZ hK h hl hret
  have hl : lv_has ls 2 [(0, .ref v), (1, .int i)] := hl
  refine lv_iload_n F.1 F.2.1 dJ1_charAt_3b067_0 rfl (lv_at hl 1 rfl) ?_
  refine lv_aload_n F.1 F.2.1 dJ1_charAt_3b067_1 rfl (lv_at hl 0 rfl) ?_
  refine va_tlen F.1 F.2.1 hK.2.2.2 h.dd.2.2 rfl dJ1_charAt_3b067_2 ?_
  refine tw_SvK (As := [.int i, .int (Int32.ofNat 40)]) F hZ hK h yk_J0_checkIndex_df160 mw_671 mw_672 (s_J0_checkIndex_df160 l D cy L R O f0 k v i _ ⟨hb.1, by rw [tx_40]; exact hb.2⟩) rfl rfl hl.1 rfl (Nat.le_of_ble_eq_true rfl) ⟨Nat.le_of_ble_eq_true rfl, Nat.le_of_ble_eq_true rfl⟩ ⟨Nat.le_of_ble_eq_true rfl, Nat.le_of_ble_eq_true rfl⟩ dJ1_charAt_3b067_3 (fun f1 H locs hp h => ?_)
  obtain rfl := hp
  refine lv_aload_n F.1 F.2.1 dJ1_charAt_3b067_6 rfl (lv_at hl 0 rfl) ?_
  refine lv_iload_n F.1 F.2.1 dJ1_charAt_3b067_7 rfl (lv_at hl 1 rfl) ?_
  refine va_tb F.1 F.2.1 hK.2.2.2 h.dd.2.2 (tw_in hb.1 hb.2) rfl dJ1_charAt_3b067_8 ?_
  refine lv_sipush F.1 F.2.1 dJ1_charAt_3b067_9 rfl ?_
  refine lv_iand F.1 F.2.1 dJ1_charAt_3b067_12 ?_
  refine lv_i2c F.1 F.2.1 dJ1_charAt_3b067_13 rfl ?_
  refine lv_topi (fun z hz => ?_)
  have hz2 : z = tx40.getD i.toInt.toNat 0 := by rw [hz]; exact tx_i2c i.toInt.toNat (by omega)
  subst hz2
  exact hret f0 _ _ _ _ _ dJ1_charAt_3b067_14 (tx_nar _ (by omega)) ⟨rfl, rfl⟩ h
def rm_J0_charAt_5068e : Room := { frames := 3, cells := 0, slots := 0, locals := 64 }
theorem s_J0_charAt_5068e (l : Launch) (D : va_G) (cy : Nat → ClassId) (L : List Nat) (R O : Nat → Nat) (f0 : Nat → va_E) (k v : Nat) (i : Int32) (hb : 0 ≤ i.toInt ∧ i.toInt < 40) : ∀ sz, Met l yJ0_charAt_5068e (Cond.code yJ0_charAt_5068e cJ0_charAt_5068e 2 (some .char) :: wsL_law) rm_J0_charAt_5068e (va_Pc [.ref k, .int i] (tPK k v D cy L R (TT cy L R) f0 sz)) (va_Qi (fun (r : Int32) f1 => f0 = f1 ∧ (i.toInt = 39 → r.toInt = 32)) (tB D (tA L sz) L R (TT cy L R)) (tA L sz)) 0 0 (tA L sz) := by
  refine tw_enteriK (by decide +kernel) rfl (Nat.le_of_ble_eq_true rfl) ?_
  intro p e s m below meth c A ls args Q F hZ hK h hl hret
  have hl : lv_has ls 2 [(0, .ref k), (1, .int i)] := hl
  refine lv_aload_n F.1 F.2.1 dJ0_charAt_5068e_0 rfl (lv_at hl 0 rfl) ?_
  refine tw_ViK (As := []) F hZ hK h yk_J0_isLatin1_aae02 mw_663 mw_664 mw_665 (s_J0_isLatin1_aae02 l D cy L R O f0 k v) rfl rfl hl.1 rfl (Nat.le_of_ble_eq_true rfl) ⟨Nat.le_of_ble_eq_true rfl, Nat.le_of_ble_eq_true rfl⟩ ⟨Nat.le_of_ble_eq_true rfl, Nat.le_of_ble_eq_true rfl⟩ dJ0_charAt_5068e_1 (fun r f1 H locs hp h => ?_)
  obtain ⟨rfl, rfl⟩ := hp
  refine tw_if_eq (tgt := 16) F dJ0_charAt_5068e_4 (by decide) (fun b => absurd b (by decide)) (fun b => ?_)
  refine lv_aload_n F.1 F.2.1 dJ0_charAt_5068e_7 rfl (lv_at hl 0 rfl) ?_
  refine vk_getf F.1 F.2.1 hK.2.2.1 h.dd.2.2 F.2.2.2.1 (F.2.2.2.2 _ mw_652) (fun _ q => q) dJ0_charAt_5068e_8 ?_
  refine lv_iload_n F.1 F.2.1 dJ0_charAt_5068e_11 rfl (lv_at hl 1 rfl) ?_
  refine tw_SiK (As := [.ref v, .int i]) F hZ hK h yk_J1_charAt_3b067 mw_667 mw_668 (s_J1_charAt_3b067 l D cy L R O f0 k v i hb) rfl rfl hl.1 rfl (Nat.le_of_ble_eq_true rfl) ⟨Nat.le_of_ble_eq_true rfl, Nat.le_of_ble_eq_true rfl⟩ ⟨Nat.le_of_ble_eq_true rfl, Nat.le_of_ble_eq_true rfl⟩ dJ0_charAt_5068e_12 (fun r f1 H locs hp h => ?_)
  obtain ⟨rfl, rfl⟩ := hp
  exact hret f0 _ _ _ _ _ dJ0_charAt_5068e_15 (tx_nar _ (by omega)) ⟨rfl, fun q => by rw [q]; decide⟩ h
