theorem dL_law_1763 : decode cL_law 1763 = .ok (.iinc 3 6, 3) := by decide +kernel
theorem dL_law_1766 : decode cL_law 1766 = .ok (.goto (-1748), 3) := by decide +kernel
theorem dL_law_18 : decode cL_law 18 = .ok (.iload_n 3, 1) := by decide +kernel
theorem dL_law_19 : decode cL_law 19 = .ok (.aload_n 0, 1) := by decide +kernel
theorem dL_law_20 : decode cL_law 20 = .ok (.arraylength, 1) := by decide +kernel
theorem dL_law_21 : decode cL_law 21 = .ok (.bipush 6, 2) := by decide +kernel
theorem dL_law_23 : decode cL_law 23 = .ok (.isub, 1) := by decide +kernel
theorem dL_law_24 : decode cL_law 24 = .ok (.if_icmp .gt 1745, 3) := by decide +kernel
theorem dL_law_1769 : decode cL_law 1769 = .ok (.iconst 1, 1) := by decide +kernel
theorem dL_law_1770 : decode cL_law 1770 = .ok (.ireturn, 1) := by decide +kernel
set_option maxHeartbeats 4000000 in
set_option maxRecDepth 100000 in
theorem law_end {p : Program} {l : Launch} {e : Env} {s : State} {m : MethodId} {below : List Frame} {meth : Method} {c : Code} {b : Nat} {xs : Nat → Int32} {D : va_G} {cy : Nat → ClassId} {A : Nat → Prop} {H : Heap} {locs : List Loc} {ls : Array Slot} {ws : va_W} (F : CallFix p m c cL_law 4 s #[Value.ref b] wsL_law RL) (hr : meth.sig.returnType = ret) (hlocks : meth.locks = false) (hX : va_X b 6 xs s s.heap) (hbl : b < s.heap.size) (hAs : ∀ q, A q → s.heap.size ≤ q) (h : xS D cy A s.heap ws s H locs) (hl : lv_has ls 4 [(3, .int 0), (0, .ref b)]) : W p l e room_1 s m #[Value.ref b] below meth c H locs 857 99087 (lw_Z below #[Value.ref b] s) (F0 m 1763 ls []) := by
  have hbA : ¬ A b := fun ha => absurd (hAs b ha) (Nat.not_le.mpr hbl)
  refine lv_iinc (v := 6) (lv' := [(3, .int 6), (0, .ref b)]) F.1 F.2.1 dL_law_1763 hl (k := 0) rfl (by decide) (by decide) rfl (fun ls hl => ?_)
  refine lv_goto (tgt := 18) F.1 F.2.1 dL_law_1766 (by decide) ?_
  refine lv_iload_n F.1 F.2.1 dL_law_18 rfl (lv_at hl 0 rfl) ?_
  refine lv_aload_n F.1 F.2.1 dL_law_19 rfl (lv_at hl 1 rfl) ?_
  refine va_slen F.1 F.2.1 hX hbl hbA h.2.2.2.1 dL_law_20 ?_
  refine x_topi (y := 6) (by decide) ?_
  refine lv_bipush (v := 6) F.1 F.2.1 dL_law_21 (by decide) ?_
  refine lv_isub F.1 F.2.1 dL_law_23 ?_
  refine x_topi (y := 0) (by decide +kernel) ?_
  refine lv_icmp_gt (tgt := 1769) F.1 F.2.1 dL_law_24 (by decide) (fun _ => ?_) (fun hc => absurd (by decide) hc)
  refine lv_iconst (v := 1) F.1 F.2.1 dL_law_1769 (by decide) ?_
  refine va_forget (fun q hq => hAs _ (h.2.2.2.1.2.2 q hq)) ?_
  refine W.widen (k := 600000) (n := 7302250) (Nat.le_of_ble_eq_true rfl) (Nat.le_of_ble_eq_true rfl) ?_
  exact lw_ret F.1 F.2.1 hr hlocks dL_law_1770
set_option maxHeartbeats 4000000 in
set_option maxRecDepth 100000 in
theorem law_short0 {p : Program} {l : Launch} {e : Env} {s : State} {m : MethodId} {below : List Frame} {meth : Method} {c : Code} {b : Nat} {xs : Nat → Int32} {D : va_G} {cy : Nat → ClassId} {A : Nat → Prop} {H : Heap} {locs : List Loc} {ls : Array Slot} {ws : va_W} (F : CallFix p m c cL_law 4 s #[Value.ref b] wsL_law RL) (hr : meth.sig.returnType = ret) (hlocks : meth.locks = false) (hX : va_X b 0 xs s s.heap) (hbl : b < s.heap.size) (hAs : ∀ q, A q → s.heap.size ≤ q) (h : xS D cy A s.heap ws s H locs) (hl : lv_has ls 4 [(3, .int 0), (0, .ref b)]) : W p l e room_1 s m #[Value.ref b] below meth c H locs 857 99087 (lw_Z below #[Value.ref b] s) (F0 m 18 ls []) := by
  have hbA : ¬ A b := fun ha => absurd (hAs b ha) (Nat.not_le.mpr hbl)
  refine lv_iload_n F.1 F.2.1 dL_law_18 rfl (lv_at hl 0 rfl) ?_
  refine lv_aload_n F.1 F.2.1 dL_law_19 rfl (lv_at hl 1 rfl) ?_
  refine va_slen F.1 F.2.1 hX hbl hbA h.2.2.2.1 dL_law_20 ?_
  refine x_topi (y := 0) (by decide) ?_
  refine lv_bipush (v := 6) F.1 F.2.1 dL_law_21 (by decide) ?_
  refine lv_isub F.1 F.2.1 dL_law_23 ?_
  refine x_topi (y := (-6)) (by decide +kernel) ?_
  refine lv_icmp_gt (tgt := 1769) F.1 F.2.1 dL_law_24 (by decide) (fun _ => ?_) (fun hc => absurd (by decide) hc)
  refine lv_iconst (v := 1) F.1 F.2.1 dL_law_1769 (by decide) ?_
  refine va_forget (fun q hq => hAs _ (h.2.2.2.1.2.2 q hq)) ?_
  refine W.widen (k := 600000) (n := 7302250) (Nat.le_of_ble_eq_true rfl) (Nat.le_of_ble_eq_true rfl) ?_
  exact lw_ret F.1 F.2.1 hr hlocks dL_law_1770
set_option maxHeartbeats 4000000 in
set_option maxRecDepth 100000 in
theorem law_short1 {p : Program} {l : Launch} {e : Env} {s : State} {m : MethodId} {below : List Frame} {meth : Method} {c : Code} {b : Nat} {xs : Nat → Int32} {D : va_G} {cy : Nat → ClassId} {A : Nat → Prop} {H : Heap} {locs : List Loc} {ls : Array Slot} {ws : va_W} (F : CallFix p m c cL_law 4 s #[Value.ref b] wsL_law RL) (hr : meth.sig.returnType = ret) (hlocks : meth.locks = false) (hX : va_X b 1 xs s s.heap) (hbl : b < s.heap.size) (hAs : ∀ q, A q → s.heap.size ≤ q) (h : xS D cy A s.heap ws s H locs) (hl : lv_has ls 4 [(3, .int 0), (0, .ref b)]) : W p l e room_1 s m #[Value.ref b] below meth c H locs 857 99087 (lw_Z below #[Value.ref b] s) (F0 m 18 ls []) := by
  have hbA : ¬ A b := fun ha => absurd (hAs b ha) (Nat.not_le.mpr hbl)
  refine lv_iload_n F.1 F.2.1 dL_law_18 rfl (lv_at hl 0 rfl) ?_
  refine lv_aload_n F.1 F.2.1 dL_law_19 rfl (lv_at hl 1 rfl) ?_
  refine va_slen F.1 F.2.1 hX hbl hbA h.2.2.2.1 dL_law_20 ?_
  refine x_topi (y := 1) (by decide) ?_
  refine lv_bipush (v := 6) F.1 F.2.1 dL_law_21 (by decide) ?_
  refine lv_isub F.1 F.2.1 dL_law_23 ?_
  refine x_topi (y := (-5)) (by decide +kernel) ?_
  refine lv_icmp_gt (tgt := 1769) F.1 F.2.1 dL_law_24 (by decide) (fun _ => ?_) (fun hc => absurd (by decide) hc)
  refine lv_iconst (v := 1) F.1 F.2.1 dL_law_1769 (by decide) ?_
  refine va_forget (fun q hq => hAs _ (h.2.2.2.1.2.2 q hq)) ?_
  refine W.widen (k := 600000) (n := 7302250) (Nat.le_of_ble_eq_true rfl) (Nat.le_of_ble_eq_true rfl) ?_
  exact lw_ret F.1 F.2.1 hr hlocks dL_law_1770
set_option maxHeartbeats 4000000 in
set_option maxRecDepth 100000 in
theorem law_short2 {p : Program} {l : Launch} {e : Env} {s : State} {m : MethodId} {below : List Frame} {meth : Method} {c : Code} {b : Nat} {xs : Nat → Int32} {D : va_G} {cy : Nat → ClassId} {A : Nat → Prop} {H : Heap} {locs : List Loc} {ls : Array Slot} {ws : va_W} (F : CallFix p m c cL_law 4 s #[Value.ref b] wsL_law RL) (hr : meth.sig.returnType = ret) (hlocks : meth.locks = false) (hX : va_X b 2 xs s s.heap) (hbl : b < s.heap.size) (hAs : ∀ q, A q → s.heap.size ≤ q) (h : xS D cy A s.heap ws s H locs) (hl : lv_has ls 4 [(3, .int 0), (0, .ref b)]) : W p l e room_1 s m #[Value.ref b] below meth c H locs 857 99087 (lw_Z below #[Value.ref b] s) (F0 m 18 ls []) := by
  have hbA : ¬ A b := fun ha => absurd (hAs b ha) (Nat.not_le.mpr hbl)
  refine lv_iload_n F.1 F.2.1 dL_law_18 rfl (lv_at hl 0 rfl) ?_
  refine lv_aload_n F.1 F.2.1 dL_law_19 rfl (lv_at hl 1 rfl) ?_
  refine va_slen F.1 F.2.1 hX hbl hbA h.2.2.2.1 dL_law_20 ?_
  refine x_topi (y := 2) (by decide) ?_
  refine lv_bipush (v := 6) F.1 F.2.1 dL_law_21 (by decide) ?_
  refine lv_isub F.1 F.2.1 dL_law_23 ?_
  refine x_topi (y := (-4)) (by decide +kernel) ?_
  refine lv_icmp_gt (tgt := 1769) F.1 F.2.1 dL_law_24 (by decide) (fun _ => ?_) (fun hc => absurd (by decide) hc)
  refine lv_iconst (v := 1) F.1 F.2.1 dL_law_1769 (by decide) ?_
  refine va_forget (fun q hq => hAs _ (h.2.2.2.1.2.2 q hq)) ?_
  refine W.widen (k := 600000) (n := 7302250) (Nat.le_of_ble_eq_true rfl) (Nat.le_of_ble_eq_true rfl) ?_
  exact lw_ret F.1 F.2.1 hr hlocks dL_law_1770
set_option maxHeartbeats 4000000 in
set_option maxRecDepth 100000 in
theorem law_short3 {p : Program} {l : Launch} {e : Env} {s : State} {m : MethodId} {below : List Frame} {meth : Method} {c : Code} {b : Nat} {xs : Nat → Int32} {D : va_G} {cy : Nat → ClassId} {A : Nat → Prop} {H : Heap} {locs : List Loc} {ls : Array Slot} {ws : va_W} (F : CallFix p m c cL_law 4 s #[Value.ref b] wsL_law RL) (hr : meth.sig.returnType = ret) (hlocks : meth.locks = false) (hX : va_X b 3 xs s s.heap) (hbl : b < s.heap.size) (hAs : ∀ q, A q → s.heap.size ≤ q) (h : xS D cy A s.heap ws s H locs) (hl : lv_has ls 4 [(3, .int 0), (0, .ref b)]) : W p l e room_1 s m #[Value.ref b] below meth c H locs 857 99087 (lw_Z below #[Value.ref b] s) (F0 m 18 ls []) := by
  have hbA : ¬ A b := fun ha => absurd (hAs b ha) (Nat.not_le.mpr hbl)
  refine lv_iload_n F.1 F.2.1 dL_law_18 rfl (lv_at hl 0 rfl) ?_
  refine lv_aload_n F.1 F.2.1 dL_law_19 rfl (lv_at hl 1 rfl) ?_
  refine va_slen F.1 F.2.1 hX hbl hbA h.2.2.2.1 dL_law_20 ?_
  refine x_topi (y := 3) (by decide) ?_
  refine lv_bipush (v := 6) F.1 F.2.1 dL_law_21 (by decide) ?_
  refine lv_isub F.1 F.2.1 dL_law_23 ?_
  refine x_topi (y := (-3)) (by decide +kernel) ?_
  refine lv_icmp_gt (tgt := 1769) F.1 F.2.1 dL_law_24 (by decide) (fun _ => ?_) (fun hc => absurd (by decide) hc)
  refine lv_iconst (v := 1) F.1 F.2.1 dL_law_1769 (by decide) ?_
  refine va_forget (fun q hq => hAs _ (h.2.2.2.1.2.2 q hq)) ?_
  refine W.widen (k := 600000) (n := 7302250) (Nat.le_of_ble_eq_true rfl) (Nat.le_of_ble_eq_true rfl) ?_
  exact lw_ret F.1 F.2.1 hr hlocks dL_law_1770
set_option maxHeartbeats 4000000 in
set_option maxRecDepth 100000 in
theorem law_short4 {p : Program} {l : Launch} {e : Env} {s : State} {m : MethodId} {below : List Frame} {meth : Method} {c : Code} {b : Nat} {xs : Nat → Int32} {D : va_G} {cy : Nat → ClassId} {A : Nat → Prop} {H : Heap} {locs : List Loc} {ls : Array Slot} {ws : va_W} (F : CallFix p m c cL_law 4 s #[Value.ref b] wsL_law RL) (hr : meth.sig.returnType = ret) (hlocks : meth.locks = false) (hX : va_X b 4 xs s s.heap) (hbl : b < s.heap.size) (hAs : ∀ q, A q → s.heap.size ≤ q) (h : xS D cy A s.heap ws s H locs) (hl : lv_has ls 4 [(3, .int 0), (0, .ref b)]) : W p l e room_1 s m #[Value.ref b] below meth c H locs 857 99087 (lw_Z below #[Value.ref b] s) (F0 m 18 ls []) := by
  have hbA : ¬ A b := fun ha => absurd (hAs b ha) (Nat.not_le.mpr hbl)
  refine lv_iload_n F.1 F.2.1 dL_law_18 rfl (lv_at hl 0 rfl) ?_
  refine lv_aload_n F.1 F.2.1 dL_law_19 rfl (lv_at hl 1 rfl) ?_
  refine va_slen F.1 F.2.1 hX hbl hbA h.2.2.2.1 dL_law_20 ?_
  refine x_topi (y := 4) (by decide) ?_
  refine lv_bipush (v := 6) F.1 F.2.1 dL_law_21 (by decide) ?_
  refine lv_isub F.1 F.2.1 dL_law_23 ?_
  refine x_topi (y := (-2)) (by decide +kernel) ?_
  refine lv_icmp_gt (tgt := 1769) F.1 F.2.1 dL_law_24 (by decide) (fun _ => ?_) (fun hc => absurd (by decide) hc)
  refine lv_iconst (v := 1) F.1 F.2.1 dL_law_1769 (by decide) ?_
  refine va_forget (fun q hq => hAs _ (h.2.2.2.1.2.2 q hq)) ?_
  refine W.widen (k := 600000) (n := 7302250) (Nat.le_of_ble_eq_true rfl) (Nat.le_of_ble_eq_true rfl) ?_
  exact lw_ret F.1 F.2.1 hr hlocks dL_law_1770
set_option maxHeartbeats 4000000 in
set_option maxRecDepth 100000 in
theorem law_short5 {p : Program} {l : Launch} {e : Env} {s : State} {m : MethodId} {below : List Frame} {meth : Method} {c : Code} {b : Nat} {xs : Nat → Int32} {D : va_G} {cy : Nat → ClassId} {A : Nat → Prop} {H : Heap} {locs : List Loc} {ls : Array Slot} {ws : va_W} (F : CallFix p m c cL_law 4 s #[Value.ref b] wsL_law RL) (hr : meth.sig.returnType = ret) (hlocks : meth.locks = false) (hX : va_X b 5 xs s s.heap) (hbl : b < s.heap.size) (hAs : ∀ q, A q → s.heap.size ≤ q) (h : xS D cy A s.heap ws s H locs) (hl : lv_has ls 4 [(3, .int 0), (0, .ref b)]) : W p l e room_1 s m #[Value.ref b] below meth c H locs 857 99087 (lw_Z below #[Value.ref b] s) (F0 m 18 ls []) := by
  have hbA : ¬ A b := fun ha => absurd (hAs b ha) (Nat.not_le.mpr hbl)
  refine lv_iload_n F.1 F.2.1 dL_law_18 rfl (lv_at hl 0 rfl) ?_
  refine lv_aload_n F.1 F.2.1 dL_law_19 rfl (lv_at hl 1 rfl) ?_
  refine va_slen F.1 F.2.1 hX hbl hbA h.2.2.2.1 dL_law_20 ?_
  refine x_topi (y := 5) (by decide) ?_
  refine lv_bipush (v := 6) F.1 F.2.1 dL_law_21 (by decide) ?_
  refine lv_isub F.1 F.2.1 dL_law_23 ?_
  refine x_topi (y := (-1)) (by decide +kernel) ?_
  refine lv_icmp_gt (tgt := 1769) F.1 F.2.1 dL_law_24 (by decide) (fun _ => ?_) (fun hc => absurd (by decide) hc)
  refine lv_iconst (v := 1) F.1 F.2.1 dL_law_1769 (by decide) ?_
  refine va_forget (fun q hq => hAs _ (h.2.2.2.1.2.2 q hq)) ?_
  refine W.widen (k := 600000) (n := 7302250) (Nat.le_of_ble_eq_true rfl) (Nat.le_of_ble_eq_true rfl) ?_
  exact lw_ret F.1 F.2.1 hr hlocks dL_law_1770
