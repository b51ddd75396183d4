theorem ki_6 : (Int32.ofInt 6).toInt = 6 := by decide
theorem dL_law_1206 : decode cL_law 1206 = .ok (.aload_n 2, 1) := by decide +kernel
theorem dL_law_1207 : decode cL_law 1207 = .ok (.aload_n 0, 1) := by decide +kernel
theorem dL_law_1208 : decode cL_law 1208 = .ok (.iload_n 3, 1) := by decide +kernel
theorem dL_law_1209 : decode cL_law 1209 = .ok (.iconst 1, 1) := by decide +kernel
theorem dL_law_1210 : decode cL_law 1210 = .ok (.iadd, 1) := by decide +kernel
theorem dL_law_1211 : decode cL_law 1211 = .ok (.iaload, 1) := by decide +kernel
theorem dL_law_1212 : decode cL_law 1212 = .ok (.aload_n 0, 1) := by decide +kernel
theorem dL_law_1213 : decode cL_law 1213 = .ok (.iload_n 3, 1) := by decide +kernel
theorem dL_law_1214 : decode cL_law 1214 = .ok (.iconst 2, 1) := by decide +kernel
theorem dL_law_1215 : decode cL_law 1215 = .ok (.iadd, 1) := by decide +kernel
theorem dL_law_1216 : decode cL_law 1216 = .ok (.iaload, 1) := by decide +kernel
theorem dL_law_1217 : decode cL_law 1217 = .ok (.aload_n 0, 1) := by decide +kernel
theorem dL_law_1218 : decode cL_law 1218 = .ok (.iload_n 3, 1) := by decide +kernel
theorem dL_law_1219 : decode cL_law 1219 = .ok (.iconst 3, 1) := by decide +kernel
theorem dL_law_1220 : decode cL_law 1220 = .ok (.iadd, 1) := by decide +kernel
theorem dL_law_1221 : decode cL_law 1221 = .ok (.iaload, 1) := by decide +kernel
theorem dL_law_1222 : decode cL_law 1222 = .ok (.aload_n 0, 1) := by decide +kernel
theorem dL_law_1223 : decode cL_law 1223 = .ok (.iload_n 3, 1) := by decide +kernel
theorem dL_law_1224 : decode cL_law 1224 = .ok (.iconst 4, 1) := by decide +kernel
theorem dL_law_1225 : decode cL_law 1225 = .ok (.iadd, 1) := by decide +kernel
theorem dL_law_1226 : decode cL_law 1226 = .ok (.iaload, 1) := by decide +kernel
theorem dL_law_1227 : decode cL_law 1227 = .ok (.invokevirtual 141, 3) := by decide +kernel
theorem mw_1302 : Cond.methodLink RL 141 yX12_face ∈ wsL_law := inr_55 _ (List.mem_of_getElem? (i := 6) rfl)
theorem mw_1305 : Cond.code yX12_face cX12_face 8 (some .int) ∈ wsL_law := inr_55 _ (List.mem_of_getElem? (i := 9) rfl)
theorem yk_X12_face : xY yX12_face RX12 cX12_face 8 (some .int) 4 := ⟨⟨rfl, by decide +kernel, by decide +kernel, by decide +kernel⟩, mw_5, mw_1305⟩
theorem mw_1303 : Cond.instanceMethod yX12_face ∈ wsL_law := inr_55 _ (List.mem_of_getElem? (i := 7) rfl)
theorem mw_1304 : Cond.selects RX12 yX12_face yX12_face ∈ wsL_law := inr_55 _ (List.mem_of_getElem? (i := 8) rfl)
theorem dL_law_1230 : decode cL_law 1230 = .ok (.pop, 1) := by decide +kernel
theorem dL_law_1231 : decode cL_law 1231 = .ok (.goto 524, 3) := by decide +kernel
theorem dL_law_1181 : decode cL_law 1181 = .ok (.aload_n 1, 1) := by decide +kernel
theorem dL_law_1182 : decode cL_law 1182 = .ok (.aload_n 0, 1) := by decide +kernel
theorem dL_law_1183 : decode cL_law 1183 = .ok (.iload_n 3, 1) := by decide +kernel
theorem dL_law_1184 : decode cL_law 1184 = .ok (.iconst 1, 1) := by decide +kernel
theorem dL_law_1185 : decode cL_law 1185 = .ok (.iadd, 1) := by decide +kernel
theorem dL_law_1186 : decode cL_law 1186 = .ok (.iaload, 1) := by decide +kernel
theorem dL_law_1187 : decode cL_law 1187 = .ok (.aload_n 0, 1) := by decide +kernel
theorem dL_law_1188 : decode cL_law 1188 = .ok (.iload_n 3, 1) := by decide +kernel
theorem dL_law_1189 : decode cL_law 1189 = .ok (.iconst 2, 1) := by decide +kernel
theorem dL_law_1190 : decode cL_law 1190 = .ok (.iadd, 1) := by decide +kernel
theorem dL_law_1191 : decode cL_law 1191 = .ok (.iaload, 1) := by decide +kernel
theorem dL_law_1192 : decode cL_law 1192 = .ok (.aload_n 0, 1) := by decide +kernel
theorem dL_law_1193 : decode cL_law 1193 = .ok (.iload_n 3, 1) := by decide +kernel
theorem dL_law_1194 : decode cL_law 1194 = .ok (.iconst 3, 1) := by decide +kernel
theorem dL_law_1195 : decode cL_law 1195 = .ok (.iadd, 1) := by decide +kernel
theorem dL_law_1196 : decode cL_law 1196 = .ok (.iaload, 1) := by decide +kernel
theorem dL_law_1197 : decode cL_law 1197 = .ok (.aload_n 0, 1) := by decide +kernel
theorem dL_law_1198 : decode cL_law 1198 = .ok (.iload_n 3, 1) := by decide +kernel
theorem dL_law_1199 : decode cL_law 1199 = .ok (.iconst 4, 1) := by decide +kernel
theorem dL_law_1200 : decode cL_law 1200 = .ok (.iadd, 1) := by decide +kernel
theorem dL_law_1201 : decode cL_law 1201 = .ok (.iaload, 1) := by decide +kernel
theorem dL_law_1202 : decode cL_law 1202 = .ok (.invokevirtual 138, 3) := by decide +kernel
theorem mw_1244 : Cond.methodLink RL 138 yX11_face ∈ wsL_law := inr_52 _ (List.mem_of_getElem? (i := 20) rfl)
theorem mw_1247 : Cond.code yX11_face cX11_face 5 (some .int) ∈ wsL_law := inr_52 _ (List.mem_of_getElem? (i := 23) rfl)
theorem yk_X11_face : xY yX11_face RX11 cX11_face 5 (some .int) 4 := ⟨⟨rfl, by decide +kernel, by decide +kernel, by decide +kernel⟩, mw_2, mw_1247⟩
theorem mw_1245 : Cond.instanceMethod yX11_face ∈ wsL_law := inr_52 _ (List.mem_of_getElem? (i := 21) rfl)
theorem mw_1246 : Cond.selects RX11 yX11_face yX11_face ∈ wsL_law := inr_52 _ (List.mem_of_getElem? (i := 22) rfl)
theorem dL_law_1205 : decode cL_law 1205 = .ok (.pop, 1) := by decide +kernel
set_option maxHeartbeats 4000000 in
set_option maxRecDepth 100000 in
theorem law_c27b {p : Program} {l : Launch} {e : Env} {s : State} {m : MethodId} {below : List Frame} {meth : Method} {c : Code} {H : Heap} {locs : List Loc} {Q : State → Prop} {D : va_G} {cy : Nat → ClassId} {A : Nat → Prop} {L : List Nat} {R O P : Nat → Nat} {f0 : Nat → va_E} {ls : Array Slot} {b N cs sl q rr GA GP GL GT : Nat} {xs : Nat → Int32} {V : Value} (F : CallFix p m c cL_law 4 s #[Value.ref b] wsL_law RL) (hZ : tZ A s s.heap) (hX0 : va_X b N xs s s.heap) (hbl : b < s.heap.size) (hbA : ¬ A b) (hcs : cs ≤ room_1.cells) (hsl : sl ≤ room_1.slots) (i : Int32) (bi : 0 ≤ i.toInt ∧ i.toInt + 6 ≤ N ∧ N ≤ 3072) (m_q : q ∈ L) (r_q : R q = 11) (m_rr : rr ∈ L) (r_rr : R rr = 12) (m_GA : GA ∈ L) (r_GA : R GA = 61) (m_GP : GP ∈ L) (r_GP : R GP = 69) (m_GL : GL ∈ L) (r_GL : R GL = 70) (m_GT : GT ∈ L) (r_GT : R GT = 64) (hLS : LWS D cy A s L R O P q rr GA GP GL GT V f0 H locs) (hl : lv_has ls 4 [(3, .int i), (2, .ref rr), (1, .ref q), (0, .ref b)]) (kk : ∀ (f1 : Nat → va_E) (H : Heap) (locs : List Loc) (ls : Array Slot), LWS D cy A s L R O P q rr GA GP GL GT V f1 H locs → lv_has ls 4 [(3, .int i), (2, .ref rr), (1, .ref q), (0, .ref b)] → W p l e room_1 s m #[Value.ref b] below meth c H locs cs sl Q (F0 m 1755 ls [])) : W p l e room_1 s m #[Value.ref b] below meth c H locs cs sl Q (F0 m 1206 ls []) := by
  obtain ⟨h, hI, ⟨t_GA, t_GP, t_GL, t_GT⟩, hR, hX, hP, hMK, hCB, hC0, hC1, hC2, hPB⟩ := hLS
  have hs6m := hI.2.2.1.1
  have hs6r := hI.2.2.1.2
  have hBM := BM_of h m_q r_q
  have hPBn := hPB
  refine lv_aload_n F.1 F.2.1 dL_law_1206 rfl (lv_at hl 1 rfl) ?_
  refine lv_aload_n F.1 F.2.1 dL_law_1207 rfl (lv_at hl 3 rfl) ?_
  refine lv_iload_n F.1 F.2.1 dL_law_1208 rfl (lv_at hl 0 rfl) ?_
  refine tw_iconst F dL_law_1209 ki_1 (fun z1 hz1 => ?_)
  refine tu_iadd F dL_law_1210 (by omega) (fun z2 hz2 => ?_)
  refine va_sld F.1 F.2.1 hX0 hbl hbA h.dd.2.2 (tw_in (by omega) (by omega)) dL_law_1211 ?_
  refine lv_topi (fun z3 qz3 => ?_)
  refine lv_aload_n F.1 F.2.1 dL_law_1212 rfl (lv_at hl 3 rfl) ?_
  refine lv_iload_n F.1 F.2.1 dL_law_1213 rfl (lv_at hl 0 rfl) ?_
  refine tw_iconst F dL_law_1214 ki_2 (fun z4 hz4 => ?_)
  refine tu_iadd F dL_law_1215 (by omega) (fun z5 hz5 => ?_)
  refine va_sld F.1 F.2.1 hX0 hbl hbA h.dd.2.2 (tw_in (by omega) (by omega)) dL_law_1216 ?_
  refine lv_topi (fun z6 qz6 => ?_)
  refine lv_aload_n F.1 F.2.1 dL_law_1217 rfl (lv_at hl 3 rfl) ?_
  refine lv_iload_n F.1 F.2.1 dL_law_1218 rfl (lv_at hl 0 rfl) ?_
  refine tw_iconst F dL_law_1219 ki_3 (fun z7 hz7 => ?_)
  refine tu_iadd F dL_law_1220 (by omega) (fun z8 hz8 => ?_)
  refine va_sld F.1 F.2.1 hX0 hbl hbA h.dd.2.2 (tw_in (by omega) (by omega)) dL_law_1221 ?_
  refine lv_topi (fun z9 qz9 => ?_)
  refine lv_aload_n F.1 F.2.1 dL_law_1222 rfl (lv_at hl 3 rfl) ?_
  refine lv_iload_n F.1 F.2.1 dL_law_1223 rfl (lv_at hl 0 rfl) ?_
  refine tw_iconst F dL_law_1224 ki_4 (fun z10 hz10 => ?_)
  refine tu_iadd F dL_law_1225 (by omega) (fun z11 hz11 => ?_)
  refine va_sld F.1 F.2.1 hX0 hbl hbA h.dd.2.2 (tw_in (by omega) (by omega)) dL_law_1226 ?_
  refine lv_topi (fun z12 qz12 => ?_)
  refine tw_Vi (As := [.int z3, .int z6, .int z9, .int z12]) F hZ h yk_X12_face mw_1302 mw_1303 mw_1304 (s_X12_faceC l D cy L R O f0 rr m_rr r_rr z3 z6 z9 z12 GA m_GA r_GA t_GA GP m_GP r_GP t_GP GL m_GL r_GL t_GL GT m_GT r_GT t_GT hR hX) rfl rfl m_rr r_rr (fun e q => (T_12 e).mp q) rfl hl.1 rfl (Nat.le_of_ble_eq_true rfl) ⟨Nat.le_of_ble_eq_true rfl, Nat.le_of_ble_eq_true rfl⟩ ⟨hcs, hsl⟩ dL_law_1227 (fun v14 f13 H locs hp13 h => ?_)
  obtain ⟨hf13, hv14p0, hv14p1, hv14p2, hv14p3, hv14p4, hv14p5⟩ := hp13
  have em15 : fi f13 q 11 = fi f0 q 11 := hf13.efi m_q r_q (by decide +kernel)
  have em16 : fi f13 rr 64 = fi f0 rr 64 := hf13.efi m_rr r_rr (by decide +kernel)
  have ek17 := BKc hBM hf13 m_q r_q (by decide +kernel) (by decide +kernel) (by decide +kernel) (by decide +kernel)
  have ek17b := ek17.1
  have ek17x := ek17.2 0 (by omega)
  have ek17y := ek17.2 1 (by omega)
  have ek17z := ek17.2 2 (by omega)
  have hPBn : PB P f13 q := hPBn.fr hBM hf13 m_q r_q (by decide +kernel) (by decide +kernel) (by decide +kernel)
  have hBM := BM_of h m_q r_q
  have hI : INV L R O P f13 q := hI.most m_q r_q hf13 (by decide +kernel) (by decide +kernel) (by decide +kernel) (by decide +kernel) (by decide +kernel)
  have t_GA : fld f13 rr 0 = .ref GA := (hf13.efl m_rr r_rr (by decide +kernel)).trans t_GA
  have t_GP : fld f13 rr 22 = .ref GP := (hf13.efl m_rr r_rr (by decide +kernel)).trans t_GP
  have t_GL : fld f13 rr 23 = .ref GL := (hf13.efl m_rr r_rr (by decide +kernel)).trans t_GL
  have t_GT : fld f13 rr 6 = .ref GT := (hf13.efl m_rr r_rr (by decide +kernel)).trans t_GT
  have hR : RBA GA f13 := hv14p0
  have hX : GZ GP GL f13 := hv14p1
  have hP : fld f13 (rfa f13 q 6) 16 = V := by rw [hf13.erf m_q r_q (by decide +kernel), hf13.efl hs6m hs6r (by decide +kernel)]; exact hP
  have hs6m : rfa f13 q 6 ∈ L := by rw [hf13.erf m_q r_q (by decide +kernel)]; exact hs6m
  have hs6r : R (rfa f13 q 6) = 7 := by rw [hf13.erf m_q r_q (by decide +kernel)]; exact hs6r
  refine lv_pop F.1 F.2.1 dL_law_1230 rfl ?_
  refine lv_goto (tgt := 1755) F.1 F.2.1 dL_law_1231 (by decide) ?_
  exact kk f13 _ _ _ ⟨h, hI, ⟨t_GA, t_GP, t_GL, t_GT⟩, hR, hX, hP, by omega, by omega, by omega, by omega, by omega, hPBn⟩ hl
set_option maxHeartbeats 4000000 in
set_option maxRecDepth 100000 in
theorem law_c27N {p : Program} {l : Launch} {e : Env} {s : State} {m : MethodId} {below : List Frame} {meth : Method} {c : Code} {H : Heap} {locs : List Loc} {Q : State → Prop} {D : va_G} {cy : Nat → ClassId} {A : Nat → Prop} {L : List Nat} {R O P : Nat → Nat} {f0 : Nat → va_E} {ls : Array Slot} {b N cs sl q rr GA GP GL GT : Nat} {xs : Nat → Int32} {V : Value} (F : CallFix p m c cL_law 4 s #[Value.ref b] wsL_law RL) (hZ : tZ A s s.heap) (hX0 : va_X b N xs s s.heap) (hbl : b < s.heap.size) (hbA : ¬ A b) (hcs : cs ≤ room_1.cells) (hsl : sl ≤ room_1.slots) (i : Int32) (bi : 0 ≤ i.toInt ∧ i.toInt + 6 ≤ N ∧ N ≤ 3072) (m_q : q ∈ L) (r_q : R q = 11) (m_rr : rr ∈ L) (r_rr : R rr = 12) (m_GA : GA ∈ L) (r_GA : R GA = 61) (m_GP : GP ∈ L) (r_GP : R GP = 69) (m_GL : GL ∈ L) (r_GL : R GL = 70) (m_GT : GT ∈ L) (r_GT : R GT = 64) (hLS : LWS D cy A s L R O P q rr GA GP GL GT V f0 H locs) (pst : Nat) (m_pst : pst ∈ L) (r_pst : R pst = 2) (hV : V = .ref pst) (hl : lv_has ls 4 [(3, .int i), (2, .ref rr), (1, .ref q), (0, .ref b)]) (kk : ∀ (f1 : Nat → va_E) (H : Heap) (locs : List Loc) (ls : Array Slot), LWS D cy A s L R O P q rr GA GP GL GT V f1 H locs → lv_has ls 4 [(3, .int i), (2, .ref rr), (1, .ref q), (0, .ref b)] → W p l e room_1 s m #[Value.ref b] below meth c H locs cs sl Q (F0 m 1755 ls [])) : W p l e room_1 s m #[Value.ref b] below meth c H locs cs sl Q (F0 m 1181 ls []) := by
  obtain ⟨h, hI, ⟨t_GA, t_GP, t_GL, t_GT⟩, hR, hX, hP, hMK, hCB, hC0, hC1, hC2, hPB⟩ := hLS
  have hs6m := hI.2.2.1.1
  have hs6r := hI.2.2.1.2
  have hBM := BM_of h m_q r_q
  have hPBn := hPB
  refine lv_aload_n F.1 F.2.1 dL_law_1181 rfl (lv_at hl 2 rfl) ?_
  refine lv_aload_n F.1 F.2.1 dL_law_1182 rfl (lv_at hl 3 rfl) ?_
  refine lv_iload_n F.1 F.2.1 dL_law_1183 rfl (lv_at hl 0 rfl) ?_
  refine tw_iconst F dL_law_1184 ki_1 (fun z1 hz1 => ?_)
  refine tu_iadd F dL_law_1185 (by omega) (fun z2 hz2 => ?_)
  refine va_sld F.1 F.2.1 hX0 hbl hbA h.dd.2.2 (tw_in (by omega) (by omega)) dL_law_1186 ?_
  refine lv_topi (fun z3 qz3 => ?_)
  refine lv_aload_n F.1 F.2.1 dL_law_1187 rfl (lv_at hl 3 rfl) ?_
  refine lv_iload_n F.1 F.2.1 dL_law_1188 rfl (lv_at hl 0 rfl) ?_
  refine tw_iconst F dL_law_1189 ki_2 (fun z4 hz4 => ?_)
  refine tu_iadd F dL_law_1190 (by omega) (fun z5 hz5 => ?_)
  refine va_sld F.1 F.2.1 hX0 hbl hbA h.dd.2.2 (tw_in (by omega) (by omega)) dL_law_1191 ?_
  refine lv_topi (fun z6 qz6 => ?_)
  refine lv_aload_n F.1 F.2.1 dL_law_1192 rfl (lv_at hl 3 rfl) ?_
  refine lv_iload_n F.1 F.2.1 dL_law_1193 rfl (lv_at hl 0 rfl) ?_
  refine tw_iconst F dL_law_1194 ki_3 (fun z7 hz7 => ?_)
  refine tu_iadd F dL_law_1195 (by omega) (fun z8 hz8 => ?_)
  refine va_sld F.1 F.2.1 hX0 hbl hbA h.dd.2.2 (tw_in (by omega) (by omega)) dL_law_1196 ?_
  refine lv_topi (fun z9 qz9 => ?_)
  refine lv_aload_n F.1 F.2.1 dL_law_1197 rfl (lv_at hl 3 rfl) ?_
  refine lv_iload_n F.1 F.2.1 dL_law_1198 rfl (lv_at hl 0 rfl) ?_
  refine tw_iconst F dL_law_1199 ki_4 (fun z10 hz10 => ?_)
  refine tu_iadd F dL_law_1200 (by omega) (fun z11 hz11 => ?_)
  refine va_sld F.1 F.2.1 hX0 hbl hbA h.dd.2.2 (tw_in (by omega) (by omega)) dL_law_1201 ?_
  refine lv_topi (fun z12 qz12 => ?_)
  refine tw_Vi (As := [.int z3, .int z6, .int z9, .int z12]) F hZ h yk_X11_face mw_1244 mw_1245 mw_1246 (s_X11_faceN l D cy L R O f0 hI.2.2.2.1 q m_q r_q z3 z6 z9 z12 P pst m_pst r_pst hI.pi hI.2.2.2.2.2.2 (hP.trans hV)) rfl rfl m_q r_q (fun e q => (T_11 e).mp q) rfl hl.1 rfl (Nat.le_of_ble_eq_true rfl) ⟨Nat.le_of_ble_eq_true rfl, Nat.le_of_ble_eq_true rfl⟩ ⟨hcs, hsl⟩ dL_law_1202 (fun v14 f13 H locs hp13 h => ?_)
  obtain ⟨hf13, hv14p0⟩ := hp13
  have em15 : fi f13 q 11 = fi f0 q 11 := hf13.efi m_q r_q (by decide +kernel)
  have em16 : fi f13 rr 64 = fi f0 rr 64 := hf13.efi m_rr r_rr (by decide +kernel)
  have ek17 := BKc hBM hf13 m_q r_q (by decide +kernel) (by decide +kernel) (by decide +kernel) (by decide +kernel)
  have ek17b := ek17.1
  have ek17x := ek17.2 0 (by omega)
  have ek17y := ek17.2 1 (by omega)
  have ek17z := ek17.2 2 (by omega)
  have ej18 := hf13.eelj m_GA r_GA (by decide +kernel) 5159
  have ej19 := hf13.eelj m_GA r_GA (by decide +kernel) 10349
  have ej20 := hf13.eelj m_GA r_GA (by decide +kernel) 15539
  have ej21 := hf13.eelj m_GA r_GA (by decide +kernel) 20729
  have hPBn : PB P f13 q := hPBn.fr hBM hf13 m_q r_q (by decide +kernel) (by decide +kernel) (by decide +kernel)
  have hBM := BM_of h m_q r_q
  have hI : INV L R O P f13 q := hI.ko m_q r_q hf13 (by decide +kernel) (by decide +kernel) (by decide +kernel) (by decide +kernel) hv14p0
  have t_GA : fld f13 rr 0 = .ref GA := (hf13.efl m_rr r_rr (by decide +kernel)).trans t_GA
  have t_GP : fld f13 rr 22 = .ref GP := (hf13.efl m_rr r_rr (by decide +kernel)).trans t_GP
  have t_GL : fld f13 rr 23 = .ref GL := (hf13.efl m_rr r_rr (by decide +kernel)).trans t_GL
  have t_GT : fld f13 rr 6 = .ref GT := (hf13.efl m_rr r_rr (by decide +kernel)).trans t_GT
  have hR : RBA GA f13 := hR.fm hf13 m_GA r_GA (by decide +kernel)
  have hX : GZ GP GL f13 := hX.fm hf13 m_GP r_GP m_GL r_GL (by decide +kernel) (by decide +kernel)
  have hP : fld f13 (rfa f13 q 6) 16 = V := by rw [hf13.erf m_q r_q (by decide +kernel), hf13.efl hs6m hs6r (by decide +kernel)]; exact hP
  have hs6m : rfa f13 q 6 ∈ L := by rw [hf13.erf m_q r_q (by decide +kernel)]; exact hs6m
  have hs6r : R (rfa f13 q 6) = 7 := by rw [hf13.erf m_q r_q (by decide +kernel)]; exact hs6r
  refine lv_pop F.1 F.2.1 dL_law_1205 rfl ?_
  refine lv_aload_n F.1 F.2.1 dL_law_1206 rfl (lv_at hl 1 rfl) ?_
  refine lv_aload_n F.1 F.2.1 dL_law_1207 rfl (lv_at hl 3 rfl) ?_
  refine lv_iload_n F.1 F.2.1 dL_law_1208 rfl (lv_at hl 0 rfl) ?_
  refine tw_iconst F dL_law_1209 ki_1 (fun z22 hz22 => ?_)
  refine tu_iadd F dL_law_1210 (by omega) (fun z23 hz23 => ?_)
  refine va_sld F.1 F.2.1 hX0 hbl hbA h.dd.2.2 (tw_in (by omega) (by omega)) dL_law_1211 ?_
  refine lv_topi (fun z24 qz24 => ?_)
  obtain rfl : z3 = z24 := by rw [qz3, qz24, show z2 = z23 from Int32.toInt_inj.mp (by omega)]
  refine lv_aload_n F.1 F.2.1 dL_law_1212 rfl (lv_at hl 3 rfl) ?_
  refine lv_iload_n F.1 F.2.1 dL_law_1213 rfl (lv_at hl 0 rfl) ?_
  refine tw_iconst F dL_law_1214 ki_2 (fun z25 hz25 => ?_)
  refine tu_iadd F dL_law_1215 (by omega) (fun z26 hz26 => ?_)
  refine va_sld F.1 F.2.1 hX0 hbl hbA h.dd.2.2 (tw_in (by omega) (by omega)) dL_law_1216 ?_
  refine lv_topi (fun z27 qz27 => ?_)
  obtain rfl : z6 = z27 := by rw [qz6, qz27, show z5 = z26 from Int32.toInt_inj.mp (by omega)]
  refine lv_aload_n F.1 F.2.1 dL_law_1217 rfl (lv_at hl 3 rfl) ?_
  refine lv_iload_n F.1 F.2.1 dL_law_1218 rfl (lv_at hl 0 rfl) ?_
  refine tw_iconst F dL_law_1219 ki_3 (fun z28 hz28 => ?_)
  refine tu_iadd F dL_law_1220 (by omega) (fun z29 hz29 => ?_)
  refine va_sld F.1 F.2.1 hX0 hbl hbA h.dd.2.2 (tw_in (by omega) (by omega)) dL_law_1221 ?_
  refine lv_topi (fun z30 qz30 => ?_)
  obtain rfl : z9 = z30 := by rw [qz9, qz30, show z8 = z29 from Int32.toInt_inj.mp (by omega)]
  refine lv_aload_n F.1 F.2.1 dL_law_1222 rfl (lv_at hl 3 rfl) ?_
  refine lv_iload_n F.1 F.2.1 dL_law_1223 rfl (lv_at hl 0 rfl) ?_
  refine tw_iconst F dL_law_1224 ki_4 (fun z31 hz31 => ?_)
  refine tu_iadd F dL_law_1225 (by omega) (fun z32 hz32 => ?_)
  refine va_sld F.1 F.2.1 hX0 hbl hbA h.dd.2.2 (tw_in (by omega) (by omega)) dL_law_1226 ?_
  refine lv_topi (fun z33 qz33 => ?_)
  obtain rfl : z12 = z33 := by rw [qz12, qz33, show z11 = z32 from Int32.toInt_inj.mp (by omega)]
  refine tw_Vi (As := [.int z3, .int z6, .int z9, .int z12]) F hZ h yk_X12_face mw_1302 mw_1303 mw_1304 (s_X12_faceC l D cy L R O f13 rr m_rr r_rr z3 z6 z9 z12 GA m_GA r_GA t_GA GP m_GP r_GP t_GP GL m_GL r_GL t_GL GT m_GT r_GT t_GT hR hX) rfl rfl m_rr r_rr (fun e q => (T_12 e).mp q) rfl hl.1 rfl (Nat.le_of_ble_eq_true rfl) ⟨Nat.le_of_ble_eq_true rfl, Nat.le_of_ble_eq_true rfl⟩ ⟨hcs, hsl⟩ dL_law_1227 (fun v35 f34 H locs hp34 h => ?_)
  obtain ⟨hf34, hv35p0, hv35p1, hv35p2, hv35p3, hv35p4, hv35p5⟩ := hp34
  have em36 : fi f34 q 11 = fi f13 q 11 := hf34.efi m_q r_q (by decide +kernel)
  have em37 : fi f34 rr 64 = fi f13 rr 64 := hf34.efi m_rr r_rr (by decide +kernel)
  have ek38 := BKc hBM hf34 m_q r_q (by decide +kernel) (by decide +kernel) (by decide +kernel) (by decide +kernel)
  have ek38b := ek38.1
  have ek38x := ek38.2 0 (by omega)
  have ek38y := ek38.2 1 (by omega)
  have ek38z := ek38.2 2 (by omega)
  have hPBn : PB P f34 q := hPBn.fr hBM hf34 m_q r_q (by decide +kernel) (by decide +kernel) (by decide +kernel)
  have hBM := BM_of h m_q r_q
  have hI : INV L R O P f34 q := hI.most m_q r_q hf34 (by decide +kernel) (by decide +kernel) (by decide +kernel) (by decide +kernel) (by decide +kernel)
  have t_GA : fld f34 rr 0 = .ref GA := (hf34.efl m_rr r_rr (by decide +kernel)).trans t_GA
  have t_GP : fld f34 rr 22 = .ref GP := (hf34.efl m_rr r_rr (by decide +kernel)).trans t_GP
  have t_GL : fld f34 rr 23 = .ref GL := (hf34.efl m_rr r_rr (by decide +kernel)).trans t_GL
  have t_GT : fld f34 rr 6 = .ref GT := (hf34.efl m_rr r_rr (by decide +kernel)).trans t_GT
  have hR : RBA GA f34 := hv35p0
  have hX : GZ GP GL f34 := hv35p1
  have hP : fld f34 (rfa f34 q 6) 16 = V := by rw [hf34.erf m_q r_q (by decide +kernel), hf34.efl hs6m hs6r (by decide +kernel)]; exact hP
  have hs6m : rfa f34 q 6 ∈ L := by rw [hf34.erf m_q r_q (by decide +kernel)]; exact hs6m
  have hs6r : R (rfa f34 q 6) = 7 := by rw [hf34.erf m_q r_q (by decide +kernel)]; exact hs6r
  refine lv_pop F.1 F.2.1 dL_law_1230 rfl ?_
  refine lv_goto (tgt := 1755) F.1 F.2.1 dL_law_1231 (by decide) ?_
  exact kk f34 _ _ _ ⟨h, hI, ⟨t_GA, t_GP, t_GL, t_GT⟩, hR, hX, hP, by omega, by omega, by omega, by omega, by omega, hPBn⟩ hl
set_option maxHeartbeats 4000000 in
set_option maxRecDepth 100000 in
theorem law_c27z {p : Program} {l : Launch} {e : Env} {s : State} {m : MethodId} {below : List Frame} {meth : Method} {c : Code} {H : Heap} {locs : List Loc} {Q : State → Prop} {D : va_G} {cy : Nat → ClassId} {A : Nat → Prop} {L : List Nat} {R O P : Nat → Nat} {f0 : Nat → va_E} {ls : Array Slot} {b N cs sl q rr GA GP GL GT : Nat} {xs : Nat → Int32} {V : Value} (F : CallFix p m c cL_law 4 s #[Value.ref b] wsL_law RL) (hZ : tZ A s s.heap) (hX0 : va_X b N xs s s.heap) (hbl : b < s.heap.size) (hbA : ¬ A b) (hcs : cs ≤ room_1.cells) (hsl : sl ≤ room_1.slots) (hcs3 : cs + 3 ≤ room_1.cells) (hsl3 : sl + 34979 ≤ room_1.slots) (i : Int32) (bi : 0 ≤ i.toInt ∧ i.toInt + 6 ≤ N ∧ N ≤ 3072) (m_q : q ∈ L) (r_q : R q = 11) (m_rr : rr ∈ L) (r_rr : R rr = 12) (m_GA : GA ∈ L) (r_GA : R GA = 61) (m_GP : GP ∈ L) (r_GP : R GP = 69) (m_GL : GL ∈ L) (r_GL : R GL = 70) (m_GT : GT ∈ L) (r_GT : R GT = 64) (hLS : LWS D cy A s L R O P q rr GA GP GL GT V f0 H locs) (hV : V = .null) (hl : lv_has ls 4 [(3, .int i), (2, .ref rr), (1, .ref q), (0, .ref b)]) (kk : ∀ (f1 : Nat → va_E) (H : Heap) (locs : List Loc) (ls : Array Slot), LWS D cy A s L R O P q rr GA GP GL GT V f1 H locs → lv_has ls 4 [(3, .int i), (2, .ref rr), (1, .ref q), (0, .ref b)] → W p l e room_1 s m #[Value.ref b] below meth c H locs cs sl Q (F0 m 1755 ls [])) (kk2 : ∀ (L1 : List Nat) (R1 : Nat → Nat) (f1 : Nat → va_E) (pst : Nat) (H : Heap) (locs : List Loc) (ls : Array Slot), GW L L1 R R1 → pst ∈ L1 → R1 pst = 2 → LWS D cy A s L1 R1 O P q rr GA GP GL GT (.ref pst) f1 H locs → lv_has ls 4 [(3, .int i), (2, .ref rr), (1, .ref q), (0, .ref b)] → W p l e room_1 s m #[Value.ref b] below meth c H locs (cs + 3) (sl + 34979) Q (F0 m 1755 ls [])) : W p l e room_1 s m #[Value.ref b] below meth c H locs cs sl Q (F0 m 1181 ls []) := by
  obtain ⟨h, hI, ⟨t_GA, t_GP, t_GL, t_GT⟩, hR, hX, hP, hMK, hCB, hC0, hC1, hC2, hPB⟩ := hLS
  have hs6m := hI.2.2.1.1
  have hs6r := hI.2.2.1.2
  have hBM := BM_of h m_q r_q
  have hPBn := hPB
  refine lv_aload_n F.1 F.2.1 dL_law_1181 rfl (lv_at hl 2 rfl) ?_
  refine lv_aload_n F.1 F.2.1 dL_law_1182 rfl (lv_at hl 3 rfl) ?_
  refine lv_iload_n F.1 F.2.1 dL_law_1183 rfl (lv_at hl 0 rfl) ?_
  refine tw_iconst F dL_law_1184 ki_1 (fun z1 hz1 => ?_)
  refine tu_iadd F dL_law_1185 (by omega) (fun z2 hz2 => ?_)
  refine va_sld F.1 F.2.1 hX0 hbl hbA h.dd.2.2 (tw_in (by omega) (by omega)) dL_law_1186 ?_
  refine lv_topi (fun z3 qz3 => ?_)
  refine lv_aload_n F.1 F.2.1 dL_law_1187 rfl (lv_at hl 3 rfl) ?_
  refine lv_iload_n F.1 F.2.1 dL_law_1188 rfl (lv_at hl 0 rfl) ?_
  refine tw_iconst F dL_law_1189 ki_2 (fun z4 hz4 => ?_)
  refine tu_iadd F dL_law_1190 (by omega) (fun z5 hz5 => ?_)
  refine va_sld F.1 F.2.1 hX0 hbl hbA h.dd.2.2 (tw_in (by omega) (by omega)) dL_law_1191 ?_
  refine lv_topi (fun z6 qz6 => ?_)
  refine lv_aload_n F.1 F.2.1 dL_law_1192 rfl (lv_at hl 3 rfl) ?_
  refine lv_iload_n F.1 F.2.1 dL_law_1193 rfl (lv_at hl 0 rfl) ?_
  refine tw_iconst F dL_law_1194 ki_3 (fun z7 hz7 => ?_)
  refine tu_iadd F dL_law_1195 (by omega) (fun z8 hz8 => ?_)
  refine va_sld F.1 F.2.1 hX0 hbl hbA h.dd.2.2 (tw_in (by omega) (by omega)) dL_law_1196 ?_
  refine lv_topi (fun z9 qz9 => ?_)
  refine lv_aload_n F.1 F.2.1 dL_law_1197 rfl (lv_at hl 3 rfl) ?_
  refine lv_iload_n F.1 F.2.1 dL_law_1198 rfl (lv_at hl 0 rfl) ?_
  refine tw_iconst F dL_law_1199 ki_4 (fun z10 hz10 => ?_)
  refine tu_iadd F dL_law_1200 (by omega) (fun z11 hz11 => ?_)
  refine va_sld F.1 F.2.1 hX0 hbl hbA h.dd.2.2 (tw_in (by omega) (by omega)) dL_law_1201 ?_
  refine lv_topi (fun z12 qz12 => ?_)
  by_cases hv : (0 ≤ z3.toInt ∧ z3.toInt ≤ 2 ∧ 0 ≤ z6.toInt ∧ z6.toInt ≤ 2 ∧ 0 ≤ z9.toInt ∧ z9.toInt < fi f0 (rfa f0 q 3) 5 ∧ 1 ≤ z12.toInt ∧ z12.toInt ≤ 200)
  · refine tw_ViG (As := [.int z3, .int z6, .int z9, .int z12]) F hZ h yk_X11_face mw_1244 mw_1245 mw_1246 (s_X11_faceV l D cy L R O f0 hI.2.2.2.1 q m_q r_q z3 z6 z9 z12 P hI.pi hI.2.2.2.2.2.2 (hP.trans hV) hv) m_q r_q (fun e q => (T_11 e).mp q) rfl hl.1 rfl (Nat.le_of_ble_eq_true rfl) ⟨Nat.le_of_ble_eq_true rfl, Nat.le_of_ble_eq_true rfl⟩ ⟨hcs3, hsl3⟩ dL_law_1202 (fun r x H locs hp h => ?_)
    obtain ⟨gw, hf, hO, pst, mp, rp, hpp⟩ := hp
    refine lv_pop F.1 F.2.1 dL_law_1205 rfl ?_
    have hI1 : INV x.L x.R O P x.f q := INV.grow gw (hI.ko m_q r_q hf (by decide +kernel) (by decide +kernel) (by decide +kernel) (by decide +kernel) hO)
    exact law_c27b (cs := cs + 3) (sl := sl + 34979) (V := .ref pst) F hZ hX0 hbl hbA hcs3 hsl3 i bi (gw.1 _ m_q).1 ((gw.1 _ m_q).2.trans r_q) (gw.1 _ m_rr).1 ((gw.1 _ m_rr).2.trans r_rr) (gw.1 _ m_GA).1 ((gw.1 _ m_GA).2.trans r_GA) (gw.1 _ m_GP).1 ((gw.1 _ m_GP).2.trans r_GP) (gw.1 _ m_GL).1 ((gw.1 _ m_GL).2.trans r_GL) (gw.1 _ m_GT).1 ((gw.1 _ m_GT).2.trans r_GT) ⟨h, hI1, ⟨(hf.efl m_rr r_rr (by decide +kernel)).trans t_GA, (hf.efl m_rr r_rr (by decide +kernel)).trans t_GP, (hf.efl m_rr r_rr (by decide +kernel)).trans t_GL, (hf.efl m_rr r_rr (by decide +kernel)).trans t_GT⟩, hR.fm hf m_GA r_GA (by decide +kernel), hX.fm hf m_GP r_GP m_GL r_GL (by decide +kernel) (by decide +kernel), by rw [hf.erf m_q r_q (by decide +kernel)]; exact hpp, by have e1 := hf.efi m_q r_q (k := 11) (by decide +kernel); have e2 := hf.efi m_rr r_rr (k := 64) (by decide +kernel); omega, by have e1 := BKc hBM hf m_q r_q (by decide +kernel) (by decide +kernel) (by decide +kernel) (by decide +kernel); have e2 := e1.1; have e3 := hf.eelj m_GA r_GA (by decide +kernel) 5159; omega, by have e1 := BKc hBM hf m_q r_q (by decide +kernel) (by decide +kernel) (by decide +kernel) (by decide +kernel); have e2 := e1.2 0 (by omega); have e3 := hf.eelj m_GA r_GA (by decide +kernel) 10349; omega, by have e1 := BKc hBM hf m_q r_q (by decide +kernel) (by decide +kernel) (by decide +kernel) (by decide +kernel); have e2 := e1.2 1 (by omega); have e3 := hf.eelj m_GA r_GA (by decide +kernel) 15539; omega, by have e1 := BKc hBM hf m_q r_q (by decide +kernel) (by decide +kernel) (by decide +kernel) (by decide +kernel); have e2 := e1.2 2 (by omega); have e3 := hf.eelj m_GA r_GA (by decide +kernel) 20729; omega, hPB.fr hBM hf m_q r_q (by decide +kernel) (by decide +kernel) (by decide +kernel)⟩ hl (fun f1 H locs ls hh hl => kk2 x.L x.R f1 pst H locs ls gw mp rp hh hl)
  · refine tw_Vi (As := [.int z3, .int z6, .int z9, .int z12]) F hZ h yk_X11_face mw_1244 mw_1245 mw_1246 (s_X11_faceR l D cy L R O f0 hI.2.2.2.1 q m_q r_q z3 z6 z9 z12 P hI.pi hI.2.2.2.2.2.2 hv) rfl rfl m_q r_q (fun e q => (T_11 e).mp q) rfl hl.1 rfl (Nat.le_of_ble_eq_true rfl) ⟨Nat.le_of_ble_eq_true rfl, Nat.le_of_ble_eq_true rfl⟩ ⟨hcs, hsl⟩ dL_law_1202 (fun v14 f13 H locs hp13 h => ?_)
    obtain ⟨hf13, hv14p0⟩ := hp13
    have em15 : fi f13 q 11 = fi f0 q 11 := hf13.efi m_q r_q (by decide +kernel)
    have em16 : fi f13 rr 64 = fi f0 rr 64 := hf13.efi m_rr r_rr (by decide +kernel)
    have ek17 := BKc hBM hf13 m_q r_q (by decide +kernel) (by decide +kernel) (by decide +kernel) (by decide +kernel)
    have ek17b := ek17.1
    have ek17x := ek17.2 0 (by omega)
    have ek17y := ek17.2 1 (by omega)
    have ek17z := ek17.2 2 (by omega)
    have ej18 := hf13.eelj m_GA r_GA (by decide +kernel) 5159
    have ej19 := hf13.eelj m_GA r_GA (by decide +kernel) 10349
    have ej20 := hf13.eelj m_GA r_GA (by decide +kernel) 15539
    have ej21 := hf13.eelj m_GA r_GA (by decide +kernel) 20729
    have hPBn : PB P f13 q := hPBn.fr hBM hf13 m_q r_q (by decide +kernel) (by decide +kernel) (by decide +kernel)
    have hBM := BM_of h m_q r_q
    have hI : INV L R O P f13 q := hI.ko m_q r_q hf13 (by decide +kernel) (by decide +kernel) (by decide +kernel) (by decide +kernel) hv14p0
    have t_GA : fld f13 rr 0 = .ref GA := (hf13.efl m_rr r_rr (by decide +kernel)).trans t_GA
    have t_GP : fld f13 rr 22 = .ref GP := (hf13.efl m_rr r_rr (by decide +kernel)).trans t_GP
    have t_GL : fld f13 rr 23 = .ref GL := (hf13.efl m_rr r_rr (by decide +kernel)).trans t_GL
    have t_GT : fld f13 rr 6 = .ref GT := (hf13.efl m_rr r_rr (by decide +kernel)).trans t_GT
    have hR : RBA GA f13 := hR.fm hf13 m_GA r_GA (by decide +kernel)
    have hX : GZ GP GL f13 := hX.fm hf13 m_GP r_GP m_GL r_GL (by decide +kernel) (by decide +kernel)
    have hP : fld f13 (rfa f13 q 6) 16 = V := by rw [hf13.erf m_q r_q (by decide +kernel), hf13.efl hs6m hs6r (by decide +kernel)]; exact hP
    have hs6m : rfa f13 q 6 ∈ L := by rw [hf13.erf m_q r_q (by decide +kernel)]; exact hs6m
    have hs6r : R (rfa f13 q 6) = 7 := by rw [hf13.erf m_q r_q (by decide +kernel)]; exact hs6r
    refine lv_pop F.1 F.2.1 dL_law_1205 rfl ?_
    refine lv_aload_n F.1 F.2.1 dL_law_1206 rfl (lv_at hl 1 rfl) ?_
    refine lv_aload_n F.1 F.2.1 dL_law_1207 rfl (lv_at hl 3 rfl) ?_
    refine lv_iload_n F.1 F.2.1 dL_law_1208 rfl (lv_at hl 0 rfl) ?_
    refine tw_iconst F dL_law_1209 ki_1 (fun z22 hz22 => ?_)
    refine tu_iadd F dL_law_1210 (by omega) (fun z23 hz23 => ?_)
    refine va_sld F.1 F.2.1 hX0 hbl hbA h.dd.2.2 (tw_in (by omega) (by omega)) dL_law_1211 ?_
    refine lv_topi (fun z24 qz24 => ?_)
    obtain rfl : z3 = z24 := by rw [qz3, qz24, show z2 = z23 from Int32.toInt_inj.mp (by omega)]
    refine lv_aload_n F.1 F.2.1 dL_law_1212 rfl (lv_at hl 3 rfl) ?_
    refine lv_iload_n F.1 F.2.1 dL_law_1213 rfl (lv_at hl 0 rfl) ?_
    refine tw_iconst F dL_law_1214 ki_2 (fun z25 hz25 => ?_)
    refine tu_iadd F dL_law_1215 (by omega) (fun z26 hz26 => ?_)
    refine va_sld F.1 F.2.1 hX0 hbl hbA h.dd.2.2 (tw_in (by omega) (by omega)) dL_law_1216 ?_
    refine lv_topi (fun z27 qz27 => ?_)
    obtain rfl : z6 = z27 := by rw [qz6, qz27, show z5 = z26 from Int32.toInt_inj.mp (by omega)]
    refine lv_aload_n F.1 F.2.1 dL_law_1217 rfl (lv_at hl 3 rfl) ?_
    refine lv_iload_n F.1 F.2.1 dL_law_1218 rfl (lv_at hl 0 rfl) ?_
    refine tw_iconst F dL_law_1219 ki_3 (fun z28 hz28 => ?_)
    refine tu_iadd F dL_law_1220 (by omega) (fun z29 hz29 => ?_)
    refine va_sld F.1 F.2.1 hX0 hbl hbA h.dd.2.2 (tw_in (by omega) (by omega)) dL_law_1221 ?_
    refine lv_topi (fun z30 qz30 => ?_)
    obtain rfl : z9 = z30 := by rw [qz9, qz30, show z8 = z29 from Int32.toInt_inj.mp (by omega)]
    refine lv_aload_n F.1 F.2.1 dL_law_1222 rfl (lv_at hl 3 rfl) ?_
    refine lv_iload_n F.1 F.2.1 dL_law_1223 rfl (lv_at hl 0 rfl) ?_
    refine tw_iconst F dL_law_1224 ki_4 (fun z31 hz31 => ?_)
    refine tu_iadd F dL_law_1225 (by omega) (fun z32 hz32 => ?_)
    refine va_sld F.1 F.2.1 hX0 hbl hbA h.dd.2.2 (tw_in (by omega) (by omega)) dL_law_1226 ?_
    refine lv_topi (fun z33 qz33 => ?_)
    obtain rfl : z12 = z33 := by rw [qz12, qz33, show z11 = z32 from Int32.toInt_inj.mp (by omega)]
    refine tw_Vi (As := [.int z3, .int z6, .int z9, .int z12]) F hZ h yk_X12_face mw_1302 mw_1303 mw_1304 (s_X12_faceC l D cy L R O f13 rr m_rr r_rr z3 z6 z9 z12 GA m_GA r_GA t_GA GP m_GP r_GP t_GP GL m_GL r_GL t_GL GT m_GT r_GT t_GT hR hX) rfl rfl m_rr r_rr (fun e q => (T_12 e).mp q) rfl hl.1 rfl (Nat.le_of_ble_eq_true rfl) ⟨Nat.le_of_ble_eq_true rfl, Nat.le_of_ble_eq_true rfl⟩ ⟨hcs, hsl⟩ dL_law_1227 (fun v35 f34 H locs hp34 h => ?_)
    obtain ⟨hf34, hv35p0, hv35p1, hv35p2, hv35p3, hv35p4, hv35p5⟩ := hp34
    have em36 : fi f34 q 11 = fi f13 q 11 := hf34.efi m_q r_q (by decide +kernel)
    have em37 : fi f34 rr 64 = fi f13 rr 64 := hf34.efi m_rr r_rr (by decide +kernel)
    have ek38 := BKc hBM hf34 m_q r_q (by decide +kernel) (by decide +kernel) (by decide +kernel) (by decide +kernel)
    have ek38b := ek38.1
    have ek38x := ek38.2 0 (by omega)
    have ek38y := ek38.2 1 (by omega)
    have ek38z := ek38.2 2 (by omega)
    have hPBn : PB P f34 q := hPBn.fr hBM hf34 m_q r_q (by decide +kernel) (by decide +kernel) (by decide +kernel)
    have hBM := BM_of h m_q r_q
    have hI : INV L R O P f34 q := hI.most m_q r_q hf34 (by decide +kernel) (by decide +kernel) (by decide +kernel) (by decide +kernel) (by decide +kernel)
    have t_GA : fld f34 rr 0 = .ref GA := (hf34.efl m_rr r_rr (by decide +kernel)).trans t_GA
    have t_GP : fld f34 rr 22 = .ref GP := (hf34.efl m_rr r_rr (by decide +kernel)).trans t_GP
    have t_GL : fld f34 rr 23 = .ref GL := (hf34.efl m_rr r_rr (by decide +kernel)).trans t_GL
    have t_GT : fld f34 rr 6 = .ref GT := (hf34.efl m_rr r_rr (by decide +kernel)).trans t_GT
    have hR : RBA GA f34 := hv35p0
    have hX : GZ GP GL f34 := hv35p1
    have hP : fld f34 (rfa f34 q 6) 16 = V := by rw [hf34.erf m_q r_q (by decide +kernel), hf34.efl hs6m hs6r (by decide +kernel)]; exact hP
    have hs6m : rfa f34 q 6 ∈ L := by rw [hf34.erf m_q r_q (by decide +kernel)]; exact hs6m
    have hs6r : R (rfa f34 q 6) = 7 := by rw [hf34.erf m_q r_q (by decide +kernel)]; exact hs6r
    refine lv_pop F.1 F.2.1 dL_law_1230 rfl ?_
    refine lv_goto (tgt := 1755) F.1 F.2.1 dL_law_1231 (by decide) ?_
    exact kk f34 _ _ _ ⟨h, hI, ⟨t_GA, t_GP, t_GL, t_GT⟩, hR, hX, hP, by omega, by omega, by omega, by omega, by omega, hPBn⟩ hl
