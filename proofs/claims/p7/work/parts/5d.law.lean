theorem ki_6 : (Int32.ofInt 6).toInt = 6 := by decide
theorem dL_law_1207 : decode cL_law 1207 = .ok (.aload_n 2, 1) := by decide +kernel
theorem dL_law_1208 : decode cL_law 1208 = .ok (.aload_n 0, 1) := by decide +kernel
theorem dL_law_1209 : decode cL_law 1209 = .ok (.iload_n 3, 1) := by decide +kernel
theorem dL_law_1210 : decode cL_law 1210 = .ok (.iconst 1, 1) := by decide +kernel
theorem dL_law_1211 : decode cL_law 1211 = .ok (.iadd, 1) := by decide +kernel
theorem dL_law_1212 : decode cL_law 1212 = .ok (.iaload, 1) := by decide +kernel
theorem dL_law_1213 : decode cL_law 1213 = .ok (.aload_n 0, 1) := by decide +kernel
theorem dL_law_1214 : decode cL_law 1214 = .ok (.iload_n 3, 1) := by decide +kernel
theorem dL_law_1215 : decode cL_law 1215 = .ok (.iconst 2, 1) := by decide +kernel
theorem dL_law_1216 : decode cL_law 1216 = .ok (.iadd, 1) := by decide +kernel
theorem dL_law_1217 : decode cL_law 1217 = .ok (.iaload, 1) := by decide +kernel
theorem dL_law_1218 : decode cL_law 1218 = .ok (.aload_n 0, 1) := by decide +kernel
theorem dL_law_1219 : decode cL_law 1219 = .ok (.iload_n 3, 1) := by decide +kernel
theorem dL_law_1220 : decode cL_law 1220 = .ok (.iconst 3, 1) := by decide +kernel
theorem dL_law_1221 : decode cL_law 1221 = .ok (.iadd, 1) := by decide +kernel
theorem dL_law_1222 : decode cL_law 1222 = .ok (.iaload, 1) := by decide +kernel
theorem dL_law_1223 : decode cL_law 1223 = .ok (.aload_n 0, 1) := by decide +kernel
theorem dL_law_1224 : decode cL_law 1224 = .ok (.iload_n 3, 1) := by decide +kernel
theorem dL_law_1225 : decode cL_law 1225 = .ok (.iconst 4, 1) := by decide +kernel
theorem dL_law_1226 : decode cL_law 1226 = .ok (.iadd, 1) := by decide +kernel
theorem dL_law_1227 : decode cL_law 1227 = .ok (.iaload, 1) := by decide +kernel
theorem dL_law_1228 : decode cL_law 1228 = .ok (.invokevirtual 141, 3) := by decide +kernel
theorem mw_1302 : Cond.methodLink RL 141 yX12_face ∈ wsL_law := inr_55 _ (List.mem_of_getElem? (i := 6) rfl)
theorem mw_1305 : Cond.code yX12_face cX12_face 8 (some .int) ∈ wsL_law := inr_55 _ (List.mem_of_getElem? (i := 9) rfl)
theorem yk_X12_face : xY yX12_face RX12 cX12_face 8 (some .int) 4 := ⟨⟨rfl, by decide +kernel, by decide +kernel, by decide +kernel⟩, mw_5, mw_1305⟩
theorem mw_1303 : Cond.instanceMethod yX12_face ∈ wsL_law := inr_55 _ (List.mem_of_getElem? (i := 7) rfl)
theorem mw_1304 : Cond.selects RX12 yX12_face yX12_face ∈ wsL_law := inr_55 _ (List.mem_of_getElem? (i := 8) rfl)
theorem dL_law_1231 : decode cL_law 1231 = .ok (.pop, 1) := by decide +kernel
theorem dL_law_1232 : decode cL_law 1232 = .ok (.goto 524, 3) := by decide +kernel
theorem dL_law_1182 : decode cL_law 1182 = .ok (.aload_n 1, 1) := by decide +kernel
theorem dL_law_1183 : decode cL_law 1183 = .ok (.aload_n 0, 1) := by decide +kernel
theorem dL_law_1184 : decode cL_law 1184 = .ok (.iload_n 3, 1) := by decide +kernel
theorem dL_law_1185 : decode cL_law 1185 = .ok (.iconst 1, 1) := by decide +kernel
theorem dL_law_1186 : decode cL_law 1186 = .ok (.iadd, 1) := by decide +kernel
theorem dL_law_1187 : decode cL_law 1187 = .ok (.iaload, 1) := by decide +kernel
theorem dL_law_1188 : decode cL_law 1188 = .ok (.aload_n 0, 1) := by decide +kernel
theorem dL_law_1189 : decode cL_law 1189 = .ok (.iload_n 3, 1) := by decide +kernel
theorem dL_law_1190 : decode cL_law 1190 = .ok (.iconst 2, 1) := by decide +kernel
theorem dL_law_1191 : decode cL_law 1191 = .ok (.iadd, 1) := by decide +kernel
theorem dL_law_1192 : decode cL_law 1192 = .ok (.iaload, 1) := by decide +kernel
theorem dL_law_1193 : decode cL_law 1193 = .ok (.aload_n 0, 1) := by decide +kernel
theorem dL_law_1194 : decode cL_law 1194 = .ok (.iload_n 3, 1) := by decide +kernel
theorem dL_law_1195 : decode cL_law 1195 = .ok (.iconst 3, 1) := by decide +kernel
theorem dL_law_1196 : decode cL_law 1196 = .ok (.iadd, 1) := by decide +kernel
theorem dL_law_1197 : decode cL_law 1197 = .ok (.iaload, 1) := by decide +kernel
theorem dL_law_1198 : decode cL_law 1198 = .ok (.aload_n 0, 1) := by decide +kernel
theorem dL_law_1199 : decode cL_law 1199 = .ok (.iload_n 3, 1) := by decide +kernel
theorem dL_law_1200 : decode cL_law 1200 = .ok (.iconst 4, 1) := by decide +kernel
theorem dL_law_1201 : decode cL_law 1201 = .ok (.iadd, 1) := by decide +kernel
theorem dL_law_1202 : decode cL_law 1202 = .ok (.iaload, 1) := by decide +kernel
theorem dL_law_1203 : decode cL_law 1203 = .ok (.invokevirtual 138, 3) := by decide +kernel
theorem mw_1244 : Cond.methodLink RL 138 yX11_face ∈ wsL_law := inr_52 _ (List.mem_of_getElem? (i := 20) rfl)
theorem mw_1247 : Cond.code yX11_face cX11_face 5 (some .int) ∈ wsL_law := inr_52 _ (List.mem_of_getElem? (i := 23) rfl)
theorem yk_X11_face : xY yX11_face RX11 cX11_face 5 (some .int) 4 := ⟨⟨rfl, by decide +kernel, by decide +kernel, by decide +kernel⟩, mw_2, mw_1247⟩
theorem mw_1245 : Cond.instanceMethod yX11_face ∈ wsL_law := inr_52 _ (List.mem_of_getElem? (i := 21) rfl)
theorem mw_1246 : Cond.selects RX11 yX11_face yX11_face ∈ wsL_law := inr_52 _ (List.mem_of_getElem? (i := 22) rfl)
theorem dL_law_1206 : decode cL_law 1206 = .ok (.pop, 1) := by decide +kernel
set_option maxHeartbeats 4000000 in
set_option maxRecDepth 100000 in
theorem law_c27b {p : Program} {l : Launch} {e : Env} {s : State} {m : MethodId} {below : List Frame} {meth : Method} {c : Code} {H : Heap} {locs : List Loc} {Q : State → Prop} {D : va_G} {cy : Nat → ClassId} {A : Nat → Prop} {L : List Nat} {R O P : Nat → Nat} {f0 : Nat → va_E} {ls : Array Slot} {b N cs sl q rr GA GP GL GT : Nat} {xs : Nat → Int32} {V : Value} (F : CallFix p m c cL_law 4 s #[Value.ref b] wsL_law RL) (hZ : tZ A s s.heap) (hX0 : va_X b N xs s s.heap) (hbl : b < s.heap.size) (hbA : ¬ A b) (hcs : cs ≤ room_1.cells) (hsl : sl ≤ room_1.slots) (i : Int32) (bi : 0 ≤ i.toInt ∧ i.toInt + 6 ≤ N ∧ N ≤ 3072) (m_q : q ∈ L) (r_q : R q = 11) (m_rr : rr ∈ L) (r_rr : R rr = 12) (m_GA : GA ∈ L) (r_GA : R GA = 61) (m_GP : GP ∈ L) (r_GP : R GP = 69) (m_GL : GL ∈ L) (r_GL : R GL = 70) (m_GT : GT ∈ L) (r_GT : R GT = 64) (hLS : LWS D cy A s L R O P q rr GA GP GL GT V f0 H locs) (hl : lv_has ls 4 [(3, .int i), (2, .ref rr), (1, .ref q), (0, .ref b)]) (kk : ∀ (f1 : Nat → va_E) (H : Heap) (locs : List Loc) (ls : Array Slot), LWS D cy A s L R O P q rr GA GP GL GT V f1 H locs → lv_has ls 4 [(3, .int i), (2, .ref rr), (1, .ref q), (0, .ref b)] → W p l e room_1 s m #[Value.ref b] below meth c H locs cs sl Q (F0 m 1756 ls [])) : W p l e room_1 s m #[Value.ref b] below meth c H locs cs sl Q (F0 m 1207 ls []) := by
  obtain ⟨h, hI, ⟨t_GA, t_GP, t_GL, t_GT⟩, hR, hX, hP, hTP, hTR, hTQ, hNR⟩ := hLS
  have hs6m := hI.2.2.1.1
  have hs6r := hI.2.2.1.2
  have hTMc := TMc_of h m_q r_q
  have hTMm := TMm_of h m_rr r_rr
  have hTPn := hTP
  have hTMn := TMn_of h hTMc
  have hTQn := hTQ
  have hCb := CS_le h m_q r_q
  refine lv_aload_n F.1 F.2.1 dL_law_1207 rfl (lv_at hl 1 rfl) ?_
  refine lv_aload_n F.1 F.2.1 dL_law_1208 rfl (lv_at hl 3 rfl) ?_
  refine lv_iload_n F.1 F.2.1 dL_law_1209 rfl (lv_at hl 0 rfl) ?_
  refine tw_iconst F dL_law_1210 ki_1 (fun z1 hz1 => ?_)
  refine tu_iadd F dL_law_1211 (by omega) (fun z2 hz2 => ?_)
  refine va_sld F.1 F.2.1 hX0 hbl hbA h.dd.2.2 (tw_in (by omega) (by omega)) dL_law_1212 ?_
  refine lv_topi (fun z3 qz3 => ?_)
  refine lv_aload_n F.1 F.2.1 dL_law_1213 rfl (lv_at hl 3 rfl) ?_
  refine lv_iload_n F.1 F.2.1 dL_law_1214 rfl (lv_at hl 0 rfl) ?_
  refine tw_iconst F dL_law_1215 ki_2 (fun z4 hz4 => ?_)
  refine tu_iadd F dL_law_1216 (by omega) (fun z5 hz5 => ?_)
  refine va_sld F.1 F.2.1 hX0 hbl hbA h.dd.2.2 (tw_in (by omega) (by omega)) dL_law_1217 ?_
  refine lv_topi (fun z6 qz6 => ?_)
  refine lv_aload_n F.1 F.2.1 dL_law_1218 rfl (lv_at hl 3 rfl) ?_
  refine lv_iload_n F.1 F.2.1 dL_law_1219 rfl (lv_at hl 0 rfl) ?_
  refine tw_iconst F dL_law_1220 ki_3 (fun z7 hz7 => ?_)
  refine tu_iadd F dL_law_1221 (by omega) (fun z8 hz8 => ?_)
  refine va_sld F.1 F.2.1 hX0 hbl hbA h.dd.2.2 (tw_in (by omega) (by omega)) dL_law_1222 ?_
  refine lv_topi (fun z9 qz9 => ?_)
  refine lv_aload_n F.1 F.2.1 dL_law_1223 rfl (lv_at hl 3 rfl) ?_
  refine lv_iload_n F.1 F.2.1 dL_law_1224 rfl (lv_at hl 0 rfl) ?_
  refine tw_iconst F dL_law_1225 ki_4 (fun z10 hz10 => ?_)
  refine tu_iadd F dL_law_1226 (by omega) (fun z11 hz11 => ?_)
  refine va_sld F.1 F.2.1 hX0 hbl hbA h.dd.2.2 (tw_in (by omega) (by omega)) dL_law_1227 ?_
  refine lv_topi (fun z12 qz12 => ?_)
  refine tw_Vi (As := [.int z3, .int z6, .int z9, .int z12]) F hZ h yk_X12_face mw_1302 mw_1303 mw_1304 (s_X12_face l D cy L R O f0 rr m_rr r_rr z3 z6 z9 z12 GA m_GA r_GA t_GA GP m_GP r_GP t_GP GL m_GL r_GL t_GL GT m_GT r_GT t_GT hR hX) rfl rfl m_rr r_rr (fun e q => (T_12 e).mp q) rfl hl.1 rfl (Nat.le_of_ble_eq_true rfl) ⟨Nat.le_of_ble_eq_true rfl, Nat.le_of_ble_eq_true rfl⟩ ⟨hcs, hsl⟩ dL_law_1228 (fun v14 f13 H locs hp13 h => ?_)
  obtain ⟨hf13, hv14p0, hv14p1⟩ := hp13
  have en15a := TNa hTMc hf13 m_q r_q (by decide +kernel) (by decide +kernel) (by decide +kernel)
  have en15c := TNc hTMc hTMn hf13 m_q r_q (by decide +kernel) (by decide +kernel) (by decide +kernel) (by decide +kernel)
  have en15m := TNm t_GT m_GT r_GT hf13 m_rr r_rr (by decide +kernel) (by decide +kernel)
  have et16p := TRp hTMc hf13 m_q r_q (by decide +kernel) (by decide +kernel)
  have et16c := TRc hTMc hf13 m_q r_q (by decide +kernel) (by decide +kernel) (by decide +kernel) (by decide +kernel)
  have et16m := TRm hTMm hf13 m_rr r_rr (by decide +kernel) (by decide +kernel) (by decide +kernel) (by decide +kernel)
  have hTPn : ∀ i, i < 4 → P (trs f13 q i) = i := fun i hi => by rw [et16p i]; exact hTPn i hi
  have hTMc := TMc_of h m_q r_q
  have hTMm := TMm_of h m_rr r_rr
  have hTQn : ∀ i, i < 4 → P (rfa f13 (trs f13 q i) 0) = i := fun i hi => by rw [en15a i hi]; exact hTQn i hi
  have hTMn := TMn_of h hTMc
  have hI : INV L R O P f13 q := hI.most m_q r_q hf13 (by decide +kernel) (by decide +kernel) (by decide +kernel) (by decide +kernel) (by decide +kernel)
  have t_GA : fld f13 rr 0 = .ref GA := (hf13.efl m_rr r_rr (by decide +kernel)).trans t_GA
  have t_GP : fld f13 rr 22 = .ref GP := (hf13.efl m_rr r_rr (by decide +kernel)).trans t_GP
  have t_GL : fld f13 rr 23 = .ref GL := (hf13.efl m_rr r_rr (by decide +kernel)).trans t_GL
  have t_GT : fld f13 rr 6 = .ref GT := (hf13.efl m_rr r_rr (by decide +kernel)).trans t_GT
  have hR : RBA GA f13 := hv14p0
  have hX : GZ GP GL f13 := hv14p1
  have hP : fld f13 (rfa f13 q 6) 16 = V := by rw [hf13.erf m_q r_q (by decide +kernel), hf13.efl hs6m hs6r (by decide +kernel)]; exact hP
  have hs6m : rfa f13 q 6 ∈ L := by rw [hf13.erf m_q r_q (by decide +kernel)]; exact hs6m
  have hs6r : R (rfa f13 q 6) = 7 := by rw [hf13.erf m_q r_q (by decide +kernel)]; exact hs6r
  refine lv_pop F.1 F.2.1 dL_law_1231 rfl ?_
  refine lv_goto (tgt := 1756) F.1 F.2.1 dL_law_1232 (by decide) ?_
  exact kk f13 _ _ _ ⟨h, hI, ⟨t_GA, t_GP, t_GL, t_GT⟩, hR, hX, hP, hTPn, fun i hi => by have q0 := hTR i hi; have q1 := et16c i hi; have q2 := et16m i; omega, hTQn, fun i hi j hj => by have q0 := hTR i hi; have q1 := et16c i hi; have q2 := et16m i; have qb := hCb i hi; have hj6 : j < 60 := (by omega); have n0 := hNR i hi j; have n1 := en15c i hi j; have n2 := en15m i j; omega⟩ hl
set_option maxHeartbeats 4000000 in
set_option maxRecDepth 100000 in
theorem law_c27N {p : Program} {l : Launch} {e : Env} {s : State} {m : MethodId} {below : List Frame} {meth : Method} {c : Code} {H : Heap} {locs : List Loc} {Q : State → Prop} {D : va_G} {cy : Nat → ClassId} {A : Nat → Prop} {L : List Nat} {R O P : Nat → Nat} {f0 : Nat → va_E} {ls : Array Slot} {b N cs sl q rr GA GP GL GT : Nat} {xs : Nat → Int32} {V : Value} (F : CallFix p m c cL_law 4 s #[Value.ref b] wsL_law RL) (hZ : tZ A s s.heap) (hX0 : va_X b N xs s s.heap) (hbl : b < s.heap.size) (hbA : ¬ A b) (hcs : cs ≤ room_1.cells) (hsl : sl ≤ room_1.slots) (i : Int32) (bi : 0 ≤ i.toInt ∧ i.toInt + 6 ≤ N ∧ N ≤ 3072) (m_q : q ∈ L) (r_q : R q = 11) (m_rr : rr ∈ L) (r_rr : R rr = 12) (m_GA : GA ∈ L) (r_GA : R GA = 61) (m_GP : GP ∈ L) (r_GP : R GP = 69) (m_GL : GL ∈ L) (r_GL : R GL = 70) (m_GT : GT ∈ L) (r_GT : R GT = 64) (hLS : LWS D cy A s L R O P q rr GA GP GL GT V f0 H locs) (pst : Nat) (m_pst : pst ∈ L) (r_pst : R pst = 2) (hV : V = .ref pst) (hl : lv_has ls 4 [(3, .int i), (2, .ref rr), (1, .ref q), (0, .ref b)]) (kk : ∀ (f1 : Nat → va_E) (H : Heap) (locs : List Loc) (ls : Array Slot), LWS D cy A s L R O P q rr GA GP GL GT V f1 H locs → lv_has ls 4 [(3, .int i), (2, .ref rr), (1, .ref q), (0, .ref b)] → W p l e room_1 s m #[Value.ref b] below meth c H locs cs sl Q (F0 m 1756 ls [])) : W p l e room_1 s m #[Value.ref b] below meth c H locs cs sl Q (F0 m 1182 ls []) := by
  obtain ⟨h, hI, ⟨t_GA, t_GP, t_GL, t_GT⟩, hR, hX, hP, hTP, hTR, hTQ, hNR⟩ := hLS
  have hs6m := hI.2.2.1.1
  have hs6r := hI.2.2.1.2
  have hTMc := TMc_of h m_q r_q
  have hTMm := TMm_of h m_rr r_rr
  have hTPn := hTP
  have hTMn := TMn_of h hTMc
  have hTQn := hTQ
  have hCb := CS_le h m_q r_q
  refine lv_aload_n F.1 F.2.1 dL_law_1182 rfl (lv_at hl 2 rfl) ?_
  refine lv_aload_n F.1 F.2.1 dL_law_1183 rfl (lv_at hl 3 rfl) ?_
  refine lv_iload_n F.1 F.2.1 dL_law_1184 rfl (lv_at hl 0 rfl) ?_
  refine tw_iconst F dL_law_1185 ki_1 (fun z1 hz1 => ?_)
  refine tu_iadd F dL_law_1186 (by omega) (fun z2 hz2 => ?_)
  refine va_sld F.1 F.2.1 hX0 hbl hbA h.dd.2.2 (tw_in (by omega) (by omega)) dL_law_1187 ?_
  refine lv_topi (fun z3 qz3 => ?_)
  refine lv_aload_n F.1 F.2.1 dL_law_1188 rfl (lv_at hl 3 rfl) ?_
  refine lv_iload_n F.1 F.2.1 dL_law_1189 rfl (lv_at hl 0 rfl) ?_
  refine tw_iconst F dL_law_1190 ki_2 (fun z4 hz4 => ?_)
  refine tu_iadd F dL_law_1191 (by omega) (fun z5 hz5 => ?_)
  refine va_sld F.1 F.2.1 hX0 hbl hbA h.dd.2.2 (tw_in (by omega) (by omega)) dL_law_1192 ?_
  refine lv_topi (fun z6 qz6 => ?_)
  refine lv_aload_n F.1 F.2.1 dL_law_1193 rfl (lv_at hl 3 rfl) ?_
  refine lv_iload_n F.1 F.2.1 dL_law_1194 rfl (lv_at hl 0 rfl) ?_
  refine tw_iconst F dL_law_1195 ki_3 (fun z7 hz7 => ?_)
  refine tu_iadd F dL_law_1196 (by omega) (fun z8 hz8 => ?_)
  refine va_sld F.1 F.2.1 hX0 hbl hbA h.dd.2.2 (tw_in (by omega) (by omega)) dL_law_1197 ?_
  refine lv_topi (fun z9 qz9 => ?_)
  refine lv_aload_n F.1 F.2.1 dL_law_1198 rfl (lv_at hl 3 rfl) ?_
  refine lv_iload_n F.1 F.2.1 dL_law_1199 rfl (lv_at hl 0 rfl) ?_
  refine tw_iconst F dL_law_1200 ki_4 (fun z10 hz10 => ?_)
  refine tu_iadd F dL_law_1201 (by omega) (fun z11 hz11 => ?_)
  refine va_sld F.1 F.2.1 hX0 hbl hbA h.dd.2.2 (tw_in (by omega) (by omega)) dL_law_1202 ?_
  refine lv_topi (fun z12 qz12 => ?_)
  refine tw_Vi (As := [.int z3, .int z6, .int z9, .int z12]) F hZ h yk_X11_face mw_1244 mw_1245 mw_1246 (s_X11_faceN l D cy L R O f0 hI.2.2.2.1 q m_q r_q z3 z6 z9 z12 P pst m_pst r_pst hI.pi hI.2.2.2.2.2.2 (hP.trans hV)) rfl rfl m_q r_q (fun e q => (T_11 e).mp q) rfl hl.1 rfl (Nat.le_of_ble_eq_true rfl) ⟨Nat.le_of_ble_eq_true rfl, Nat.le_of_ble_eq_true rfl⟩ ⟨hcs, hsl⟩ dL_law_1203 (fun v14 f13 H locs hp13 h => ?_)
  obtain ⟨hf13, hv14p0⟩ := hp13
  have en15a := TNa hTMc hf13 m_q r_q (by decide +kernel) (by decide +kernel) (by decide +kernel)
  have en15c := TNc hTMc hTMn hf13 m_q r_q (by decide +kernel) (by decide +kernel) (by decide +kernel) (by decide +kernel)
  have en15m := TNm t_GT m_GT r_GT hf13 m_rr r_rr (by decide +kernel) (by decide +kernel)
  have et16p := TRp hTMc hf13 m_q r_q (by decide +kernel) (by decide +kernel)
  have et16c := TRc hTMc hf13 m_q r_q (by decide +kernel) (by decide +kernel) (by decide +kernel) (by decide +kernel)
  have et16m := TRm hTMm hf13 m_rr r_rr (by decide +kernel) (by decide +kernel) (by decide +kernel) (by decide +kernel)
  have hTPn : ∀ i, i < 4 → P (trs f13 q i) = i := fun i hi => by rw [et16p i]; exact hTPn i hi
  have hTMc := TMc_of h m_q r_q
  have hTMm := TMm_of h m_rr r_rr
  have hTQn : ∀ i, i < 4 → P (rfa f13 (trs f13 q i) 0) = i := fun i hi => by rw [en15a i hi]; exact hTQn i hi
  have hTMn := TMn_of h hTMc
  have hI : INV L R O P f13 q := hI.ko m_q r_q hf13 (by decide +kernel) (by decide +kernel) (by decide +kernel) (by decide +kernel) hv14p0
  have t_GA : fld f13 rr 0 = .ref GA := (hf13.efl m_rr r_rr (by decide +kernel)).trans t_GA
  have t_GP : fld f13 rr 22 = .ref GP := (hf13.efl m_rr r_rr (by decide +kernel)).trans t_GP
  have t_GL : fld f13 rr 23 = .ref GL := (hf13.efl m_rr r_rr (by decide +kernel)).trans t_GL
  have t_GT : fld f13 rr 6 = .ref GT := (hf13.efl m_rr r_rr (by decide +kernel)).trans t_GT
  have hR : RBA GA f13 := hR.fm hf13 m_GA r_GA (by decide +kernel)
  have hX : GZ GP GL f13 := hX.fm hf13 m_GP r_GP m_GL r_GL (by decide +kernel) (by decide +kernel)
  have hP : fld f13 (rfa f13 q 6) 16 = V := by rw [hf13.erf m_q r_q (by decide +kernel), hf13.efl hs6m hs6r (by decide +kernel)]; exact hP
  have hs6m : rfa f13 q 6 ∈ L := by rw [hf13.erf m_q r_q (by decide +kernel)]; exact hs6m
  have hs6r : R (rfa f13 q 6) = 7 := by rw [hf13.erf m_q r_q (by decide +kernel)]; exact hs6r
  refine lv_pop F.1 F.2.1 dL_law_1206 rfl ?_
  refine lv_aload_n F.1 F.2.1 dL_law_1207 rfl (lv_at hl 1 rfl) ?_
  refine lv_aload_n F.1 F.2.1 dL_law_1208 rfl (lv_at hl 3 rfl) ?_
  refine lv_iload_n F.1 F.2.1 dL_law_1209 rfl (lv_at hl 0 rfl) ?_
  refine tw_iconst F dL_law_1210 ki_1 (fun z17 hz17 => ?_)
  refine tu_iadd F dL_law_1211 (by omega) (fun z18 hz18 => ?_)
  refine va_sld F.1 F.2.1 hX0 hbl hbA h.dd.2.2 (tw_in (by omega) (by omega)) dL_law_1212 ?_
  refine lv_topi (fun z19 qz19 => ?_)
  obtain rfl : z3 = z19 := by rw [qz3, qz19, show z2 = z18 from Int32.toInt_inj.mp (by omega)]
  refine lv_aload_n F.1 F.2.1 dL_law_1213 rfl (lv_at hl 3 rfl) ?_
  refine lv_iload_n F.1 F.2.1 dL_law_1214 rfl (lv_at hl 0 rfl) ?_
  refine tw_iconst F dL_law_1215 ki_2 (fun z20 hz20 => ?_)
  refine tu_iadd F dL_law_1216 (by omega) (fun z21 hz21 => ?_)
  refine va_sld F.1 F.2.1 hX0 hbl hbA h.dd.2.2 (tw_in (by omega) (by omega)) dL_law_1217 ?_
  refine lv_topi (fun z22 qz22 => ?_)
  obtain rfl : z6 = z22 := by rw [qz6, qz22, show z5 = z21 from Int32.toInt_inj.mp (by omega)]
  refine lv_aload_n F.1 F.2.1 dL_law_1218 rfl (lv_at hl 3 rfl) ?_
  refine lv_iload_n F.1 F.2.1 dL_law_1219 rfl (lv_at hl 0 rfl) ?_
  refine tw_iconst F dL_law_1220 ki_3 (fun z23 hz23 => ?_)
  refine tu_iadd F dL_law_1221 (by omega) (fun z24 hz24 => ?_)
  refine va_sld F.1 F.2.1 hX0 hbl hbA h.dd.2.2 (tw_in (by omega) (by omega)) dL_law_1222 ?_
  refine lv_topi (fun z25 qz25 => ?_)
  obtain rfl : z9 = z25 := by rw [qz9, qz25, show z8 = z24 from Int32.toInt_inj.mp (by omega)]
  refine lv_aload_n F.1 F.2.1 dL_law_1223 rfl (lv_at hl 3 rfl) ?_
  refine lv_iload_n F.1 F.2.1 dL_law_1224 rfl (lv_at hl 0 rfl) ?_
  refine tw_iconst F dL_law_1225 ki_4 (fun z26 hz26 => ?_)
  refine tu_iadd F dL_law_1226 (by omega) (fun z27 hz27 => ?_)
  refine va_sld F.1 F.2.1 hX0 hbl hbA h.dd.2.2 (tw_in (by omega) (by omega)) dL_law_1227 ?_
  refine lv_topi (fun z28 qz28 => ?_)
  obtain rfl : z12 = z28 := by rw [qz12, qz28, show z11 = z27 from Int32.toInt_inj.mp (by omega)]
  refine tw_Vi (As := [.int z3, .int z6, .int z9, .int z12]) F hZ h yk_X12_face mw_1302 mw_1303 mw_1304 (s_X12_face l D cy L R O f13 rr m_rr r_rr z3 z6 z9 z12 GA m_GA r_GA t_GA GP m_GP r_GP t_GP GL m_GL r_GL t_GL GT m_GT r_GT t_GT hR hX) rfl rfl m_rr r_rr (fun e q => (T_12 e).mp q) rfl hl.1 rfl (Nat.le_of_ble_eq_true rfl) ⟨Nat.le_of_ble_eq_true rfl, Nat.le_of_ble_eq_true rfl⟩ ⟨hcs, hsl⟩ dL_law_1228 (fun v30 f29 H locs hp29 h => ?_)
  obtain ⟨hf29, hv30p0, hv30p1⟩ := hp29
  have en31a := TNa hTMc hf29 m_q r_q (by decide +kernel) (by decide +kernel) (by decide +kernel)
  have en31c := TNc hTMc hTMn hf29 m_q r_q (by decide +kernel) (by decide +kernel) (by decide +kernel) (by decide +kernel)
  have en31m := TNm t_GT m_GT r_GT hf29 m_rr r_rr (by decide +kernel) (by decide +kernel)
  have et32p := TRp hTMc hf29 m_q r_q (by decide +kernel) (by decide +kernel)
  have et32c := TRc hTMc hf29 m_q r_q (by decide +kernel) (by decide +kernel) (by decide +kernel) (by decide +kernel)
  have et32m := TRm hTMm hf29 m_rr r_rr (by decide +kernel) (by decide +kernel) (by decide +kernel) (by decide +kernel)
  have hTPn : ∀ i, i < 4 → P (trs f29 q i) = i := fun i hi => by rw [et32p i]; exact hTPn i hi
  have hTMc := TMc_of h m_q r_q
  have hTMm := TMm_of h m_rr r_rr
  have hTQn : ∀ i, i < 4 → P (rfa f29 (trs f29 q i) 0) = i := fun i hi => by rw [en31a i hi]; exact hTQn i hi
  have hTMn := TMn_of h hTMc
  have hI : INV L R O P f29 q := hI.most m_q r_q hf29 (by decide +kernel) (by decide +kernel) (by decide +kernel) (by decide +kernel) (by decide +kernel)
  have t_GA : fld f29 rr 0 = .ref GA := (hf29.efl m_rr r_rr (by decide +kernel)).trans t_GA
  have t_GP : fld f29 rr 22 = .ref GP := (hf29.efl m_rr r_rr (by decide +kernel)).trans t_GP
  have t_GL : fld f29 rr 23 = .ref GL := (hf29.efl m_rr r_rr (by decide +kernel)).trans t_GL
  have t_GT : fld f29 rr 6 = .ref GT := (hf29.efl m_rr r_rr (by decide +kernel)).trans t_GT
  have hR : RBA GA f29 := hv30p0
  have hX : GZ GP GL f29 := hv30p1
  have hP : fld f29 (rfa f29 q 6) 16 = V := by rw [hf29.erf m_q r_q (by decide +kernel), hf29.efl hs6m hs6r (by decide +kernel)]; exact hP
  have hs6m : rfa f29 q 6 ∈ L := by rw [hf29.erf m_q r_q (by decide +kernel)]; exact hs6m
  have hs6r : R (rfa f29 q 6) = 7 := by rw [hf29.erf m_q r_q (by decide +kernel)]; exact hs6r
  refine lv_pop F.1 F.2.1 dL_law_1231 rfl ?_
  refine lv_goto (tgt := 1756) F.1 F.2.1 dL_law_1232 (by decide) ?_
  exact kk f29 _ _ _ ⟨h, hI, ⟨t_GA, t_GP, t_GL, t_GT⟩, hR, hX, hP, hTPn, fun i hi => by have q0 := hTR i hi; have q1 := et16c i hi; have q2 := et16m i; have q3 := et32c i hi; have q4 := et32m i; omega, hTQn, fun i hi j hj => by have q0 := hTR i hi; have q1 := et16c i hi; have q2 := et16m i; have q3 := et32c i hi; have q4 := et32m i; have qb := hCb i hi; have hj6 : j < 60 := (by omega); have n0 := hNR i hi j; have n1 := en15c i hi j; have n2 := en15m i j; have n3 := en31c i hi j; have n4 := en31m i j; omega⟩ hl
set_option maxHeartbeats 4000000 in
set_option maxRecDepth 100000 in
theorem law_c27z {p : Program} {l : Launch} {e : Env} {s : State} {m : MethodId} {below : List Frame} {meth : Method} {c : Code} {H : Heap} {locs : List Loc} {Q : State → Prop} {D : va_G} {cy : Nat → ClassId} {A : Nat → Prop} {L : List Nat} {R O P : Nat → Nat} {f0 : Nat → va_E} {ls : Array Slot} {b N cs sl q rr GA GP GL GT : Nat} {xs : Nat → Int32} {V : Value} (F : CallFix p m c cL_law 4 s #[Value.ref b] wsL_law RL) (hZ : tZ A s s.heap) (hX0 : va_X b N xs s s.heap) (hbl : b < s.heap.size) (hbA : ¬ A b) (hcs : cs ≤ room_1.cells) (hsl : sl ≤ room_1.slots) (hcs3 : cs + 3 ≤ room_1.cells) (hsl3 : sl + 34979 ≤ room_1.slots) (i : Int32) (bi : 0 ≤ i.toInt ∧ i.toInt + 6 ≤ N ∧ N ≤ 3072) (m_q : q ∈ L) (r_q : R q = 11) (m_rr : rr ∈ L) (r_rr : R rr = 12) (m_GA : GA ∈ L) (r_GA : R GA = 61) (m_GP : GP ∈ L) (r_GP : R GP = 69) (m_GL : GL ∈ L) (r_GL : R GL = 70) (m_GT : GT ∈ L) (r_GT : R GT = 64) (hLS : LWS D cy A s L R O P q rr GA GP GL GT V f0 H locs) (hV : V = .null) (hl : lv_has ls 4 [(3, .int i), (2, .ref rr), (1, .ref q), (0, .ref b)]) (kk : ∀ (f1 : Nat → va_E) (H : Heap) (locs : List Loc) (ls : Array Slot), LWS D cy A s L R O P q rr GA GP GL GT V f1 H locs → lv_has ls 4 [(3, .int i), (2, .ref rr), (1, .ref q), (0, .ref b)] → W p l e room_1 s m #[Value.ref b] below meth c H locs cs sl Q (F0 m 1756 ls [])) (kk2 : ∀ (L1 : List Nat) (R1 : Nat → Nat) (f1 : Nat → va_E) (pst : Nat) (H : Heap) (locs : List Loc) (ls : Array Slot), GW L L1 R R1 → pst ∈ L1 → R1 pst = 2 → LWS D cy A s L1 R1 O P q rr GA GP GL GT (.ref pst) f1 H locs → lv_has ls 4 [(3, .int i), (2, .ref rr), (1, .ref q), (0, .ref b)] → W p l e room_1 s m #[Value.ref b] below meth c H locs (cs + 3) (sl + 34979) Q (F0 m 1756 ls [])) : W p l e room_1 s m #[Value.ref b] below meth c H locs cs sl Q (F0 m 1182 ls []) := by
  obtain ⟨h, hI, ⟨t_GA, t_GP, t_GL, t_GT⟩, hR, hX, hP, hTP, hTR, hTQ, hNR⟩ := hLS
  have hs6m := hI.2.2.1.1
  have hs6r := hI.2.2.1.2
  have hTMc := TMc_of h m_q r_q
  have hTMm := TMm_of h m_rr r_rr
  have hTPn := hTP
  have hTMn := TMn_of h hTMc
  have hTQn := hTQ
  have hCb := CS_le h m_q r_q
  refine lv_aload_n F.1 F.2.1 dL_law_1182 rfl (lv_at hl 2 rfl) ?_
  refine lv_aload_n F.1 F.2.1 dL_law_1183 rfl (lv_at hl 3 rfl) ?_
  refine lv_iload_n F.1 F.2.1 dL_law_1184 rfl (lv_at hl 0 rfl) ?_
  refine tw_iconst F dL_law_1185 ki_1 (fun z1 hz1 => ?_)
  refine tu_iadd F dL_law_1186 (by omega) (fun z2 hz2 => ?_)
  refine va_sld F.1 F.2.1 hX0 hbl hbA h.dd.2.2 (tw_in (by omega) (by omega)) dL_law_1187 ?_
  refine lv_topi (fun z3 qz3 => ?_)
  refine lv_aload_n F.1 F.2.1 dL_law_1188 rfl (lv_at hl 3 rfl) ?_
  refine lv_iload_n F.1 F.2.1 dL_law_1189 rfl (lv_at hl 0 rfl) ?_
  refine tw_iconst F dL_law_1190 ki_2 (fun z4 hz4 => ?_)
  refine tu_iadd F dL_law_1191 (by omega) (fun z5 hz5 => ?_)
  refine va_sld F.1 F.2.1 hX0 hbl hbA h.dd.2.2 (tw_in (by omega) (by omega)) dL_law_1192 ?_
  refine lv_topi (fun z6 qz6 => ?_)
  refine lv_aload_n F.1 F.2.1 dL_law_1193 rfl (lv_at hl 3 rfl) ?_
  refine lv_iload_n F.1 F.2.1 dL_law_1194 rfl (lv_at hl 0 rfl) ?_
  refine tw_iconst F dL_law_1195 ki_3 (fun z7 hz7 => ?_)
  refine tu_iadd F dL_law_1196 (by omega) (fun z8 hz8 => ?_)
  refine va_sld F.1 F.2.1 hX0 hbl hbA h.dd.2.2 (tw_in (by omega) (by omega)) dL_law_1197 ?_
  refine lv_topi (fun z9 qz9 => ?_)
  refine lv_aload_n F.1 F.2.1 dL_law_1198 rfl (lv_at hl 3 rfl) ?_
  refine lv_iload_n F.1 F.2.1 dL_law_1199 rfl (lv_at hl 0 rfl) ?_
  refine tw_iconst F dL_law_1200 ki_4 (fun z10 hz10 => ?_)
  refine tu_iadd F dL_law_1201 (by omega) (fun z11 hz11 => ?_)
  refine va_sld F.1 F.2.1 hX0 hbl hbA h.dd.2.2 (tw_in (by omega) (by omega)) dL_law_1202 ?_
  refine lv_topi (fun z12 qz12 => ?_)
  by_cases hv : (0 ≤ z3.toInt ∧ z3.toInt ≤ 2 ∧ 0 ≤ z6.toInt ∧ z6.toInt ≤ 2 ∧ 0 ≤ z9.toInt ∧ z9.toInt < fi f0 (rfa f0 q 3) 5 ∧ 1 ≤ z12.toInt ∧ z12.toInt ≤ 200)
  · refine tw_ViG (As := [.int z3, .int z6, .int z9, .int z12]) F hZ h yk_X11_face mw_1244 mw_1245 mw_1246 (s_X11_faceV l D cy L R O f0 hI.2.2.2.1 q m_q r_q z3 z6 z9 z12 P hI.pi hI.2.2.2.2.2.2 (hP.trans hV) hv) m_q r_q (fun e q => (T_11 e).mp q) rfl hl.1 rfl (Nat.le_of_ble_eq_true rfl) ⟨Nat.le_of_ble_eq_true rfl, Nat.le_of_ble_eq_true rfl⟩ ⟨hcs3, hsl3⟩ dL_law_1203 (fun r x H locs hp h => ?_)
    obtain ⟨gw, hf, hO, pst, mp, rp, hpp⟩ := hp
    refine lv_pop F.1 F.2.1 dL_law_1206 rfl ?_
    have hI1 : INV x.L x.R O P x.f q := INV.grow gw (hI.ko m_q r_q hf (by decide +kernel) (by decide +kernel) (by decide +kernel) (by decide +kernel) hO)
    exact law_c27b (cs := cs + 3) (sl := sl + 34979) (V := .ref pst) F hZ hX0 hbl hbA hcs3 hsl3 i bi (gw.1 _ m_q).1 ((gw.1 _ m_q).2.trans r_q) (gw.1 _ m_rr).1 ((gw.1 _ m_rr).2.trans r_rr) (gw.1 _ m_GA).1 ((gw.1 _ m_GA).2.trans r_GA) (gw.1 _ m_GP).1 ((gw.1 _ m_GP).2.trans r_GP) (gw.1 _ m_GL).1 ((gw.1 _ m_GL).2.trans r_GL) (gw.1 _ m_GT).1 ((gw.1 _ m_GT).2.trans r_GT) ⟨h, hI1, ⟨(hf.efl m_rr r_rr (by decide +kernel)).trans t_GA, (hf.efl m_rr r_rr (by decide +kernel)).trans t_GP, (hf.efl m_rr r_rr (by decide +kernel)).trans t_GL, (hf.efl m_rr r_rr (by decide +kernel)).trans t_GT⟩, hR.fm hf m_GA r_GA (by decide +kernel), hX.fm hf m_GP r_GP m_GL r_GL (by decide +kernel) (by decide +kernel), by rw [hf.erf m_q r_q (by decide +kernel)]; exact hpp, fun i hi => by rw [TRp hTMc hf m_q r_q (by decide +kernel) (by decide +kernel) i]; exact hTP i hi, fun i hi => by have q0 := hTR i hi; have q1 := TRc hTMc hf m_q r_q (by decide +kernel) (by decide +kernel) (by decide +kernel) (by decide +kernel) i hi; have q2 := TRm hTMm hf m_rr r_rr (by decide +kernel) (by decide +kernel) (by decide +kernel) (by decide +kernel) i; omega, fun i hi => by rw [TNa hTMc hf m_q r_q (by decide +kernel) (by decide +kernel) (by decide +kernel) i hi]; exact hTQ i hi, fun i hi j hj => by have q1 := TRc hTMc hf m_q r_q (by decide +kernel) (by decide +kernel) (by decide +kernel) (by decide +kernel) i hi; have n0 := hNR i hi j; have n1 := TNc hTMc hTMn hf m_q r_q (by decide +kernel) (by decide +kernel) (by decide +kernel) (by decide +kernel) i hi j; have n2 := TNm t_GT m_GT r_GT hf m_rr r_rr (by decide +kernel) (by decide +kernel) i j; omega⟩ hl (fun f1 H locs ls hh hl => kk2 x.L x.R f1 pst H locs ls gw mp rp hh hl)
  · refine tw_Vi (As := [.int z3, .int z6, .int z9, .int z12]) F hZ h yk_X11_face mw_1244 mw_1245 mw_1246 (s_X11_faceR l D cy L R O f0 hI.2.2.2.1 q m_q r_q z3 z6 z9 z12 P hI.pi hI.2.2.2.2.2.2 hv) rfl rfl m_q r_q (fun e q => (T_11 e).mp q) rfl hl.1 rfl (Nat.le_of_ble_eq_true rfl) ⟨Nat.le_of_ble_eq_true rfl, Nat.le_of_ble_eq_true rfl⟩ ⟨hcs, hsl⟩ dL_law_1203 (fun v14 f13 H locs hp13 h => ?_)
    obtain ⟨hf13, hv14p0⟩ := hp13
    have en15a := TNa hTMc hf13 m_q r_q (by decide +kernel) (by decide +kernel) (by decide +kernel)
    have en15c := TNc hTMc hTMn hf13 m_q r_q (by decide +kernel) (by decide +kernel) (by decide +kernel) (by decide +kernel)
    have en15m := TNm t_GT m_GT r_GT hf13 m_rr r_rr (by decide +kernel) (by decide +kernel)
    have et16p := TRp hTMc hf13 m_q r_q (by decide +kernel) (by decide +kernel)
    have et16c := TRc hTMc hf13 m_q r_q (by decide +kernel) (by decide +kernel) (by decide +kernel) (by decide +kernel)
    have et16m := TRm hTMm hf13 m_rr r_rr (by decide +kernel) (by decide +kernel) (by decide +kernel) (by decide +kernel)
    have hTPn : ∀ i, i < 4 → P (trs f13 q i) = i := fun i hi => by rw [et16p i]; exact hTPn i hi
    have hTMc := TMc_of h m_q r_q
    have hTMm := TMm_of h m_rr r_rr
    have hTQn : ∀ i, i < 4 → P (rfa f13 (trs f13 q i) 0) = i := fun i hi => by rw [en15a i hi]; exact hTQn i hi
    have hTMn := TMn_of h hTMc
    have hI : INV L R O P f13 q := hI.ko m_q r_q hf13 (by decide +kernel) (by decide +kernel) (by decide +kernel) (by decide +kernel) hv14p0
    have t_GA : fld f13 rr 0 = .ref GA := (hf13.efl m_rr r_rr (by decide +kernel)).trans t_GA
    have t_GP : fld f13 rr 22 = .ref GP := (hf13.efl m_rr r_rr (by decide +kernel)).trans t_GP
    have t_GL : fld f13 rr 23 = .ref GL := (hf13.efl m_rr r_rr (by decide +kernel)).trans t_GL
    have t_GT : fld f13 rr 6 = .ref GT := (hf13.efl m_rr r_rr (by decide +kernel)).trans t_GT
    have hR : RBA GA f13 := hR.fm hf13 m_GA r_GA (by decide +kernel)
    have hX : GZ GP GL f13 := hX.fm hf13 m_GP r_GP m_GL r_GL (by decide +kernel) (by decide +kernel)
    have hP : fld f13 (rfa f13 q 6) 16 = V := by rw [hf13.erf m_q r_q (by decide +kernel), hf13.efl hs6m hs6r (by decide +kernel)]; exact hP
    have hs6m : rfa f13 q 6 ∈ L := by rw [hf13.erf m_q r_q (by decide +kernel)]; exact hs6m
    have hs6r : R (rfa f13 q 6) = 7 := by rw [hf13.erf m_q r_q (by decide +kernel)]; exact hs6r
    refine lv_pop F.1 F.2.1 dL_law_1206 rfl ?_
    refine lv_aload_n F.1 F.2.1 dL_law_1207 rfl (lv_at hl 1 rfl) ?_
    refine lv_aload_n F.1 F.2.1 dL_law_1208 rfl (lv_at hl 3 rfl) ?_
    refine lv_iload_n F.1 F.2.1 dL_law_1209 rfl (lv_at hl 0 rfl) ?_
    refine tw_iconst F dL_law_1210 ki_1 (fun z17 hz17 => ?_)
    refine tu_iadd F dL_law_1211 (by omega) (fun z18 hz18 => ?_)
    refine va_sld F.1 F.2.1 hX0 hbl hbA h.dd.2.2 (tw_in (by omega) (by omega)) dL_law_1212 ?_
    refine lv_topi (fun z19 qz19 => ?_)
    obtain rfl : z3 = z19 := by rw [qz3, qz19, show z2 = z18 from Int32.toInt_inj.mp (by omega)]
    refine lv_aload_n F.1 F.2.1 dL_law_1213 rfl (lv_at hl 3 rfl) ?_
    refine lv_iload_n F.1 F.2.1 dL_law_1214 rfl (lv_at hl 0 rfl) ?_
    refine tw_iconst F dL_law_1215 ki_2 (fun z20 hz20 => ?_)
    refine tu_iadd F dL_law_1216 (by omega) (fun z21 hz21 => ?_)
    refine va_sld F.1 F.2.1 hX0 hbl hbA h.dd.2.2 (tw_in (by omega) (by omega)) dL_law_1217 ?_
    refine lv_topi (fun z22 qz22 => ?_)
    obtain rfl : z6 = z22 := by rw [qz6, qz22, show z5 = z21 from Int32.toInt_inj.mp (by omega)]
    refine lv_aload_n F.1 F.2.1 dL_law_1218 rfl (lv_at hl 3 rfl) ?_
    refine lv_iload_n F.1 F.2.1 dL_law_1219 rfl (lv_at hl 0 rfl) ?_
    refine tw_iconst F dL_law_1220 ki_3 (fun z23 hz23 => ?_)
    refine tu_iadd F dL_law_1221 (by omega) (fun z24 hz24 => ?_)
    refine va_sld F.1 F.2.1 hX0 hbl hbA h.dd.2.2 (tw_in (by omega) (by omega)) dL_law_1222 ?_
    refine lv_topi (fun z25 qz25 => ?_)
    obtain rfl : z9 = z25 := by rw [qz9, qz25, show z8 = z24 from Int32.toInt_inj.mp (by omega)]
    refine lv_aload_n F.1 F.2.1 dL_law_1223 rfl (lv_at hl 3 rfl) ?_
    refine lv_iload_n F.1 F.2.1 dL_law_1224 rfl (lv_at hl 0 rfl) ?_
    refine tw_iconst F dL_law_1225 ki_4 (fun z26 hz26 => ?_)
    refine tu_iadd F dL_law_1226 (by omega) (fun z27 hz27 => ?_)
    refine va_sld F.1 F.2.1 hX0 hbl hbA h.dd.2.2 (tw_in (by omega) (by omega)) dL_law_1227 ?_
    refine lv_topi (fun z28 qz28 => ?_)
    obtain rfl : z12 = z28 := by rw [qz12, qz28, show z11 = z27 from Int32.toInt_inj.mp (by omega)]
    refine tw_Vi (As := [.int z3, .int z6, .int z9, .int z12]) F hZ h yk_X12_face mw_1302 mw_1303 mw_1304 (s_X12_face l D cy L R O f13 rr m_rr r_rr z3 z6 z9 z12 GA m_GA r_GA t_GA GP m_GP r_GP t_GP GL m_GL r_GL t_GL GT m_GT r_GT t_GT hR hX) rfl rfl m_rr r_rr (fun e q => (T_12 e).mp q) rfl hl.1 rfl (Nat.le_of_ble_eq_true rfl) ⟨Nat.le_of_ble_eq_true rfl, Nat.le_of_ble_eq_true rfl⟩ ⟨hcs, hsl⟩ dL_law_1228 (fun v30 f29 H locs hp29 h => ?_)
    obtain ⟨hf29, hv30p0, hv30p1⟩ := hp29
    have en31a := TNa hTMc hf29 m_q r_q (by decide +kernel) (by decide +kernel) (by decide +kernel)
    have en31c := TNc hTMc hTMn hf29 m_q r_q (by decide +kernel) (by decide +kernel) (by decide +kernel) (by decide +kernel)
    have en31m := TNm t_GT m_GT r_GT hf29 m_rr r_rr (by decide +kernel) (by decide +kernel)
    have et32p := TRp hTMc hf29 m_q r_q (by decide +kernel) (by decide +kernel)
    have et32c := TRc hTMc hf29 m_q r_q (by decide +kernel) (by decide +kernel) (by decide +kernel) (by decide +kernel)
    have et32m := TRm hTMm hf29 m_rr r_rr (by decide +kernel) (by decide +kernel) (by decide +kernel) (by decide +kernel)
    have hTPn : ∀ i, i < 4 → P (trs f29 q i) = i := fun i hi => by rw [et32p i]; exact hTPn i hi
    have hTMc := TMc_of h m_q r_q
    have hTMm := TMm_of h m_rr r_rr
    have hTQn : ∀ i, i < 4 → P (rfa f29 (trs f29 q i) 0) = i := fun i hi => by rw [en31a i hi]; exact hTQn i hi
    have hTMn := TMn_of h hTMc
    have hI : INV L R O P f29 q := hI.most m_q r_q hf29 (by decide +kernel) (by decide +kernel) (by decide +kernel) (by decide +kernel) (by decide +kernel)
    have t_GA : fld f29 rr 0 = .ref GA := (hf29.efl m_rr r_rr (by decide +kernel)).trans t_GA
    have t_GP : fld f29 rr 22 = .ref GP := (hf29.efl m_rr r_rr (by decide +kernel)).trans t_GP
    have t_GL : fld f29 rr 23 = .ref GL := (hf29.efl m_rr r_rr (by decide +kernel)).trans t_GL
    have t_GT : fld f29 rr 6 = .ref GT := (hf29.efl m_rr r_rr (by decide +kernel)).trans t_GT
    have hR : RBA GA f29 := hv30p0
    have hX : GZ GP GL f29 := hv30p1
    have hP : fld f29 (rfa f29 q 6) 16 = V := by rw [hf29.erf m_q r_q (by decide +kernel), hf29.efl hs6m hs6r (by decide +kernel)]; exact hP
    have hs6m : rfa f29 q 6 ∈ L := by rw [hf29.erf m_q r_q (by decide +kernel)]; exact hs6m
    have hs6r : R (rfa f29 q 6) = 7 := by rw [hf29.erf m_q r_q (by decide +kernel)]; exact hs6r
    refine lv_pop F.1 F.2.1 dL_law_1231 rfl ?_
    refine lv_goto (tgt := 1756) F.1 F.2.1 dL_law_1232 (by decide) ?_
    exact kk f29 _ _ _ ⟨h, hI, ⟨t_GA, t_GP, t_GL, t_GT⟩, hR, hX, hP, hTPn, fun i hi => by have q0 := hTR i hi; have q1 := et16c i hi; have q2 := et16m i; have q3 := et32c i hi; have q4 := et32m i; omega, hTQn, fun i hi j hj => by have q0 := hTR i hi; have q1 := et16c i hi; have q2 := et16m i; have q3 := et32c i hi; have q4 := et32m i; have qb := hCb i hi; have hj6 : j < 60 := (by omega); have n0 := hNR i hi j; have n1 := en15c i hi j; have n2 := en15m i j; have n3 := en31c i hi j; have n4 := en31m i j; omega⟩ hl
