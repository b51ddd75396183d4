def LWS (D : va_G) (cy : Nat → ClassId) (A : Nat → Prop) (s : State) (L : List Nat) (R O P : Nat → Nat) (q rr GA GP GL GT : Nat) (V : Value) (f : Nat → va_E) (H : Heap) (locs : List Loc) : Prop := tS D cy A s.heap L R (TT cy L R) f s H locs ∧ INV L R O P f q ∧ (fld f rr 0 = .ref GA ∧ fld f rr 22 = .ref GP ∧ fld f rr 23 = .ref GL ∧ fld f rr 6 = .ref GT) ∧ RBA GA f ∧ GZ GP GL f ∧ fld f (rfa f q 6) 16 = V ∧ (∀ i, i < 4 → P (trs f q i) = i) ∧ (∀ i, i < 4 → CS f q i = MS f rr i ∧ CT f q i = MT f rr i) ∧ (∀ i, i < 4 → P (rfa f (trs f q i) 0) = i) ∧ (∀ i, i < 4 → ∀ j : Nat, (j : Int) < CS f q i → CN f q i j = MN f rr i j)
theorem dL_law_220 : decode cL_law 220 = .ok (.aload_n 1, 1) := by decide +kernel
theorem dL_law_221 : decode cL_law 221 = .ok (.invokevirtual 13, 3) := by decide +kernel
theorem mw_238 : Cond.methodLink RL 13 yX11_status ∈ wsL_law := inr_10 _ (List.mem_of_getElem? (i := 22) rfl)
theorem mw_241 : Cond.code yX11_status cX11_status 1 (some .int) ∈ wsL_law := inr_11 _ (List.mem_of_getElem? (i := 1) rfl)
theorem yk_X11_status : xY yX11_status RX11 cX11_status 1 (some .int) 0 := ⟨⟨rfl, by decide +kernel, by decide +kernel, by decide +kernel⟩, mw_2, mw_241⟩
theorem mw_239 : Cond.instanceMethod yX11_status ∈ wsL_law := inr_10 _ (List.mem_of_getElem? (i := 23) rfl)
theorem mw_240 : Cond.selects RX11 yX11_status yX11_status ∈ wsL_law := inr_11 _ (List.mem_of_getElem? (i := 0) rfl)
theorem dL_law_224 : decode cL_law 224 = .ok (.pop, 1) := by decide +kernel
theorem dL_law_225 : decode cL_law 225 = .ok (.aload_n 2, 1) := by decide +kernel
theorem dL_law_226 : decode cL_law 226 = .ok (.invokevirtual 17, 3) := by decide +kernel
theorem mw_242 : Cond.methodLink RL 17 yX12_status ∈ wsL_law := inr_11 _ (List.mem_of_getElem? (i := 2) rfl)
theorem mw_245 : Cond.code yX12_status cX12_status 1 (some .int) ∈ wsL_law := inr_11 _ (List.mem_of_getElem? (i := 5) rfl)
theorem yk_X12_status : xY yX12_status RX12 cX12_status 1 (some .int) 0 := ⟨⟨rfl, by decide +kernel, by decide +kernel, by decide +kernel⟩, mw_5, mw_245⟩
theorem mw_243 : Cond.instanceMethod yX12_status ∈ wsL_law := inr_11 _ (List.mem_of_getElem? (i := 3) rfl)
theorem mw_244 : Cond.selects RX12 yX12_status yX12_status ∈ wsL_law := inr_11 _ (List.mem_of_getElem? (i := 4) rfl)
theorem dL_law_229 : decode cL_law 229 = .ok (.pop, 1) := by decide +kernel
theorem dL_law_230 : decode cL_law 230 = .ok (.goto 1526, 3) := by decide +kernel
set_option maxHeartbeats 4000000 in
set_option maxRecDepth 100000 in
theorem law_c0 {p : Program} {l : Launch} {e : Env} {s : State} {m : MethodId} {below : List Frame} {meth : Method} {c : Code} {H : Heap} {locs : List Loc} {Q : State → Prop} {D : va_G} {cy : Nat → ClassId} {A : Nat → Prop} {L : List Nat} {R O P : Nat → Nat} {f0 : Nat → va_E} {ls : Array Slot} {b N cs sl q rr GA GP GL GT : Nat} {xs : Nat → Int32} {V : Value} (F : CallFix p m c cL_law 4 s #[Value.ref b] wsL_law RL) (hZ : tZ A s s.heap) (hX0 : va_X b N xs s s.heap) (hbl : b < s.heap.size) (hbA : ¬ A b) (hcs : cs ≤ room_1.cells) (hsl : sl ≤ room_1.slots) (i : Int32) (bi : 0 ≤ i.toInt ∧ i.toInt + 6 ≤ N ∧ N ≤ 3072) (m_q : q ∈ L) (r_q : R q = 11) (m_rr : rr ∈ L) (r_rr : R rr = 12) (m_GA : GA ∈ L) (r_GA : R GA = 61) (m_GP : GP ∈ L) (r_GP : R GP = 69) (m_GL : GL ∈ L) (r_GL : R GL = 70) (m_GT : GT ∈ L) (r_GT : R GT = 64) (hLS : LWS D cy A s L R O P q rr GA GP GL GT V f0 H locs) (hl : lv_has ls 4 [(3, .int i), (2, .ref rr), (1, .ref q), (0, .ref b)]) (kk : ∀ (f1 : Nat → va_E) (H : Heap) (locs : List Loc) (ls : Array Slot), LWS D cy A s L R O P q rr GA GP GL GT V f1 H locs → lv_has ls 4 [(3, .int i), (2, .ref rr), (1, .ref q), (0, .ref b)] → W p l e room_1 s m #[Value.ref b] below meth c H locs cs sl Q (F0 m 1756 ls [])) : W p l e room_1 s m #[Value.ref b] below meth c H locs cs sl Q (F0 m 220 ls []) := by
  obtain ⟨h, hI, ⟨t_GA, t_GP, t_GL, t_GT⟩, hR, hX, hP, hTP, hTR, hTQ, hNR⟩ := hLS
  have hs6m := hI.2.2.1.1
  have hs6r := hI.2.2.1.2
  have hTMc := TMc_of h m_q r_q
  have hTMm := TMm_of h m_rr r_rr
  have hTPn := hTP
  have hTMn := TMn_of h hTMc
  have hTQn := hTQ
  have hCb := CS_le h m_q r_q
  refine lv_aload_n F.1 F.2.1 dL_law_220 rfl (lv_at hl 2 rfl) ?_
  refine tw_Vi (As := []) F hZ h yk_X11_status mw_238 mw_239 mw_240 (s_X11_status l D cy L R O f0 q m_q r_q) rfl rfl m_q r_q (fun e q => (T_11 e).mp q) rfl hl.1 rfl (Nat.le_of_ble_eq_true rfl) ⟨Nat.le_of_ble_eq_true rfl, Nat.le_of_ble_eq_true rfl⟩ ⟨hcs, hsl⟩ dL_law_221 (fun v2 f1 H locs hp1 h => ?_)
  obtain rfl := hp1
  refine lv_pop F.1 F.2.1 dL_law_224 rfl ?_
  refine lv_aload_n F.1 F.2.1 dL_law_225 rfl (lv_at hl 1 rfl) ?_
  refine tw_Vi (As := []) F hZ h yk_X12_status mw_242 mw_243 mw_244 (s_X12_status l D cy L R O f0 rr m_rr r_rr) rfl rfl m_rr r_rr (fun e q => (T_12 e).mp q) rfl hl.1 rfl (Nat.le_of_ble_eq_true rfl) ⟨Nat.le_of_ble_eq_true rfl, Nat.le_of_ble_eq_true rfl⟩ ⟨hcs, hsl⟩ dL_law_226 (fun v4 f3 H locs hp3 h => ?_)
  obtain rfl := hp3
  refine lv_pop F.1 F.2.1 dL_law_229 rfl ?_
  refine lv_goto (tgt := 1756) F.1 F.2.1 dL_law_230 (by decide) ?_
  exact kk f0 _ _ _ ⟨h, hI, ⟨t_GA, t_GP, t_GL, t_GT⟩, hR, hX, hP, hTPn, fun i hi => by have q0 := hTR i hi; omega, hTQn, fun i hi j hj => by have q0 := hTR i hi; have qb := hCb i hi; have hj6 : j < 60 := (by omega); have n0 := hNR i hi j; omega⟩ hl
theorem dL_law_233 : decode cL_law 233 = .ok (.aload_n 1, 1) := by decide +kernel
theorem dL_law_234 : decode cL_law 234 = .ok (.invokevirtual 18, 3) := by decide +kernel
theorem mw_247 : Cond.methodLink RL 18 yX11_top ∈ wsL_law := inr_11 _ (List.mem_of_getElem? (i := 7) rfl)
theorem mw_250 : Cond.code yX11_top cX11_top 1 (some .long) ∈ wsL_law := inr_11 _ (List.mem_of_getElem? (i := 10) rfl)
theorem yk_X11_top : xY yX11_top RX11 cX11_top 1 (some .long) 0 := ⟨⟨rfl, by decide +kernel, by decide +kernel, by decide +kernel⟩, mw_2, mw_250⟩
theorem mw_248 : Cond.instanceMethod yX11_top ∈ wsL_law := inr_11 _ (List.mem_of_getElem? (i := 8) rfl)
theorem mw_249 : Cond.selects RX11 yX11_top yX11_top ∈ wsL_law := inr_11 _ (List.mem_of_getElem? (i := 9) rfl)
theorem dL_law_237 : decode cL_law 237 = .ok (.pop2, 1) := by decide +kernel
theorem dL_law_238 : decode cL_law 238 = .ok (.aload_n 2, 1) := by decide +kernel
theorem dL_law_239 : decode cL_law 239 = .ok (.invokevirtual 22, 3) := by decide +kernel
theorem mw_251 : Cond.methodLink RL 22 yX12_top ∈ wsL_law := inr_11 _ (List.mem_of_getElem? (i := 11) rfl)
theorem mw_254 : Cond.code yX12_top cX12_top 1 (some .long) ∈ wsL_law := inr_11 _ (List.mem_of_getElem? (i := 14) rfl)
theorem yk_X12_top : xY yX12_top RX12 cX12_top 1 (some .long) 0 := ⟨⟨rfl, by decide +kernel, by decide +kernel, by decide +kernel⟩, mw_5, mw_254⟩
theorem mw_252 : Cond.instanceMethod yX12_top ∈ wsL_law := inr_11 _ (List.mem_of_getElem? (i := 12) rfl)
theorem mw_253 : Cond.selects RX12 yX12_top yX12_top ∈ wsL_law := inr_11 _ (List.mem_of_getElem? (i := 13) rfl)
theorem dL_law_242 : decode cL_law 242 = .ok (.pop2, 1) := by decide +kernel
theorem dL_law_243 : decode cL_law 243 = .ok (.goto 1513, 3) := by decide +kernel
set_option maxHeartbeats 4000000 in
set_option maxRecDepth 100000 in
theorem law_c1 {p : Program} {l : Launch} {e : Env} {s : State} {m : MethodId} {below : List Frame} {meth : Method} {c : Code} {H : Heap} {locs : List Loc} {Q : State → Prop} {D : va_G} {cy : Nat → ClassId} {A : Nat → Prop} {L : List Nat} {R O P : Nat → Nat} {f0 : Nat → va_E} {ls : Array Slot} {b N cs sl q rr GA GP GL GT : Nat} {xs : Nat → Int32} {V : Value} (F : CallFix p m c cL_law 4 s #[Value.ref b] wsL_law RL) (hZ : tZ A s s.heap) (hX0 : va_X b N xs s s.heap) (hbl : b < s.heap.size) (hbA : ¬ A b) (hcs : cs ≤ room_1.cells) (hsl : sl ≤ room_1.slots) (i : Int32) (bi : 0 ≤ i.toInt ∧ i.toInt + 6 ≤ N ∧ N ≤ 3072) (m_q : q ∈ L) (r_q : R q = 11) (m_rr : rr ∈ L) (r_rr : R rr = 12) (m_GA : GA ∈ L) (r_GA : R GA = 61) (m_GP : GP ∈ L) (r_GP : R GP = 69) (m_GL : GL ∈ L) (r_GL : R GL = 70) (m_GT : GT ∈ L) (r_GT : R GT = 64) (hLS : LWS D cy A s L R O P q rr GA GP GL GT V f0 H locs) (hl : lv_has ls 4 [(3, .int i), (2, .ref rr), (1, .ref q), (0, .ref b)]) (kk : ∀ (f1 : Nat → va_E) (H : Heap) (locs : List Loc) (ls : Array Slot), LWS D cy A s L R O P q rr GA GP GL GT V f1 H locs → lv_has ls 4 [(3, .int i), (2, .ref rr), (1, .ref q), (0, .ref b)] → W p l e room_1 s m #[Value.ref b] below meth c H locs cs sl Q (F0 m 1756 ls [])) : W p l e room_1 s m #[Value.ref b] below meth c H locs cs sl Q (F0 m 233 ls []) := by
  obtain ⟨h, hI, ⟨t_GA, t_GP, t_GL, t_GT⟩, hR, hX, hP, hTP, hTR, hTQ, hNR⟩ := hLS
  have hs6m := hI.2.2.1.1
  have hs6r := hI.2.2.1.2
  have hTMc := TMc_of h m_q r_q
  have hTMm := TMm_of h m_rr r_rr
  have hTPn := hTP
  have hTMn := TMn_of h hTMc
  have hTQn := hTQ
  have hCb := CS_le h m_q r_q
  refine lv_aload_n F.1 F.2.1 dL_law_233 rfl (lv_at hl 2 rfl) ?_
  refine tw_Vl (As := []) F hZ h yk_X11_top mw_247 mw_248 mw_249 (s_X11_top l D cy L R O f0 q m_q r_q) rfl rfl m_q r_q (fun e q => (T_11 e).mp q) rfl hl.1 rfl (Nat.le_of_ble_eq_true rfl) ⟨Nat.le_of_ble_eq_true rfl, Nat.le_of_ble_eq_true rfl⟩ ⟨hcs, hsl⟩ dL_law_234 (fun v2 f1 H locs hp1 h => ?_)
  obtain rfl := hp1
  refine lv_pop2_2 F.1 F.2.1 dL_law_237 rfl ?_
  refine lv_aload_n F.1 F.2.1 dL_law_238 rfl (lv_at hl 1 rfl) ?_
  refine tw_Vl (As := []) F hZ h yk_X12_top mw_251 mw_252 mw_253 (s_X12_top l D cy L R O f0 rr m_rr r_rr) rfl rfl m_rr r_rr (fun e q => (T_12 e).mp q) rfl hl.1 rfl (Nat.le_of_ble_eq_true rfl) ⟨Nat.le_of_ble_eq_true rfl, Nat.le_of_ble_eq_true rfl⟩ ⟨hcs, hsl⟩ dL_law_239 (fun v4 f3 H locs hp3 h => ?_)
  obtain rfl := hp3
  refine lv_pop2_2 F.1 F.2.1 dL_law_242 rfl ?_
  refine lv_goto (tgt := 1756) F.1 F.2.1 dL_law_243 (by decide) ?_
  exact kk f0 _ _ _ ⟨h, hI, ⟨t_GA, t_GP, t_GL, t_GT⟩, hR, hX, hP, hTPn, fun i hi => by have q0 := hTR i hi; omega, hTQn, fun i hi j hj => by have q0 := hTR i hi; have qb := hCb i hi; have hj6 : j < 60 := (by omega); have n0 := hNR i hi j; omega⟩ hl
theorem dL_law_246 : decode cL_law 246 = .ok (.aload_n 1, 1) := by decide +kernel
theorem dL_law_247 : decode cL_law 247 = .ok (.invokevirtual 23, 3) := by decide +kernel
theorem mw_256 : Cond.methodLink RL 23 yX11_bottom ∈ wsL_law := inr_11 _ (List.mem_of_getElem? (i := 16) rfl)
theorem mw_259 : Cond.code yX11_bottom cX11_bottom 1 (some .long) ∈ wsL_law := inr_11 _ (List.mem_of_getElem? (i := 19) rfl)
theorem yk_X11_bottom : xY yX11_bottom RX11 cX11_bottom 1 (some .long) 0 := ⟨⟨rfl, by decide +kernel, by decide +kernel, by decide +kernel⟩, mw_2, mw_259⟩
theorem mw_257 : Cond.instanceMethod yX11_bottom ∈ wsL_law := inr_11 _ (List.mem_of_getElem? (i := 17) rfl)
theorem mw_258 : Cond.selects RX11 yX11_bottom yX11_bottom ∈ wsL_law := inr_11 _ (List.mem_of_getElem? (i := 18) rfl)
theorem dL_law_250 : decode cL_law 250 = .ok (.pop2, 1) := by decide +kernel
theorem dL_law_251 : decode cL_law 251 = .ok (.aload_n 2, 1) := by decide +kernel
theorem dL_law_252 : decode cL_law 252 = .ok (.invokevirtual 26, 3) := by decide +kernel
theorem mw_260 : Cond.methodLink RL 26 yX12_bottom ∈ wsL_law := inr_11 _ (List.mem_of_getElem? (i := 20) rfl)
theorem mw_263 : Cond.code yX12_bottom cX12_bottom 1 (some .long) ∈ wsL_law := inr_11 _ (List.mem_of_getElem? (i := 23) rfl)
theorem yk_X12_bottom : xY yX12_bottom RX12 cX12_bottom 1 (some .long) 0 := ⟨⟨rfl, by decide +kernel, by decide +kernel, by decide +kernel⟩, mw_5, mw_263⟩
theorem mw_261 : Cond.instanceMethod yX12_bottom ∈ wsL_law := inr_11 _ (List.mem_of_getElem? (i := 21) rfl)
theorem mw_262 : Cond.selects RX12 yX12_bottom yX12_bottom ∈ wsL_law := inr_11 _ (List.mem_of_getElem? (i := 22) rfl)
theorem dL_law_255 : decode cL_law 255 = .ok (.pop2, 1) := by decide +kernel
theorem dL_law_256 : decode cL_law 256 = .ok (.goto 1500, 3) := by decide +kernel
set_option maxHeartbeats 4000000 in
set_option maxRecDepth 100000 in
theorem law_c2 {p : Program} {l : Launch} {e : Env} {s : State} {m : MethodId} {below : List Frame} {meth : Method} {c : Code} {H : Heap} {locs : List Loc} {Q : State → Prop} {D : va_G} {cy : Nat → ClassId} {A : Nat → Prop} {L : List Nat} {R O P : Nat → Nat} {f0 : Nat → va_E} {ls : Array Slot} {b N cs sl q rr GA GP GL GT : Nat} {xs : Nat → Int32} {V : Value} (F : CallFix p m c cL_law 4 s #[Value.ref b] wsL_law RL) (hZ : tZ A s s.heap) (hX0 : va_X b N xs s s.heap) (hbl : b < s.heap.size) (hbA : ¬ A b) (hcs : cs ≤ room_1.cells) (hsl : sl ≤ room_1.slots) (i : Int32) (bi : 0 ≤ i.toInt ∧ i.toInt + 6 ≤ N ∧ N ≤ 3072) (m_q : q ∈ L) (r_q : R q = 11) (m_rr : rr ∈ L) (r_rr : R rr = 12) (m_GA : GA ∈ L) (r_GA : R GA = 61) (m_GP : GP ∈ L) (r_GP : R GP = 69) (m_GL : GL ∈ L) (r_GL : R GL = 70) (m_GT : GT ∈ L) (r_GT : R GT = 64) (hLS : LWS D cy A s L R O P q rr GA GP GL GT V f0 H locs) (hl : lv_has ls 4 [(3, .int i), (2, .ref rr), (1, .ref q), (0, .ref b)]) (kk : ∀ (f1 : Nat → va_E) (H : Heap) (locs : List Loc) (ls : Array Slot), LWS D cy A s L R O P q rr GA GP GL GT V f1 H locs → lv_has ls 4 [(3, .int i), (2, .ref rr), (1, .ref q), (0, .ref b)] → W p l e room_1 s m #[Value.ref b] below meth c H locs cs sl Q (F0 m 1756 ls [])) : W p l e room_1 s m #[Value.ref b] below meth c H locs cs sl Q (F0 m 246 ls []) := by
  obtain ⟨h, hI, ⟨t_GA, t_GP, t_GL, t_GT⟩, hR, hX, hP, hTP, hTR, hTQ, hNR⟩ := hLS
  have hs6m := hI.2.2.1.1
  have hs6r := hI.2.2.1.2
  have hTMc := TMc_of h m_q r_q
  have hTMm := TMm_of h m_rr r_rr
  have hTPn := hTP
  have hTMn := TMn_of h hTMc
  have hTQn := hTQ
  have hCb := CS_le h m_q r_q
  refine lv_aload_n F.1 F.2.1 dL_law_246 rfl (lv_at hl 2 rfl) ?_
  refine tw_Vl (As := []) F hZ h yk_X11_bottom mw_256 mw_257 mw_258 (s_X11_bottom l D cy L R O f0 q m_q r_q) rfl rfl m_q r_q (fun e q => (T_11 e).mp q) rfl hl.1 rfl (Nat.le_of_ble_eq_true rfl) ⟨Nat.le_of_ble_eq_true rfl, Nat.le_of_ble_eq_true rfl⟩ ⟨hcs, hsl⟩ dL_law_247 (fun v2 f1 H locs hp1 h => ?_)
  obtain rfl := hp1
  refine lv_pop2_2 F.1 F.2.1 dL_law_250 rfl ?_
  refine lv_aload_n F.1 F.2.1 dL_law_251 rfl (lv_at hl 1 rfl) ?_
  refine tw_Vl (As := []) F hZ h yk_X12_bottom mw_260 mw_261 mw_262 (s_X12_bottom l D cy L R O f0 rr m_rr r_rr) rfl rfl m_rr r_rr (fun e q => (T_12 e).mp q) rfl hl.1 rfl (Nat.le_of_ble_eq_true rfl) ⟨Nat.le_of_ble_eq_true rfl, Nat.le_of_ble_eq_true rfl⟩ ⟨hcs, hsl⟩ dL_law_252 (fun v4 f3 H locs hp3 h => ?_)
  obtain rfl := hp3
  refine lv_pop2_2 F.1 F.2.1 dL_law_255 rfl ?_
  refine lv_goto (tgt := 1756) F.1 F.2.1 dL_law_256 (by decide) ?_
  exact kk f0 _ _ _ ⟨h, hI, ⟨t_GA, t_GP, t_GL, t_GT⟩, hR, hX, hP, hTPn, fun i hi => by have q0 := hTR i hi; omega, hTQn, fun i hi j hj => by have q0 := hTR i hi; have qb := hCb i hi; have hj6 : j < 60 := (by omega); have n0 := hNR i hi j; omega⟩ hl
theorem dL_law_259 : decode cL_law 259 = .ok (.aload_n 1, 1) := by decide +kernel
theorem dL_law_260 : decode cL_law 260 = .ok (.aload_n 0, 1) := by decide +kernel
theorem dL_law_261 : decode cL_law 261 = .ok (.iload_n 3, 1) := by decide +kernel
theorem dL_law_262 : decode cL_law 262 = .ok (.iconst 1, 1) := by decide +kernel
theorem dL_law_263 : decode cL_law 263 = .ok (.iadd, 1) := by decide +kernel
theorem dL_law_264 : decode cL_law 264 = .ok (.iaload, 1) := by decide +kernel
theorem dL_law_265 : decode cL_law 265 = .ok (.aload_n 0, 1) := by decide +kernel
theorem dL_law_266 : decode cL_law 266 = .ok (.iload_n 3, 1) := by decide +kernel
theorem dL_law_267 : decode cL_law 267 = .ok (.iconst 2, 1) := by decide +kernel
theorem dL_law_268 : decode cL_law 268 = .ok (.iadd, 1) := by decide +kernel
theorem dL_law_269 : decode cL_law 269 = .ok (.iaload, 1) := by decide +kernel
theorem dL_law_270 : decode cL_law 270 = .ok (.aload_n 0, 1) := by decide +kernel
theorem dL_law_271 : decode cL_law 271 = .ok (.iload_n 3, 1) := by decide +kernel
theorem dL_law_272 : decode cL_law 272 = .ok (.iconst 3, 1) := by decide +kernel
theorem dL_law_273 : decode cL_law 273 = .ok (.iadd, 1) := by decide +kernel
theorem dL_law_274 : decode cL_law 274 = .ok (.iaload, 1) := by decide +kernel
theorem dL_law_275 : decode cL_law 275 = .ok (.invokevirtual 27, 3) := by decide +kernel
theorem mw_264 : Cond.methodLink RL 27 yX11_tray ∈ wsL_law := inr_12 _ (List.mem_of_getElem? (i := 0) rfl)
theorem mw_267 : Cond.code yX11_tray cX11_tray 4 (some .boolean) ∈ wsL_law := inr_12 _ (List.mem_of_getElem? (i := 3) rfl)
theorem yk_X11_tray : xY yX11_tray RX11 cX11_tray 4 (some .boolean) 3 := ⟨⟨rfl, by decide +kernel, by decide +kernel, by decide +kernel⟩, mw_2, mw_267⟩
theorem mw_265 : Cond.instanceMethod yX11_tray ∈ wsL_law := inr_12 _ (List.mem_of_getElem? (i := 1) rfl)
theorem mw_266 : Cond.selects RX11 yX11_tray yX11_tray ∈ wsL_law := inr_12 _ (List.mem_of_getElem? (i := 2) rfl)
theorem dL_law_278 : decode cL_law 278 = .ok (.pop, 1) := by decide +kernel
theorem dL_law_279 : decode cL_law 279 = .ok (.aload_n 2, 1) := by decide +kernel
theorem dL_law_280 : decode cL_law 280 = .ok (.aload_n 0, 1) := by decide +kernel
theorem dL_law_281 : decode cL_law 281 = .ok (.iload_n 3, 1) := by decide +kernel
theorem dL_law_282 : decode cL_law 282 = .ok (.iconst 1, 1) := by decide +kernel
theorem dL_law_283 : decode cL_law 283 = .ok (.iadd, 1) := by decide +kernel
theorem dL_law_284 : decode cL_law 284 = .ok (.iaload, 1) := by decide +kernel
theorem dL_law_285 : decode cL_law 285 = .ok (.aload_n 0, 1) := by decide +kernel
theorem dL_law_286 : decode cL_law 286 = .ok (.iload_n 3, 1) := by decide +kernel
theorem dL_law_287 : decode cL_law 287 = .ok (.iconst 2, 1) := by decide +kernel
theorem dL_law_288 : decode cL_law 288 = .ok (.iadd, 1) := by decide +kernel
theorem dL_law_289 : decode cL_law 289 = .ok (.iaload, 1) := by decide +kernel
theorem dL_law_290 : decode cL_law 290 = .ok (.aload_n 0, 1) := by decide +kernel
theorem dL_law_291 : decode cL_law 291 = .ok (.iload_n 3, 1) := by decide +kernel
theorem dL_law_292 : decode cL_law 292 = .ok (.iconst 3, 1) := by decide +kernel
theorem dL_law_293 : decode cL_law 293 = .ok (.iadd, 1) := by decide +kernel
theorem dL_law_294 : decode cL_law 294 = .ok (.iaload, 1) := by decide +kernel
theorem dL_law_295 : decode cL_law 295 = .ok (.invokevirtual 31, 3) := by decide +kernel
theorem mw_279 : Cond.methodLink RL 31 yX12_tray ∈ wsL_law := inr_12 _ (List.mem_of_getElem? (i := 15) rfl)
theorem mw_282 : Cond.code yX12_tray cX12_tray 5 (some .boolean) ∈ wsL_law := inr_12 _ (List.mem_of_getElem? (i := 18) rfl)
theorem yk_X12_tray : xY yX12_tray RX12 cX12_tray 5 (some .boolean) 3 := ⟨⟨rfl, by decide +kernel, by decide +kernel, by decide +kernel⟩, mw_5, mw_282⟩
theorem mw_280 : Cond.instanceMethod yX12_tray ∈ wsL_law := inr_12 _ (List.mem_of_getElem? (i := 16) rfl)
theorem mw_281 : Cond.selects RX12 yX12_tray yX12_tray ∈ wsL_law := inr_12 _ (List.mem_of_getElem? (i := 17) rfl)
theorem dL_law_298 : decode cL_law 298 = .ok (.pop, 1) := by decide +kernel
theorem dL_law_299 : decode cL_law 299 = .ok (.goto 1457, 3) := by decide +kernel
set_option maxHeartbeats 4000000 in
set_option maxRecDepth 100000 in
theorem law_c3 {p : Program} {l : Launch} {e : Env} {s : State} {m : MethodId} {below : List Frame} {meth : Method} {c : Code} {H : Heap} {locs : List Loc} {Q : State → Prop} {D : va_G} {cy : Nat → ClassId} {A : Nat → Prop} {L : List Nat} {R O P : Nat → Nat} {f0 : Nat → va_E} {ls : Array Slot} {b N cs sl q rr GA GP GL GT : Nat} {xs : Nat → Int32} {V : Value} (F : CallFix p m c cL_law 4 s #[Value.ref b] wsL_law RL) (hZ : tZ A s s.heap) (hX0 : va_X b N xs s s.heap) (hbl : b < s.heap.size) (hbA : ¬ A b) (hcs : cs ≤ room_1.cells) (hsl : sl ≤ room_1.slots) (i : Int32) (bi : 0 ≤ i.toInt ∧ i.toInt + 6 ≤ N ∧ N ≤ 3072) (m_q : q ∈ L) (r_q : R q = 11) (m_rr : rr ∈ L) (r_rr : R rr = 12) (m_GA : GA ∈ L) (r_GA : R GA = 61) (m_GP : GP ∈ L) (r_GP : R GP = 69) (m_GL : GL ∈ L) (r_GL : R GL = 70) (m_GT : GT ∈ L) (r_GT : R GT = 64) (hLS : LWS D cy A s L R O P q rr GA GP GL GT V f0 H locs) (hl : lv_has ls 4 [(3, .int i), (2, .ref rr), (1, .ref q), (0, .ref b)]) (kk : ∀ (f1 : Nat → va_E) (H : Heap) (locs : List Loc) (ls : Array Slot), LWS D cy A s L R O P q rr GA GP GL GT V f1 H locs → lv_has ls 4 [(3, .int i), (2, .ref rr), (1, .ref q), (0, .ref b)] → W p l e room_1 s m #[Value.ref b] below meth c H locs cs sl Q (F0 m 1756 ls [])) : W p l e room_1 s m #[Value.ref b] below meth c H locs cs sl Q (F0 m 259 ls []) := by
  obtain ⟨h, hI, ⟨t_GA, t_GP, t_GL, t_GT⟩, hR, hX, hP, hTP, hTR, hTQ, hNR⟩ := hLS
  have hs6m := hI.2.2.1.1
  have hs6r := hI.2.2.1.2
  have hTMc := TMc_of h m_q r_q
  have hTMm := TMm_of h m_rr r_rr
  have hTPn := hTP
  have hTMn := TMn_of h hTMc
  have hTQn := hTQ
  have hCb := CS_le h m_q r_q
  refine lv_aload_n F.1 F.2.1 dL_law_259 rfl (lv_at hl 2 rfl) ?_
  refine lv_aload_n F.1 F.2.1 dL_law_260 rfl (lv_at hl 3 rfl) ?_
  refine lv_iload_n F.1 F.2.1 dL_law_261 rfl (lv_at hl 0 rfl) ?_
  refine tw_iconst F dL_law_262 ki_1 (fun z1 hz1 => ?_)
  refine tu_iadd F dL_law_263 (by omega) (fun z2 hz2 => ?_)
  refine va_sld F.1 F.2.1 hX0 hbl hbA h.dd.2.2 (tw_in (by omega) (by omega)) dL_law_264 ?_
  refine lv_topi (fun z3 qz3 => ?_)
  refine lv_aload_n F.1 F.2.1 dL_law_265 rfl (lv_at hl 3 rfl) ?_
  refine lv_iload_n F.1 F.2.1 dL_law_266 rfl (lv_at hl 0 rfl) ?_
  refine tw_iconst F dL_law_267 ki_2 (fun z4 hz4 => ?_)
  refine tu_iadd F dL_law_268 (by omega) (fun z5 hz5 => ?_)
  refine va_sld F.1 F.2.1 hX0 hbl hbA h.dd.2.2 (tw_in (by omega) (by omega)) dL_law_269 ?_
  refine lv_topi (fun z6 qz6 => ?_)
  refine lv_aload_n F.1 F.2.1 dL_law_270 rfl (lv_at hl 3 rfl) ?_
  refine lv_iload_n F.1 F.2.1 dL_law_271 rfl (lv_at hl 0 rfl) ?_
  refine tw_iconst F dL_law_272 ki_3 (fun z7 hz7 => ?_)
  refine tu_iadd F dL_law_273 (by omega) (fun z8 hz8 => ?_)
  refine va_sld F.1 F.2.1 hX0 hbl hbA h.dd.2.2 (tw_in (by omega) (by omega)) dL_law_274 ?_
  refine lv_topi (fun z9 qz9 => ?_)
  refine tw_Vi (As := [.int z3, .int z6, .int z9]) F hZ h yk_X11_tray mw_264 mw_265 mw_266 (s_X11_trayZ l D cy L R O f0 q m_q r_q z3 z6 z9 P hTPn hTQn) rfl rfl m_q r_q (fun e q => (T_11 e).mp q) rfl hl.1 rfl (Nat.le_of_ble_eq_true rfl) ⟨Nat.le_of_ble_eq_true rfl, Nat.le_of_ble_eq_true rfl⟩ ⟨hcs, hsl⟩ dL_law_275 (fun v11 f10 H locs hp10 h => ?_)
  obtain ⟨hf10, hv11a, hv11b, hv11p0, hv11p1, hv11p2⟩ := hp10
  have en12a := TNa hTMc hf10 m_q r_q (by decide +kernel) (by decide +kernel) (by decide +kernel)
  have en12m := TNm t_GT m_GT r_GT hf10 m_rr r_rr (by decide +kernel) (by decide +kernel)
  have et13p := TRp hTMc hf10 m_q r_q (by decide +kernel) (by decide +kernel)
  have et13m := TRm hTMm hf10 m_rr r_rr (by decide +kernel) (by decide +kernel) (by decide +kernel) (by decide +kernel)
  have hTPn : ∀ i, i < 4 → P (trs f10 q i) = i := fun i hi => by rw [et13p i]; exact hTPn i hi
  have hTMc := TMc_of h m_q r_q
  have hTMm := TMm_of h m_rr r_rr
  have hTQn : ∀ i, i < 4 → P (rfa f10 (trs f10 q i) 0) = i := fun i hi => by rw [en12a i hi]; exact hTQn i hi
  have hTMn := TMn_of h hTMc
  have hI : INV L R O P f10 q := hI.most m_q r_q hf10 (by decide +kernel) (by decide +kernel) (by decide +kernel) (by decide +kernel) (by decide +kernel)
  have t_GA : fld f10 rr 0 = .ref GA := (hf10.efl m_rr r_rr (by decide +kernel)).trans t_GA
  have t_GP : fld f10 rr 22 = .ref GP := (hf10.efl m_rr r_rr (by decide +kernel)).trans t_GP
  have t_GL : fld f10 rr 23 = .ref GL := (hf10.efl m_rr r_rr (by decide +kernel)).trans t_GL
  have t_GT : fld f10 rr 6 = .ref GT := (hf10.efl m_rr r_rr (by decide +kernel)).trans t_GT
  have hR : RBA GA f10 := hR.fm hf10 m_GA r_GA (by decide +kernel)
  have hX : GZ GP GL f10 := hX.fm hf10 m_GP r_GP m_GL r_GL (by decide +kernel) (by decide +kernel)
  have hP : fld f10 (rfa f10 q 6) 16 = V := by rw [hf10.erf m_q r_q (by decide +kernel), hf10.efl hs6m hs6r (by decide +kernel)]; exact hP
  have hs6m : rfa f10 q 6 ∈ L := by rw [hf10.erf m_q r_q (by decide +kernel)]; exact hs6m
  have hs6r : R (rfa f10 q 6) = 7 := by rw [hf10.erf m_q r_q (by decide +kernel)]; exact hs6r
  refine lv_pop F.1 F.2.1 dL_law_278 rfl ?_
  refine lv_aload_n F.1 F.2.1 dL_law_279 rfl (lv_at hl 1 rfl) ?_
  refine lv_aload_n F.1 F.2.1 dL_law_280 rfl (lv_at hl 3 rfl) ?_
  refine lv_iload_n F.1 F.2.1 dL_law_281 rfl (lv_at hl 0 rfl) ?_
  refine tw_iconst F dL_law_282 ki_1 (fun z14 hz14 => ?_)
  refine tu_iadd F dL_law_283 (by omega) (fun z15 hz15 => ?_)
  refine va_sld F.1 F.2.1 hX0 hbl hbA h.dd.2.2 (tw_in (by omega) (by omega)) dL_law_284 ?_
  refine lv_topi (fun z16 qz16 => ?_)
  obtain rfl : z3 = z16 := by rw [qz3, qz16, show z2 = z15 from Int32.toInt_inj.mp (by omega)]
  refine lv_aload_n F.1 F.2.1 dL_law_285 rfl (lv_at hl 3 rfl) ?_
  refine lv_iload_n F.1 F.2.1 dL_law_286 rfl (lv_at hl 0 rfl) ?_
  refine tw_iconst F dL_law_287 ki_2 (fun z17 hz17 => ?_)
  refine tu_iadd F dL_law_288 (by omega) (fun z18 hz18 => ?_)
  refine va_sld F.1 F.2.1 hX0 hbl hbA h.dd.2.2 (tw_in (by omega) (by omega)) dL_law_289 ?_
  refine lv_topi (fun z19 qz19 => ?_)
  obtain rfl : z6 = z19 := by rw [qz6, qz19, show z5 = z18 from Int32.toInt_inj.mp (by omega)]
  refine lv_aload_n F.1 F.2.1 dL_law_290 rfl (lv_at hl 3 rfl) ?_
  refine lv_iload_n F.1 F.2.1 dL_law_291 rfl (lv_at hl 0 rfl) ?_
  refine tw_iconst F dL_law_292 ki_3 (fun z20 hz20 => ?_)
  refine tu_iadd F dL_law_293 (by omega) (fun z21 hz21 => ?_)
  refine va_sld F.1 F.2.1 hX0 hbl hbA h.dd.2.2 (tw_in (by omega) (by omega)) dL_law_294 ?_
  refine lv_topi (fun z22 qz22 => ?_)
  obtain rfl : z9 = z22 := by rw [qz9, qz22, show z8 = z21 from Int32.toInt_inj.mp (by omega)]
  refine tw_Vi (As := [.int z3, .int z6, .int z9]) F hZ h yk_X12_tray mw_279 mw_280 mw_281 (s_X12_trayZ l D cy L R O f10 rr m_rr r_rr z3 z6 z9) rfl rfl m_rr r_rr (fun e q => (T_12 e).mp q) rfl hl.1 rfl (Nat.le_of_ble_eq_true rfl) ⟨Nat.le_of_ble_eq_true rfl, Nat.le_of_ble_eq_true rfl⟩ ⟨hcs, hsl⟩ dL_law_295 (fun v24 f23 H locs hp23 h => ?_)
  obtain ⟨hf23, hv24a, hv24b, hv24p0, hv24p1, hv24p2⟩ := hp23
  have en25a := TNa hTMc hf23 m_q r_q (by decide +kernel) (by decide +kernel) (by decide +kernel)
  have en25c := TNc hTMc hTMn hf23 m_q r_q (by decide +kernel) (by decide +kernel) (by decide +kernel) (by decide +kernel)
  have et26p := TRp hTMc hf23 m_q r_q (by decide +kernel) (by decide +kernel)
  have et26c := TRc hTMc hf23 m_q r_q (by decide +kernel) (by decide +kernel) (by decide +kernel) (by decide +kernel)
  have hTPn : ∀ i, i < 4 → P (trs f23 q i) = i := fun i hi => by rw [et26p i]; exact hTPn i hi
  have hTMc := TMc_of h m_q r_q
  have hTMm := TMm_of h m_rr r_rr
  have hTQn : ∀ i, i < 4 → P (rfa f23 (trs f23 q i) 0) = i := fun i hi => by rw [en25a i hi]; exact hTQn i hi
  have hTMn := TMn_of h hTMc
  have hI : INV L R O P f23 q := hI.most m_q r_q hf23 (by decide +kernel) (by decide +kernel) (by decide +kernel) (by decide +kernel) (by decide +kernel)
  have t_GA : fld f23 rr 0 = .ref GA := (hf23.efl m_rr r_rr (by decide +kernel)).trans t_GA
  have t_GP : fld f23 rr 22 = .ref GP := (hf23.efl m_rr r_rr (by decide +kernel)).trans t_GP
  have t_GL : fld f23 rr 23 = .ref GL := (hf23.efl m_rr r_rr (by decide +kernel)).trans t_GL
  have t_GT : fld f23 rr 6 = .ref GT := (hf23.efl m_rr r_rr (by decide +kernel)).trans t_GT
  have hR : RBA GA f23 := hR.fm hf23 m_GA r_GA (by decide +kernel)
  have hX : GZ GP GL f23 := hX.fm hf23 m_GP r_GP m_GL r_GL (by decide +kernel) (by decide +kernel)
  have hP : fld f23 (rfa f23 q 6) 16 = V := by rw [hf23.erf m_q r_q (by decide +kernel), hf23.efl hs6m hs6r (by decide +kernel)]; exact hP
  have hs6m : rfa f23 q 6 ∈ L := by rw [hf23.erf m_q r_q (by decide +kernel)]; exact hs6m
  have hs6r : R (rfa f23 q 6) = 7 := by rw [hf23.erf m_q r_q (by decide +kernel)]; exact hs6r
  refine lv_pop F.1 F.2.1 dL_law_298 rfl ?_
  refine lv_goto (tgt := 1756) F.1 F.2.1 dL_law_299 (by decide) ?_
  exact kk f23 _ _ _ ⟨h, hI, ⟨t_GA, t_GP, t_GL, t_GT⟩, hR, hX, hP, hTPn, fun i hi => by have q0 := hTR i hi; have q1 := et13m i; have q2 := hv11p1 i hi; have q3 := et26c i hi; have q4 := hv24p1 i hi; omega, hTQn, fun i hi j hj => by have q0 := hTR i hi; have q1 := et13m i; have q2 := hv11p1 i hi; have q3 := et26c i hi; have q4 := hv24p1 i hi; have qb := hCb i hi; have hj6 : j < 60 := (by omega); have n0 := hNR i hi j; have n1 := en12m i j; have n2 := hv11p2 i hi j hj6; have n3 := en25c i hi j; have n4 := hv24p2 i hi j hj6; omega⟩ hl
theorem dL_law_302 : decode cL_law 302 = .ok (.aload_n 1, 1) := by decide +kernel
theorem dL_law_303 : decode cL_law 303 = .ok (.aload_n 0, 1) := by decide +kernel
theorem dL_law_304 : decode cL_law 304 = .ok (.iload_n 3, 1) := by decide +kernel
theorem dL_law_305 : decode cL_law 305 = .ok (.iconst 1, 1) := by decide +kernel
theorem dL_law_306 : decode cL_law 306 = .ok (.iadd, 1) := by decide +kernel
theorem dL_law_307 : decode cL_law 307 = .ok (.iaload, 1) := by decide +kernel
theorem dL_law_308 : decode cL_law 308 = .ok (.aload_n 0, 1) := by decide +kernel
theorem dL_law_309 : decode cL_law 309 = .ok (.iload_n 3, 1) := by decide +kernel
theorem dL_law_310 : decode cL_law 310 = .ok (.iconst 2, 1) := by decide +kernel
theorem dL_law_311 : decode cL_law 311 = .ok (.iadd, 1) := by decide +kernel
theorem dL_law_312 : decode cL_law 312 = .ok (.iaload, 1) := by decide +kernel
theorem dL_law_313 : decode cL_law 313 = .ok (.aload_n 0, 1) := by decide +kernel
theorem dL_law_314 : decode cL_law 314 = .ok (.iload_n 3, 1) := by decide +kernel
theorem dL_law_315 : decode cL_law 315 = .ok (.iconst 3, 1) := by decide +kernel
theorem dL_law_316 : decode cL_law 316 = .ok (.iadd, 1) := by decide +kernel
theorem dL_law_317 : decode cL_law 317 = .ok (.iaload, 1) := by decide +kernel
theorem dL_law_318 : decode cL_law 318 = .ok (.i2l, 1) := by decide +kernel
theorem dL_law_319 : decode cL_law 319 = .ok (.bipush 32, 2) := by decide +kernel
theorem dL_law_321 : decode cL_law 321 = .ok (.lshl, 1) := by decide +kernel
theorem dL_law_322 : decode cL_law 322 = .ok (.aload_n 0, 1) := by decide +kernel
theorem dL_law_323 : decode cL_law 323 = .ok (.iload_n 3, 1) := by decide +kernel
theorem dL_law_324 : decode cL_law 324 = .ok (.iconst 4, 1) := by decide +kernel
theorem dL_law_325 : decode cL_law 325 = .ok (.iadd, 1) := by decide +kernel
theorem dL_law_326 : decode cL_law 326 = .ok (.iaload, 1) := by decide +kernel
theorem dL_law_327 : decode cL_law 327 = .ok (.i2l, 1) := by decide +kernel
theorem dL_law_328 : decode cL_law 328 = .ok (.ldc2_w 32, 3) := by decide +kernel
theorem mw_6 : Cond.constantLong RL 32 (4294967295) ∈ wsL_law := inr_1 _ (List.mem_of_getElem? (i := 6) rfl)
theorem dL_law_331 : decode cL_law 331 = .ok (.land, 1) := by decide +kernel
theorem dL_law_332 : decode cL_law 332 = .ok (.lor, 1) := by decide +kernel
theorem dL_law_333 : decode cL_law 333 = .ok (.invokevirtual 34, 3) := by decide +kernel
theorem mw_290 : Cond.methodLink RL 34 yX11_write ∈ wsL_law := inr_13 _ (List.mem_of_getElem? (i := 2) rfl)
theorem mw_293 : Cond.code yX11_write cX11_write 6 (some .boolean) ∈ wsL_law := inr_13 _ (List.mem_of_getElem? (i := 5) rfl)
theorem yk_X11_write : xY yX11_write RX11 cX11_write 6 (some .boolean) 3 := ⟨⟨rfl, by decide +kernel, by decide +kernel, by decide +kernel⟩, mw_2, mw_293⟩
theorem mw_291 : Cond.instanceMethod yX11_write ∈ wsL_law := inr_13 _ (List.mem_of_getElem? (i := 3) rfl)
theorem mw_292 : Cond.selects RX11 yX11_write yX11_write ∈ wsL_law := inr_13 _ (List.mem_of_getElem? (i := 4) rfl)
theorem dL_law_336 : decode cL_law 336 = .ok (.pop, 1) := by decide +kernel
theorem dL_law_337 : decode cL_law 337 = .ok (.aload_n 2, 1) := by decide +kernel
theorem dL_law_338 : decode cL_law 338 = .ok (.aload_n 0, 1) := by decide +kernel
theorem dL_law_339 : decode cL_law 339 = .ok (.iload_n 3, 1) := by decide +kernel
theorem dL_law_340 : decode cL_law 340 = .ok (.iconst 1, 1) := by decide +kernel
theorem dL_law_341 : decode cL_law 341 = .ok (.iadd, 1) := by decide +kernel
theorem dL_law_342 : decode cL_law 342 = .ok (.iaload, 1) := by decide +kernel
theorem dL_law_343 : decode cL_law 343 = .ok (.aload_n 0, 1) := by decide +kernel
theorem dL_law_344 : decode cL_law 344 = .ok (.iload_n 3, 1) := by decide +kernel
theorem dL_law_345 : decode cL_law 345 = .ok (.iconst 2, 1) := by decide +kernel
theorem dL_law_346 : decode cL_law 346 = .ok (.iadd, 1) := by decide +kernel
theorem dL_law_347 : decode cL_law 347 = .ok (.iaload, 1) := by decide +kernel
theorem dL_law_348 : decode cL_law 348 = .ok (.aload_n 0, 1) := by decide +kernel
theorem dL_law_349 : decode cL_law 349 = .ok (.iload_n 3, 1) := by decide +kernel
theorem dL_law_350 : decode cL_law 350 = .ok (.iconst 3, 1) := by decide +kernel
theorem dL_law_351 : decode cL_law 351 = .ok (.iadd, 1) := by decide +kernel
theorem dL_law_352 : decode cL_law 352 = .ok (.iaload, 1) := by decide +kernel
theorem dL_law_353 : decode cL_law 353 = .ok (.i2l, 1) := by decide +kernel
theorem dL_law_354 : decode cL_law 354 = .ok (.bipush 32, 2) := by decide +kernel
theorem dL_law_356 : decode cL_law 356 = .ok (.lshl, 1) := by decide +kernel
theorem dL_law_357 : decode cL_law 357 = .ok (.aload_n 0, 1) := by decide +kernel
theorem dL_law_358 : decode cL_law 358 = .ok (.iload_n 3, 1) := by decide +kernel
theorem dL_law_359 : decode cL_law 359 = .ok (.iconst 4, 1) := by decide +kernel
theorem dL_law_360 : decode cL_law 360 = .ok (.iadd, 1) := by decide +kernel
theorem dL_law_361 : decode cL_law 361 = .ok (.iaload, 1) := by decide +kernel
theorem dL_law_362 : decode cL_law 362 = .ok (.i2l, 1) := by decide +kernel
theorem dL_law_363 : decode cL_law 363 = .ok (.ldc2_w 32, 3) := by decide +kernel
theorem dL_law_366 : decode cL_law 366 = .ok (.land, 1) := by decide +kernel
theorem dL_law_367 : decode cL_law 367 = .ok (.lor, 1) := by decide +kernel
theorem dL_law_368 : decode cL_law 368 = .ok (.invokevirtual 38, 3) := by decide +kernel
theorem mw_315 : Cond.methodLink RL 38 yX12_write ∈ wsL_law := inr_14 _ (List.mem_of_getElem? (i := 3) rfl)
theorem mw_318 : Cond.code yX12_write cX12_write 6 (some .boolean) ∈ wsL_law := inr_14 _ (List.mem_of_getElem? (i := 6) rfl)
theorem yk_X12_write : xY yX12_write RX12 cX12_write 6 (some .boolean) 3 := ⟨⟨rfl, by decide +kernel, by decide +kernel, by decide +kernel⟩, mw_5, mw_318⟩
theorem mw_316 : Cond.instanceMethod yX12_write ∈ wsL_law := inr_14 _ (List.mem_of_getElem? (i := 4) rfl)
theorem mw_317 : Cond.selects RX12 yX12_write yX12_write ∈ wsL_law := inr_14 _ (List.mem_of_getElem? (i := 5) rfl)
theorem dL_law_371 : decode cL_law 371 = .ok (.pop, 1) := by decide +kernel
theorem dL_law_372 : decode cL_law 372 = .ok (.goto 1384, 3) := by decide +kernel
set_option maxHeartbeats 4000000 in
set_option maxRecDepth 100000 in
theorem law_c4 {p : Program} {l : Launch} {e : Env} {s : State} {m : MethodId} {below : List Frame} {meth : Method} {c : Code} {H : Heap} {locs : List Loc} {Q : State → Prop} {D : va_G} {cy : Nat → ClassId} {A : Nat → Prop} {L : List Nat} {R O P : Nat → Nat} {f0 : Nat → va_E} {ls : Array Slot} {b N cs sl q rr GA GP GL GT : Nat} {xs : Nat → Int32} {V : Value} (F : CallFix p m c cL_law 4 s #[Value.ref b] wsL_law RL) (hZ : tZ A s s.heap) (hX0 : va_X b N xs s s.heap) (hbl : b < s.heap.size) (hbA : ¬ A b) (hcs : cs ≤ room_1.cells) (hsl : sl ≤ room_1.slots) (i : Int32) (bi : 0 ≤ i.toInt ∧ i.toInt + 6 ≤ N ∧ N ≤ 3072) (m_q : q ∈ L) (r_q : R q = 11) (m_rr : rr ∈ L) (r_rr : R rr = 12) (m_GA : GA ∈ L) (r_GA : R GA = 61) (m_GP : GP ∈ L) (r_GP : R GP = 69) (m_GL : GL ∈ L) (r_GL : R GL = 70) (m_GT : GT ∈ L) (r_GT : R GT = 64) (hLS : LWS D cy A s L R O P q rr GA GP GL GT V f0 H locs) (hl : lv_has ls 4 [(3, .int i), (2, .ref rr), (1, .ref q), (0, .ref b)]) (kk : ∀ (f1 : Nat → va_E) (H : Heap) (locs : List Loc) (ls : Array Slot), LWS D cy A s L R O P q rr GA GP GL GT V f1 H locs → lv_has ls 4 [(3, .int i), (2, .ref rr), (1, .ref q), (0, .ref b)] → W p l e room_1 s m #[Value.ref b] below meth c H locs cs sl Q (F0 m 1756 ls [])) : W p l e room_1 s m #[Value.ref b] below meth c H locs cs sl Q (F0 m 302 ls []) := by
  obtain ⟨h, hI, ⟨t_GA, t_GP, t_GL, t_GT⟩, hR, hX, hP, hTP, hTR, hTQ, hNR⟩ := hLS
  have hs6m := hI.2.2.1.1
  have hs6r := hI.2.2.1.2
  have hTMc := TMc_of h m_q r_q
  have hTMm := TMm_of h m_rr r_rr
  have hTPn := hTP
  have hTMn := TMn_of h hTMc
  have hTQn := hTQ
  have hCb := CS_le h m_q r_q
  refine lv_aload_n F.1 F.2.1 dL_law_302 rfl (lv_at hl 2 rfl) ?_
  refine lv_aload_n F.1 F.2.1 dL_law_303 rfl (lv_at hl 3 rfl) ?_
  refine lv_iload_n F.1 F.2.1 dL_law_304 rfl (lv_at hl 0 rfl) ?_
  refine tw_iconst F dL_law_305 ki_1 (fun z1 hz1 => ?_)
  refine tu_iadd F dL_law_306 (by omega) (fun z2 hz2 => ?_)
  refine va_sld F.1 F.2.1 hX0 hbl hbA h.dd.2.2 (tw_in (by omega) (by omega)) dL_law_307 ?_
  refine lv_topi (fun z3 qz3 => ?_)
  refine lv_aload_n F.1 F.2.1 dL_law_308 rfl (lv_at hl 3 rfl) ?_
  refine lv_iload_n F.1 F.2.1 dL_law_309 rfl (lv_at hl 0 rfl) ?_
  refine tw_iconst F dL_law_310 ki_2 (fun z4 hz4 => ?_)
  refine tu_iadd F dL_law_311 (by omega) (fun z5 hz5 => ?_)
  refine va_sld F.1 F.2.1 hX0 hbl hbA h.dd.2.2 (tw_in (by omega) (by omega)) dL_law_312 ?_
  refine lv_topi (fun z6 qz6 => ?_)
  refine lv_aload_n F.1 F.2.1 dL_law_313 rfl (lv_at hl 3 rfl) ?_
  refine lv_iload_n F.1 F.2.1 dL_law_314 rfl (lv_at hl 0 rfl) ?_
  refine tw_iconst F dL_law_315 ki_3 (fun z7 hz7 => ?_)
  refine tu_iadd F dL_law_316 (by omega) (fun z8 hz8 => ?_)
  refine va_sld F.1 F.2.1 hX0 hbl hbA h.dd.2.2 (tw_in (by omega) (by omega)) dL_law_317 ?_
  refine lv_topi (fun z9 qz9 => ?_)
  refine lv_i2l F.1 F.2.1 dL_law_318 rfl ?_
  refine lv_topl (fun z10 qz10 => ?_)
  refine tw_bipush F dL_law_319 kb_32 (fun z11 hz11 => ?_)
  refine lv_lshl F.1 F.2.1 dL_law_321 rfl ?_
  refine lv_topl (fun z12 qz12 => ?_)
  refine lv_aload_n F.1 F.2.1 dL_law_322 rfl (lv_at hl 3 rfl) ?_
  refine lv_iload_n F.1 F.2.1 dL_law_323 rfl (lv_at hl 0 rfl) ?_
  refine tw_iconst F dL_law_324 ki_4 (fun z13 hz13 => ?_)
  refine tu_iadd F dL_law_325 (by omega) (fun z14 hz14 => ?_)
  refine va_sld F.1 F.2.1 hX0 hbl hbA h.dd.2.2 (tw_in (by omega) (by omega)) dL_law_326 ?_
  refine lv_topi (fun z15 qz15 => ?_)
  refine lv_i2l F.1 F.2.1 dL_law_327 rfl ?_
  refine lv_topl (fun z16 qz16 => ?_)
  refine lv_ldc2 F.1 F.2.1 F.2.2.2.1 (F.2.2.2.2 _ mw_6) dL_law_328 ?_
  refine lv_topl (fun z17 qz17 => ?_)
  refine lv_land F.1 F.2.1 dL_law_331 ?_
  refine lv_topl (fun z18 qz18 => ?_)
  refine lv_lor F.1 F.2.1 dL_law_332 ?_
  refine lv_topl (fun z19 qz19 => ?_)
  refine tw_Vi (As := [.int z3, .int z6, .long z19]) F hZ h yk_X11_write mw_290 mw_291 mw_292 (s_X11_writeZ l D cy L R O f0 q m_q r_q z3 z6 z19 P hTQn) rfl rfl m_q r_q (fun e q => (T_11 e).mp q) rfl hl.1 rfl (Nat.le_of_ble_eq_true rfl) ⟨Nat.le_of_ble_eq_true rfl, Nat.le_of_ble_eq_true rfl⟩ ⟨hcs, hsl⟩ dL_law_333 (fun v21 f20 H locs hp20 h => ?_)
  obtain ⟨hf20, hv21a, hv21b, hv21p0, hv21p1⟩ := hp20
  have en22a := TNa hTMc hf20 m_q r_q (by decide +kernel) (by decide +kernel) (by decide +kernel)
  have en22m := TNm t_GT m_GT r_GT hf20 m_rr r_rr (by decide +kernel) (by decide +kernel)
  have et23p := TRp hTMc hf20 m_q r_q (by decide +kernel) (by decide +kernel)
  have et23c := TRc hTMc hf20 m_q r_q (by decide +kernel) (by decide +kernel) (by decide +kernel) (by decide +kernel)
  have et23m := TRm hTMm hf20 m_rr r_rr (by decide +kernel) (by decide +kernel) (by decide +kernel) (by decide +kernel)
  have hTPn : ∀ i, i < 4 → P (trs f20 q i) = i := fun i hi => by rw [et23p i]; exact hTPn i hi
  have hTMc := TMc_of h m_q r_q
  have hTMm := TMm_of h m_rr r_rr
  have hTQn : ∀ i, i < 4 → P (rfa f20 (trs f20 q i) 0) = i := fun i hi => by rw [en22a i hi]; exact hTQn i hi
  have hTMn := TMn_of h hTMc
  have hI : INV L R O P f20 q := hI.most m_q r_q hf20 (by decide +kernel) (by decide +kernel) (by decide +kernel) (by decide +kernel) (by decide +kernel)
  have t_GA : fld f20 rr 0 = .ref GA := (hf20.efl m_rr r_rr (by decide +kernel)).trans t_GA
  have t_GP : fld f20 rr 22 = .ref GP := (hf20.efl m_rr r_rr (by decide +kernel)).trans t_GP
  have t_GL : fld f20 rr 23 = .ref GL := (hf20.efl m_rr r_rr (by decide +kernel)).trans t_GL
  have t_GT : fld f20 rr 6 = .ref GT := (hf20.efl m_rr r_rr (by decide +kernel)).trans t_GT
  have hR : RBA GA f20 := hR.fm hf20 m_GA r_GA (by decide +kernel)
  have hX : GZ GP GL f20 := hX.fm hf20 m_GP r_GP m_GL r_GL (by decide +kernel) (by decide +kernel)
  have hP : fld f20 (rfa f20 q 6) 16 = V := by rw [hf20.erf m_q r_q (by decide +kernel), hf20.efl hs6m hs6r (by decide +kernel)]; exact hP
  have hs6m : rfa f20 q 6 ∈ L := by rw [hf20.erf m_q r_q (by decide +kernel)]; exact hs6m
  have hs6r : R (rfa f20 q 6) = 7 := by rw [hf20.erf m_q r_q (by decide +kernel)]; exact hs6r
  refine lv_pop F.1 F.2.1 dL_law_336 rfl ?_
  refine lv_aload_n F.1 F.2.1 dL_law_337 rfl (lv_at hl 1 rfl) ?_
  refine lv_aload_n F.1 F.2.1 dL_law_338 rfl (lv_at hl 3 rfl) ?_
  refine lv_iload_n F.1 F.2.1 dL_law_339 rfl (lv_at hl 0 rfl) ?_
  refine tw_iconst F dL_law_340 ki_1 (fun z24 hz24 => ?_)
  refine tu_iadd F dL_law_341 (by omega) (fun z25 hz25 => ?_)
  refine va_sld F.1 F.2.1 hX0 hbl hbA h.dd.2.2 (tw_in (by omega) (by omega)) dL_law_342 ?_
  refine lv_topi (fun z26 qz26 => ?_)
  obtain rfl : z3 = z26 := by rw [qz3, qz26, show z2 = z25 from Int32.toInt_inj.mp (by omega)]
  refine lv_aload_n F.1 F.2.1 dL_law_343 rfl (lv_at hl 3 rfl) ?_
  refine lv_iload_n F.1 F.2.1 dL_law_344 rfl (lv_at hl 0 rfl) ?_
  refine tw_iconst F dL_law_345 ki_2 (fun z27 hz27 => ?_)
  refine tu_iadd F dL_law_346 (by omega) (fun z28 hz28 => ?_)
  refine va_sld F.1 F.2.1 hX0 hbl hbA h.dd.2.2 (tw_in (by omega) (by omega)) dL_law_347 ?_
  refine lv_topi (fun z29 qz29 => ?_)
  obtain rfl : z6 = z29 := by rw [qz6, qz29, show z5 = z28 from Int32.toInt_inj.mp (by omega)]
  refine lv_aload_n F.1 F.2.1 dL_law_348 rfl (lv_at hl 3 rfl) ?_
  refine lv_iload_n F.1 F.2.1 dL_law_349 rfl (lv_at hl 0 rfl) ?_
  refine tw_iconst F dL_law_350 ki_3 (fun z30 hz30 => ?_)
  refine tu_iadd F dL_law_351 (by omega) (fun z31 hz31 => ?_)
  refine va_sld F.1 F.2.1 hX0 hbl hbA h.dd.2.2 (tw_in (by omega) (by omega)) dL_law_352 ?_
  refine lv_topi (fun z32 qz32 => ?_)
  obtain rfl : z9 = z32 := by rw [qz9, qz32, show z8 = z31 from Int32.toInt_inj.mp (by omega)]
  refine lv_i2l F.1 F.2.1 dL_law_353 rfl ?_
  refine lv_topl (fun z33 qz33 => ?_)
  obtain rfl : z10 = z33 := by rw [qz10, qz33]
  refine tw_bipush F dL_law_354 kb_32 (fun z34 hz34 => ?_)
  obtain rfl : z11 = z34 := Int32.toInt_inj.mp (by omega)
  refine lv_lshl F.1 F.2.1 dL_law_356 rfl ?_
  refine lv_topl (fun z35 qz35 => ?_)
  obtain rfl : z12 = z35 := by rw [qz12, qz35]
  refine lv_aload_n F.1 F.2.1 dL_law_357 rfl (lv_at hl 3 rfl) ?_
  refine lv_iload_n F.1 F.2.1 dL_law_358 rfl (lv_at hl 0 rfl) ?_
  refine tw_iconst F dL_law_359 ki_4 (fun z36 hz36 => ?_)
  refine tu_iadd F dL_law_360 (by omega) (fun z37 hz37 => ?_)
  refine va_sld F.1 F.2.1 hX0 hbl hbA h.dd.2.2 (tw_in (by omega) (by omega)) dL_law_361 ?_
  refine lv_topi (fun z38 qz38 => ?_)
  obtain rfl : z15 = z38 := by rw [qz15, qz38, show z14 = z37 from Int32.toInt_inj.mp (by omega)]
  refine lv_i2l F.1 F.2.1 dL_law_362 rfl ?_
  refine lv_topl (fun z39 qz39 => ?_)
  obtain rfl : z16 = z39 := by rw [qz16, qz39]
  refine lv_ldc2 F.1 F.2.1 F.2.2.2.1 (F.2.2.2.2 _ mw_6) dL_law_363 ?_
  refine lv_topl (fun z40 qz40 => ?_)
  obtain rfl : z17 = z40 := by rw [qz17, qz40]
  refine lv_land F.1 F.2.1 dL_law_366 ?_
  refine lv_topl (fun z41 qz41 => ?_)
  obtain rfl : z18 = z41 := by rw [qz18, qz41]
  refine lv_lor F.1 F.2.1 dL_law_367 ?_
  refine lv_topl (fun z42 qz42 => ?_)
  obtain rfl : z19 = z42 := by rw [qz19, qz42]
  refine tw_Vi (As := [.int z3, .int z6, .long z19]) F hZ h yk_X12_write mw_315 mw_316 mw_317 (s_X12_writeZ l D cy L R O f20 rr m_rr r_rr z3 z6 z19) rfl rfl m_rr r_rr (fun e q => (T_12 e).mp q) rfl hl.1 rfl (Nat.le_of_ble_eq_true rfl) ⟨Nat.le_of_ble_eq_true rfl, Nat.le_of_ble_eq_true rfl⟩ ⟨hcs, hsl⟩ dL_law_368 (fun v44 f43 H locs hp43 h => ?_)
  obtain ⟨hf43, hv44a, hv44b, hv44p0, hv44p1⟩ := hp43
  have en45a := TNa hTMc hf43 m_q r_q (by decide +kernel) (by decide +kernel) (by decide +kernel)
  have en45c := TNc hTMc hTMn hf43 m_q r_q (by decide +kernel) (by decide +kernel) (by decide +kernel) (by decide +kernel)
  have et46p := TRp hTMc hf43 m_q r_q (by decide +kernel) (by decide +kernel)
  have et46c := TRc hTMc hf43 m_q r_q (by decide +kernel) (by decide +kernel) (by decide +kernel) (by decide +kernel)
  have et46m := TRm hTMm hf43 m_rr r_rr (by decide +kernel) (by decide +kernel) (by decide +kernel) (by decide +kernel)
  have hTPn : ∀ i, i < 4 → P (trs f43 q i) = i := fun i hi => by rw [et46p i]; exact hTPn i hi
  have hTMc := TMc_of h m_q r_q
  have hTMm := TMm_of h m_rr r_rr
  have hTQn : ∀ i, i < 4 → P (rfa f43 (trs f43 q i) 0) = i := fun i hi => by rw [en45a i hi]; exact hTQn i hi
  have hTMn := TMn_of h hTMc
  have hI : INV L R O P f43 q := hI.most m_q r_q hf43 (by decide +kernel) (by decide +kernel) (by decide +kernel) (by decide +kernel) (by decide +kernel)
  have t_GA : fld f43 rr 0 = .ref GA := (hf43.efl m_rr r_rr (by decide +kernel)).trans t_GA
  have t_GP : fld f43 rr 22 = .ref GP := (hf43.efl m_rr r_rr (by decide +kernel)).trans t_GP
  have t_GL : fld f43 rr 23 = .ref GL := (hf43.efl m_rr r_rr (by decide +kernel)).trans t_GL
  have t_GT : fld f43 rr 6 = .ref GT := (hf43.efl m_rr r_rr (by decide +kernel)).trans t_GT
  have hR : RBA GA f43 := hR.fm hf43 m_GA r_GA (by decide +kernel)
  have hX : GZ GP GL f43 := hX.fm hf43 m_GP r_GP m_GL r_GL (by decide +kernel) (by decide +kernel)
  have hP : fld f43 (rfa f43 q 6) 16 = V := by rw [hf43.erf m_q r_q (by decide +kernel), hf43.efl hs6m hs6r (by decide +kernel)]; exact hP
  have hs6m : rfa f43 q 6 ∈ L := by rw [hf43.erf m_q r_q (by decide +kernel)]; exact hs6m
  have hs6r : R (rfa f43 q 6) = 7 := by rw [hf43.erf m_q r_q (by decide +kernel)]; exact hs6r
  refine lv_pop F.1 F.2.1 dL_law_371 rfl ?_
  refine lv_goto (tgt := 1756) F.1 F.2.1 dL_law_372 (by decide) ?_
  exact kk f43 _ _ _ ⟨h, hI, ⟨t_GA, t_GP, t_GL, t_GT⟩, hR, hX, hP, hTPn, fun i hi => by have q0 := hTR i hi; have q1 := et23c i hi; have q2 := et23m i; have q3 := et46c i hi; have q4 := et46m i; omega, hTQn, fun i hi j hj => by have q0 := hTR i hi; have q1 := et23c i hi; have q2 := et23m i; have q3 := et46c i hi; have q4 := et46m i; have qb := hCb i hi; have hj6 : j < 60 := (by omega); have n0 := hNR i hi j; have n1 := en22m i j; have n2 := hv21p1 i hi j hj6; rw [show CT f0 q i = MT f20 rr i by omega] at n2; have n3 := en45c i hi j; have n4 := hv44p1 i hi j hj6; omega⟩ hl
theorem dL_law_375 : decode cL_law 375 = .ok (.aload_n 1, 1) := by decide +kernel
theorem dL_law_376 : decode cL_law 376 = .ok (.aload_n 0, 1) := by decide +kernel
theorem dL_law_377 : decode cL_law 377 = .ok (.iload_n 3, 1) := by decide +kernel
theorem dL_law_378 : decode cL_law 378 = .ok (.iconst 1, 1) := by decide +kernel
theorem dL_law_379 : decode cL_law 379 = .ok (.iadd, 1) := by decide +kernel
theorem dL_law_380 : decode cL_law 380 = .ok (.iaload, 1) := by decide +kernel
theorem dL_law_381 : decode cL_law 381 = .ok (.aload_n 0, 1) := by decide +kernel
theorem dL_law_382 : decode cL_law 382 = .ok (.iload_n 3, 1) := by decide +kernel
theorem dL_law_383 : decode cL_law 383 = .ok (.iconst 2, 1) := by decide +kernel
theorem dL_law_384 : decode cL_law 384 = .ok (.iadd, 1) := by decide +kernel
theorem dL_law_385 : decode cL_law 385 = .ok (.iaload, 1) := by decide +kernel
theorem dL_law_386 : decode cL_law 386 = .ok (.invokevirtual 39, 3) := by decide +kernel
theorem mw_326 : Cond.methodLink RL 39 yX11_read ∈ wsL_law := inr_14 _ (List.mem_of_getElem? (i := 14) rfl)
theorem mw_329 : Cond.code yX11_read cX11_read 4 (some .long) ∈ wsL_law := inr_14 _ (List.mem_of_getElem? (i := 17) rfl)
theorem yk_X11_read : xY yX11_read RX11 cX11_read 4 (some .long) 2 := ⟨⟨rfl, by decide +kernel, by decide +kernel, by decide +kernel⟩, mw_2, mw_329⟩
theorem mw_327 : Cond.instanceMethod yX11_read ∈ wsL_law := inr_14 _ (List.mem_of_getElem? (i := 15) rfl)
theorem mw_328 : Cond.selects RX11 yX11_read yX11_read ∈ wsL_law := inr_14 _ (List.mem_of_getElem? (i := 16) rfl)
theorem dL_law_389 : decode cL_law 389 = .ok (.aload_n 2, 1) := by decide +kernel
theorem dL_law_390 : decode cL_law 390 = .ok (.aload_n 0, 1) := by decide +kernel
theorem dL_law_391 : decode cL_law 391 = .ok (.iload_n 3, 1) := by decide +kernel
theorem dL_law_392 : decode cL_law 392 = .ok (.iconst 1, 1) := by decide +kernel
theorem dL_law_393 : decode cL_law 393 = .ok (.iadd, 1) := by decide +kernel
theorem dL_law_394 : decode cL_law 394 = .ok (.iaload, 1) := by decide +kernel
theorem dL_law_395 : decode cL_law 395 = .ok (.aload_n 0, 1) := by decide +kernel
theorem dL_law_396 : decode cL_law 396 = .ok (.iload_n 3, 1) := by decide +kernel
theorem dL_law_397 : decode cL_law 397 = .ok (.iconst 2, 1) := by decide +kernel
theorem dL_law_398 : decode cL_law 398 = .ok (.iadd, 1) := by decide +kernel
theorem dL_law_399 : decode cL_law 399 = .ok (.iaload, 1) := by decide +kernel
theorem dL_law_400 : decode cL_law 400 = .ok (.invokevirtual 43, 3) := by decide +kernel
theorem mw_336 : Cond.methodLink RL 43 yX12_read ∈ wsL_law := inr_15 _ (List.mem_of_getElem? (i := 0) rfl)
theorem mw_339 : Cond.code yX12_read cX12_read 3 (some .long) ∈ wsL_law := inr_15 _ (List.mem_of_getElem? (i := 3) rfl)
theorem yk_X12_read : xY yX12_read RX12 cX12_read 3 (some .long) 2 := ⟨⟨rfl, by decide +kernel, by decide +kernel, by decide +kernel⟩, mw_5, mw_339⟩
theorem mw_337 : Cond.instanceMethod yX12_read ∈ wsL_law := inr_15 _ (List.mem_of_getElem? (i := 1) rfl)
theorem mw_338 : Cond.selects RX12 yX12_read yX12_read ∈ wsL_law := inr_15 _ (List.mem_of_getElem? (i := 2) rfl)
theorem dL_law_403 : decode cL_law 403 = .ok (.lcmp, 1) := by decide +kernel
theorem dL_law_404 : decode cL_law 404 = .ok (.ifCond .eq 1352, 3) := by decide +kernel
set_option maxHeartbeats 4000000 in
set_option maxRecDepth 100000 in
theorem law_c5 {p : Program} {l : Launch} {e : Env} {s : State} {m : MethodId} {below : List Frame} {meth : Method} {c : Code} {H : Heap} {locs : List Loc} {Q : State → Prop} {D : va_G} {cy : Nat → ClassId} {A : Nat → Prop} {L : List Nat} {R O P : Nat → Nat} {f0 : Nat → va_E} {ls : Array Slot} {b N cs sl q rr GA GP GL GT : Nat} {xs : Nat → Int32} {V : Value} (F : CallFix p m c cL_law 4 s #[Value.ref b] wsL_law RL) (hZ : tZ A s s.heap) (hX0 : va_X b N xs s s.heap) (hbl : b < s.heap.size) (hbA : ¬ A b) (hcs : cs ≤ room_1.cells) (hsl : sl ≤ room_1.slots) (i : Int32) (bi : 0 ≤ i.toInt ∧ i.toInt + 6 ≤ N ∧ N ≤ 3072) (m_q : q ∈ L) (r_q : R q = 11) (m_rr : rr ∈ L) (r_rr : R rr = 12) (m_GA : GA ∈ L) (r_GA : R GA = 61) (m_GP : GP ∈ L) (r_GP : R GP = 69) (m_GL : GL ∈ L) (r_GL : R GL = 70) (m_GT : GT ∈ L) (r_GT : R GT = 64) (hLS : LWS D cy A s L R O P q rr GA GP GL GT V f0 H locs) (hl : lv_has ls 4 [(3, .int i), (2, .ref rr), (1, .ref q), (0, .ref b)]) (kk : ∀ (f1 : Nat → va_E) (H : Heap) (locs : List Loc) (ls : Array Slot), LWS D cy A s L R O P q rr GA GP GL GT V f1 H locs → lv_has ls 4 [(3, .int i), (2, .ref rr), (1, .ref q), (0, .ref b)] → W p l e room_1 s m #[Value.ref b] below meth c H locs cs sl Q (F0 m 1756 ls [])) : W p l e room_1 s m #[Value.ref b] below meth c H locs cs sl Q (F0 m 375 ls []) := by
  obtain ⟨h, hI, ⟨t_GA, t_GP, t_GL, t_GT⟩, hR, hX, hP, hTP, hTR, hTQ, hNR⟩ := hLS
  have hs6m := hI.2.2.1.1
  have hs6r := hI.2.2.1.2
  have hTMc := TMc_of h m_q r_q
  have hTMm := TMm_of h m_rr r_rr
  have hTPn := hTP
  have hTMn := TMn_of h hTMc
  have hTQn := hTQ
  have hCb := CS_le h m_q r_q
  refine lv_aload_n F.1 F.2.1 dL_law_375 rfl (lv_at hl 2 rfl) ?_
  refine lv_aload_n F.1 F.2.1 dL_law_376 rfl (lv_at hl 3 rfl) ?_
  refine lv_iload_n F.1 F.2.1 dL_law_377 rfl (lv_at hl 0 rfl) ?_
  refine tw_iconst F dL_law_378 ki_1 (fun z1 hz1 => ?_)
  refine tu_iadd F dL_law_379 (by omega) (fun z2 hz2 => ?_)
  refine va_sld F.1 F.2.1 hX0 hbl hbA h.dd.2.2 (tw_in (by omega) (by omega)) dL_law_380 ?_
  refine lv_topi (fun z3 qz3 => ?_)
  refine lv_aload_n F.1 F.2.1 dL_law_381 rfl (lv_at hl 3 rfl) ?_
  refine lv_iload_n F.1 F.2.1 dL_law_382 rfl (lv_at hl 0 rfl) ?_
  refine tw_iconst F dL_law_383 ki_2 (fun z4 hz4 => ?_)
  refine tu_iadd F dL_law_384 (by omega) (fun z5 hz5 => ?_)
  refine va_sld F.1 F.2.1 hX0 hbl hbA h.dd.2.2 (tw_in (by omega) (by omega)) dL_law_385 ?_
  refine lv_topi (fun z6 qz6 => ?_)
  refine tw_Vl (As := [.int z3, .int z6]) F hZ h yk_X11_read mw_326 mw_327 mw_328 (s_X11_readZ l D cy L R O f0 q m_q r_q z3 z6) rfl rfl m_q r_q (fun e q => (T_11 e).mp q) rfl hl.1 rfl (Nat.le_of_ble_eq_true rfl) ⟨Nat.le_of_ble_eq_true rfl, Nat.le_of_ble_eq_true rfl⟩ ⟨hcs, hsl⟩ dL_law_386 (fun v8 f7 H locs hp7 h => ?_)
  obtain ⟨hf7, hv8p0⟩ := hp7
  have en9a := TNa hTMc hf7 m_q r_q (by decide +kernel) (by decide +kernel) (by decide +kernel)
  have en9c := TNc hTMc hTMn hf7 m_q r_q (by decide +kernel) (by decide +kernel) (by decide +kernel) (by decide +kernel)
  have en9m := TNm t_GT m_GT r_GT hf7 m_rr r_rr (by decide +kernel) (by decide +kernel)
  have et10p := TRp hTMc hf7 m_q r_q (by decide +kernel) (by decide +kernel)
  have et10c := TRc hTMc hf7 m_q r_q (by decide +kernel) (by decide +kernel) (by decide +kernel) (by decide +kernel)
  have et10m := TRm hTMm hf7 m_rr r_rr (by decide +kernel) (by decide +kernel) (by decide +kernel) (by decide +kernel)
  have hTPn : ∀ i, i < 4 → P (trs f7 q i) = i := fun i hi => by rw [et10p i]; exact hTPn i hi
  have hTMc := TMc_of h m_q r_q
  have hTMm := TMm_of h m_rr r_rr
  have hTQn : ∀ i, i < 4 → P (rfa f7 (trs f7 q i) 0) = i := fun i hi => by rw [en9a i hi]; exact hTQn i hi
  have hTMn := TMn_of h hTMc
  have hI : INV L R O P f7 q := hI.most m_q r_q hf7 (by decide +kernel) (by decide +kernel) (by decide +kernel) (by decide +kernel) (by decide +kernel)
  have t_GA : fld f7 rr 0 = .ref GA := (hf7.efl m_rr r_rr (by decide +kernel)).trans t_GA
  have t_GP : fld f7 rr 22 = .ref GP := (hf7.efl m_rr r_rr (by decide +kernel)).trans t_GP
  have t_GL : fld f7 rr 23 = .ref GL := (hf7.efl m_rr r_rr (by decide +kernel)).trans t_GL
  have t_GT : fld f7 rr 6 = .ref GT := (hf7.efl m_rr r_rr (by decide +kernel)).trans t_GT
  have hR : RBA GA f7 := hR.fm hf7 m_GA r_GA (by decide +kernel)
  have hX : GZ GP GL f7 := hX.fm hf7 m_GP r_GP m_GL r_GL (by decide +kernel) (by decide +kernel)
  have hP : fld f7 (rfa f7 q 6) 16 = V := by rw [hf7.erf m_q r_q (by decide +kernel), hf7.efl hs6m hs6r (by decide +kernel)]; exact hP
  have hs6m : rfa f7 q 6 ∈ L := by rw [hf7.erf m_q r_q (by decide +kernel)]; exact hs6m
  have hs6r : R (rfa f7 q 6) = 7 := by rw [hf7.erf m_q r_q (by decide +kernel)]; exact hs6r
  refine lv_aload_n F.1 F.2.1 dL_law_389 rfl (lv_at hl 1 rfl) ?_
  refine lv_aload_n F.1 F.2.1 dL_law_390 rfl (lv_at hl 3 rfl) ?_
  refine lv_iload_n F.1 F.2.1 dL_law_391 rfl (lv_at hl 0 rfl) ?_
  refine tw_iconst F dL_law_392 ki_1 (fun z11 hz11 => ?_)
  refine tu_iadd F dL_law_393 (by omega) (fun z12 hz12 => ?_)
  refine va_sld F.1 F.2.1 hX0 hbl hbA h.dd.2.2 (tw_in (by omega) (by omega)) dL_law_394 ?_
  refine lv_topi (fun z13 qz13 => ?_)
  obtain rfl : z3 = z13 := by rw [qz3, qz13, show z2 = z12 from Int32.toInt_inj.mp (by omega)]
  refine lv_aload_n F.1 F.2.1 dL_law_395 rfl (lv_at hl 3 rfl) ?_
  refine lv_iload_n F.1 F.2.1 dL_law_396 rfl (lv_at hl 0 rfl) ?_
  refine tw_iconst F dL_law_397 ki_2 (fun z14 hz14 => ?_)
  refine tu_iadd F dL_law_398 (by omega) (fun z15 hz15 => ?_)
  refine va_sld F.1 F.2.1 hX0 hbl hbA h.dd.2.2 (tw_in (by omega) (by omega)) dL_law_399 ?_
  refine lv_topi (fun z16 qz16 => ?_)
  obtain rfl : z6 = z16 := by rw [qz6, qz16, show z5 = z15 from Int32.toInt_inj.mp (by omega)]
  refine tw_Vl (As := [.int z3, .int z6]) F hZ h yk_X12_read mw_336 mw_337 mw_338 (s_X12_readZ l D cy L R O f7 rr m_rr r_rr z3 z6) rfl rfl m_rr r_rr (fun e q => (T_12 e).mp q) rfl hl.1 rfl (Nat.le_of_ble_eq_true rfl) ⟨Nat.le_of_ble_eq_true rfl, Nat.le_of_ble_eq_true rfl⟩ ⟨hcs, hsl⟩ dL_law_400 (fun v18 f17 H locs hp17 h => ?_)
  obtain ⟨hf17, hv18p0⟩ := hp17
  have en19a := TNa hTMc hf17 m_q r_q (by decide +kernel) (by decide +kernel) (by decide +kernel)
  have en19c := TNc hTMc hTMn hf17 m_q r_q (by decide +kernel) (by decide +kernel) (by decide +kernel) (by decide +kernel)
  have en19m := TNm t_GT m_GT r_GT hf17 m_rr r_rr (by decide +kernel) (by decide +kernel)
  have et20p := TRp hTMc hf17 m_q r_q (by decide +kernel) (by decide +kernel)
  have et20c := TRc hTMc hf17 m_q r_q (by decide +kernel) (by decide +kernel) (by decide +kernel) (by decide +kernel)
  have et20m := TRm hTMm hf17 m_rr r_rr (by decide +kernel) (by decide +kernel) (by decide +kernel) (by decide +kernel)
  have hTPn : ∀ i, i < 4 → P (trs f17 q i) = i := fun i hi => by rw [et20p i]; exact hTPn i hi
  have hTMc := TMc_of h m_q r_q
  have hTMm := TMm_of h m_rr r_rr
  have hTQn : ∀ i, i < 4 → P (rfa f17 (trs f17 q i) 0) = i := fun i hi => by rw [en19a i hi]; exact hTQn i hi
  have hTMn := TMn_of h hTMc
  have hI : INV L R O P f17 q := hI.most m_q r_q hf17 (by decide +kernel) (by decide +kernel) (by decide +kernel) (by decide +kernel) (by decide +kernel)
  have t_GA : fld f17 rr 0 = .ref GA := (hf17.efl m_rr r_rr (by decide +kernel)).trans t_GA
  have t_GP : fld f17 rr 22 = .ref GP := (hf17.efl m_rr r_rr (by decide +kernel)).trans t_GP
  have t_GL : fld f17 rr 23 = .ref GL := (hf17.efl m_rr r_rr (by decide +kernel)).trans t_GL
  have t_GT : fld f17 rr 6 = .ref GT := (hf17.efl m_rr r_rr (by decide +kernel)).trans t_GT
  have hR : RBA GA f17 := hR.fm hf17 m_GA r_GA (by decide +kernel)
  have hX : GZ GP GL f17 := hX.fm hf17 m_GP r_GP m_GL r_GL (by decide +kernel) (by decide +kernel)
  have hP : fld f17 (rfa f17 q 6) 16 = V := by rw [hf17.erf m_q r_q (by decide +kernel), hf17.efl hs6m hs6r (by decide +kernel)]; exact hP
  have hs6m : rfa f17 q 6 ∈ L := by rw [hf17.erf m_q r_q (by decide +kernel)]; exact hs6m
  have hs6r : R (rfa f17 q 6) = 7 := by rw [hf17.erf m_q r_q (by decide +kernel)]; exact hs6r
  have xr21 : 0 ≤ z3.toInt → z3.toInt ≤ 3 → CS f0 q z3.toInt.toNat = MS f7 rr z3.toInt.toNat ∧ CT f0 q z3.toInt.toNat = MT f7 rr z3.toInt.toNat := fun a b => by have hi : z3.toInt.toNat < 4 := (by omega); have q0 := hTR _ hi; have q1 := et10c _ hi; have q2 := et10m (z3.toInt.toNat); have q3 := et20c _ hi; have q4 := et20m (z3.toInt.toNat); omega
  have xr22 : 0 ≤ z3.toInt → z3.toInt ≤ 3 → 0 ≤ z6.toInt → z6.toInt < CS f0 q z3.toInt.toNat → CN f0 q z3.toInt.toNat z6.toInt.toNat = MN f7 rr z3.toInt.toNat z6.toInt.toNat := fun a b c d => by have q := hNR _ (show z3.toInt.toNat < 4 by omega) z6.toInt.toNat (by omega); have q2 := en9m (z3.toInt.toNat) (z6.toInt.toNat); omega
  refine tw_lcmp F dL_law_403 (fun z23 hz23 => ?_)
  refine tw_if_eq (tgt := 1756) F dL_law_404 (by decide) (fun b24 => ?_) (fun b24 => ?_)
  · exact kk f17 _ _ _ ⟨h, hI, ⟨t_GA, t_GP, t_GL, t_GT⟩, hR, hX, hP, hTPn, fun i hi => by have q0 := hTR i hi; have q1 := et10c i hi; have q2 := et10m i; have q3 := et20c i hi; have q4 := et20m i; omega, hTQn, fun i hi j hj => by have q0 := hTR i hi; have q1 := et10c i hi; have q2 := et10m i; have q3 := et20c i hi; have q4 := et20m i; have qb := hCb i hi; have hj6 : j < 60 := (by omega); have n0 := hNR i hi j; have n1 := en9c i hi j; have n2 := en9m i j; have n3 := en19c i hi j; have n4 := en19m i j; omega⟩ hl
  · exfalso
    omega
theorem dL_law_409 : decode cL_law 409 = .ok (.aload_n 1, 1) := by decide +kernel
theorem dL_law_410 : decode cL_law 410 = .ok (.aload_n 0, 1) := by decide +kernel
theorem dL_law_411 : decode cL_law 411 = .ok (.iload_n 3, 1) := by decide +kernel
theorem dL_law_412 : decode cL_law 412 = .ok (.iconst 1, 1) := by decide +kernel
theorem dL_law_413 : decode cL_law 413 = .ok (.iadd, 1) := by decide +kernel
theorem dL_law_414 : decode cL_law 414 = .ok (.iaload, 1) := by decide +kernel
theorem dL_law_415 : decode cL_law 415 = .ok (.aload_n 0, 1) := by decide +kernel
theorem dL_law_416 : decode cL_law 416 = .ok (.iload_n 3, 1) := by decide +kernel
theorem dL_law_417 : decode cL_law 417 = .ok (.iconst 2, 1) := by decide +kernel
theorem dL_law_418 : decode cL_law 418 = .ok (.iadd, 1) := by decide +kernel
theorem dL_law_419 : decode cL_law 419 = .ok (.iaload, 1) := by decide +kernel
theorem dL_law_420 : decode cL_law 420 = .ok (.aload_n 0, 1) := by decide +kernel
theorem dL_law_421 : decode cL_law 421 = .ok (.iload_n 3, 1) := by decide +kernel
theorem dL_law_422 : decode cL_law 422 = .ok (.iconst 3, 1) := by decide +kernel
theorem dL_law_423 : decode cL_law 423 = .ok (.iadd, 1) := by decide +kernel
theorem dL_law_424 : decode cL_law 424 = .ok (.iaload, 1) := by decide +kernel
theorem dL_law_425 : decode cL_law 425 = .ok (.aload_n 0, 1) := by decide +kernel
theorem dL_law_426 : decode cL_law 426 = .ok (.iload_n 3, 1) := by decide +kernel
theorem dL_law_427 : decode cL_law 427 = .ok (.iconst 4, 1) := by decide +kernel
theorem dL_law_428 : decode cL_law 428 = .ok (.iadd, 1) := by decide +kernel
theorem dL_law_429 : decode cL_law 429 = .ok (.iaload, 1) := by decide +kernel
theorem dL_law_430 : decode cL_law 430 = .ok (.aload_n 0, 1) := by decide +kernel
theorem dL_law_431 : decode cL_law 431 = .ok (.iload_n 3, 1) := by decide +kernel
theorem dL_law_432 : decode cL_law 432 = .ok (.iconst 5, 1) := by decide +kernel
theorem dL_law_433 : decode cL_law 433 = .ok (.iadd, 1) := by decide +kernel
theorem dL_law_434 : decode cL_law 434 = .ok (.iaload, 1) := by decide +kernel
theorem dL_law_435 : decode cL_law 435 = .ok (.invokevirtual 44, 3) := by decide +kernel
theorem mw_341 : Cond.methodLink RL 44 yX11_pour ∈ wsL_law := inr_15 _ (List.mem_of_getElem? (i := 5) rfl)
theorem mw_344 : Cond.code yX11_pour cX11_pour 8 (some .boolean) ∈ wsL_law := inr_15 _ (List.mem_of_getElem? (i := 8) rfl)
theorem yk_X11_pour : xY yX11_pour RX11 cX11_pour 8 (some .boolean) 5 := ⟨⟨rfl, by decide +kernel, by decide +kernel, by decide +kernel⟩, mw_2, mw_344⟩
theorem mw_342 : Cond.instanceMethod yX11_pour ∈ wsL_law := inr_15 _ (List.mem_of_getElem? (i := 6) rfl)
theorem mw_343 : Cond.selects RX11 yX11_pour yX11_pour ∈ wsL_law := inr_15 _ (List.mem_of_getElem? (i := 7) rfl)
theorem dL_law_438 : decode cL_law 438 = .ok (.pop, 1) := by decide +kernel
theorem dL_law_439 : decode cL_law 439 = .ok (.aload_n 2, 1) := by decide +kernel
theorem dL_law_440 : decode cL_law 440 = .ok (.aload_n 0, 1) := by decide +kernel
theorem dL_law_441 : decode cL_law 441 = .ok (.iload_n 3, 1) := by decide +kernel
theorem dL_law_442 : decode cL_law 442 = .ok (.iconst 1, 1) := by decide +kernel
theorem dL_law_443 : decode cL_law 443 = .ok (.iadd, 1) := by decide +kernel
theorem dL_law_444 : decode cL_law 444 = .ok (.iaload, 1) := by decide +kernel
theorem dL_law_445 : decode cL_law 445 = .ok (.aload_n 0, 1) := by decide +kernel
theorem dL_law_446 : decode cL_law 446 = .ok (.iload_n 3, 1) := by decide +kernel
theorem dL_law_447 : decode cL_law 447 = .ok (.iconst 2, 1) := by decide +kernel
theorem dL_law_448 : decode cL_law 448 = .ok (.iadd, 1) := by decide +kernel
theorem dL_law_449 : decode cL_law 449 = .ok (.iaload, 1) := by decide +kernel
theorem dL_law_450 : decode cL_law 450 = .ok (.aload_n 0, 1) := by decide +kernel
theorem dL_law_451 : decode cL_law 451 = .ok (.iload_n 3, 1) := by decide +kernel
theorem dL_law_452 : decode cL_law 452 = .ok (.iconst 3, 1) := by decide +kernel
theorem dL_law_453 : decode cL_law 453 = .ok (.iadd, 1) := by decide +kernel
theorem dL_law_454 : decode cL_law 454 = .ok (.iaload, 1) := by decide +kernel
theorem dL_law_455 : decode cL_law 455 = .ok (.aload_n 0, 1) := by decide +kernel
theorem dL_law_456 : decode cL_law 456 = .ok (.iload_n 3, 1) := by decide +kernel
theorem dL_law_457 : decode cL_law 457 = .ok (.iconst 4, 1) := by decide +kernel
theorem dL_law_458 : decode cL_law 458 = .ok (.iadd, 1) := by decide +kernel
theorem dL_law_459 : decode cL_law 459 = .ok (.iaload, 1) := by decide +kernel
theorem dL_law_460 : decode cL_law 460 = .ok (.aload_n 0, 1) := by decide +kernel
theorem dL_law_461 : decode cL_law 461 = .ok (.iload_n 3, 1) := by decide +kernel
theorem dL_law_462 : decode cL_law 462 = .ok (.iconst 5, 1) := by decide +kernel
theorem dL_law_463 : decode cL_law 463 = .ok (.iadd, 1) := by decide +kernel
theorem dL_law_464 : decode cL_law 464 = .ok (.iaload, 1) := by decide +kernel
theorem dL_law_465 : decode cL_law 465 = .ok (.invokevirtual 48, 3) := by decide +kernel
theorem mw_351 : Cond.methodLink RL 48 yX12_pour ∈ wsL_law := inr_15 _ (List.mem_of_getElem? (i := 15) rfl)
theorem mw_354 : Cond.code yX12_pour cX12_pour 8 (some .boolean) ∈ wsL_law := inr_15 _ (List.mem_of_getElem? (i := 18) rfl)
theorem yk_X12_pour : xY yX12_pour RX12 cX12_pour 8 (some .boolean) 5 := ⟨⟨rfl, by decide +kernel, by decide +kernel, by decide +kernel⟩, mw_5, mw_354⟩
theorem mw_352 : Cond.instanceMethod yX12_pour ∈ wsL_law := inr_15 _ (List.mem_of_getElem? (i := 16) rfl)
theorem mw_353 : Cond.selects RX12 yX12_pour yX12_pour ∈ wsL_law := inr_15 _ (List.mem_of_getElem? (i := 17) rfl)
theorem dL_law_468 : decode cL_law 468 = .ok (.pop, 1) := by decide +kernel
theorem dL_law_469 : decode cL_law 469 = .ok (.goto 1287, 3) := by decide +kernel
set_option maxHeartbeats 4000000 in
set_option maxRecDepth 100000 in
theorem law_c6 {p : Program} {l : Launch} {e : Env} {s : State} {m : MethodId} {below : List Frame} {meth : Method} {c : Code} {H : Heap} {locs : List Loc} {Q : State → Prop} {D : va_G} {cy : Nat → ClassId} {A : Nat → Prop} {L : List Nat} {R O P : Nat → Nat} {f0 : Nat → va_E} {ls : Array Slot} {b N cs sl q rr GA GP GL GT : Nat} {xs : Nat → Int32} {V : Value} (F : CallFix p m c cL_law 4 s #[Value.ref b] wsL_law RL) (hZ : tZ A s s.heap) (hX0 : va_X b N xs s s.heap) (hbl : b < s.heap.size) (hbA : ¬ A b) (hcs : cs ≤ room_1.cells) (hsl : sl ≤ room_1.slots) (i : Int32) (bi : 0 ≤ i.toInt ∧ i.toInt + 6 ≤ N ∧ N ≤ 3072) (m_q : q ∈ L) (r_q : R q = 11) (m_rr : rr ∈ L) (r_rr : R rr = 12) (m_GA : GA ∈ L) (r_GA : R GA = 61) (m_GP : GP ∈ L) (r_GP : R GP = 69) (m_GL : GL ∈ L) (r_GL : R GL = 70) (m_GT : GT ∈ L) (r_GT : R GT = 64) (hLS : LWS D cy A s L R O P q rr GA GP GL GT V f0 H locs) (hl : lv_has ls 4 [(3, .int i), (2, .ref rr), (1, .ref q), (0, .ref b)]) (kk : ∀ (f1 : Nat → va_E) (H : Heap) (locs : List Loc) (ls : Array Slot), LWS D cy A s L R O P q rr GA GP GL GT V f1 H locs → lv_has ls 4 [(3, .int i), (2, .ref rr), (1, .ref q), (0, .ref b)] → W p l e room_1 s m #[Value.ref b] below meth c H locs cs sl Q (F0 m 1756 ls [])) : W p l e room_1 s m #[Value.ref b] below meth c H locs cs sl Q (F0 m 409 ls []) := by
  obtain ⟨h, hI, ⟨t_GA, t_GP, t_GL, t_GT⟩, hR, hX, hP, hTP, hTR, hTQ, hNR⟩ := hLS
  have hs6m := hI.2.2.1.1
  have hs6r := hI.2.2.1.2
  have hTMc := TMc_of h m_q r_q
  have hTMm := TMm_of h m_rr r_rr
  have hTPn := hTP
  have hTMn := TMn_of h hTMc
  have hTQn := hTQ
  have hCb := CS_le h m_q r_q
  refine lv_aload_n F.1 F.2.1 dL_law_409 rfl (lv_at hl 2 rfl) ?_
  refine lv_aload_n F.1 F.2.1 dL_law_410 rfl (lv_at hl 3 rfl) ?_
  refine lv_iload_n F.1 F.2.1 dL_law_411 rfl (lv_at hl 0 rfl) ?_
  refine tw_iconst F dL_law_412 ki_1 (fun z1 hz1 => ?_)
  refine tu_iadd F dL_law_413 (by omega) (fun z2 hz2 => ?_)
  refine va_sld F.1 F.2.1 hX0 hbl hbA h.dd.2.2 (tw_in (by omega) (by omega)) dL_law_414 ?_
  refine lv_topi (fun z3 qz3 => ?_)
  refine lv_aload_n F.1 F.2.1 dL_law_415 rfl (lv_at hl 3 rfl) ?_
  refine lv_iload_n F.1 F.2.1 dL_law_416 rfl (lv_at hl 0 rfl) ?_
  refine tw_iconst F dL_law_417 ki_2 (fun z4 hz4 => ?_)
  refine tu_iadd F dL_law_418 (by omega) (fun z5 hz5 => ?_)
  refine va_sld F.1 F.2.1 hX0 hbl hbA h.dd.2.2 (tw_in (by omega) (by omega)) dL_law_419 ?_
  refine lv_topi (fun z6 qz6 => ?_)
  refine lv_aload_n F.1 F.2.1 dL_law_420 rfl (lv_at hl 3 rfl) ?_
  refine lv_iload_n F.1 F.2.1 dL_law_421 rfl (lv_at hl 0 rfl) ?_
  refine tw_iconst F dL_law_422 ki_3 (fun z7 hz7 => ?_)
  refine tu_iadd F dL_law_423 (by omega) (fun z8 hz8 => ?_)
  refine va_sld F.1 F.2.1 hX0 hbl hbA h.dd.2.2 (tw_in (by omega) (by omega)) dL_law_424 ?_
  refine lv_topi (fun z9 qz9 => ?_)
  refine lv_aload_n F.1 F.2.1 dL_law_425 rfl (lv_at hl 3 rfl) ?_
  refine lv_iload_n F.1 F.2.1 dL_law_426 rfl (lv_at hl 0 rfl) ?_
  refine tw_iconst F dL_law_427 ki_4 (fun z10 hz10 => ?_)
  refine tu_iadd F dL_law_428 (by omega) (fun z11 hz11 => ?_)
  refine va_sld F.1 F.2.1 hX0 hbl hbA h.dd.2.2 (tw_in (by omega) (by omega)) dL_law_429 ?_
  refine lv_topi (fun z12 qz12 => ?_)
  refine lv_aload_n F.1 F.2.1 dL_law_430 rfl (lv_at hl 3 rfl) ?_
  refine lv_iload_n F.1 F.2.1 dL_law_431 rfl (lv_at hl 0 rfl) ?_
  refine tw_iconst F dL_law_432 ki_5 (fun z13 hz13 => ?_)
  refine tu_iadd F dL_law_433 (by omega) (fun z14 hz14 => ?_)
  refine va_sld F.1 F.2.1 hX0 hbl hbA h.dd.2.2 (tw_in (by omega) (by omega)) dL_law_434 ?_
  refine lv_topi (fun z15 qz15 => ?_)
  refine tw_Vi (As := [.int z3, .int z6, .int z9, .int z12, .int z15]) F hZ h yk_X11_pour mw_341 mw_342 mw_343 (s_X11_pourZ l D cy L R O f0 q m_q r_q z3 z6 z9 z12 z15 P hTQn) rfl rfl m_q r_q (fun e q => (T_11 e).mp q) rfl hl.1 rfl (Nat.le_of_ble_eq_true rfl) ⟨Nat.le_of_ble_eq_true rfl, Nat.le_of_ble_eq_true rfl⟩ ⟨hcs, hsl⟩ dL_law_435 (fun v17 f16 H locs hp16 h => ?_)
  obtain ⟨hf16, hv17a, hv17b, hv17p0, hv17p1⟩ := hp16
  have en18a := TNa hTMc hf16 m_q r_q (by decide +kernel) (by decide +kernel) (by decide +kernel)
  have en18m := TNm t_GT m_GT r_GT hf16 m_rr r_rr (by decide +kernel) (by decide +kernel)
  have et19p := TRp hTMc hf16 m_q r_q (by decide +kernel) (by decide +kernel)
  have et19c := TRc hTMc hf16 m_q r_q (by decide +kernel) (by decide +kernel) (by decide +kernel) (by decide +kernel)
  have et19m := TRm hTMm hf16 m_rr r_rr (by decide +kernel) (by decide +kernel) (by decide +kernel) (by decide +kernel)
  have hTPn : ∀ i, i < 4 → P (trs f16 q i) = i := fun i hi => by rw [et19p i]; exact hTPn i hi
  have hTMc := TMc_of h m_q r_q
  have hTMm := TMm_of h m_rr r_rr
  have hTQn : ∀ i, i < 4 → P (rfa f16 (trs f16 q i) 0) = i := fun i hi => by rw [en18a i hi]; exact hTQn i hi
  have hTMn := TMn_of h hTMc
  have hI : INV L R O P f16 q := hI.most m_q r_q hf16 (by decide +kernel) (by decide +kernel) (by decide +kernel) (by decide +kernel) (by decide +kernel)
  have t_GA : fld f16 rr 0 = .ref GA := (hf16.efl m_rr r_rr (by decide +kernel)).trans t_GA
  have t_GP : fld f16 rr 22 = .ref GP := (hf16.efl m_rr r_rr (by decide +kernel)).trans t_GP
  have t_GL : fld f16 rr 23 = .ref GL := (hf16.efl m_rr r_rr (by decide +kernel)).trans t_GL
  have t_GT : fld f16 rr 6 = .ref GT := (hf16.efl m_rr r_rr (by decide +kernel)).trans t_GT
  have hR : RBA GA f16 := hR.fm hf16 m_GA r_GA (by decide +kernel)
  have hX : GZ GP GL f16 := hX.fm hf16 m_GP r_GP m_GL r_GL (by decide +kernel) (by decide +kernel)
  have hP : fld f16 (rfa f16 q 6) 16 = V := by rw [hf16.erf m_q r_q (by decide +kernel), hf16.efl hs6m hs6r (by decide +kernel)]; exact hP
  have hs6m : rfa f16 q 6 ∈ L := by rw [hf16.erf m_q r_q (by decide +kernel)]; exact hs6m
  have hs6r : R (rfa f16 q 6) = 7 := by rw [hf16.erf m_q r_q (by decide +kernel)]; exact hs6r
  refine lv_pop F.1 F.2.1 dL_law_438 rfl ?_
  refine lv_aload_n F.1 F.2.1 dL_law_439 rfl (lv_at hl 1 rfl) ?_
  refine lv_aload_n F.1 F.2.1 dL_law_440 rfl (lv_at hl 3 rfl) ?_
  refine lv_iload_n F.1 F.2.1 dL_law_441 rfl (lv_at hl 0 rfl) ?_
  refine tw_iconst F dL_law_442 ki_1 (fun z20 hz20 => ?_)
  refine tu_iadd F dL_law_443 (by omega) (fun z21 hz21 => ?_)
  refine va_sld F.1 F.2.1 hX0 hbl hbA h.dd.2.2 (tw_in (by omega) (by omega)) dL_law_444 ?_
  refine lv_topi (fun z22 qz22 => ?_)
  obtain rfl : z3 = z22 := by rw [qz3, qz22, show z2 = z21 from Int32.toInt_inj.mp (by omega)]
  refine lv_aload_n F.1 F.2.1 dL_law_445 rfl (lv_at hl 3 rfl) ?_
  refine lv_iload_n F.1 F.2.1 dL_law_446 rfl (lv_at hl 0 rfl) ?_
  refine tw_iconst F dL_law_447 ki_2 (fun z23 hz23 => ?_)
  refine tu_iadd F dL_law_448 (by omega) (fun z24 hz24 => ?_)
  refine va_sld F.1 F.2.1 hX0 hbl hbA h.dd.2.2 (tw_in (by omega) (by omega)) dL_law_449 ?_
  refine lv_topi (fun z25 qz25 => ?_)
  obtain rfl : z6 = z25 := by rw [qz6, qz25, show z5 = z24 from Int32.toInt_inj.mp (by omega)]
  refine lv_aload_n F.1 F.2.1 dL_law_450 rfl (lv_at hl 3 rfl) ?_
  refine lv_iload_n F.1 F.2.1 dL_law_451 rfl (lv_at hl 0 rfl) ?_
  refine tw_iconst F dL_law_452 ki_3 (fun z26 hz26 => ?_)
  refine tu_iadd F dL_law_453 (by omega) (fun z27 hz27 => ?_)
  refine va_sld F.1 F.2.1 hX0 hbl hbA h.dd.2.2 (tw_in (by omega) (by omega)) dL_law_454 ?_
  refine lv_topi (fun z28 qz28 => ?_)
  obtain rfl : z9 = z28 := by rw [qz9, qz28, show z8 = z27 from Int32.toInt_inj.mp (by omega)]
  refine lv_aload_n F.1 F.2.1 dL_law_455 rfl (lv_at hl 3 rfl) ?_
  refine lv_iload_n F.1 F.2.1 dL_law_456 rfl (lv_at hl 0 rfl) ?_
  refine tw_iconst F dL_law_457 ki_4 (fun z29 hz29 => ?_)
  refine tu_iadd F dL_law_458 (by omega) (fun z30 hz30 => ?_)
  refine va_sld F.1 F.2.1 hX0 hbl hbA h.dd.2.2 (tw_in (by omega) (by omega)) dL_law_459 ?_
  refine lv_topi (fun z31 qz31 => ?_)
  obtain rfl : z12 = z31 := by rw [qz12, qz31, show z11 = z30 from Int32.toInt_inj.mp (by omega)]
  refine lv_aload_n F.1 F.2.1 dL_law_460 rfl (lv_at hl 3 rfl) ?_
  refine lv_iload_n F.1 F.2.1 dL_law_461 rfl (lv_at hl 0 rfl) ?_
  refine tw_iconst F dL_law_462 ki_5 (fun z32 hz32 => ?_)
  refine tu_iadd F dL_law_463 (by omega) (fun z33 hz33 => ?_)
  refine va_sld F.1 F.2.1 hX0 hbl hbA h.dd.2.2 (tw_in (by omega) (by omega)) dL_law_464 ?_
  refine lv_topi (fun z34 qz34 => ?_)
  obtain rfl : z15 = z34 := by rw [qz15, qz34, show z14 = z33 from Int32.toInt_inj.mp (by omega)]
  refine tw_Vi (As := [.int z3, .int z6, .int z9, .int z12, .int z15]) F hZ h yk_X12_pour mw_351 mw_352 mw_353 (s_X12_pourZ l D cy L R O f16 rr m_rr r_rr z3 z6 z9 z12 z15) rfl rfl m_rr r_rr (fun e q => (T_12 e).mp q) rfl hl.1 rfl (Nat.le_of_ble_eq_true rfl) ⟨Nat.le_of_ble_eq_true rfl, Nat.le_of_ble_eq_true rfl⟩ ⟨hcs, hsl⟩ dL_law_465 (fun v36 f35 H locs hp35 h => ?_)
  obtain ⟨hf35, hv36a, hv36b, hv36p0, hv36p1⟩ := hp35
  have en37a := TNa hTMc hf35 m_q r_q (by decide +kernel) (by decide +kernel) (by decide +kernel)
  have en37c := TNc hTMc hTMn hf35 m_q r_q (by decide +kernel) (by decide +kernel) (by decide +kernel) (by decide +kernel)
  have et38p := TRp hTMc hf35 m_q r_q (by decide +kernel) (by decide +kernel)
  have et38c := TRc hTMc hf35 m_q r_q (by decide +kernel) (by decide +kernel) (by decide +kernel) (by decide +kernel)
  have et38m := TRm hTMm hf35 m_rr r_rr (by decide +kernel) (by decide +kernel) (by decide +kernel) (by decide +kernel)
  have hTPn : ∀ i, i < 4 → P (trs f35 q i) = i := fun i hi => by rw [et38p i]; exact hTPn i hi
  have hTMc := TMc_of h m_q r_q
  have hTMm := TMm_of h m_rr r_rr
  have hTQn : ∀ i, i < 4 → P (rfa f35 (trs f35 q i) 0) = i := fun i hi => by rw [en37a i hi]; exact hTQn i hi
  have hTMn := TMn_of h hTMc
  have hI : INV L R O P f35 q := hI.most m_q r_q hf35 (by decide +kernel) (by decide +kernel) (by decide +kernel) (by decide +kernel) (by decide +kernel)
  have t_GA : fld f35 rr 0 = .ref GA := (hf35.efl m_rr r_rr (by decide +kernel)).trans t_GA
  have t_GP : fld f35 rr 22 = .ref GP := (hf35.efl m_rr r_rr (by decide +kernel)).trans t_GP
  have t_GL : fld f35 rr 23 = .ref GL := (hf35.efl m_rr r_rr (by decide +kernel)).trans t_GL
  have t_GT : fld f35 rr 6 = .ref GT := (hf35.efl m_rr r_rr (by decide +kernel)).trans t_GT
  have hR : RBA GA f35 := hR.fm hf35 m_GA r_GA (by decide +kernel)
  have hX : GZ GP GL f35 := hX.fm hf35 m_GP r_GP m_GL r_GL (by decide +kernel) (by decide +kernel)
  have hP : fld f35 (rfa f35 q 6) 16 = V := by rw [hf35.erf m_q r_q (by decide +kernel), hf35.efl hs6m hs6r (by decide +kernel)]; exact hP
  have hs6m : rfa f35 q 6 ∈ L := by rw [hf35.erf m_q r_q (by decide +kernel)]; exact hs6m
  have hs6r : R (rfa f35 q 6) = 7 := by rw [hf35.erf m_q r_q (by decide +kernel)]; exact hs6r
  refine lv_pop F.1 F.2.1 dL_law_468 rfl ?_
  refine lv_goto (tgt := 1756) F.1 F.2.1 dL_law_469 (by decide) ?_
  exact kk f35 _ _ _ ⟨h, hI, ⟨t_GA, t_GP, t_GL, t_GT⟩, hR, hX, hP, hTPn, fun i hi => by have q0 := hTR i hi; have q1 := et19c i hi; have q2 := et19m i; have q3 := et38c i hi; have q4 := et38m i; omega, hTQn, fun i hi j hj => by have q0 := hTR i hi; have q1 := et19c i hi; have q2 := et19m i; have q3 := et38c i hi; have q4 := et38m i; have qb := hCb i hi; have hj0 : (j : Int) < CS f0 q i := (by omega); have hj6 : j < 60 := (by omega); rw [en37c i hi j]; exact two_ways (hv17p1 i hi j hj6) (hv36p1 i hi j hj6) (pour_W ⟨q0.1.trans (et19m i).1.symm, q0.2.trans (et19m i).2.symm⟩ (fun h h2 => by have r := hTR (z3.toInt.toNat) (by omega); exact ⟨r.1.trans (et19m _).1.symm, r.2.trans (et19m _).2.symm⟩)) (fun w => (hNR (z3.toInt.toNat) (by omega) (z6.toInt.toNat + (j - z12.toInt.toNat)) (by omega)).trans (en18m (z3.toInt.toNat) (z6.toInt.toNat + (j - z12.toInt.toNat))).symm) (fun _ => (hNR i hi j hj0).trans (en18m i j).symm)⟩ hl
theorem dL_law_472 : decode cL_law 472 = .ok (.aload_n 1, 1) := by decide +kernel
theorem dL_law_473 : decode cL_law 473 = .ok (.aload_n 0, 1) := by decide +kernel
theorem dL_law_474 : decode cL_law 474 = .ok (.iload_n 3, 1) := by decide +kernel
theorem dL_law_475 : decode cL_law 475 = .ok (.iconst 1, 1) := by decide +kernel
theorem dL_law_476 : decode cL_law 476 = .ok (.iadd, 1) := by decide +kernel
theorem dL_law_477 : decode cL_law 477 = .ok (.iaload, 1) := by decide +kernel
theorem dL_law_478 : decode cL_law 478 = .ok (.aload_n 0, 1) := by decide +kernel
theorem dL_law_479 : decode cL_law 479 = .ok (.iload_n 3, 1) := by decide +kernel
theorem dL_law_480 : decode cL_law 480 = .ok (.iconst 2, 1) := by decide +kernel
theorem dL_law_481 : decode cL_law 481 = .ok (.iadd, 1) := by decide +kernel
theorem dL_law_482 : decode cL_law 482 = .ok (.iaload, 1) := by decide +kernel
theorem dL_law_483 : decode cL_law 483 = .ok (.aload_n 0, 1) := by decide +kernel
theorem dL_law_484 : decode cL_law 484 = .ok (.iload_n 3, 1) := by decide +kernel
theorem dL_law_485 : decode cL_law 485 = .ok (.iconst 3, 1) := by decide +kernel
theorem dL_law_486 : decode cL_law 486 = .ok (.iadd, 1) := by decide +kernel
theorem dL_law_487 : decode cL_law 487 = .ok (.iaload, 1) := by decide +kernel
theorem dL_law_488 : decode cL_law 488 = .ok (.aload_n 0, 1) := by decide +kernel
theorem dL_law_489 : decode cL_law 489 = .ok (.iload_n 3, 1) := by decide +kernel
theorem dL_law_490 : decode cL_law 490 = .ok (.iconst 4, 1) := by decide +kernel
theorem dL_law_491 : decode cL_law 491 = .ok (.iadd, 1) := by decide +kernel
theorem dL_law_492 : decode cL_law 492 = .ok (.iaload, 1) := by decide +kernel
theorem dL_law_493 : decode cL_law 493 = .ok (.aload_n 0, 1) := by decide +kernel
theorem dL_law_494 : decode cL_law 494 = .ok (.iload_n 3, 1) := by decide +kernel
theorem dL_law_495 : decode cL_law 495 = .ok (.iconst 5, 1) := by decide +kernel
theorem dL_law_496 : decode cL_law 496 = .ok (.iadd, 1) := by decide +kernel
theorem dL_law_497 : decode cL_law 497 = .ok (.iaload, 1) := by decide +kernel
theorem dL_law_498 : decode cL_law 498 = .ok (.invokevirtual 49, 3) := by decide +kernel
theorem mw_355 : Cond.methodLink RL 49 yX11_feed ∈ wsL_law := inr_15 _ (List.mem_of_getElem? (i := 19) rfl)
theorem mw_358 : Cond.code yX11_feed cX11_feed 6 (some .int) ∈ wsL_law := inr_15 _ (List.mem_of_getElem? (i := 22) rfl)
theorem yk_X11_feed : xY yX11_feed RX11 cX11_feed 6 (some .int) 5 := ⟨⟨rfl, by decide +kernel, by decide +kernel, by decide +kernel⟩, mw_2, mw_358⟩
theorem mw_356 : Cond.instanceMethod yX11_feed ∈ wsL_law := inr_15 _ (List.mem_of_getElem? (i := 20) rfl)
theorem mw_357 : Cond.selects RX11 yX11_feed yX11_feed ∈ wsL_law := inr_15 _ (List.mem_of_getElem? (i := 21) rfl)
theorem dL_law_501 : decode cL_law 501 = .ok (.pop, 1) := by decide +kernel
theorem dL_law_502 : decode cL_law 502 = .ok (.aload_n 2, 1) := by decide +kernel
theorem dL_law_503 : decode cL_law 503 = .ok (.aload_n 0, 1) := by decide +kernel
theorem dL_law_504 : decode cL_law 504 = .ok (.iload_n 3, 1) := by decide +kernel
theorem dL_law_505 : decode cL_law 505 = .ok (.iconst 1, 1) := by decide +kernel
theorem dL_law_506 : decode cL_law 506 = .ok (.iadd, 1) := by decide +kernel
theorem dL_law_507 : decode cL_law 507 = .ok (.iaload, 1) := by decide +kernel
theorem dL_law_508 : decode cL_law 508 = .ok (.aload_n 0, 1) := by decide +kernel
theorem dL_law_509 : decode cL_law 509 = .ok (.iload_n 3, 1) := by decide +kernel
theorem dL_law_510 : decode cL_law 510 = .ok (.iconst 2, 1) := by decide +kernel
theorem dL_law_511 : decode cL_law 511 = .ok (.iadd, 1) := by decide +kernel
theorem dL_law_512 : decode cL_law 512 = .ok (.iaload, 1) := by decide +kernel
theorem dL_law_513 : decode cL_law 513 = .ok (.aload_n 0, 1) := by decide +kernel
theorem dL_law_514 : decode cL_law 514 = .ok (.iload_n 3, 1) := by decide +kernel
theorem dL_law_515 : decode cL_law 515 = .ok (.iconst 3, 1) := by decide +kernel
theorem dL_law_516 : decode cL_law 516 = .ok (.iadd, 1) := by decide +kernel
theorem dL_law_517 : decode cL_law 517 = .ok (.iaload, 1) := by decide +kernel
theorem dL_law_518 : decode cL_law 518 = .ok (.aload_n 0, 1) := by decide +kernel
theorem dL_law_519 : decode cL_law 519 = .ok (.iload_n 3, 1) := by decide +kernel
theorem dL_law_520 : decode cL_law 520 = .ok (.iconst 4, 1) := by decide +kernel
theorem dL_law_521 : decode cL_law 521 = .ok (.iadd, 1) := by decide +kernel
theorem dL_law_522 : decode cL_law 522 = .ok (.iaload, 1) := by decide +kernel
theorem dL_law_523 : decode cL_law 523 = .ok (.aload_n 0, 1) := by decide +kernel
theorem dL_law_524 : decode cL_law 524 = .ok (.iload_n 3, 1) := by decide +kernel
theorem dL_law_525 : decode cL_law 525 = .ok (.iconst 5, 1) := by decide +kernel
theorem dL_law_526 : decode cL_law 526 = .ok (.iadd, 1) := by decide +kernel
theorem dL_law_527 : decode cL_law 527 = .ok (.iaload, 1) := by decide +kernel
theorem dL_law_528 : decode cL_law 528 = .ok (.invokevirtual 53, 3) := by decide +kernel
theorem mw_363 : Cond.methodLink RL 53 yX12_feed ∈ wsL_law := inr_16 _ (List.mem_of_getElem? (i := 3) rfl)
theorem mw_366 : Cond.code yX12_feed cX12_feed 6 (some .int) ∈ wsL_law := inr_16 _ (List.mem_of_getElem? (i := 6) rfl)
theorem yk_X12_feed : xY yX12_feed RX12 cX12_feed 6 (some .int) 5 := ⟨⟨rfl, by decide +kernel, by decide +kernel, by decide +kernel⟩, mw_5, mw_366⟩
theorem mw_364 : Cond.instanceMethod yX12_feed ∈ wsL_law := inr_16 _ (List.mem_of_getElem? (i := 4) rfl)
theorem mw_365 : Cond.selects RX12 yX12_feed yX12_feed ∈ wsL_law := inr_16 _ (List.mem_of_getElem? (i := 5) rfl)
theorem dL_law_531 : decode cL_law 531 = .ok (.pop, 1) := by decide +kernel
theorem dL_law_532 : decode cL_law 532 = .ok (.goto 1224, 3) := by decide +kernel
set_option maxHeartbeats 4000000 in
set_option maxRecDepth 100000 in
theorem law_c7 {p : Program} {l : Launch} {e : Env} {s : State} {m : MethodId} {below : List Frame} {meth : Method} {c : Code} {H : Heap} {locs : List Loc} {Q : State → Prop} {D : va_G} {cy : Nat → ClassId} {A : Nat → Prop} {L : List Nat} {R O P : Nat → Nat} {f0 : Nat → va_E} {ls : Array Slot} {b N cs sl q rr GA GP GL GT : Nat} {xs : Nat → Int32} {V : Value} (F : CallFix p m c cL_law 4 s #[Value.ref b] wsL_law RL) (hZ : tZ A s s.heap) (hX0 : va_X b N xs s s.heap) (hbl : b < s.heap.size) (hbA : ¬ A b) (hcs : cs ≤ room_1.cells) (hsl : sl ≤ room_1.slots) (i : Int32) (bi : 0 ≤ i.toInt ∧ i.toInt + 6 ≤ N ∧ N ≤ 3072) (m_q : q ∈ L) (r_q : R q = 11) (m_rr : rr ∈ L) (r_rr : R rr = 12) (m_GA : GA ∈ L) (r_GA : R GA = 61) (m_GP : GP ∈ L) (r_GP : R GP = 69) (m_GL : GL ∈ L) (r_GL : R GL = 70) (m_GT : GT ∈ L) (r_GT : R GT = 64) (hLS : LWS D cy A s L R O P q rr GA GP GL GT V f0 H locs) (hl : lv_has ls 4 [(3, .int i), (2, .ref rr), (1, .ref q), (0, .ref b)]) (kk : ∀ (f1 : Nat → va_E) (H : Heap) (locs : List Loc) (ls : Array Slot), LWS D cy A s L R O P q rr GA GP GL GT V f1 H locs → lv_has ls 4 [(3, .int i), (2, .ref rr), (1, .ref q), (0, .ref b)] → W p l e room_1 s m #[Value.ref b] below meth c H locs cs sl Q (F0 m 1756 ls [])) : W p l e room_1 s m #[Value.ref b] below meth c H locs cs sl Q (F0 m 472 ls []) := by
  obtain ⟨h, hI, ⟨t_GA, t_GP, t_GL, t_GT⟩, hR, hX, hP, hTP, hTR, hTQ, hNR⟩ := hLS
  have hs6m := hI.2.2.1.1
  have hs6r := hI.2.2.1.2
  have hTMc := TMc_of h m_q r_q
  have hTMm := TMm_of h m_rr r_rr
  have hTPn := hTP
  have hTMn := TMn_of h hTMc
  have hTQn := hTQ
  have hCb := CS_le h m_q r_q
  refine lv_aload_n F.1 F.2.1 dL_law_472 rfl (lv_at hl 2 rfl) ?_
  refine lv_aload_n F.1 F.2.1 dL_law_473 rfl (lv_at hl 3 rfl) ?_
  refine lv_iload_n F.1 F.2.1 dL_law_474 rfl (lv_at hl 0 rfl) ?_
  refine tw_iconst F dL_law_475 ki_1 (fun z1 hz1 => ?_)
  refine tu_iadd F dL_law_476 (by omega) (fun z2 hz2 => ?_)
  refine va_sld F.1 F.2.1 hX0 hbl hbA h.dd.2.2 (tw_in (by omega) (by omega)) dL_law_477 ?_
  refine lv_topi (fun z3 qz3 => ?_)
  refine lv_aload_n F.1 F.2.1 dL_law_478 rfl (lv_at hl 3 rfl) ?_
  refine lv_iload_n F.1 F.2.1 dL_law_479 rfl (lv_at hl 0 rfl) ?_
  refine tw_iconst F dL_law_480 ki_2 (fun z4 hz4 => ?_)
  refine tu_iadd F dL_law_481 (by omega) (fun z5 hz5 => ?_)
  refine va_sld F.1 F.2.1 hX0 hbl hbA h.dd.2.2 (tw_in (by omega) (by omega)) dL_law_482 ?_
  refine lv_topi (fun z6 qz6 => ?_)
  refine lv_aload_n F.1 F.2.1 dL_law_483 rfl (lv_at hl 3 rfl) ?_
  refine lv_iload_n F.1 F.2.1 dL_law_484 rfl (lv_at hl 0 rfl) ?_
  refine tw_iconst F dL_law_485 ki_3 (fun z7 hz7 => ?_)
  refine tu_iadd F dL_law_486 (by omega) (fun z8 hz8 => ?_)
  refine va_sld F.1 F.2.1 hX0 hbl hbA h.dd.2.2 (tw_in (by omega) (by omega)) dL_law_487 ?_
  refine lv_topi (fun z9 qz9 => ?_)
  refine lv_aload_n F.1 F.2.1 dL_law_488 rfl (lv_at hl 3 rfl) ?_
  refine lv_iload_n F.1 F.2.1 dL_law_489 rfl (lv_at hl 0 rfl) ?_
  refine tw_iconst F dL_law_490 ki_4 (fun z10 hz10 => ?_)
  refine tu_iadd F dL_law_491 (by omega) (fun z11 hz11 => ?_)
  refine va_sld F.1 F.2.1 hX0 hbl hbA h.dd.2.2 (tw_in (by omega) (by omega)) dL_law_492 ?_
  refine lv_topi (fun z12 qz12 => ?_)
  refine lv_aload_n F.1 F.2.1 dL_law_493 rfl (lv_at hl 3 rfl) ?_
  refine lv_iload_n F.1 F.2.1 dL_law_494 rfl (lv_at hl 0 rfl) ?_
  refine tw_iconst F dL_law_495 ki_5 (fun z13 hz13 => ?_)
  refine tu_iadd F dL_law_496 (by omega) (fun z14 hz14 => ?_)
  refine va_sld F.1 F.2.1 hX0 hbl hbA h.dd.2.2 (tw_in (by omega) (by omega)) dL_law_497 ?_
  refine lv_topi (fun z15 qz15 => ?_)
  refine tw_Vi (As := [.int z3, .int z6, .int z9, .int z12, .int z15]) F hZ h yk_X11_feed mw_355 mw_356 mw_357 (s_X11_feed l D cy L R O f0 q m_q r_q z3 z6 z9 z12 z15) rfl rfl m_q r_q (fun e q => (T_11 e).mp q) rfl hl.1 rfl (Nat.le_of_ble_eq_true rfl) ⟨Nat.le_of_ble_eq_true rfl, Nat.le_of_ble_eq_true rfl⟩ ⟨hcs, hsl⟩ dL_law_498 (fun v17 f16 H locs hp16 h => ?_)
  obtain ⟨hf16, hv17a, hv17b⟩ := hp16
  have en18a := TNa hTMc hf16 m_q r_q (by decide +kernel) (by decide +kernel) (by decide +kernel)
  have en18c := TNc hTMc hTMn hf16 m_q r_q (by decide +kernel) (by decide +kernel) (by decide +kernel) (by decide +kernel)
  have en18m := TNm t_GT m_GT r_GT hf16 m_rr r_rr (by decide +kernel) (by decide +kernel)
  have et19p := TRp hTMc hf16 m_q r_q (by decide +kernel) (by decide +kernel)
  have et19c := TRc hTMc hf16 m_q r_q (by decide +kernel) (by decide +kernel) (by decide +kernel) (by decide +kernel)
  have et19m := TRm hTMm hf16 m_rr r_rr (by decide +kernel) (by decide +kernel) (by decide +kernel) (by decide +kernel)
  have hTPn : ∀ i, i < 4 → P (trs f16 q i) = i := fun i hi => by rw [et19p i]; exact hTPn i hi
  have hTMc := TMc_of h m_q r_q
  have hTMm := TMm_of h m_rr r_rr
  have hTQn : ∀ i, i < 4 → P (rfa f16 (trs f16 q i) 0) = i := fun i hi => by rw [en18a i hi]; exact hTQn i hi
  have hTMn := TMn_of h hTMc
  have hI : INV L R O P f16 q := hI.most m_q r_q hf16 (by decide +kernel) (by decide +kernel) (by decide +kernel) (by decide +kernel) (by decide +kernel)
  have t_GA : fld f16 rr 0 = .ref GA := (hf16.efl m_rr r_rr (by decide +kernel)).trans t_GA
  have t_GP : fld f16 rr 22 = .ref GP := (hf16.efl m_rr r_rr (by decide +kernel)).trans t_GP
  have t_GL : fld f16 rr 23 = .ref GL := (hf16.efl m_rr r_rr (by decide +kernel)).trans t_GL
  have t_GT : fld f16 rr 6 = .ref GT := (hf16.efl m_rr r_rr (by decide +kernel)).trans t_GT
  have hR : RBA GA f16 := hR.fm hf16 m_GA r_GA (by decide +kernel)
  have hX : GZ GP GL f16 := hX.fm hf16 m_GP r_GP m_GL r_GL (by decide +kernel) (by decide +kernel)
  have hP : fld f16 (rfa f16 q 6) 16 = V := by rw [hf16.erf m_q r_q (by decide +kernel), hf16.efl hs6m hs6r (by decide +kernel)]; exact hP
  have hs6m : rfa f16 q 6 ∈ L := by rw [hf16.erf m_q r_q (by decide +kernel)]; exact hs6m
  have hs6r : R (rfa f16 q 6) = 7 := by rw [hf16.erf m_q r_q (by decide +kernel)]; exact hs6r
  refine lv_pop F.1 F.2.1 dL_law_501 rfl ?_
  refine lv_aload_n F.1 F.2.1 dL_law_502 rfl (lv_at hl 1 rfl) ?_
  refine lv_aload_n F.1 F.2.1 dL_law_503 rfl (lv_at hl 3 rfl) ?_
  refine lv_iload_n F.1 F.2.1 dL_law_504 rfl (lv_at hl 0 rfl) ?_
  refine tw_iconst F dL_law_505 ki_1 (fun z20 hz20 => ?_)
  refine tu_iadd F dL_law_506 (by omega) (fun z21 hz21 => ?_)
  refine va_sld F.1 F.2.1 hX0 hbl hbA h.dd.2.2 (tw_in (by omega) (by omega)) dL_law_507 ?_
  refine lv_topi (fun z22 qz22 => ?_)
  obtain rfl : z3 = z22 := by rw [qz3, qz22, show z2 = z21 from Int32.toInt_inj.mp (by omega)]
  refine lv_aload_n F.1 F.2.1 dL_law_508 rfl (lv_at hl 3 rfl) ?_
  refine lv_iload_n F.1 F.2.1 dL_law_509 rfl (lv_at hl 0 rfl) ?_
  refine tw_iconst F dL_law_510 ki_2 (fun z23 hz23 => ?_)
  refine tu_iadd F dL_law_511 (by omega) (fun z24 hz24 => ?_)
  refine va_sld F.1 F.2.1 hX0 hbl hbA h.dd.2.2 (tw_in (by omega) (by omega)) dL_law_512 ?_
  refine lv_topi (fun z25 qz25 => ?_)
  obtain rfl : z6 = z25 := by rw [qz6, qz25, show z5 = z24 from Int32.toInt_inj.mp (by omega)]
  refine lv_aload_n F.1 F.2.1 dL_law_513 rfl (lv_at hl 3 rfl) ?_
  refine lv_iload_n F.1 F.2.1 dL_law_514 rfl (lv_at hl 0 rfl) ?_
  refine tw_iconst F dL_law_515 ki_3 (fun z26 hz26 => ?_)
  refine tu_iadd F dL_law_516 (by omega) (fun z27 hz27 => ?_)
  refine va_sld F.1 F.2.1 hX0 hbl hbA h.dd.2.2 (tw_in (by omega) (by omega)) dL_law_517 ?_
  refine lv_topi (fun z28 qz28 => ?_)
  obtain rfl : z9 = z28 := by rw [qz9, qz28, show z8 = z27 from Int32.toInt_inj.mp (by omega)]
  refine lv_aload_n F.1 F.2.1 dL_law_518 rfl (lv_at hl 3 rfl) ?_
  refine lv_iload_n F.1 F.2.1 dL_law_519 rfl (lv_at hl 0 rfl) ?_
  refine tw_iconst F dL_law_520 ki_4 (fun z29 hz29 => ?_)
  refine tu_iadd F dL_law_521 (by omega) (fun z30 hz30 => ?_)
  refine va_sld F.1 F.2.1 hX0 hbl hbA h.dd.2.2 (tw_in (by omega) (by omega)) dL_law_522 ?_
  refine lv_topi (fun z31 qz31 => ?_)
  obtain rfl : z12 = z31 := by rw [qz12, qz31, show z11 = z30 from Int32.toInt_inj.mp (by omega)]
  refine lv_aload_n F.1 F.2.1 dL_law_523 rfl (lv_at hl 3 rfl) ?_
  refine lv_iload_n F.1 F.2.1 dL_law_524 rfl (lv_at hl 0 rfl) ?_
  refine tw_iconst F dL_law_525 ki_5 (fun z32 hz32 => ?_)
  refine tu_iadd F dL_law_526 (by omega) (fun z33 hz33 => ?_)
  refine va_sld F.1 F.2.1 hX0 hbl hbA h.dd.2.2 (tw_in (by omega) (by omega)) dL_law_527 ?_
  refine lv_topi (fun z34 qz34 => ?_)
  obtain rfl : z15 = z34 := by rw [qz15, qz34, show z14 = z33 from Int32.toInt_inj.mp (by omega)]
  refine tw_Vi (As := [.int z3, .int z6, .int z9, .int z12, .int z15]) F hZ h yk_X12_feed mw_363 mw_364 mw_365 (s_X12_feed l D cy L R O f16 rr m_rr r_rr z3 z6 z9 z12 z15) rfl rfl m_rr r_rr (fun e q => (T_12 e).mp q) rfl hl.1 rfl (Nat.le_of_ble_eq_true rfl) ⟨Nat.le_of_ble_eq_true rfl, Nat.le_of_ble_eq_true rfl⟩ ⟨hcs, hsl⟩ dL_law_528 (fun v36 f35 H locs hp35 h => ?_)
  obtain ⟨hf35, hv36a, hv36b⟩ := hp35
  have en37a := TNa hTMc hf35 m_q r_q (by decide +kernel) (by decide +kernel) (by decide +kernel)
  have en37c := TNc hTMc hTMn hf35 m_q r_q (by decide +kernel) (by decide +kernel) (by decide +kernel) (by decide +kernel)
  have en37m := TNm t_GT m_GT r_GT hf35 m_rr r_rr (by decide +kernel) (by decide +kernel)
  have et38p := TRp hTMc hf35 m_q r_q (by decide +kernel) (by decide +kernel)
  have et38c := TRc hTMc hf35 m_q r_q (by decide +kernel) (by decide +kernel) (by decide +kernel) (by decide +kernel)
  have et38m := TRm hTMm hf35 m_rr r_rr (by decide +kernel) (by decide +kernel) (by decide +kernel) (by decide +kernel)
  have hTPn : ∀ i, i < 4 → P (trs f35 q i) = i := fun i hi => by rw [et38p i]; exact hTPn i hi
  have hTMc := TMc_of h m_q r_q
  have hTMm := TMm_of h m_rr r_rr
  have hTQn : ∀ i, i < 4 → P (rfa f35 (trs f35 q i) 0) = i := fun i hi => by rw [en37a i hi]; exact hTQn i hi
  have hTMn := TMn_of h hTMc
  have hI : INV L R O P f35 q := hI.most m_q r_q hf35 (by decide +kernel) (by decide +kernel) (by decide +kernel) (by decide +kernel) (by decide +kernel)
  have t_GA : fld f35 rr 0 = .ref GA := (hf35.efl m_rr r_rr (by decide +kernel)).trans t_GA
  have t_GP : fld f35 rr 22 = .ref GP := (hf35.efl m_rr r_rr (by decide +kernel)).trans t_GP
  have t_GL : fld f35 rr 23 = .ref GL := (hf35.efl m_rr r_rr (by decide +kernel)).trans t_GL
  have t_GT : fld f35 rr 6 = .ref GT := (hf35.efl m_rr r_rr (by decide +kernel)).trans t_GT
  have hR : RBA GA f35 := hR.fm hf35 m_GA r_GA (by decide +kernel)
  have hX : GZ GP GL f35 := hX.fm hf35 m_GP r_GP m_GL r_GL (by decide +kernel) (by decide +kernel)
  have hP : fld f35 (rfa f35 q 6) 16 = V := by rw [hf35.erf m_q r_q (by decide +kernel), hf35.efl hs6m hs6r (by decide +kernel)]; exact hP
  have hs6m : rfa f35 q 6 ∈ L := by rw [hf35.erf m_q r_q (by decide +kernel)]; exact hs6m
  have hs6r : R (rfa f35 q 6) = 7 := by rw [hf35.erf m_q r_q (by decide +kernel)]; exact hs6r
  refine lv_pop F.1 F.2.1 dL_law_531 rfl ?_
  refine lv_goto (tgt := 1756) F.1 F.2.1 dL_law_532 (by decide) ?_
  exact kk f35 _ _ _ ⟨h, hI, ⟨t_GA, t_GP, t_GL, t_GT⟩, hR, hX, hP, hTPn, fun i hi => by have q0 := hTR i hi; have q1 := et19c i hi; have q2 := et19m i; have q3 := et38c i hi; have q4 := et38m i; omega, hTQn, fun i hi j hj => by have q0 := hTR i hi; have q1 := et19c i hi; have q2 := et19m i; have q3 := et38c i hi; have q4 := et38m i; have qb := hCb i hi; have hj6 : j < 60 := (by omega); have n0 := hNR i hi j; have n1 := en18c i hi j; have n2 := en18m i j; have n3 := en37c i hi j; have n4 := en37m i j; omega⟩ hl
theorem dL_law_535 : decode cL_law 535 = .ok (.aload_n 1, 1) := by decide +kernel
theorem dL_law_536 : decode cL_law 536 = .ok (.aload_n 0, 1) := by decide +kernel
theorem dL_law_537 : decode cL_law 537 = .ok (.iload_n 3, 1) := by decide +kernel
theorem dL_law_538 : decode cL_law 538 = .ok (.iconst 1, 1) := by decide +kernel
theorem dL_law_539 : decode cL_law 539 = .ok (.iadd, 1) := by decide +kernel
theorem dL_law_540 : decode cL_law 540 = .ok (.iaload, 1) := by decide +kernel
theorem dL_law_541 : decode cL_law 541 = .ok (.invokevirtual 54, 3) := by decide +kernel
theorem mw_372 : Cond.methodLink RL 54 yX11_line ∈ wsL_law := inr_16 _ (List.mem_of_getElem? (i := 12) rfl)
theorem mw_375 : Cond.code yX11_line cX11_line 2 (some .int) ∈ wsL_law := inr_16 _ (List.mem_of_getElem? (i := 15) rfl)
theorem yk_X11_line : xY yX11_line RX11 cX11_line 2 (some .int) 1 := ⟨⟨rfl, by decide +kernel, by decide +kernel, by decide +kernel⟩, mw_2, mw_375⟩
theorem mw_373 : Cond.instanceMethod yX11_line ∈ wsL_law := inr_16 _ (List.mem_of_getElem? (i := 13) rfl)
theorem mw_374 : Cond.selects RX11 yX11_line yX11_line ∈ wsL_law := inr_16 _ (List.mem_of_getElem? (i := 14) rfl)
theorem dL_law_544 : decode cL_law 544 = .ok (.pop, 1) := by decide +kernel
theorem dL_law_545 : decode cL_law 545 = .ok (.aload_n 2, 1) := by decide +kernel
theorem dL_law_546 : decode cL_law 546 = .ok (.aload_n 0, 1) := by decide +kernel
theorem dL_law_547 : decode cL_law 547 = .ok (.iload_n 3, 1) := by decide +kernel
theorem dL_law_548 : decode cL_law 548 = .ok (.iconst 1, 1) := by decide +kernel
theorem dL_law_549 : decode cL_law 549 = .ok (.iadd, 1) := by decide +kernel
theorem dL_law_550 : decode cL_law 550 = .ok (.iaload, 1) := by decide +kernel
theorem dL_law_551 : decode cL_law 551 = .ok (.invokevirtual 58, 3) := by decide +kernel
theorem mw_446 : Cond.methodLink RL 58 yX12_line ∈ wsL_law := inr_19 _ (List.mem_of_getElem? (i := 14) rfl)
theorem mw_449 : Cond.code yX12_line cX12_line 5 (some .int) ∈ wsL_law := inr_19 _ (List.mem_of_getElem? (i := 17) rfl)
theorem yk_X12_line : xY yX12_line RX12 cX12_line 5 (some .int) 1 := ⟨⟨rfl, by decide +kernel, by decide +kernel, by decide +kernel⟩, mw_5, mw_449⟩
theorem mw_447 : Cond.instanceMethod yX12_line ∈ wsL_law := inr_19 _ (List.mem_of_getElem? (i := 15) rfl)
theorem mw_448 : Cond.selects RX12 yX12_line yX12_line ∈ wsL_law := inr_19 _ (List.mem_of_getElem? (i := 16) rfl)
theorem dL_law_554 : decode cL_law 554 = .ok (.pop, 1) := by decide +kernel
theorem dL_law_555 : decode cL_law 555 = .ok (.goto 1201, 3) := by decide +kernel
set_option maxHeartbeats 4000000 in
set_option maxRecDepth 100000 in
theorem law_c8 {p : Program} {l : Launch} {e : Env} {s : State} {m : MethodId} {below : List Frame} {meth : Method} {c : Code} {H : Heap} {locs : List Loc} {Q : State → Prop} {D : va_G} {cy : Nat → ClassId} {A : Nat → Prop} {L : List Nat} {R O P : Nat → Nat} {f0 : Nat → va_E} {ls : Array Slot} {b N cs sl q rr GA GP GL GT : Nat} {xs : Nat → Int32} {V : Value} (F : CallFix p m c cL_law 4 s #[Value.ref b] wsL_law RL) (hZ : tZ A s s.heap) (hX0 : va_X b N xs s s.heap) (hbl : b < s.heap.size) (hbA : ¬ A b) (hcs : cs ≤ room_1.cells) (hsl : sl ≤ room_1.slots) (i : Int32) (bi : 0 ≤ i.toInt ∧ i.toInt + 6 ≤ N ∧ N ≤ 3072) (m_q : q ∈ L) (r_q : R q = 11) (m_rr : rr ∈ L) (r_rr : R rr = 12) (m_GA : GA ∈ L) (r_GA : R GA = 61) (m_GP : GP ∈ L) (r_GP : R GP = 69) (m_GL : GL ∈ L) (r_GL : R GL = 70) (m_GT : GT ∈ L) (r_GT : R GT = 64) (hLS : LWS D cy A s L R O P q rr GA GP GL GT V f0 H locs) (hl : lv_has ls 4 [(3, .int i), (2, .ref rr), (1, .ref q), (0, .ref b)]) (kk : ∀ (f1 : Nat → va_E) (H : Heap) (locs : List Loc) (ls : Array Slot), LWS D cy A s L R O P q rr GA GP GL GT V f1 H locs → lv_has ls 4 [(3, .int i), (2, .ref rr), (1, .ref q), (0, .ref b)] → W p l e room_1 s m #[Value.ref b] below meth c H locs cs sl Q (F0 m 1756 ls [])) : W p l e room_1 s m #[Value.ref b] below meth c H locs cs sl Q (F0 m 535 ls []) := by
  obtain ⟨h, hI, ⟨t_GA, t_GP, t_GL, t_GT⟩, hR, hX, hP, hTP, hTR, hTQ, hNR⟩ := hLS
  have hs6m := hI.2.2.1.1
  have hs6r := hI.2.2.1.2
  have hTMc := TMc_of h m_q r_q
  have hTMm := TMm_of h m_rr r_rr
  have hTPn := hTP
  have hTMn := TMn_of h hTMc
  have hTQn := hTQ
  have hCb := CS_le h m_q r_q
  refine lv_aload_n F.1 F.2.1 dL_law_535 rfl (lv_at hl 2 rfl) ?_
  refine lv_aload_n F.1 F.2.1 dL_law_536 rfl (lv_at hl 3 rfl) ?_
  refine lv_iload_n F.1 F.2.1 dL_law_537 rfl (lv_at hl 0 rfl) ?_
  refine tw_iconst F dL_law_538 ki_1 (fun z1 hz1 => ?_)
  refine tu_iadd F dL_law_539 (by omega) (fun z2 hz2 => ?_)
  refine va_sld F.1 F.2.1 hX0 hbl hbA h.dd.2.2 (tw_in (by omega) (by omega)) dL_law_540 ?_
  refine lv_topi (fun z3 qz3 => ?_)
  refine tw_Vi (As := [.int z3]) F hZ h yk_X11_line mw_372 mw_373 mw_374 (s_X11_line l D cy L R O f0 q m_q r_q z3) rfl rfl m_q r_q (fun e q => (T_11 e).mp q) rfl hl.1 rfl (Nat.le_of_ble_eq_true rfl) ⟨Nat.le_of_ble_eq_true rfl, Nat.le_of_ble_eq_true rfl⟩ ⟨hcs, hsl⟩ dL_law_541 (fun v5 f4 H locs hp4 h => ?_)
  have hf4 := hp4
  have en6a := TNa hTMc hf4 m_q r_q (by decide +kernel) (by decide +kernel) (by decide +kernel)
  have en6c := TNc hTMc hTMn hf4 m_q r_q (by decide +kernel) (by decide +kernel) (by decide +kernel) (by decide +kernel)
  have en6m := TNm t_GT m_GT r_GT hf4 m_rr r_rr (by decide +kernel) (by decide +kernel)
  have et7p := TRp hTMc hf4 m_q r_q (by decide +kernel) (by decide +kernel)
  have et7c := TRc hTMc hf4 m_q r_q (by decide +kernel) (by decide +kernel) (by decide +kernel) (by decide +kernel)
  have et7m := TRm hTMm hf4 m_rr r_rr (by decide +kernel) (by decide +kernel) (by decide +kernel) (by decide +kernel)
  have hTPn : ∀ i, i < 4 → P (trs f4 q i) = i := fun i hi => by rw [et7p i]; exact hTPn i hi
  have hTMc := TMc_of h m_q r_q
  have hTMm := TMm_of h m_rr r_rr
  have hTQn : ∀ i, i < 4 → P (rfa f4 (trs f4 q i) 0) = i := fun i hi => by rw [en6a i hi]; exact hTQn i hi
  have hTMn := TMn_of h hTMc
  have hI : INV L R O P f4 q := hI.most m_q r_q hf4 (by decide +kernel) (by decide +kernel) (by decide +kernel) (by decide +kernel) (by decide +kernel)
  have t_GA : fld f4 rr 0 = .ref GA := (hf4.efl m_rr r_rr (by decide +kernel)).trans t_GA
  have t_GP : fld f4 rr 22 = .ref GP := (hf4.efl m_rr r_rr (by decide +kernel)).trans t_GP
  have t_GL : fld f4 rr 23 = .ref GL := (hf4.efl m_rr r_rr (by decide +kernel)).trans t_GL
  have t_GT : fld f4 rr 6 = .ref GT := (hf4.efl m_rr r_rr (by decide +kernel)).trans t_GT
  have hR : RBA GA f4 := hR.fm hf4 m_GA r_GA (by decide +kernel)
  have hX : GZ GP GL f4 := hX.fm hf4 m_GP r_GP m_GL r_GL (by decide +kernel) (by decide +kernel)
  have hP : fld f4 (rfa f4 q 6) 16 = V := by rw [hf4.erf m_q r_q (by decide +kernel), hf4.efl hs6m hs6r (by decide +kernel)]; exact hP
  have hs6m : rfa f4 q 6 ∈ L := by rw [hf4.erf m_q r_q (by decide +kernel)]; exact hs6m
  have hs6r : R (rfa f4 q 6) = 7 := by rw [hf4.erf m_q r_q (by decide +kernel)]; exact hs6r
  refine lv_pop F.1 F.2.1 dL_law_544 rfl ?_
  refine lv_aload_n F.1 F.2.1 dL_law_545 rfl (lv_at hl 1 rfl) ?_
  refine lv_aload_n F.1 F.2.1 dL_law_546 rfl (lv_at hl 3 rfl) ?_
  refine lv_iload_n F.1 F.2.1 dL_law_547 rfl (lv_at hl 0 rfl) ?_
  refine tw_iconst F dL_law_548 ki_1 (fun z8 hz8 => ?_)
  refine tu_iadd F dL_law_549 (by omega) (fun z9 hz9 => ?_)
  refine va_sld F.1 F.2.1 hX0 hbl hbA h.dd.2.2 (tw_in (by omega) (by omega)) dL_law_550 ?_
  refine lv_topi (fun z10 qz10 => ?_)
  obtain rfl : z3 = z10 := by rw [qz3, qz10, show z2 = z9 from Int32.toInt_inj.mp (by omega)]
  refine tw_Vi (As := [.int z3]) F hZ h yk_X12_line mw_446 mw_447 mw_448 (s_X12_line l D cy L R O f4 rr m_rr r_rr z3 GA m_GA r_GA t_GA GP m_GP r_GP t_GP GL m_GL r_GL t_GL GT m_GT r_GT t_GT hR hX) rfl rfl m_rr r_rr (fun e q => (T_12 e).mp q) rfl hl.1 rfl (Nat.le_of_ble_eq_true rfl) ⟨Nat.le_of_ble_eq_true rfl, Nat.le_of_ble_eq_true rfl⟩ ⟨hcs, hsl⟩ dL_law_551 (fun v12 f11 H locs hp11 h => ?_)
  obtain ⟨hf11, hv12p0, hv12p1⟩ := hp11
  have en13a := TNa hTMc hf11 m_q r_q (by decide +kernel) (by decide +kernel) (by decide +kernel)
  have en13c := TNc hTMc hTMn hf11 m_q r_q (by decide +kernel) (by decide +kernel) (by decide +kernel) (by decide +kernel)
  have en13m := TNm t_GT m_GT r_GT hf11 m_rr r_rr (by decide +kernel) (by decide +kernel)
  have et14p := TRp hTMc hf11 m_q r_q (by decide +kernel) (by decide +kernel)
  have et14c := TRc hTMc hf11 m_q r_q (by decide +kernel) (by decide +kernel) (by decide +kernel) (by decide +kernel)
  have et14m := TRm hTMm hf11 m_rr r_rr (by decide +kernel) (by decide +kernel) (by decide +kernel) (by decide +kernel)
  have hTPn : ∀ i, i < 4 → P (trs f11 q i) = i := fun i hi => by rw [et14p i]; exact hTPn i hi
  have hTMc := TMc_of h m_q r_q
  have hTMm := TMm_of h m_rr r_rr
  have hTQn : ∀ i, i < 4 → P (rfa f11 (trs f11 q i) 0) = i := fun i hi => by rw [en13a i hi]; exact hTQn i hi
  have hTMn := TMn_of h hTMc
  have hI : INV L R O P f11 q := hI.most m_q r_q hf11 (by decide +kernel) (by decide +kernel) (by decide +kernel) (by decide +kernel) (by decide +kernel)
  have t_GA : fld f11 rr 0 = .ref GA := (hf11.efl m_rr r_rr (by decide +kernel)).trans t_GA
  have t_GP : fld f11 rr 22 = .ref GP := (hf11.efl m_rr r_rr (by decide +kernel)).trans t_GP
  have t_GL : fld f11 rr 23 = .ref GL := (hf11.efl m_rr r_rr (by decide +kernel)).trans t_GL
  have t_GT : fld f11 rr 6 = .ref GT := (hf11.efl m_rr r_rr (by decide +kernel)).trans t_GT
  have hR : RBA GA f11 := hv12p0
  have hX : GZ GP GL f11 := hX.fm hf11 m_GP r_GP m_GL r_GL (by decide +kernel) (by decide +kernel)
  have hP : fld f11 (rfa f11 q 6) 16 = V := by rw [hf11.erf m_q r_q (by decide +kernel), hf11.efl hs6m hs6r (by decide +kernel)]; exact hP
  have hs6m : rfa f11 q 6 ∈ L := by rw [hf11.erf m_q r_q (by decide +kernel)]; exact hs6m
  have hs6r : R (rfa f11 q 6) = 7 := by rw [hf11.erf m_q r_q (by decide +kernel)]; exact hs6r
  refine lv_pop F.1 F.2.1 dL_law_554 rfl ?_
  refine lv_goto (tgt := 1756) F.1 F.2.1 dL_law_555 (by decide) ?_
  exact kk f11 _ _ _ ⟨h, hI, ⟨t_GA, t_GP, t_GL, t_GT⟩, hR, hX, hP, hTPn, fun i hi => by have q0 := hTR i hi; have q1 := et7c i hi; have q2 := et7m i; have q3 := et14c i hi; have q4 := et14m i; omega, hTQn, fun i hi j hj => by have q0 := hTR i hi; have q1 := et7c i hi; have q2 := et7m i; have q3 := et14c i hi; have q4 := et14m i; have qb := hCb i hi; have hj6 : j < 60 := (by omega); have n0 := hNR i hi j; have n1 := en6c i hi j; have n2 := en6m i j; have n3 := en13c i hi j; have n4 := en13m i j; omega⟩ hl
theorem dL_law_558 : decode cL_law 558 = .ok (.aload_n 1, 1) := by decide +kernel
theorem dL_law_559 : decode cL_law 559 = .ok (.aload_n 0, 1) := by decide +kernel
theorem dL_law_560 : decode cL_law 560 = .ok (.iload_n 3, 1) := by decide +kernel
theorem dL_law_561 : decode cL_law 561 = .ok (.iconst 1, 1) := by decide +kernel
theorem dL_law_562 : decode cL_law 562 = .ok (.iadd, 1) := by decide +kernel
theorem dL_law_563 : decode cL_law 563 = .ok (.iaload, 1) := by decide +kernel
theorem dL_law_564 : decode cL_law 564 = .ok (.aload_n 0, 1) := by decide +kernel
theorem dL_law_565 : decode cL_law 565 = .ok (.iload_n 3, 1) := by decide +kernel
theorem dL_law_566 : decode cL_law 566 = .ok (.iconst 2, 1) := by decide +kernel
theorem dL_law_567 : decode cL_law 567 = .ok (.iadd, 1) := by decide +kernel
theorem dL_law_568 : decode cL_law 568 = .ok (.iaload, 1) := by decide +kernel
theorem dL_law_569 : decode cL_law 569 = .ok (.invokevirtual 59, 3) := by decide +kernel
theorem mw_503 : Cond.methodLink RL 59 yX11_script ∈ wsL_law := inr_21 _ (List.mem_of_getElem? (i := 23) rfl)
theorem mw_506 : Cond.code yX11_script cX11_script 5 (some .int) ∈ wsL_law := inr_22 _ (List.mem_of_getElem? (i := 2) rfl)
theorem yk_X11_script : xY yX11_script RX11 cX11_script 5 (some .int) 2 := ⟨⟨rfl, by decide +kernel, by decide +kernel, by decide +kernel⟩, mw_2, mw_506⟩
theorem mw_504 : Cond.instanceMethod yX11_script ∈ wsL_law := inr_22 _ (List.mem_of_getElem? (i := 0) rfl)
theorem mw_505 : Cond.selects RX11 yX11_script yX11_script ∈ wsL_law := inr_22 _ (List.mem_of_getElem? (i := 1) rfl)
theorem dL_law_572 : decode cL_law 572 = .ok (.pop, 1) := by decide +kernel
theorem dL_law_573 : decode cL_law 573 = .ok (.aload_n 2, 1) := by decide +kernel
theorem dL_law_574 : decode cL_law 574 = .ok (.aload_n 0, 1) := by decide +kernel
theorem dL_law_575 : decode cL_law 575 = .ok (.iload_n 3, 1) := by decide +kernel
theorem dL_law_576 : decode cL_law 576 = .ok (.iconst 1, 1) := by decide +kernel
theorem dL_law_577 : decode cL_law 577 = .ok (.iadd, 1) := by decide +kernel
theorem dL_law_578 : decode cL_law 578 = .ok (.iaload, 1) := by decide +kernel
theorem dL_law_579 : decode cL_law 579 = .ok (.aload_n 0, 1) := by decide +kernel
theorem dL_law_580 : decode cL_law 580 = .ok (.iload_n 3, 1) := by decide +kernel
theorem dL_law_581 : decode cL_law 581 = .ok (.iconst 2, 1) := by decide +kernel
theorem dL_law_582 : decode cL_law 582 = .ok (.iadd, 1) := by decide +kernel
theorem dL_law_583 : decode cL_law 583 = .ok (.iaload, 1) := by decide +kernel
theorem dL_law_584 : decode cL_law 584 = .ok (.invokevirtual 63, 3) := by decide +kernel
theorem mw_630 : Cond.methodLink RL 63 yX12_script ∈ wsL_law := inr_27 _ (List.mem_of_getElem? (i := 6) rfl)
theorem mw_633 : Cond.code yX12_script cX12_script 5 (some .int) ∈ wsL_law := inr_27 _ (List.mem_of_getElem? (i := 9) rfl)
theorem yk_X12_script : xY yX12_script RX12 cX12_script 5 (some .int) 2 := ⟨⟨rfl, by decide +kernel, by decide +kernel, by decide +kernel⟩, mw_5, mw_633⟩
theorem mw_631 : Cond.instanceMethod yX12_script ∈ wsL_law := inr_27 _ (List.mem_of_getElem? (i := 7) rfl)
theorem mw_632 : Cond.selects RX12 yX12_script yX12_script ∈ wsL_law := inr_27 _ (List.mem_of_getElem? (i := 8) rfl)
theorem dL_law_587 : decode cL_law 587 = .ok (.pop, 1) := by decide +kernel
theorem dL_law_588 : decode cL_law 588 = .ok (.goto 1168, 3) := by decide +kernel
set_option maxHeartbeats 4000000 in
set_option maxRecDepth 100000 in
theorem law_c9 {p : Program} {l : Launch} {e : Env} {s : State} {m : MethodId} {below : List Frame} {meth : Method} {c : Code} {H : Heap} {locs : List Loc} {Q : State → Prop} {D : va_G} {cy : Nat → ClassId} {A : Nat → Prop} {L : List Nat} {R O P : Nat → Nat} {f0 : Nat → va_E} {ls : Array Slot} {b N cs sl q rr GA GP GL GT : Nat} {xs : Nat → Int32} {V : Value} (F : CallFix p m c cL_law 4 s #[Value.ref b] wsL_law RL) (hZ : tZ A s s.heap) (hX0 : va_X b N xs s s.heap) (hbl : b < s.heap.size) (hbA : ¬ A b) (hcs : cs ≤ room_1.cells) (hsl : sl ≤ room_1.slots) (i : Int32) (bi : 0 ≤ i.toInt ∧ i.toInt + 6 ≤ N ∧ N ≤ 3072) (m_q : q ∈ L) (r_q : R q = 11) (m_rr : rr ∈ L) (r_rr : R rr = 12) (m_GA : GA ∈ L) (r_GA : R GA = 61) (m_GP : GP ∈ L) (r_GP : R GP = 69) (m_GL : GL ∈ L) (r_GL : R GL = 70) (m_GT : GT ∈ L) (r_GT : R GT = 64) (hLS : LWS D cy A s L R O P q rr GA GP GL GT V f0 H locs) (hl : lv_has ls 4 [(3, .int i), (2, .ref rr), (1, .ref q), (0, .ref b)]) (kk : ∀ (f1 : Nat → va_E) (H : Heap) (locs : List Loc) (ls : Array Slot), LWS D cy A s L R O P q rr GA GP GL GT V f1 H locs → lv_has ls 4 [(3, .int i), (2, .ref rr), (1, .ref q), (0, .ref b)] → W p l e room_1 s m #[Value.ref b] below meth c H locs cs sl Q (F0 m 1756 ls [])) : W p l e room_1 s m #[Value.ref b] below meth c H locs cs sl Q (F0 m 558 ls []) := by
  obtain ⟨h, hI, ⟨t_GA, t_GP, t_GL, t_GT⟩, hR, hX, hP, hTP, hTR, hTQ, hNR⟩ := hLS
  have hs6m := hI.2.2.1.1
  have hs6r := hI.2.2.1.2
  have hTMc := TMc_of h m_q r_q
  have hTMm := TMm_of h m_rr r_rr
  have hTPn := hTP
  have hTMn := TMn_of h hTMc
  have hTQn := hTQ
  have hCb := CS_le h m_q r_q
  refine lv_aload_n F.1 F.2.1 dL_law_558 rfl (lv_at hl 2 rfl) ?_
  refine lv_aload_n F.1 F.2.1 dL_law_559 rfl (lv_at hl 3 rfl) ?_
  refine lv_iload_n F.1 F.2.1 dL_law_560 rfl (lv_at hl 0 rfl) ?_
  refine tw_iconst F dL_law_561 ki_1 (fun z1 hz1 => ?_)
  refine tu_iadd F dL_law_562 (by omega) (fun z2 hz2 => ?_)
  refine va_sld F.1 F.2.1 hX0 hbl hbA h.dd.2.2 (tw_in (by omega) (by omega)) dL_law_563 ?_
  refine lv_topi (fun z3 qz3 => ?_)
  refine lv_aload_n F.1 F.2.1 dL_law_564 rfl (lv_at hl 3 rfl) ?_
  refine lv_iload_n F.1 F.2.1 dL_law_565 rfl (lv_at hl 0 rfl) ?_
  refine tw_iconst F dL_law_566 ki_2 (fun z4 hz4 => ?_)
  refine tu_iadd F dL_law_567 (by omega) (fun z5 hz5 => ?_)
  refine va_sld F.1 F.2.1 hX0 hbl hbA h.dd.2.2 (tw_in (by omega) (by omega)) dL_law_568 ?_
  refine lv_topi (fun z6 qz6 => ?_)
  refine tw_Vi (As := [.int z3, .int z6]) F hZ h yk_X11_script mw_503 mw_504 mw_505 (s_X11_scriptI l D cy L R O f0 hI.2.2.2.1 q m_q r_q z3 z6 P hI.2.2.2.2.1) rfl rfl m_q r_q (fun e q => (T_11 e).mp q) rfl hl.1 rfl (Nat.le_of_ble_eq_true rfl) ⟨Nat.le_of_ble_eq_true rfl, Nat.le_of_ble_eq_true rfl⟩ ⟨hcs, hsl⟩ dL_law_569 (fun v8 f7 H locs hp7 h => ?_)
  obtain ⟨hf7, hG, hv8p0⟩ := hp7
  have en9a := TNa hTMc hf7 m_q r_q (by decide +kernel) (by decide +kernel) (by decide +kernel)
  have en9c := TNc hTMc hTMn hf7 m_q r_q (by decide +kernel) (by decide +kernel) (by decide +kernel) (by decide +kernel)
  have en9m := TNm t_GT m_GT r_GT hf7 m_rr r_rr (by decide +kernel) (by decide +kernel)
  have et10p := TRp hTMc hf7 m_q r_q (by decide +kernel) (by decide +kernel)
  have et10c := TRc hTMc hf7 m_q r_q (by decide +kernel) (by decide +kernel) (by decide +kernel) (by decide +kernel)
  have et10m := TRm hTMm hf7 m_rr r_rr (by decide +kernel) (by decide +kernel) (by decide +kernel) (by decide +kernel)
  have hTPn : ∀ i, i < 4 → P (trs f7 q i) = i := fun i hi => by rw [et10p i]; exact hTPn i hi
  have hTMc := TMc_of h m_q r_q
  have hTMm := TMm_of h m_rr r_rr
  have hTQn : ∀ i, i < 4 → P (rfa f7 (trs f7 q i) 0) = i := fun i hi => by rw [en9a i hi]; exact hTQn i hi
  have hTMn := TMn_of h hTMc
  have hI : INV L R O P f7 q := hI.mk1 m_q r_q hf7 (by decide +kernel) hG hv8p0
  have t_GA : fld f7 rr 0 = .ref GA := (hf7.efl m_rr r_rr (by decide +kernel)).trans t_GA
  have t_GP : fld f7 rr 22 = .ref GP := (hf7.efl m_rr r_rr (by decide +kernel)).trans t_GP
  have t_GL : fld f7 rr 23 = .ref GL := (hf7.efl m_rr r_rr (by decide +kernel)).trans t_GL
  have t_GT : fld f7 rr 6 = .ref GT := (hf7.efl m_rr r_rr (by decide +kernel)).trans t_GT
  have hR : RBA GA f7 := hR.fm hf7 m_GA r_GA (by decide +kernel)
  have hX : GZ GP GL f7 := hX.fm hf7 m_GP r_GP m_GL r_GL (by decide +kernel) (by decide +kernel)
  have hP : fld f7 (rfa f7 q 6) 16 = V := by rw [hf7.erf m_q r_q (by decide +kernel), hf7.efl hs6m hs6r (by decide +kernel)]; exact hP
  have hs6m : rfa f7 q 6 ∈ L := by rw [hf7.erf m_q r_q (by decide +kernel)]; exact hs6m
  have hs6r : R (rfa f7 q 6) = 7 := by rw [hf7.erf m_q r_q (by decide +kernel)]; exact hs6r
  refine lv_pop F.1 F.2.1 dL_law_572 rfl ?_
  refine lv_aload_n F.1 F.2.1 dL_law_573 rfl (lv_at hl 1 rfl) ?_
  refine lv_aload_n F.1 F.2.1 dL_law_574 rfl (lv_at hl 3 rfl) ?_
  refine lv_iload_n F.1 F.2.1 dL_law_575 rfl (lv_at hl 0 rfl) ?_
  refine tw_iconst F dL_law_576 ki_1 (fun z11 hz11 => ?_)
  refine tu_iadd F dL_law_577 (by omega) (fun z12 hz12 => ?_)
  refine va_sld F.1 F.2.1 hX0 hbl hbA h.dd.2.2 (tw_in (by omega) (by omega)) dL_law_578 ?_
  refine lv_topi (fun z13 qz13 => ?_)
  obtain rfl : z3 = z13 := by rw [qz3, qz13, show z2 = z12 from Int32.toInt_inj.mp (by omega)]
  refine lv_aload_n F.1 F.2.1 dL_law_579 rfl (lv_at hl 3 rfl) ?_
  refine lv_iload_n F.1 F.2.1 dL_law_580 rfl (lv_at hl 0 rfl) ?_
  refine tw_iconst F dL_law_581 ki_2 (fun z14 hz14 => ?_)
  refine tu_iadd F dL_law_582 (by omega) (fun z15 hz15 => ?_)
  refine va_sld F.1 F.2.1 hX0 hbl hbA h.dd.2.2 (tw_in (by omega) (by omega)) dL_law_583 ?_
  refine lv_topi (fun z16 qz16 => ?_)
  obtain rfl : z6 = z16 := by rw [qz6, qz16, show z5 = z15 from Int32.toInt_inj.mp (by omega)]
  refine tw_Vi (As := [.int z3, .int z6]) F hZ h yk_X12_script mw_630 mw_631 mw_632 (s_X12_script l D cy L R O f7 rr m_rr r_rr z3 z6 GA m_GA r_GA t_GA GP m_GP r_GP t_GP GL m_GL r_GL t_GL GT m_GT r_GT t_GT hR hX) rfl rfl m_rr r_rr (fun e q => (T_12 e).mp q) rfl hl.1 rfl (Nat.le_of_ble_eq_true rfl) ⟨Nat.le_of_ble_eq_true rfl, Nat.le_of_ble_eq_true rfl⟩ ⟨hcs, hsl⟩ dL_law_584 (fun v18 f17 H locs hp17 h => ?_)
  obtain ⟨hf17, hv18p0, hv18p1⟩ := hp17
  have en19a := TNa hTMc hf17 m_q r_q (by decide +kernel) (by decide +kernel) (by decide +kernel)
  have en19c := TNc hTMc hTMn hf17 m_q r_q (by decide +kernel) (by decide +kernel) (by decide +kernel) (by decide +kernel)
  have en19m := TNm t_GT m_GT r_GT hf17 m_rr r_rr (by decide +kernel) (by decide +kernel)
  have et20p := TRp hTMc hf17 m_q r_q (by decide +kernel) (by decide +kernel)
  have et20c := TRc hTMc hf17 m_q r_q (by decide +kernel) (by decide +kernel) (by decide +kernel) (by decide +kernel)
  have et20m := TRm hTMm hf17 m_rr r_rr (by decide +kernel) (by decide +kernel) (by decide +kernel) (by decide +kernel)
  have hTPn : ∀ i, i < 4 → P (trs f17 q i) = i := fun i hi => by rw [et20p i]; exact hTPn i hi
  have hTMc := TMc_of h m_q r_q
  have hTMm := TMm_of h m_rr r_rr
  have hTQn : ∀ i, i < 4 → P (rfa f17 (trs f17 q i) 0) = i := fun i hi => by rw [en19a i hi]; exact hTQn i hi
  have hTMn := TMn_of h hTMc
  have hI : INV L R O P f17 q := hI.most m_q r_q hf17 (by decide +kernel) (by decide +kernel) (by decide +kernel) (by decide +kernel) (by decide +kernel)
  have t_GA : fld f17 rr 0 = .ref GA := (hf17.efl m_rr r_rr (by decide +kernel)).trans t_GA
  have t_GP : fld f17 rr 22 = .ref GP := (hf17.efl m_rr r_rr (by decide +kernel)).trans t_GP
  have t_GL : fld f17 rr 23 = .ref GL := (hf17.efl m_rr r_rr (by decide +kernel)).trans t_GL
  have t_GT : fld f17 rr 6 = .ref GT := (hf17.efl m_rr r_rr (by decide +kernel)).trans t_GT
  have hR : RBA GA f17 := hv18p0
  have hX : GZ GP GL f17 := hX.fm hf17 m_GP r_GP m_GL r_GL (by decide +kernel) (by decide +kernel)
  have hP : fld f17 (rfa f17 q 6) 16 = V := by rw [hf17.erf m_q r_q (by decide +kernel), hf17.efl hs6m hs6r (by decide +kernel)]; exact hP
  have hs6m : rfa f17 q 6 ∈ L := by rw [hf17.erf m_q r_q (by decide +kernel)]; exact hs6m
  have hs6r : R (rfa f17 q 6) = 7 := by rw [hf17.erf m_q r_q (by decide +kernel)]; exact hs6r
  refine lv_pop F.1 F.2.1 dL_law_587 rfl ?_
  refine lv_goto (tgt := 1756) F.1 F.2.1 dL_law_588 (by decide) ?_
  exact kk f17 _ _ _ ⟨h, hI, ⟨t_GA, t_GP, t_GL, t_GT⟩, hR, hX, hP, hTPn, fun i hi => by have q0 := hTR i hi; have q1 := et10c i hi; have q2 := et10m i; have q3 := et20c i hi; have q4 := et20m i; omega, hTQn, fun i hi j hj => by have q0 := hTR i hi; have q1 := et10c i hi; have q2 := et10m i; have q3 := et20c i hi; have q4 := et20m i; have qb := hCb i hi; have hj6 : j < 60 := (by omega); have n0 := hNR i hi j; have n1 := en9c i hi j; have n2 := en9m i j; have n3 := en19c i hi j; have n4 := en19m i j; omega⟩ hl
theorem dL_law_591 : decode cL_law 591 = .ok (.aload_n 1, 1) := by decide +kernel
theorem dL_law_592 : decode cL_law 592 = .ok (.aload_n 0, 1) := by decide +kernel
theorem dL_law_593 : decode cL_law 593 = .ok (.iload_n 3, 1) := by decide +kernel
theorem dL_law_594 : decode cL_law 594 = .ok (.iconst 1, 1) := by decide +kernel
theorem dL_law_595 : decode cL_law 595 = .ok (.iadd, 1) := by decide +kernel
theorem dL_law_596 : decode cL_law 596 = .ok (.iaload, 1) := by decide +kernel
theorem dL_law_597 : decode cL_law 597 = .ok (.invokevirtual 64, 3) := by decide +kernel
theorem mw_753 : Cond.methodLink RL 64 yX11_fault ∈ wsL_law := inr_32 _ (List.mem_of_getElem? (i := 9) rfl)
theorem mw_756 : Cond.code yX11_fault cX11_fault 2 (some .int) ∈ wsL_law := inr_32 _ (List.mem_of_getElem? (i := 12) rfl)
theorem yk_X11_fault : xY yX11_fault RX11 cX11_fault 2 (some .int) 1 := ⟨⟨rfl, by decide +kernel, by decide +kernel, by decide +kernel⟩, mw_2, mw_756⟩
theorem mw_754 : Cond.instanceMethod yX11_fault ∈ wsL_law := inr_32 _ (List.mem_of_getElem? (i := 10) rfl)
theorem mw_755 : Cond.selects RX11 yX11_fault yX11_fault ∈ wsL_law := inr_32 _ (List.mem_of_getElem? (i := 11) rfl)
theorem dL_law_600 : decode cL_law 600 = .ok (.pop, 1) := by decide +kernel
theorem dL_law_601 : decode cL_law 601 = .ok (.aload_n 2, 1) := by decide +kernel
theorem dL_law_602 : decode cL_law 602 = .ok (.aload_n 0, 1) := by decide +kernel
theorem dL_law_603 : decode cL_law 603 = .ok (.iload_n 3, 1) := by decide +kernel
theorem dL_law_604 : decode cL_law 604 = .ok (.iconst 1, 1) := by decide +kernel
theorem dL_law_605 : decode cL_law 605 = .ok (.iadd, 1) := by decide +kernel
theorem dL_law_606 : decode cL_law 606 = .ok (.iaload, 1) := by decide +kernel
theorem dL_law_607 : decode cL_law 607 = .ok (.invokevirtual 67, 3) := by decide +kernel
theorem mw_759 : Cond.methodLink RL 67 yX12_fault ∈ wsL_law := inr_32 _ (List.mem_of_getElem? (i := 15) rfl)
theorem mw_762 : Cond.code yX12_fault cX12_fault 2 (some .int) ∈ wsL_law := inr_32 _ (List.mem_of_getElem? (i := 18) rfl)
theorem yk_X12_fault : xY yX12_fault RX12 cX12_fault 2 (some .int) 1 := ⟨⟨rfl, by decide +kernel, by decide +kernel, by decide +kernel⟩, mw_5, mw_762⟩
theorem mw_760 : Cond.instanceMethod yX12_fault ∈ wsL_law := inr_32 _ (List.mem_of_getElem? (i := 16) rfl)
theorem mw_761 : Cond.selects RX12 yX12_fault yX12_fault ∈ wsL_law := inr_32 _ (List.mem_of_getElem? (i := 17) rfl)
theorem dL_law_610 : decode cL_law 610 = .ok (.pop, 1) := by decide +kernel
theorem dL_law_611 : decode cL_law 611 = .ok (.goto 1145, 3) := by decide +kernel
set_option maxHeartbeats 4000000 in
set_option maxRecDepth 100000 in
theorem law_c10 {p : Program} {l : Launch} {e : Env} {s : State} {m : MethodId} {below : List Frame} {meth : Method} {c : Code} {H : Heap} {locs : List Loc} {Q : State → Prop} {D : va_G} {cy : Nat → ClassId} {A : Nat → Prop} {L : List Nat} {R O P : Nat → Nat} {f0 : Nat → va_E} {ls : Array Slot} {b N cs sl q rr GA GP GL GT : Nat} {xs : Nat → Int32} {V : Value} (F : CallFix p m c cL_law 4 s #[Value.ref b] wsL_law RL) (hZ : tZ A s s.heap) (hX0 : va_X b N xs s s.heap) (hbl : b < s.heap.size) (hbA : ¬ A b) (hcs : cs ≤ room_1.cells) (hsl : sl ≤ room_1.slots) (i : Int32) (bi : 0 ≤ i.toInt ∧ i.toInt + 6 ≤ N ∧ N ≤ 3072) (m_q : q ∈ L) (r_q : R q = 11) (m_rr : rr ∈ L) (r_rr : R rr = 12) (m_GA : GA ∈ L) (r_GA : R GA = 61) (m_GP : GP ∈ L) (r_GP : R GP = 69) (m_GL : GL ∈ L) (r_GL : R GL = 70) (m_GT : GT ∈ L) (r_GT : R GT = 64) (hLS : LWS D cy A s L R O P q rr GA GP GL GT V f0 H locs) (hl : lv_has ls 4 [(3, .int i), (2, .ref rr), (1, .ref q), (0, .ref b)]) (kk : ∀ (f1 : Nat → va_E) (H : Heap) (locs : List Loc) (ls : Array Slot), LWS D cy A s L R O P q rr GA GP GL GT V f1 H locs → lv_has ls 4 [(3, .int i), (2, .ref rr), (1, .ref q), (0, .ref b)] → W p l e room_1 s m #[Value.ref b] below meth c H locs cs sl Q (F0 m 1756 ls [])) : W p l e room_1 s m #[Value.ref b] below meth c H locs cs sl Q (F0 m 591 ls []) := by
  obtain ⟨h, hI, ⟨t_GA, t_GP, t_GL, t_GT⟩, hR, hX, hP, hTP, hTR, hTQ, hNR⟩ := hLS
  have hs6m := hI.2.2.1.1
  have hs6r := hI.2.2.1.2
  have hTMc := TMc_of h m_q r_q
  have hTMm := TMm_of h m_rr r_rr
  have hTPn := hTP
  have hTMn := TMn_of h hTMc
  have hTQn := hTQ
  have hCb := CS_le h m_q r_q
  refine lv_aload_n F.1 F.2.1 dL_law_591 rfl (lv_at hl 2 rfl) ?_
  refine lv_aload_n F.1 F.2.1 dL_law_592 rfl (lv_at hl 3 rfl) ?_
  refine lv_iload_n F.1 F.2.1 dL_law_593 rfl (lv_at hl 0 rfl) ?_
  refine tw_iconst F dL_law_594 ki_1 (fun z1 hz1 => ?_)
  refine tu_iadd F dL_law_595 (by omega) (fun z2 hz2 => ?_)
  refine va_sld F.1 F.2.1 hX0 hbl hbA h.dd.2.2 (tw_in (by omega) (by omega)) dL_law_596 ?_
  refine lv_topi (fun z3 qz3 => ?_)
  refine tw_Vi (As := [.int z3]) F hZ h yk_X11_fault mw_753 mw_754 mw_755 (s_X11_fault l D cy L R O f0 q m_q r_q z3) rfl rfl m_q r_q (fun e q => (T_11 e).mp q) rfl hl.1 rfl (Nat.le_of_ble_eq_true rfl) ⟨Nat.le_of_ble_eq_true rfl, Nat.le_of_ble_eq_true rfl⟩ ⟨hcs, hsl⟩ dL_law_597 (fun v5 f4 H locs hp4 h => ?_)
  obtain rfl := hp4
  refine lv_pop F.1 F.2.1 dL_law_600 rfl ?_
  refine lv_aload_n F.1 F.2.1 dL_law_601 rfl (lv_at hl 1 rfl) ?_
  refine lv_aload_n F.1 F.2.1 dL_law_602 rfl (lv_at hl 3 rfl) ?_
  refine lv_iload_n F.1 F.2.1 dL_law_603 rfl (lv_at hl 0 rfl) ?_
  refine tw_iconst F dL_law_604 ki_1 (fun z6 hz6 => ?_)
  refine tu_iadd F dL_law_605 (by omega) (fun z7 hz7 => ?_)
  refine va_sld F.1 F.2.1 hX0 hbl hbA h.dd.2.2 (tw_in (by omega) (by omega)) dL_law_606 ?_
  refine lv_topi (fun z8 qz8 => ?_)
  obtain rfl : z3 = z8 := by rw [qz3, qz8, show z2 = z7 from Int32.toInt_inj.mp (by omega)]
  refine tw_Vi (As := [.int z3]) F hZ h yk_X12_fault mw_759 mw_760 mw_761 (s_X12_fault l D cy L R O f0 rr m_rr r_rr z3) rfl rfl m_rr r_rr (fun e q => (T_12 e).mp q) rfl hl.1 rfl (Nat.le_of_ble_eq_true rfl) ⟨Nat.le_of_ble_eq_true rfl, Nat.le_of_ble_eq_true rfl⟩ ⟨hcs, hsl⟩ dL_law_607 (fun v10 f9 H locs hp9 h => ?_)
  obtain rfl := hp9
  refine lv_pop F.1 F.2.1 dL_law_610 rfl ?_
  refine lv_goto (tgt := 1756) F.1 F.2.1 dL_law_611 (by decide) ?_
  exact kk f0 _ _ _ ⟨h, hI, ⟨t_GA, t_GP, t_GL, t_GT⟩, hR, hX, hP, hTPn, fun i hi => by have q0 := hTR i hi; omega, hTQn, fun i hi j hj => by have q0 := hTR i hi; have qb := hCb i hi; have hj6 : j < 60 := (by omega); have n0 := hNR i hi j; omega⟩ hl
theorem dL_law_614 : decode cL_law 614 = .ok (.aload_n 1, 1) := by decide +kernel
theorem dL_law_615 : decode cL_law 615 = .ok (.aload_n 0, 1) := by decide +kernel
theorem dL_law_616 : decode cL_law 616 = .ok (.iload_n 3, 1) := by decide +kernel
theorem dL_law_617 : decode cL_law 617 = .ok (.iconst 1, 1) := by decide +kernel
theorem dL_law_618 : decode cL_law 618 = .ok (.iadd, 1) := by decide +kernel
theorem dL_law_619 : decode cL_law 619 = .ok (.iaload, 1) := by decide +kernel
theorem dL_law_620 : decode cL_law 620 = .ok (.invokevirtual 68, 3) := by decide +kernel
theorem mw_763 : Cond.methodLink RL 68 yX11_many ∈ wsL_law := inr_32 _ (List.mem_of_getElem? (i := 19) rfl)
theorem mw_766 : Cond.code yX11_many cX11_many 2 (some .int) ∈ wsL_law := inr_32 _ (List.mem_of_getElem? (i := 22) rfl)
theorem yk_X11_many : xY yX11_many RX11 cX11_many 2 (some .int) 1 := ⟨⟨rfl, by decide +kernel, by decide +kernel, by decide +kernel⟩, mw_2, mw_766⟩
theorem mw_764 : Cond.instanceMethod yX11_many ∈ wsL_law := inr_32 _ (List.mem_of_getElem? (i := 20) rfl)
theorem mw_765 : Cond.selects RX11 yX11_many yX11_many ∈ wsL_law := inr_32 _ (List.mem_of_getElem? (i := 21) rfl)
theorem dL_law_623 : decode cL_law 623 = .ok (.pop, 1) := by decide +kernel
theorem dL_law_624 : decode cL_law 624 = .ok (.aload_n 2, 1) := by decide +kernel
theorem dL_law_625 : decode cL_law 625 = .ok (.aload_n 0, 1) := by decide +kernel
theorem dL_law_626 : decode cL_law 626 = .ok (.iload_n 3, 1) := by decide +kernel
theorem dL_law_627 : decode cL_law 627 = .ok (.iconst 1, 1) := by decide +kernel
theorem dL_law_628 : decode cL_law 628 = .ok (.iadd, 1) := by decide +kernel
theorem dL_law_629 : decode cL_law 629 = .ok (.iaload, 1) := by decide +kernel
theorem dL_law_630 : decode cL_law 630 = .ok (.invokevirtual 71, 3) := by decide +kernel
theorem mw_769 : Cond.methodLink RL 71 yX12_many ∈ wsL_law := inr_33 _ (List.mem_of_getElem? (i := 1) rfl)
theorem mw_772 : Cond.code yX12_many cX12_many 2 (some .int) ∈ wsL_law := inr_33 _ (List.mem_of_getElem? (i := 4) rfl)
theorem yk_X12_many : xY yX12_many RX12 cX12_many 2 (some .int) 1 := ⟨⟨rfl, by decide +kernel, by decide +kernel, by decide +kernel⟩, mw_5, mw_772⟩
theorem mw_770 : Cond.instanceMethod yX12_many ∈ wsL_law := inr_33 _ (List.mem_of_getElem? (i := 2) rfl)
theorem mw_771 : Cond.selects RX12 yX12_many yX12_many ∈ wsL_law := inr_33 _ (List.mem_of_getElem? (i := 3) rfl)
theorem dL_law_633 : decode cL_law 633 = .ok (.pop, 1) := by decide +kernel
theorem dL_law_634 : decode cL_law 634 = .ok (.goto 1122, 3) := by decide +kernel
set_option maxHeartbeats 4000000 in
set_option maxRecDepth 100000 in
theorem law_c11 {p : Program} {l : Launch} {e : Env} {s : State} {m : MethodId} {below : List Frame} {meth : Method} {c : Code} {H : Heap} {locs : List Loc} {Q : State → Prop} {D : va_G} {cy : Nat → ClassId} {A : Nat → Prop} {L : List Nat} {R O P : Nat → Nat} {f0 : Nat → va_E} {ls : Array Slot} {b N cs sl q rr GA GP GL GT : Nat} {xs : Nat → Int32} {V : Value} (F : CallFix p m c cL_law 4 s #[Value.ref b] wsL_law RL) (hZ : tZ A s s.heap) (hX0 : va_X b N xs s s.heap) (hbl : b < s.heap.size) (hbA : ¬ A b) (hcs : cs ≤ room_1.cells) (hsl : sl ≤ room_1.slots) (i : Int32) (bi : 0 ≤ i.toInt ∧ i.toInt + 6 ≤ N ∧ N ≤ 3072) (m_q : q ∈ L) (r_q : R q = 11) (m_rr : rr ∈ L) (r_rr : R rr = 12) (m_GA : GA ∈ L) (r_GA : R GA = 61) (m_GP : GP ∈ L) (r_GP : R GP = 69) (m_GL : GL ∈ L) (r_GL : R GL = 70) (m_GT : GT ∈ L) (r_GT : R GT = 64) (hLS : LWS D cy A s L R O P q rr GA GP GL GT V f0 H locs) (hl : lv_has ls 4 [(3, .int i), (2, .ref rr), (1, .ref q), (0, .ref b)]) (kk : ∀ (f1 : Nat → va_E) (H : Heap) (locs : List Loc) (ls : Array Slot), LWS D cy A s L R O P q rr GA GP GL GT V f1 H locs → lv_has ls 4 [(3, .int i), (2, .ref rr), (1, .ref q), (0, .ref b)] → W p l e room_1 s m #[Value.ref b] below meth c H locs cs sl Q (F0 m 1756 ls [])) : W p l e room_1 s m #[Value.ref b] below meth c H locs cs sl Q (F0 m 614 ls []) := by
  obtain ⟨h, hI, ⟨t_GA, t_GP, t_GL, t_GT⟩, hR, hX, hP, hTP, hTR, hTQ, hNR⟩ := hLS
  have hs6m := hI.2.2.1.1
  have hs6r := hI.2.2.1.2
  have hTMc := TMc_of h m_q r_q
  have hTMm := TMm_of h m_rr r_rr
  have hTPn := hTP
  have hTMn := TMn_of h hTMc
  have hTQn := hTQ
  have hCb := CS_le h m_q r_q
  refine lv_aload_n F.1 F.2.1 dL_law_614 rfl (lv_at hl 2 rfl) ?_
  refine lv_aload_n F.1 F.2.1 dL_law_615 rfl (lv_at hl 3 rfl) ?_
  refine lv_iload_n F.1 F.2.1 dL_law_616 rfl (lv_at hl 0 rfl) ?_
  refine tw_iconst F dL_law_617 ki_1 (fun z1 hz1 => ?_)
  refine tu_iadd F dL_law_618 (by omega) (fun z2 hz2 => ?_)
  refine va_sld F.1 F.2.1 hX0 hbl hbA h.dd.2.2 (tw_in (by omega) (by omega)) dL_law_619 ?_
  refine lv_topi (fun z3 qz3 => ?_)
  refine tw_Vi (As := [.int z3]) F hZ h yk_X11_many mw_763 mw_764 mw_765 (s_X11_many l D cy L R O f0 q m_q r_q z3) rfl rfl m_q r_q (fun e q => (T_11 e).mp q) rfl hl.1 rfl (Nat.le_of_ble_eq_true rfl) ⟨Nat.le_of_ble_eq_true rfl, Nat.le_of_ble_eq_true rfl⟩ ⟨hcs, hsl⟩ dL_law_620 (fun v5 f4 H locs hp4 h => ?_)
  have hf4 := hp4
  have en6a := TNa hTMc hf4 m_q r_q (by decide +kernel) (by decide +kernel) (by decide +kernel)
  have en6c := TNc hTMc hTMn hf4 m_q r_q (by decide +kernel) (by decide +kernel) (by decide +kernel) (by decide +kernel)
  have en6m := TNm t_GT m_GT r_GT hf4 m_rr r_rr (by decide +kernel) (by decide +kernel)
  have et7p := TRp hTMc hf4 m_q r_q (by decide +kernel) (by decide +kernel)
  have et7c := TRc hTMc hf4 m_q r_q (by decide +kernel) (by decide +kernel) (by decide +kernel) (by decide +kernel)
  have et7m := TRm hTMm hf4 m_rr r_rr (by decide +kernel) (by decide +kernel) (by decide +kernel) (by decide +kernel)
  have hTPn : ∀ i, i < 4 → P (trs f4 q i) = i := fun i hi => by rw [et7p i]; exact hTPn i hi
  have hTMc := TMc_of h m_q r_q
  have hTMm := TMm_of h m_rr r_rr
  have hTQn : ∀ i, i < 4 → P (rfa f4 (trs f4 q i) 0) = i := fun i hi => by rw [en6a i hi]; exact hTQn i hi
  have hTMn := TMn_of h hTMc
  have hI : INV L R O P f4 q := hI.most m_q r_q hf4 (by decide +kernel) (by decide +kernel) (by decide +kernel) (by decide +kernel) (by decide +kernel)
  have t_GA : fld f4 rr 0 = .ref GA := (hf4.efl m_rr r_rr (by decide +kernel)).trans t_GA
  have t_GP : fld f4 rr 22 = .ref GP := (hf4.efl m_rr r_rr (by decide +kernel)).trans t_GP
  have t_GL : fld f4 rr 23 = .ref GL := (hf4.efl m_rr r_rr (by decide +kernel)).trans t_GL
  have t_GT : fld f4 rr 6 = .ref GT := (hf4.efl m_rr r_rr (by decide +kernel)).trans t_GT
  have hR : RBA GA f4 := hR.fm hf4 m_GA r_GA (by decide +kernel)
  have hX : GZ GP GL f4 := hX.fm hf4 m_GP r_GP m_GL r_GL (by decide +kernel) (by decide +kernel)
  have hP : fld f4 (rfa f4 q 6) 16 = V := by rw [hf4.erf m_q r_q (by decide +kernel), hf4.efl hs6m hs6r (by decide +kernel)]; exact hP
  have hs6m : rfa f4 q 6 ∈ L := by rw [hf4.erf m_q r_q (by decide +kernel)]; exact hs6m
  have hs6r : R (rfa f4 q 6) = 7 := by rw [hf4.erf m_q r_q (by decide +kernel)]; exact hs6r
  refine lv_pop F.1 F.2.1 dL_law_623 rfl ?_
  refine lv_aload_n F.1 F.2.1 dL_law_624 rfl (lv_at hl 1 rfl) ?_
  refine lv_aload_n F.1 F.2.1 dL_law_625 rfl (lv_at hl 3 rfl) ?_
  refine lv_iload_n F.1 F.2.1 dL_law_626 rfl (lv_at hl 0 rfl) ?_
  refine tw_iconst F dL_law_627 ki_1 (fun z8 hz8 => ?_)
  refine tu_iadd F dL_law_628 (by omega) (fun z9 hz9 => ?_)
  refine va_sld F.1 F.2.1 hX0 hbl hbA h.dd.2.2 (tw_in (by omega) (by omega)) dL_law_629 ?_
  refine lv_topi (fun z10 qz10 => ?_)
  obtain rfl : z3 = z10 := by rw [qz3, qz10, show z2 = z9 from Int32.toInt_inj.mp (by omega)]
  refine tw_Vi (As := [.int z3]) F hZ h yk_X12_many mw_769 mw_770 mw_771 (s_X12_many l D cy L R O f4 rr m_rr r_rr z3) rfl rfl m_rr r_rr (fun e q => (T_12 e).mp q) rfl hl.1 rfl (Nat.le_of_ble_eq_true rfl) ⟨Nat.le_of_ble_eq_true rfl, Nat.le_of_ble_eq_true rfl⟩ ⟨hcs, hsl⟩ dL_law_630 (fun v12 f11 H locs hp11 h => ?_)
  have hf11 := hp11
  have en13a := TNa hTMc hf11 m_q r_q (by decide +kernel) (by decide +kernel) (by decide +kernel)
  have en13c := TNc hTMc hTMn hf11 m_q r_q (by decide +kernel) (by decide +kernel) (by decide +kernel) (by decide +kernel)
  have en13m := TNm t_GT m_GT r_GT hf11 m_rr r_rr (by decide +kernel) (by decide +kernel)
  have et14p := TRp hTMc hf11 m_q r_q (by decide +kernel) (by decide +kernel)
  have et14c := TRc hTMc hf11 m_q r_q (by decide +kernel) (by decide +kernel) (by decide +kernel) (by decide +kernel)
  have et14m := TRm hTMm hf11 m_rr r_rr (by decide +kernel) (by decide +kernel) (by decide +kernel) (by decide +kernel)
  have hTPn : ∀ i, i < 4 → P (trs f11 q i) = i := fun i hi => by rw [et14p i]; exact hTPn i hi
  have hTMc := TMc_of h m_q r_q
  have hTMm := TMm_of h m_rr r_rr
  have hTQn : ∀ i, i < 4 → P (rfa f11 (trs f11 q i) 0) = i := fun i hi => by rw [en13a i hi]; exact hTQn i hi
  have hTMn := TMn_of h hTMc
  have hI : INV L R O P f11 q := hI.most m_q r_q hf11 (by decide +kernel) (by decide +kernel) (by decide +kernel) (by decide +kernel) (by decide +kernel)
  have t_GA : fld f11 rr 0 = .ref GA := (hf11.efl m_rr r_rr (by decide +kernel)).trans t_GA
  have t_GP : fld f11 rr 22 = .ref GP := (hf11.efl m_rr r_rr (by decide +kernel)).trans t_GP
  have t_GL : fld f11 rr 23 = .ref GL := (hf11.efl m_rr r_rr (by decide +kernel)).trans t_GL
  have t_GT : fld f11 rr 6 = .ref GT := (hf11.efl m_rr r_rr (by decide +kernel)).trans t_GT
  have hR : RBA GA f11 := hR.fm hf11 m_GA r_GA (by decide +kernel)
  have hX : GZ GP GL f11 := hX.fm hf11 m_GP r_GP m_GL r_GL (by decide +kernel) (by decide +kernel)
  have hP : fld f11 (rfa f11 q 6) 16 = V := by rw [hf11.erf m_q r_q (by decide +kernel), hf11.efl hs6m hs6r (by decide +kernel)]; exact hP
  have hs6m : rfa f11 q 6 ∈ L := by rw [hf11.erf m_q r_q (by decide +kernel)]; exact hs6m
  have hs6r : R (rfa f11 q 6) = 7 := by rw [hf11.erf m_q r_q (by decide +kernel)]; exact hs6r
  refine lv_pop F.1 F.2.1 dL_law_633 rfl ?_
  refine lv_goto (tgt := 1756) F.1 F.2.1 dL_law_634 (by decide) ?_
  exact kk f11 _ _ _ ⟨h, hI, ⟨t_GA, t_GP, t_GL, t_GT⟩, hR, hX, hP, hTPn, fun i hi => by have q0 := hTR i hi; have q1 := et7c i hi; have q2 := et7m i; have q3 := et14c i hi; have q4 := et14m i; omega, hTQn, fun i hi j hj => by have q0 := hTR i hi; have q1 := et7c i hi; have q2 := et7m i; have q3 := et14c i hi; have q4 := et14m i; have qb := hCb i hi; have hj6 : j < 60 := (by omega); have n0 := hNR i hi j; have n1 := en6c i hi j; have n2 := en6m i j; have n3 := en13c i hi j; have n4 := en13m i j; omega⟩ hl
theorem dL_law_637 : decode cL_law 637 = .ok (.aload_n 1, 1) := by decide +kernel
theorem dL_law_638 : decode cL_law 638 = .ok (.aload_n 0, 1) := by decide +kernel
theorem dL_law_639 : decode cL_law 639 = .ok (.iload_n 3, 1) := by decide +kernel
theorem dL_law_640 : decode cL_law 640 = .ok (.iconst 1, 1) := by decide +kernel
theorem dL_law_641 : decode cL_law 641 = .ok (.iadd, 1) := by decide +kernel
theorem dL_law_642 : decode cL_law 642 = .ok (.iaload, 1) := by decide +kernel
theorem dL_law_643 : decode cL_law 643 = .ok (.aload_n 0, 1) := by decide +kernel
theorem dL_law_644 : decode cL_law 644 = .ok (.iload_n 3, 1) := by decide +kernel
theorem dL_law_645 : decode cL_law 645 = .ok (.iconst 2, 1) := by decide +kernel
theorem dL_law_646 : decode cL_law 646 = .ok (.iadd, 1) := by decide +kernel
theorem dL_law_647 : decode cL_law 647 = .ok (.iaload, 1) := by decide +kernel
theorem dL_law_648 : decode cL_law 648 = .ok (.invokevirtual 72, 3) := by decide +kernel
theorem mw_774 : Cond.methodLink RL 72 yX11_word ∈ wsL_law := inr_33 _ (List.mem_of_getElem? (i := 6) rfl)
theorem mw_777 : Cond.code yX11_word cX11_word 3 (some .long) ∈ wsL_law := inr_33 _ (List.mem_of_getElem? (i := 9) rfl)
theorem yk_X11_word : xY yX11_word RX11 cX11_word 3 (some .long) 2 := ⟨⟨rfl, by decide +kernel, by decide +kernel, by decide +kernel⟩, mw_2, mw_777⟩
theorem mw_775 : Cond.instanceMethod yX11_word ∈ wsL_law := inr_33 _ (List.mem_of_getElem? (i := 7) rfl)
theorem mw_776 : Cond.selects RX11 yX11_word yX11_word ∈ wsL_law := inr_33 _ (List.mem_of_getElem? (i := 8) rfl)
theorem dL_law_651 : decode cL_law 651 = .ok (.pop2, 1) := by decide +kernel
theorem dL_law_652 : decode cL_law 652 = .ok (.aload_n 2, 1) := by decide +kernel
theorem dL_law_653 : decode cL_law 653 = .ok (.aload_n 0, 1) := by decide +kernel
theorem dL_law_654 : decode cL_law 654 = .ok (.iload_n 3, 1) := by decide +kernel
theorem dL_law_655 : decode cL_law 655 = .ok (.iconst 1, 1) := by decide +kernel
theorem dL_law_656 : decode cL_law 656 = .ok (.iadd, 1) := by decide +kernel
theorem dL_law_657 : decode cL_law 657 = .ok (.iaload, 1) := by decide +kernel
theorem dL_law_658 : decode cL_law 658 = .ok (.aload_n 0, 1) := by decide +kernel
theorem dL_law_659 : decode cL_law 659 = .ok (.iload_n 3, 1) := by decide +kernel
theorem dL_law_660 : decode cL_law 660 = .ok (.iconst 2, 1) := by decide +kernel
theorem dL_law_661 : decode cL_law 661 = .ok (.iadd, 1) := by decide +kernel
theorem dL_law_662 : decode cL_law 662 = .ok (.iaload, 1) := by decide +kernel
theorem dL_law_663 : decode cL_law 663 = .ok (.invokevirtual 75, 3) := by decide +kernel
theorem mw_793 : Cond.methodLink RL 75 yX12_word ∈ wsL_law := inr_34 _ (List.mem_of_getElem? (i := 1) rfl)
theorem mw_796 : Cond.code yX12_word cX12_word 4 (some .long) ∈ wsL_law := inr_34 _ (List.mem_of_getElem? (i := 4) rfl)
theorem yk_X12_word : xY yX12_word RX12 cX12_word 4 (some .long) 2 := ⟨⟨rfl, by decide +kernel, by decide +kernel, by decide +kernel⟩, mw_5, mw_796⟩
theorem mw_794 : Cond.instanceMethod yX12_word ∈ wsL_law := inr_34 _ (List.mem_of_getElem? (i := 2) rfl)
theorem mw_795 : Cond.selects RX12 yX12_word yX12_word ∈ wsL_law := inr_34 _ (List.mem_of_getElem? (i := 3) rfl)
theorem dL_law_666 : decode cL_law 666 = .ok (.pop2, 1) := by decide +kernel
theorem dL_law_667 : decode cL_law 667 = .ok (.goto 1089, 3) := by decide +kernel
set_option maxHeartbeats 4000000 in
set_option maxRecDepth 100000 in
theorem law_c12 {p : Program} {l : Launch} {e : Env} {s : State} {m : MethodId} {below : List Frame} {meth : Method} {c : Code} {H : Heap} {locs : List Loc} {Q : State → Prop} {D : va_G} {cy : Nat → ClassId} {A : Nat → Prop} {L : List Nat} {R O P : Nat → Nat} {f0 : Nat → va_E} {ls : Array Slot} {b N cs sl q rr GA GP GL GT : Nat} {xs : Nat → Int32} {V : Value} (F : CallFix p m c cL_law 4 s #[Value.ref b] wsL_law RL) (hZ : tZ A s s.heap) (hX0 : va_X b N xs s s.heap) (hbl : b < s.heap.size) (hbA : ¬ A b) (hcs : cs ≤ room_1.cells) (hsl : sl ≤ room_1.slots) (i : Int32) (bi : 0 ≤ i.toInt ∧ i.toInt + 6 ≤ N ∧ N ≤ 3072) (m_q : q ∈ L) (r_q : R q = 11) (m_rr : rr ∈ L) (r_rr : R rr = 12) (m_GA : GA ∈ L) (r_GA : R GA = 61) (m_GP : GP ∈ L) (r_GP : R GP = 69) (m_GL : GL ∈ L) (r_GL : R GL = 70) (m_GT : GT ∈ L) (r_GT : R GT = 64) (hLS : LWS D cy A s L R O P q rr GA GP GL GT V f0 H locs) (hl : lv_has ls 4 [(3, .int i), (2, .ref rr), (1, .ref q), (0, .ref b)]) (kk : ∀ (f1 : Nat → va_E) (H : Heap) (locs : List Loc) (ls : Array Slot), LWS D cy A s L R O P q rr GA GP GL GT V f1 H locs → lv_has ls 4 [(3, .int i), (2, .ref rr), (1, .ref q), (0, .ref b)] → W p l e room_1 s m #[Value.ref b] below meth c H locs cs sl Q (F0 m 1756 ls [])) : W p l e room_1 s m #[Value.ref b] below meth c H locs cs sl Q (F0 m 637 ls []) := by
  obtain ⟨h, hI, ⟨t_GA, t_GP, t_GL, t_GT⟩, hR, hX, hP, hTP, hTR, hTQ, hNR⟩ := hLS
  have hs6m := hI.2.2.1.1
  have hs6r := hI.2.2.1.2
  have hTMc := TMc_of h m_q r_q
  have hTMm := TMm_of h m_rr r_rr
  have hTPn := hTP
  have hTMn := TMn_of h hTMc
  have hTQn := hTQ
  have hCb := CS_le h m_q r_q
  refine lv_aload_n F.1 F.2.1 dL_law_637 rfl (lv_at hl 2 rfl) ?_
  refine lv_aload_n F.1 F.2.1 dL_law_638 rfl (lv_at hl 3 rfl) ?_
  refine lv_iload_n F.1 F.2.1 dL_law_639 rfl (lv_at hl 0 rfl) ?_
  refine tw_iconst F dL_law_640 ki_1 (fun z1 hz1 => ?_)
  refine tu_iadd F dL_law_641 (by omega) (fun z2 hz2 => ?_)
  refine va_sld F.1 F.2.1 hX0 hbl hbA h.dd.2.2 (tw_in (by omega) (by omega)) dL_law_642 ?_
  refine lv_topi (fun z3 qz3 => ?_)
  refine lv_aload_n F.1 F.2.1 dL_law_643 rfl (lv_at hl 3 rfl) ?_
  refine lv_iload_n F.1 F.2.1 dL_law_644 rfl (lv_at hl 0 rfl) ?_
  refine tw_iconst F dL_law_645 ki_2 (fun z4 hz4 => ?_)
  refine tu_iadd F dL_law_646 (by omega) (fun z5 hz5 => ?_)
  refine va_sld F.1 F.2.1 hX0 hbl hbA h.dd.2.2 (tw_in (by omega) (by omega)) dL_law_647 ?_
  refine lv_topi (fun z6 qz6 => ?_)
  refine tw_Vl (As := [.int z3, .int z6]) F hZ h yk_X11_word mw_774 mw_775 mw_776 (s_X11_word l D cy L R O f0 q m_q r_q z3 z6) rfl rfl m_q r_q (fun e q => (T_11 e).mp q) rfl hl.1 rfl (Nat.le_of_ble_eq_true rfl) ⟨Nat.le_of_ble_eq_true rfl, Nat.le_of_ble_eq_true rfl⟩ ⟨hcs, hsl⟩ dL_law_648 (fun v8 f7 H locs hp7 h => ?_)
  have hf7 := hp7
  have en9a := TNa hTMc hf7 m_q r_q (by decide +kernel) (by decide +kernel) (by decide +kernel)
  have en9c := TNc hTMc hTMn hf7 m_q r_q (by decide +kernel) (by decide +kernel) (by decide +kernel) (by decide +kernel)
  have en9m := TNm t_GT m_GT r_GT hf7 m_rr r_rr (by decide +kernel) (by decide +kernel)
  have et10p := TRp hTMc hf7 m_q r_q (by decide +kernel) (by decide +kernel)
  have et10c := TRc hTMc hf7 m_q r_q (by decide +kernel) (by decide +kernel) (by decide +kernel) (by decide +kernel)
  have et10m := TRm hTMm hf7 m_rr r_rr (by decide +kernel) (by decide +kernel) (by decide +kernel) (by decide +kernel)
  have hTPn : ∀ i, i < 4 → P (trs f7 q i) = i := fun i hi => by rw [et10p i]; exact hTPn i hi
  have hTMc := TMc_of h m_q r_q
  have hTMm := TMm_of h m_rr r_rr
  have hTQn : ∀ i, i < 4 → P (rfa f7 (trs f7 q i) 0) = i := fun i hi => by rw [en9a i hi]; exact hTQn i hi
  have hTMn := TMn_of h hTMc
  have hI : INV L R O P f7 q := hI.most m_q r_q hf7 (by decide +kernel) (by decide +kernel) (by decide +kernel) (by decide +kernel) (by decide +kernel)
  have t_GA : fld f7 rr 0 = .ref GA := (hf7.efl m_rr r_rr (by decide +kernel)).trans t_GA
  have t_GP : fld f7 rr 22 = .ref GP := (hf7.efl m_rr r_rr (by decide +kernel)).trans t_GP
  have t_GL : fld f7 rr 23 = .ref GL := (hf7.efl m_rr r_rr (by decide +kernel)).trans t_GL
  have t_GT : fld f7 rr 6 = .ref GT := (hf7.efl m_rr r_rr (by decide +kernel)).trans t_GT
  have hR : RBA GA f7 := hR.fm hf7 m_GA r_GA (by decide +kernel)
  have hX : GZ GP GL f7 := hX.fm hf7 m_GP r_GP m_GL r_GL (by decide +kernel) (by decide +kernel)
  have hP : fld f7 (rfa f7 q 6) 16 = V := by rw [hf7.erf m_q r_q (by decide +kernel), hf7.efl hs6m hs6r (by decide +kernel)]; exact hP
  have hs6m : rfa f7 q 6 ∈ L := by rw [hf7.erf m_q r_q (by decide +kernel)]; exact hs6m
  have hs6r : R (rfa f7 q 6) = 7 := by rw [hf7.erf m_q r_q (by decide +kernel)]; exact hs6r
  refine lv_pop2_2 F.1 F.2.1 dL_law_651 rfl ?_
  refine lv_aload_n F.1 F.2.1 dL_law_652 rfl (lv_at hl 1 rfl) ?_
  refine lv_aload_n F.1 F.2.1 dL_law_653 rfl (lv_at hl 3 rfl) ?_
  refine lv_iload_n F.1 F.2.1 dL_law_654 rfl (lv_at hl 0 rfl) ?_
  refine tw_iconst F dL_law_655 ki_1 (fun z11 hz11 => ?_)
  refine tu_iadd F dL_law_656 (by omega) (fun z12 hz12 => ?_)
  refine va_sld F.1 F.2.1 hX0 hbl hbA h.dd.2.2 (tw_in (by omega) (by omega)) dL_law_657 ?_
  refine lv_topi (fun z13 qz13 => ?_)
  obtain rfl : z3 = z13 := by rw [qz3, qz13, show z2 = z12 from Int32.toInt_inj.mp (by omega)]
  refine lv_aload_n F.1 F.2.1 dL_law_658 rfl (lv_at hl 3 rfl) ?_
  refine lv_iload_n F.1 F.2.1 dL_law_659 rfl (lv_at hl 0 rfl) ?_
  refine tw_iconst F dL_law_660 ki_2 (fun z14 hz14 => ?_)
  refine tu_iadd F dL_law_661 (by omega) (fun z15 hz15 => ?_)
  refine va_sld F.1 F.2.1 hX0 hbl hbA h.dd.2.2 (tw_in (by omega) (by omega)) dL_law_662 ?_
  refine lv_topi (fun z16 qz16 => ?_)
  obtain rfl : z6 = z16 := by rw [qz6, qz16, show z5 = z15 from Int32.toInt_inj.mp (by omega)]
  refine tw_Vl (As := [.int z3, .int z6]) F hZ h yk_X12_word mw_793 mw_794 mw_795 (s_X12_word l D cy L R O f7 rr m_rr r_rr z3 z6) rfl rfl m_rr r_rr (fun e q => (T_12 e).mp q) rfl hl.1 rfl (Nat.le_of_ble_eq_true rfl) ⟨Nat.le_of_ble_eq_true rfl, Nat.le_of_ble_eq_true rfl⟩ ⟨hcs, hsl⟩ dL_law_663 (fun v18 f17 H locs hp17 h => ?_)
  have hf17 := hp17
  have en19a := TNa hTMc hf17 m_q r_q (by decide +kernel) (by decide +kernel) (by decide +kernel)
  have en19c := TNc hTMc hTMn hf17 m_q r_q (by decide +kernel) (by decide +kernel) (by decide +kernel) (by decide +kernel)
  have en19m := TNm t_GT m_GT r_GT hf17 m_rr r_rr (by decide +kernel) (by decide +kernel)
  have et20p := TRp hTMc hf17 m_q r_q (by decide +kernel) (by decide +kernel)
  have et20c := TRc hTMc hf17 m_q r_q (by decide +kernel) (by decide +kernel) (by decide +kernel) (by decide +kernel)
  have et20m := TRm hTMm hf17 m_rr r_rr (by decide +kernel) (by decide +kernel) (by decide +kernel) (by decide +kernel)
  have hTPn : ∀ i, i < 4 → P (trs f17 q i) = i := fun i hi => by rw [et20p i]; exact hTPn i hi
  have hTMc := TMc_of h m_q r_q
  have hTMm := TMm_of h m_rr r_rr
  have hTQn : ∀ i, i < 4 → P (rfa f17 (trs f17 q i) 0) = i := fun i hi => by rw [en19a i hi]; exact hTQn i hi
  have hTMn := TMn_of h hTMc
  have hI : INV L R O P f17 q := hI.most m_q r_q hf17 (by decide +kernel) (by decide +kernel) (by decide +kernel) (by decide +kernel) (by decide +kernel)
  have t_GA : fld f17 rr 0 = .ref GA := (hf17.efl m_rr r_rr (by decide +kernel)).trans t_GA
  have t_GP : fld f17 rr 22 = .ref GP := (hf17.efl m_rr r_rr (by decide +kernel)).trans t_GP
  have t_GL : fld f17 rr 23 = .ref GL := (hf17.efl m_rr r_rr (by decide +kernel)).trans t_GL
  have t_GT : fld f17 rr 6 = .ref GT := (hf17.efl m_rr r_rr (by decide +kernel)).trans t_GT
  have hR : RBA GA f17 := hR.fm hf17 m_GA r_GA (by decide +kernel)
  have hX : GZ GP GL f17 := hX.fm hf17 m_GP r_GP m_GL r_GL (by decide +kernel) (by decide +kernel)
  have hP : fld f17 (rfa f17 q 6) 16 = V := by rw [hf17.erf m_q r_q (by decide +kernel), hf17.efl hs6m hs6r (by decide +kernel)]; exact hP
  have hs6m : rfa f17 q 6 ∈ L := by rw [hf17.erf m_q r_q (by decide +kernel)]; exact hs6m
  have hs6r : R (rfa f17 q 6) = 7 := by rw [hf17.erf m_q r_q (by decide +kernel)]; exact hs6r
  refine lv_pop2_2 F.1 F.2.1 dL_law_666 rfl ?_
  refine lv_goto (tgt := 1756) F.1 F.2.1 dL_law_667 (by decide) ?_
  exact kk f17 _ _ _ ⟨h, hI, ⟨t_GA, t_GP, t_GL, t_GT⟩, hR, hX, hP, hTPn, fun i hi => by have q0 := hTR i hi; have q1 := et10c i hi; have q2 := et10m i; have q3 := et20c i hi; have q4 := et20m i; omega, hTQn, fun i hi j hj => by have q0 := hTR i hi; have q1 := et10c i hi; have q2 := et10m i; have q3 := et20c i hi; have q4 := et20m i; have qb := hCb i hi; have hj6 : j < 60 := (by omega); have n0 := hNR i hi j; have n1 := en9c i hi j; have n2 := en9m i j; have n3 := en19c i hi j; have n4 := en19m i j; omega⟩ hl
theorem dL_law_670 : decode cL_law 670 = .ok (.aload_n 1, 1) := by decide +kernel
theorem dL_law_671 : decode cL_law 671 = .ok (.aload_n 0, 1) := by decide +kernel
theorem dL_law_672 : decode cL_law 672 = .ok (.iload_n 3, 1) := by decide +kernel
theorem dL_law_673 : decode cL_law 673 = .ok (.iconst 1, 1) := by decide +kernel
theorem dL_law_674 : decode cL_law 674 = .ok (.iadd, 1) := by decide +kernel
theorem dL_law_675 : decode cL_law 675 = .ok (.iaload, 1) := by decide +kernel
theorem dL_law_676 : decode cL_law 676 = .ok (.aload_n 0, 1) := by decide +kernel
theorem dL_law_677 : decode cL_law 677 = .ok (.iload_n 3, 1) := by decide +kernel
theorem dL_law_678 : decode cL_law 678 = .ok (.iconst 2, 1) := by decide +kernel
theorem dL_law_679 : decode cL_law 679 = .ok (.iadd, 1) := by decide +kernel
theorem dL_law_680 : decode cL_law 680 = .ok (.iaload, 1) := by decide +kernel
theorem dL_law_681 : decode cL_law 681 = .ok (.invokevirtual 76, 3) := by decide +kernel
theorem mw_805 : Cond.methodLink RL 76 yX11_count ∈ wsL_law := inr_34 _ (List.mem_of_getElem? (i := 13) rfl)
theorem mw_808 : Cond.code yX11_count cX11_count 4 (some .int) ∈ wsL_law := inr_34 _ (List.mem_of_getElem? (i := 16) rfl)
theorem yk_X11_count : xY yX11_count RX11 cX11_count 4 (some .int) 2 := ⟨⟨rfl, by decide +kernel, by decide +kernel, by decide +kernel⟩, mw_2, mw_808⟩
theorem mw_806 : Cond.instanceMethod yX11_count ∈ wsL_law := inr_34 _ (List.mem_of_getElem? (i := 14) rfl)
theorem mw_807 : Cond.selects RX11 yX11_count yX11_count ∈ wsL_law := inr_34 _ (List.mem_of_getElem? (i := 15) rfl)
theorem dL_law_684 : decode cL_law 684 = .ok (.pop, 1) := by decide +kernel
theorem dL_law_685 : decode cL_law 685 = .ok (.aload_n 2, 1) := by decide +kernel
theorem dL_law_686 : decode cL_law 686 = .ok (.aload_n 0, 1) := by decide +kernel
theorem dL_law_687 : decode cL_law 687 = .ok (.iload_n 3, 1) := by decide +kernel
theorem dL_law_688 : decode cL_law 688 = .ok (.iconst 1, 1) := by decide +kernel
theorem dL_law_689 : decode cL_law 689 = .ok (.iadd, 1) := by decide +kernel
theorem dL_law_690 : decode cL_law 690 = .ok (.iaload, 1) := by decide +kernel
theorem dL_law_691 : decode cL_law 691 = .ok (.aload_n 0, 1) := by decide +kernel
theorem dL_law_692 : decode cL_law 692 = .ok (.iload_n 3, 1) := by decide +kernel
theorem dL_law_693 : decode cL_law 693 = .ok (.iconst 2, 1) := by decide +kernel
theorem dL_law_694 : decode cL_law 694 = .ok (.iadd, 1) := by decide +kernel
theorem dL_law_695 : decode cL_law 695 = .ok (.iaload, 1) := by decide +kernel
theorem dL_law_696 : decode cL_law 696 = .ok (.invokevirtual 79, 3) := by decide +kernel
theorem mw_812 : Cond.methodLink RL 79 yX12_count ∈ wsL_law := inr_34 _ (List.mem_of_getElem? (i := 20) rfl)
theorem mw_815 : Cond.code yX12_count cX12_count 3 (some .int) ∈ wsL_law := inr_34 _ (List.mem_of_getElem? (i := 23) rfl)
theorem yk_X12_count : xY yX12_count RX12 cX12_count 3 (some .int) 2 := ⟨⟨rfl, by decide +kernel, by decide +kernel, by decide +kernel⟩, mw_5, mw_815⟩
theorem mw_813 : Cond.instanceMethod yX12_count ∈ wsL_law := inr_34 _ (List.mem_of_getElem? (i := 21) rfl)
theorem mw_814 : Cond.selects RX12 yX12_count yX12_count ∈ wsL_law := inr_34 _ (List.mem_of_getElem? (i := 22) rfl)
theorem dL_law_699 : decode cL_law 699 = .ok (.pop, 1) := by decide +kernel
theorem dL_law_700 : decode cL_law 700 = .ok (.goto 1056, 3) := by decide +kernel
set_option maxHeartbeats 4000000 in
set_option maxRecDepth 100000 in
theorem law_c13 {p : Program} {l : Launch} {e : Env} {s : State} {m : MethodId} {below : List Frame} {meth : Method} {c : Code} {H : Heap} {locs : List Loc} {Q : State → Prop} {D : va_G} {cy : Nat → ClassId} {A : Nat → Prop} {L : List Nat} {R O P : Nat → Nat} {f0 : Nat → va_E} {ls : Array Slot} {b N cs sl q rr GA GP GL GT : Nat} {xs : Nat → Int32} {V : Value} (F : CallFix p m c cL_law 4 s #[Value.ref b] wsL_law RL) (hZ : tZ A s s.heap) (hX0 : va_X b N xs s s.heap) (hbl : b < s.heap.size) (hbA : ¬ A b) (hcs : cs ≤ room_1.cells) (hsl : sl ≤ room_1.slots) (i : Int32) (bi : 0 ≤ i.toInt ∧ i.toInt + 6 ≤ N ∧ N ≤ 3072) (m_q : q ∈ L) (r_q : R q = 11) (m_rr : rr ∈ L) (r_rr : R rr = 12) (m_GA : GA ∈ L) (r_GA : R GA = 61) (m_GP : GP ∈ L) (r_GP : R GP = 69) (m_GL : GL ∈ L) (r_GL : R GL = 70) (m_GT : GT ∈ L) (r_GT : R GT = 64) (hLS : LWS D cy A s L R O P q rr GA GP GL GT V f0 H locs) (hl : lv_has ls 4 [(3, .int i), (2, .ref rr), (1, .ref q), (0, .ref b)]) (kk : ∀ (f1 : Nat → va_E) (H : Heap) (locs : List Loc) (ls : Array Slot), LWS D cy A s L R O P q rr GA GP GL GT V f1 H locs → lv_has ls 4 [(3, .int i), (2, .ref rr), (1, .ref q), (0, .ref b)] → W p l e room_1 s m #[Value.ref b] below meth c H locs cs sl Q (F0 m 1756 ls [])) : W p l e room_1 s m #[Value.ref b] below meth c H locs cs sl Q (F0 m 670 ls []) := by
  obtain ⟨h, hI, ⟨t_GA, t_GP, t_GL, t_GT⟩, hR, hX, hP, hTP, hTR, hTQ, hNR⟩ := hLS
  have hs6m := hI.2.2.1.1
  have hs6r := hI.2.2.1.2
  have hTMc := TMc_of h m_q r_q
  have hTMm := TMm_of h m_rr r_rr
  have hTPn := hTP
  have hTMn := TMn_of h hTMc
  have hTQn := hTQ
  have hCb := CS_le h m_q r_q
  refine lv_aload_n F.1 F.2.1 dL_law_670 rfl (lv_at hl 2 rfl) ?_
  refine lv_aload_n F.1 F.2.1 dL_law_671 rfl (lv_at hl 3 rfl) ?_
  refine lv_iload_n F.1 F.2.1 dL_law_672 rfl (lv_at hl 0 rfl) ?_
  refine tw_iconst F dL_law_673 ki_1 (fun z1 hz1 => ?_)
  refine tu_iadd F dL_law_674 (by omega) (fun z2 hz2 => ?_)
  refine va_sld F.1 F.2.1 hX0 hbl hbA h.dd.2.2 (tw_in (by omega) (by omega)) dL_law_675 ?_
  refine lv_topi (fun z3 qz3 => ?_)
  refine lv_aload_n F.1 F.2.1 dL_law_676 rfl (lv_at hl 3 rfl) ?_
  refine lv_iload_n F.1 F.2.1 dL_law_677 rfl (lv_at hl 0 rfl) ?_
  refine tw_iconst F dL_law_678 ki_2 (fun z4 hz4 => ?_)
  refine tu_iadd F dL_law_679 (by omega) (fun z5 hz5 => ?_)
  refine va_sld F.1 F.2.1 hX0 hbl hbA h.dd.2.2 (tw_in (by omega) (by omega)) dL_law_680 ?_
  refine lv_topi (fun z6 qz6 => ?_)
  refine tw_Vi (As := [.int z3, .int z6]) F hZ h yk_X11_count mw_805 mw_806 mw_807 (s_X11_count l D cy L R O f0 q m_q r_q z3 z6) rfl rfl m_q r_q (fun e q => (T_11 e).mp q) rfl hl.1 rfl (Nat.le_of_ble_eq_true rfl) ⟨Nat.le_of_ble_eq_true rfl, Nat.le_of_ble_eq_true rfl⟩ ⟨hcs, hsl⟩ dL_law_681 (fun v8 f7 H locs hp7 h => ?_)
  have hf7 := hp7
  have en9a := TNa hTMc hf7 m_q r_q (by decide +kernel) (by decide +kernel) (by decide +kernel)
  have en9c := TNc hTMc hTMn hf7 m_q r_q (by decide +kernel) (by decide +kernel) (by decide +kernel) (by decide +kernel)
  have en9m := TNm t_GT m_GT r_GT hf7 m_rr r_rr (by decide +kernel) (by decide +kernel)
  have et10p := TRp hTMc hf7 m_q r_q (by decide +kernel) (by decide +kernel)
  have et10c := TRc hTMc hf7 m_q r_q (by decide +kernel) (by decide +kernel) (by decide +kernel) (by decide +kernel)
  have et10m := TRm hTMm hf7 m_rr r_rr (by decide +kernel) (by decide +kernel) (by decide +kernel) (by decide +kernel)
  have hTPn : ∀ i, i < 4 → P (trs f7 q i) = i := fun i hi => by rw [et10p i]; exact hTPn i hi
  have hTMc := TMc_of h m_q r_q
  have hTMm := TMm_of h m_rr r_rr
  have hTQn : ∀ i, i < 4 → P (rfa f7 (trs f7 q i) 0) = i := fun i hi => by rw [en9a i hi]; exact hTQn i hi
  have hTMn := TMn_of h hTMc
  have hI : INV L R O P f7 q := hI.most m_q r_q hf7 (by decide +kernel) (by decide +kernel) (by decide +kernel) (by decide +kernel) (by decide +kernel)
  have t_GA : fld f7 rr 0 = .ref GA := (hf7.efl m_rr r_rr (by decide +kernel)).trans t_GA
  have t_GP : fld f7 rr 22 = .ref GP := (hf7.efl m_rr r_rr (by decide +kernel)).trans t_GP
  have t_GL : fld f7 rr 23 = .ref GL := (hf7.efl m_rr r_rr (by decide +kernel)).trans t_GL
  have t_GT : fld f7 rr 6 = .ref GT := (hf7.efl m_rr r_rr (by decide +kernel)).trans t_GT
  have hR : RBA GA f7 := hR.fm hf7 m_GA r_GA (by decide +kernel)
  have hX : GZ GP GL f7 := hX.fm hf7 m_GP r_GP m_GL r_GL (by decide +kernel) (by decide +kernel)
  have hP : fld f7 (rfa f7 q 6) 16 = V := by rw [hf7.erf m_q r_q (by decide +kernel), hf7.efl hs6m hs6r (by decide +kernel)]; exact hP
  have hs6m : rfa f7 q 6 ∈ L := by rw [hf7.erf m_q r_q (by decide +kernel)]; exact hs6m
  have hs6r : R (rfa f7 q 6) = 7 := by rw [hf7.erf m_q r_q (by decide +kernel)]; exact hs6r
  refine lv_pop F.1 F.2.1 dL_law_684 rfl ?_
  refine lv_aload_n F.1 F.2.1 dL_law_685 rfl (lv_at hl 1 rfl) ?_
  refine lv_aload_n F.1 F.2.1 dL_law_686 rfl (lv_at hl 3 rfl) ?_
  refine lv_iload_n F.1 F.2.1 dL_law_687 rfl (lv_at hl 0 rfl) ?_
  refine tw_iconst F dL_law_688 ki_1 (fun z11 hz11 => ?_)
  refine tu_iadd F dL_law_689 (by omega) (fun z12 hz12 => ?_)
  refine va_sld F.1 F.2.1 hX0 hbl hbA h.dd.2.2 (tw_in (by omega) (by omega)) dL_law_690 ?_
  refine lv_topi (fun z13 qz13 => ?_)
  obtain rfl : z3 = z13 := by rw [qz3, qz13, show z2 = z12 from Int32.toInt_inj.mp (by omega)]
  refine lv_aload_n F.1 F.2.1 dL_law_691 rfl (lv_at hl 3 rfl) ?_
  refine lv_iload_n F.1 F.2.1 dL_law_692 rfl (lv_at hl 0 rfl) ?_
  refine tw_iconst F dL_law_693 ki_2 (fun z14 hz14 => ?_)
  refine tu_iadd F dL_law_694 (by omega) (fun z15 hz15 => ?_)
  refine va_sld F.1 F.2.1 hX0 hbl hbA h.dd.2.2 (tw_in (by omega) (by omega)) dL_law_695 ?_
  refine lv_topi (fun z16 qz16 => ?_)
  obtain rfl : z6 = z16 := by rw [qz6, qz16, show z5 = z15 from Int32.toInt_inj.mp (by omega)]
  refine tw_Vi (As := [.int z3, .int z6]) F hZ h yk_X12_count mw_812 mw_813 mw_814 (s_X12_count l D cy L R O f7 rr m_rr r_rr z3 z6) rfl rfl m_rr r_rr (fun e q => (T_12 e).mp q) rfl hl.1 rfl (Nat.le_of_ble_eq_true rfl) ⟨Nat.le_of_ble_eq_true rfl, Nat.le_of_ble_eq_true rfl⟩ ⟨hcs, hsl⟩ dL_law_696 (fun v18 f17 H locs hp17 h => ?_)
  have hf17 := hp17
  have en19a := TNa hTMc hf17 m_q r_q (by decide +kernel) (by decide +kernel) (by decide +kernel)
  have en19c := TNc hTMc hTMn hf17 m_q r_q (by decide +kernel) (by decide +kernel) (by decide +kernel) (by decide +kernel)
  have en19m := TNm t_GT m_GT r_GT hf17 m_rr r_rr (by decide +kernel) (by decide +kernel)
  have et20p := TRp hTMc hf17 m_q r_q (by decide +kernel) (by decide +kernel)
  have et20c := TRc hTMc hf17 m_q r_q (by decide +kernel) (by decide +kernel) (by decide +kernel) (by decide +kernel)
  have et20m := TRm hTMm hf17 m_rr r_rr (by decide +kernel) (by decide +kernel) (by decide +kernel) (by decide +kernel)
  have hTPn : ∀ i, i < 4 → P (trs f17 q i) = i := fun i hi => by rw [et20p i]; exact hTPn i hi
  have hTMc := TMc_of h m_q r_q
  have hTMm := TMm_of h m_rr r_rr
  have hTQn : ∀ i, i < 4 → P (rfa f17 (trs f17 q i) 0) = i := fun i hi => by rw [en19a i hi]; exact hTQn i hi
  have hTMn := TMn_of h hTMc
  have hI : INV L R O P f17 q := hI.most m_q r_q hf17 (by decide +kernel) (by decide +kernel) (by decide +kernel) (by decide +kernel) (by decide +kernel)
  have t_GA : fld f17 rr 0 = .ref GA := (hf17.efl m_rr r_rr (by decide +kernel)).trans t_GA
  have t_GP : fld f17 rr 22 = .ref GP := (hf17.efl m_rr r_rr (by decide +kernel)).trans t_GP
  have t_GL : fld f17 rr 23 = .ref GL := (hf17.efl m_rr r_rr (by decide +kernel)).trans t_GL
  have t_GT : fld f17 rr 6 = .ref GT := (hf17.efl m_rr r_rr (by decide +kernel)).trans t_GT
  have hR : RBA GA f17 := hR.fm hf17 m_GA r_GA (by decide +kernel)
  have hX : GZ GP GL f17 := hX.fm hf17 m_GP r_GP m_GL r_GL (by decide +kernel) (by decide +kernel)
  have hP : fld f17 (rfa f17 q 6) 16 = V := by rw [hf17.erf m_q r_q (by decide +kernel), hf17.efl hs6m hs6r (by decide +kernel)]; exact hP
  have hs6m : rfa f17 q 6 ∈ L := by rw [hf17.erf m_q r_q (by decide +kernel)]; exact hs6m
  have hs6r : R (rfa f17 q 6) = 7 := by rw [hf17.erf m_q r_q (by decide +kernel)]; exact hs6r
  refine lv_pop F.1 F.2.1 dL_law_699 rfl ?_
  refine lv_goto (tgt := 1756) F.1 F.2.1 dL_law_700 (by decide) ?_
  exact kk f17 _ _ _ ⟨h, hI, ⟨t_GA, t_GP, t_GL, t_GT⟩, hR, hX, hP, hTPn, fun i hi => by have q0 := hTR i hi; have q1 := et10c i hi; have q2 := et10m i; have q3 := et20c i hi; have q4 := et20m i; omega, hTQn, fun i hi j hj => by have q0 := hTR i hi; have q1 := et10c i hi; have q2 := et10m i; have q3 := et20c i hi; have q4 := et20m i; have qb := hCb i hi; have hj6 : j < 60 := (by omega); have n0 := hNR i hi j; have n1 := en9c i hi j; have n2 := en9m i j; have n3 := en19c i hi j; have n4 := en19m i j; omega⟩ hl
theorem dL_law_703 : decode cL_law 703 = .ok (.aload_n 1, 1) := by decide +kernel
theorem dL_law_704 : decode cL_law 704 = .ok (.aload_n 0, 1) := by decide +kernel
theorem dL_law_705 : decode cL_law 705 = .ok (.iload_n 3, 1) := by decide +kernel
theorem dL_law_706 : decode cL_law 706 = .ok (.iconst 1, 1) := by decide +kernel
theorem dL_law_707 : decode cL_law 707 = .ok (.iadd, 1) := by decide +kernel
theorem dL_law_708 : decode cL_law 708 = .ok (.iaload, 1) := by decide +kernel
theorem dL_law_709 : decode cL_law 709 = .ok (.aload_n 0, 1) := by decide +kernel
theorem dL_law_710 : decode cL_law 710 = .ok (.iload_n 3, 1) := by decide +kernel
theorem dL_law_711 : decode cL_law 711 = .ok (.iconst 2, 1) := by decide +kernel
theorem dL_law_712 : decode cL_law 712 = .ok (.iadd, 1) := by decide +kernel
theorem dL_law_713 : decode cL_law 713 = .ok (.iaload, 1) := by decide +kernel
theorem dL_law_714 : decode cL_law 714 = .ok (.aload_n 0, 1) := by decide +kernel
theorem dL_law_715 : decode cL_law 715 = .ok (.iload_n 3, 1) := by decide +kernel
theorem dL_law_716 : decode cL_law 716 = .ok (.iconst 3, 1) := by decide +kernel
theorem dL_law_717 : decode cL_law 717 = .ok (.iadd, 1) := by decide +kernel
theorem dL_law_718 : decode cL_law 718 = .ok (.iaload, 1) := by decide +kernel
theorem dL_law_719 : decode cL_law 719 = .ok (.invokevirtual 80, 3) := by decide +kernel
theorem mw_816 : Cond.methodLink RL 80 yX11_rule ∈ wsL_law := inr_35 _ (List.mem_of_getElem? (i := 0) rfl)
theorem mw_819 : Cond.code yX11_rule cX11_rule 5 (some .int) ∈ wsL_law := inr_35 _ (List.mem_of_getElem? (i := 3) rfl)
theorem yk_X11_rule : xY yX11_rule RX11 cX11_rule 5 (some .int) 3 := ⟨⟨rfl, by decide +kernel, by decide +kernel, by decide +kernel⟩, mw_2, mw_819⟩
theorem mw_817 : Cond.instanceMethod yX11_rule ∈ wsL_law := inr_35 _ (List.mem_of_getElem? (i := 1) rfl)
theorem mw_818 : Cond.selects RX11 yX11_rule yX11_rule ∈ wsL_law := inr_35 _ (List.mem_of_getElem? (i := 2) rfl)
theorem dL_law_722 : decode cL_law 722 = .ok (.pop, 1) := by decide +kernel
theorem dL_law_723 : decode cL_law 723 = .ok (.aload_n 2, 1) := by decide +kernel
theorem dL_law_724 : decode cL_law 724 = .ok (.aload_n 0, 1) := by decide +kernel
theorem dL_law_725 : decode cL_law 725 = .ok (.iload_n 3, 1) := by decide +kernel
theorem dL_law_726 : decode cL_law 726 = .ok (.iconst 1, 1) := by decide +kernel
theorem dL_law_727 : decode cL_law 727 = .ok (.iadd, 1) := by decide +kernel
theorem dL_law_728 : decode cL_law 728 = .ok (.iaload, 1) := by decide +kernel
theorem dL_law_729 : decode cL_law 729 = .ok (.aload_n 0, 1) := by decide +kernel
theorem dL_law_730 : decode cL_law 730 = .ok (.iload_n 3, 1) := by decide +kernel
theorem dL_law_731 : decode cL_law 731 = .ok (.iconst 2, 1) := by decide +kernel
theorem dL_law_732 : decode cL_law 732 = .ok (.iadd, 1) := by decide +kernel
theorem dL_law_733 : decode cL_law 733 = .ok (.iaload, 1) := by decide +kernel
theorem dL_law_734 : decode cL_law 734 = .ok (.aload_n 0, 1) := by decide +kernel
theorem dL_law_735 : decode cL_law 735 = .ok (.iload_n 3, 1) := by decide +kernel
theorem dL_law_736 : decode cL_law 736 = .ok (.iconst 3, 1) := by decide +kernel
theorem dL_law_737 : decode cL_law 737 = .ok (.iadd, 1) := by decide +kernel
theorem dL_law_738 : decode cL_law 738 = .ok (.iaload, 1) := by decide +kernel
theorem dL_law_739 : decode cL_law 739 = .ok (.invokevirtual 84, 3) := by decide +kernel
theorem mw_832 : Cond.methodLink RL 84 yX12_rule ∈ wsL_law := inr_35 _ (List.mem_of_getElem? (i := 16) rfl)
theorem mw_835 : Cond.code yX12_rule cX12_rule 5 (some .int) ∈ wsL_law := inr_35 _ (List.mem_of_getElem? (i := 19) rfl)
theorem yk_X12_rule : xY yX12_rule RX12 cX12_rule 5 (some .int) 3 := ⟨⟨rfl, by decide +kernel, by decide +kernel, by decide +kernel⟩, mw_5, mw_835⟩
theorem mw_833 : Cond.instanceMethod yX12_rule ∈ wsL_law := inr_35 _ (List.mem_of_getElem? (i := 17) rfl)
theorem mw_834 : Cond.selects RX12 yX12_rule yX12_rule ∈ wsL_law := inr_35 _ (List.mem_of_getElem? (i := 18) rfl)
theorem dL_law_742 : decode cL_law 742 = .ok (.pop, 1) := by decide +kernel
theorem dL_law_743 : decode cL_law 743 = .ok (.goto 1013, 3) := by decide +kernel
set_option maxHeartbeats 4000000 in
set_option maxRecDepth 100000 in
theorem law_c14 {p : Program} {l : Launch} {e : Env} {s : State} {m : MethodId} {below : List Frame} {meth : Method} {c : Code} {H : Heap} {locs : List Loc} {Q : State → Prop} {D : va_G} {cy : Nat → ClassId} {A : Nat → Prop} {L : List Nat} {R O P : Nat → Nat} {f0 : Nat → va_E} {ls : Array Slot} {b N cs sl q rr GA GP GL GT : Nat} {xs : Nat → Int32} {V : Value} (F : CallFix p m c cL_law 4 s #[Value.ref b] wsL_law RL) (hZ : tZ A s s.heap) (hX0 : va_X b N xs s s.heap) (hbl : b < s.heap.size) (hbA : ¬ A b) (hcs : cs ≤ room_1.cells) (hsl : sl ≤ room_1.slots) (i : Int32) (bi : 0 ≤ i.toInt ∧ i.toInt + 6 ≤ N ∧ N ≤ 3072) (m_q : q ∈ L) (r_q : R q = 11) (m_rr : rr ∈ L) (r_rr : R rr = 12) (m_GA : GA ∈ L) (r_GA : R GA = 61) (m_GP : GP ∈ L) (r_GP : R GP = 69) (m_GL : GL ∈ L) (r_GL : R GL = 70) (m_GT : GT ∈ L) (r_GT : R GT = 64) (hLS : LWS D cy A s L R O P q rr GA GP GL GT V f0 H locs) (hl : lv_has ls 4 [(3, .int i), (2, .ref rr), (1, .ref q), (0, .ref b)]) (kk : ∀ (f1 : Nat → va_E) (H : Heap) (locs : List Loc) (ls : Array Slot), LWS D cy A s L R O P q rr GA GP GL GT V f1 H locs → lv_has ls 4 [(3, .int i), (2, .ref rr), (1, .ref q), (0, .ref b)] → W p l e room_1 s m #[Value.ref b] below meth c H locs cs sl Q (F0 m 1756 ls [])) : W p l e room_1 s m #[Value.ref b] below meth c H locs cs sl Q (F0 m 703 ls []) := by
  obtain ⟨h, hI, ⟨t_GA, t_GP, t_GL, t_GT⟩, hR, hX, hP, hTP, hTR, hTQ, hNR⟩ := hLS
  have hs6m := hI.2.2.1.1
  have hs6r := hI.2.2.1.2
  have hTMc := TMc_of h m_q r_q
  have hTMm := TMm_of h m_rr r_rr
  have hTPn := hTP
  have hTMn := TMn_of h hTMc
  have hTQn := hTQ
  have hCb := CS_le h m_q r_q
  refine lv_aload_n F.1 F.2.1 dL_law_703 rfl (lv_at hl 2 rfl) ?_
  refine lv_aload_n F.1 F.2.1 dL_law_704 rfl (lv_at hl 3 rfl) ?_
  refine lv_iload_n F.1 F.2.1 dL_law_705 rfl (lv_at hl 0 rfl) ?_
  refine tw_iconst F dL_law_706 ki_1 (fun z1 hz1 => ?_)
  refine tu_iadd F dL_law_707 (by omega) (fun z2 hz2 => ?_)
  refine va_sld F.1 F.2.1 hX0 hbl hbA h.dd.2.2 (tw_in (by omega) (by omega)) dL_law_708 ?_
  refine lv_topi (fun z3 qz3 => ?_)
  refine lv_aload_n F.1 F.2.1 dL_law_709 rfl (lv_at hl 3 rfl) ?_
  refine lv_iload_n F.1 F.2.1 dL_law_710 rfl (lv_at hl 0 rfl) ?_
  refine tw_iconst F dL_law_711 ki_2 (fun z4 hz4 => ?_)
  refine tu_iadd F dL_law_712 (by omega) (fun z5 hz5 => ?_)
  refine va_sld F.1 F.2.1 hX0 hbl hbA h.dd.2.2 (tw_in (by omega) (by omega)) dL_law_713 ?_
  refine lv_topi (fun z6 qz6 => ?_)
  refine lv_aload_n F.1 F.2.1 dL_law_714 rfl (lv_at hl 3 rfl) ?_
  refine lv_iload_n F.1 F.2.1 dL_law_715 rfl (lv_at hl 0 rfl) ?_
  refine tw_iconst F dL_law_716 ki_3 (fun z7 hz7 => ?_)
  refine tu_iadd F dL_law_717 (by omega) (fun z8 hz8 => ?_)
  refine va_sld F.1 F.2.1 hX0 hbl hbA h.dd.2.2 (tw_in (by omega) (by omega)) dL_law_718 ?_
  refine lv_topi (fun z9 qz9 => ?_)
  refine tw_Vi (As := [.int z3, .int z6, .int z9]) F hZ h yk_X11_rule mw_816 mw_817 mw_818 (s_X11_rule l D cy L R O f0 q m_q r_q z3 z6 z9) rfl rfl m_q r_q (fun e q => (T_11 e).mp q) rfl hl.1 rfl (Nat.le_of_ble_eq_true rfl) ⟨Nat.le_of_ble_eq_true rfl, Nat.le_of_ble_eq_true rfl⟩ ⟨hcs, hsl⟩ dL_law_719 (fun v11 f10 H locs hp10 h => ?_)
  have hf10 := hp10
  have en12a := TNa hTMc hf10 m_q r_q (by decide +kernel) (by decide +kernel) (by decide +kernel)
  have en12c := TNc hTMc hTMn hf10 m_q r_q (by decide +kernel) (by decide +kernel) (by decide +kernel) (by decide +kernel)
  have en12m := TNm t_GT m_GT r_GT hf10 m_rr r_rr (by decide +kernel) (by decide +kernel)
  have et13p := TRp hTMc hf10 m_q r_q (by decide +kernel) (by decide +kernel)
  have et13c := TRc hTMc hf10 m_q r_q (by decide +kernel) (by decide +kernel) (by decide +kernel) (by decide +kernel)
  have et13m := TRm hTMm hf10 m_rr r_rr (by decide +kernel) (by decide +kernel) (by decide +kernel) (by decide +kernel)
  have hTPn : ∀ i, i < 4 → P (trs f10 q i) = i := fun i hi => by rw [et13p i]; exact hTPn i hi
  have hTMc := TMc_of h m_q r_q
  have hTMm := TMm_of h m_rr r_rr
  have hTQn : ∀ i, i < 4 → P (rfa f10 (trs f10 q i) 0) = i := fun i hi => by rw [en12a i hi]; exact hTQn i hi
  have hTMn := TMn_of h hTMc
  have hI : INV L R O P f10 q := hI.most m_q r_q hf10 (by decide +kernel) (by decide +kernel) (by decide +kernel) (by decide +kernel) (by decide +kernel)
  have t_GA : fld f10 rr 0 = .ref GA := (hf10.efl m_rr r_rr (by decide +kernel)).trans t_GA
  have t_GP : fld f10 rr 22 = .ref GP := (hf10.efl m_rr r_rr (by decide +kernel)).trans t_GP
  have t_GL : fld f10 rr 23 = .ref GL := (hf10.efl m_rr r_rr (by decide +kernel)).trans t_GL
  have t_GT : fld f10 rr 6 = .ref GT := (hf10.efl m_rr r_rr (by decide +kernel)).trans t_GT
  have hR : RBA GA f10 := hR.fm hf10 m_GA r_GA (by decide +kernel)
  have hX : GZ GP GL f10 := hX.fm hf10 m_GP r_GP m_GL r_GL (by decide +kernel) (by decide +kernel)
  have hP : fld f10 (rfa f10 q 6) 16 = V := by rw [hf10.erf m_q r_q (by decide +kernel), hf10.efl hs6m hs6r (by decide +kernel)]; exact hP
  have hs6m : rfa f10 q 6 ∈ L := by rw [hf10.erf m_q r_q (by decide +kernel)]; exact hs6m
  have hs6r : R (rfa f10 q 6) = 7 := by rw [hf10.erf m_q r_q (by decide +kernel)]; exact hs6r
  refine lv_pop F.1 F.2.1 dL_law_722 rfl ?_
  refine lv_aload_n F.1 F.2.1 dL_law_723 rfl (lv_at hl 1 rfl) ?_
  refine lv_aload_n F.1 F.2.1 dL_law_724 rfl (lv_at hl 3 rfl) ?_
  refine lv_iload_n F.1 F.2.1 dL_law_725 rfl (lv_at hl 0 rfl) ?_
  refine tw_iconst F dL_law_726 ki_1 (fun z14 hz14 => ?_)
  refine tu_iadd F dL_law_727 (by omega) (fun z15 hz15 => ?_)
  refine va_sld F.1 F.2.1 hX0 hbl hbA h.dd.2.2 (tw_in (by omega) (by omega)) dL_law_728 ?_
  refine lv_topi (fun z16 qz16 => ?_)
  obtain rfl : z3 = z16 := by rw [qz3, qz16, show z2 = z15 from Int32.toInt_inj.mp (by omega)]
  refine lv_aload_n F.1 F.2.1 dL_law_729 rfl (lv_at hl 3 rfl) ?_
  refine lv_iload_n F.1 F.2.1 dL_law_730 rfl (lv_at hl 0 rfl) ?_
  refine tw_iconst F dL_law_731 ki_2 (fun z17 hz17 => ?_)
  refine tu_iadd F dL_law_732 (by omega) (fun z18 hz18 => ?_)
  refine va_sld F.1 F.2.1 hX0 hbl hbA h.dd.2.2 (tw_in (by omega) (by omega)) dL_law_733 ?_
  refine lv_topi (fun z19 qz19 => ?_)
  obtain rfl : z6 = z19 := by rw [qz6, qz19, show z5 = z18 from Int32.toInt_inj.mp (by omega)]
  refine lv_aload_n F.1 F.2.1 dL_law_734 rfl (lv_at hl 3 rfl) ?_
  refine lv_iload_n F.1 F.2.1 dL_law_735 rfl (lv_at hl 0 rfl) ?_
  refine tw_iconst F dL_law_736 ki_3 (fun z20 hz20 => ?_)
  refine tu_iadd F dL_law_737 (by omega) (fun z21 hz21 => ?_)
  refine va_sld F.1 F.2.1 hX0 hbl hbA h.dd.2.2 (tw_in (by omega) (by omega)) dL_law_738 ?_
  refine lv_topi (fun z22 qz22 => ?_)
  obtain rfl : z9 = z22 := by rw [qz9, qz22, show z8 = z21 from Int32.toInt_inj.mp (by omega)]
  refine tw_Vi (As := [.int z3, .int z6, .int z9]) F hZ h yk_X12_rule mw_832 mw_833 mw_834 (s_X12_rule l D cy L R O f10 rr m_rr r_rr z3 z6 z9) rfl rfl m_rr r_rr (fun e q => (T_12 e).mp q) rfl hl.1 rfl (Nat.le_of_ble_eq_true rfl) ⟨Nat.le_of_ble_eq_true rfl, Nat.le_of_ble_eq_true rfl⟩ ⟨hcs, hsl⟩ dL_law_739 (fun v24 f23 H locs hp23 h => ?_)
  have hf23 := hp23
  have en25a := TNa hTMc hf23 m_q r_q (by decide +kernel) (by decide +kernel) (by decide +kernel)
  have en25c := TNc hTMc hTMn hf23 m_q r_q (by decide +kernel) (by decide +kernel) (by decide +kernel) (by decide +kernel)
  have en25m := TNm t_GT m_GT r_GT hf23 m_rr r_rr (by decide +kernel) (by decide +kernel)
  have et26p := TRp hTMc hf23 m_q r_q (by decide +kernel) (by decide +kernel)
  have et26c := TRc hTMc hf23 m_q r_q (by decide +kernel) (by decide +kernel) (by decide +kernel) (by decide +kernel)
  have et26m := TRm hTMm hf23 m_rr r_rr (by decide +kernel) (by decide +kernel) (by decide +kernel) (by decide +kernel)
  have hTPn : ∀ i, i < 4 → P (trs f23 q i) = i := fun i hi => by rw [et26p i]; exact hTPn i hi
  have hTMc := TMc_of h m_q r_q
  have hTMm := TMm_of h m_rr r_rr
  have hTQn : ∀ i, i < 4 → P (rfa f23 (trs f23 q i) 0) = i := fun i hi => by rw [en25a i hi]; exact hTQn i hi
  have hTMn := TMn_of h hTMc
  have hI : INV L R O P f23 q := hI.most m_q r_q hf23 (by decide +kernel) (by decide +kernel) (by decide +kernel) (by decide +kernel) (by decide +kernel)
  have t_GA : fld f23 rr 0 = .ref GA := (hf23.efl m_rr r_rr (by decide +kernel)).trans t_GA
  have t_GP : fld f23 rr 22 = .ref GP := (hf23.efl m_rr r_rr (by decide +kernel)).trans t_GP
  have t_GL : fld f23 rr 23 = .ref GL := (hf23.efl m_rr r_rr (by decide +kernel)).trans t_GL
  have t_GT : fld f23 rr 6 = .ref GT := (hf23.efl m_rr r_rr (by decide +kernel)).trans t_GT
  have hR : RBA GA f23 := hR.fm hf23 m_GA r_GA (by decide +kernel)
  have hX : GZ GP GL f23 := hX.fm hf23 m_GP r_GP m_GL r_GL (by decide +kernel) (by decide +kernel)
  have hP : fld f23 (rfa f23 q 6) 16 = V := by rw [hf23.erf m_q r_q (by decide +kernel), hf23.efl hs6m hs6r (by decide +kernel)]; exact hP
  have hs6m : rfa f23 q 6 ∈ L := by rw [hf23.erf m_q r_q (by decide +kernel)]; exact hs6m
  have hs6r : R (rfa f23 q 6) = 7 := by rw [hf23.erf m_q r_q (by decide +kernel)]; exact hs6r
  refine lv_pop F.1 F.2.1 dL_law_742 rfl ?_
  refine lv_goto (tgt := 1756) F.1 F.2.1 dL_law_743 (by decide) ?_
  exact kk f23 _ _ _ ⟨h, hI, ⟨t_GA, t_GP, t_GL, t_GT⟩, hR, hX, hP, hTPn, fun i hi => by have q0 := hTR i hi; have q1 := et13c i hi; have q2 := et13m i; have q3 := et26c i hi; have q4 := et26m i; omega, hTQn, fun i hi j hj => by have q0 := hTR i hi; have q1 := et13c i hi; have q2 := et13m i; have q3 := et26c i hi; have q4 := et26m i; have qb := hCb i hi; have hj6 : j < 60 := (by omega); have n0 := hNR i hi j; have n1 := en12c i hi j; have n2 := en12m i j; have n3 := en25c i hi j; have n4 := en25m i j; omega⟩ hl
