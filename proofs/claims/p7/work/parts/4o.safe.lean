theorem dX7_meet_51 : decode cX7_meet 51 = .ok (.aload_n 0, 1) := by decide +kernel
theorem mw_1252 : Cond.classLink RX7 130 RX2 ∈ wsL_law := inr_53 _ (List.mem_of_getElem? (i := 4) rfl)
theorem mw_1253 : Cond.instantiable RX2 4 ∈ wsL_law := inr_53 _ (List.mem_of_getElem? (i := 5) rfl)
theorem mw_1255 : Cond.instanceMethod yX2_init ∈ wsL_law := inr_53 _ (List.mem_of_getElem? (i := 7) rfl)
theorem dfX2 : ∀ j, j < 4 → defaultValue (tyX2 j) = vp_V [.null, .null, .int 0, .int 0] j := by
  intro j hj
  match j, hj with
  | 0, _ => rfl
  | 1, _ => rfl
  | 2, _ => rfl
  | 3, _ => rfl
  | k + 4, hj => omega
theorem mw_1256 : Cond.code yX2_init cX2_init 1 none ∈ wsL_law := inr_53 _ (List.mem_of_getElem? (i := 8) rfl)
theorem yk_X2_init : xY yX2_init RX2 cX2_init 1 none 0 := ⟨⟨rfl, by decide +kernel, by decide +kernel, by decide +kernel⟩, mw_1254, mw_1256⟩
section
variable {p : Program} {l : Launch} {e : Env} {R0 : Room} {s : State} {m : MethodId} {args : Array Value} {below : List Frame} {meth : Method} {c : Code} {H H0 : Heap} {locs : List Loc} {cells slots : Nat} {Q : State → Prop} {cc : ByteArray} {nL : Nat} {D : va_G} {cy : Nat → ClassId} {A : Nat → Prop} {L : List Nat} {R : Nat → Nat} {f : Nat → va_E} {pc : Nat} {ls : Array Slot} {rest : List Value} {a : Nat}
theorem p_7_69 (F : CallFix p m c cc nL s args wsL_law RX7) (h : tS D cy A H0 L R (TT cy L R) f s H locs) {b : Nat} (ha : a ∈ L) (hr : R a = 7) (hb : b ∈ L) (hbr : R b = 2) (hdg : decode cc pc = .ok (.putfield 69, 3)) (kk : ∀ (f1 : Nat → va_E) (H1 : Heap) (locs1 : List Loc), fld f1 a 16 = .ref b → fr L R [(7, 16)] [7] f f1 → tS D cy A H0 L R (TT cy L R) f1 s H1 locs1 → W p l e R0 s m args below meth c H1 locs1 cells slots Q (F0 m (pc + 3) ls (rest))) : W p l e R0 s m args below meth c H locs cells slots Q (F0 m pc ls (.ref b :: .ref a :: rest)) := tu_putn (k := 16) F h ha hr T_7 rfl hb hbr inlX7 tyX7_ok nmX7 rfl (Nat.le_of_ble_eq_true rfl) mw_156 rfl rfl rfl hdg kk
end
theorem dX7_meet_52 : decode cX7_meet 52 = .ok (.new 130, 3) := by decide +kernel
theorem dX7_meet_55 : decode cX7_meet 55 = .ok (.dup, 1) := by decide +kernel
theorem dX7_meet_56 : decode cX7_meet 56 = .ok (.invokespecial 132, 3) := by decide +kernel
theorem dX7_meet_59 : decode cX7_meet 59 = .ok (.putfield 69, 3) := by decide +kernel
set_option maxHeartbeats 4000000 in
set_option maxRecDepth 100000 in
theorem s_X7_meet0 (l : Launch) (D : va_G) (cy : Nat → ClassId) (L : List Nat) (R O : Nat → Nat) (f0 : Nat → va_E) (hG : GG L R O f0) (a0 : Nat) (m_a0 : a0 ∈ L) (r_a0 : R a0 = 7) (a1 : Nat) (m_a1 : a1 ∈ L) (r_a1 : R a1 = 6) (a2 : Nat) (m_a2 : a2 ∈ L) (r_a2 : R a2 = 6) (a3 : Nat) (m_a3 : a3 ∈ L) (r_a3 : R a3 = 4) (x4 : Int32) (b4 : 1 ≤ x4.toInt ∧ x4.toInt ≤ 200) (P : Nat → Nat) (pre0 : SO L R O f0 a0) (pre1 : (∀ j st, elq f0 (rfa f0 a0 12) j = some st → j < 6 → P st = j)) (pre2 : ACC f0 a1) (pre3 : ACC f0 a2) (pre4 : fld f0 a0 16 = .null) : ∀ sz, Met l yX7_meet (Cond.code yX7_meet cX7_meet 10 (some .int) :: wsL_law) (rmM_X7_meet 3 34979) (va_Pc [.ref a0, .ref a1, .ref a2, .ref a3, .int x4] (tPZ D cy L R (TT cy L R) f0 sz)) (va_Qi (fun (r : Int32) (x : tX) => GW L x.L R x.R ∧ fr L R [(1, 0), (1, 1), (1, 2), (1, 3), (1, 5), (2, 2), (2, 3), (4, 1), (5, 4), (5, 5), (5, 6), (5, 7), (7, 5), (7, 6), (7, 16), (8, 1), (8, 2)] [1, 2, 4, 5, 7, 8, 23, 24, 25, 26, 27, 28, 29, 34, 51] f0 x.f ∧ KO L R O (rfa f0 a0 12) f0 x.f ∧ ∃ pst, pst ∈ x.L ∧ x.R pst = 2 ∧ fld x.f a0 16 = .ref pst) (tBX D cy (tA L sz)) (tA L sz)) 3 34979 (tA L sz) := by
  refine tw_enteriG (by decide +kernel) rfl (Nat.le_of_ble_eq_true rfl) ?_
  intro p e s m below meth c A ls args Q F hZ h hl hret
  have hl : lv_has ls 10 [(0, .ref a0), (1, .ref a1), (2, .ref a2), (3, .ref a3), (4, .int x4)] := hl
  have hk : fr L R [(1, 0), (1, 1), (1, 2), (1, 3), (1, 5), (2, 2), (2, 3), (4, 1), (5, 4), (5, 5), (5, 6), (5, 7), (7, 5), (7, 6), (8, 1), (8, 2)] [1, 2, 4, 5, 7, 8, 23, 24, 25, 26, 27, 28, 29, 34, 51] f0 f0 := fr.rf
  have hN := pre4
  refine lv_aload_n F.1 F.2.1 dX7_meet_0 rfl (lv_at hl 0 rfl) ?_
  refine g_7_51 F h m_a0 r_a0 dX7_meet_1 (fun o1 m_o1 r_o1 ho1 => ?_)
  refine tw_iconst F dX7_meet_4 ki_0 (fun z2 hz2 => ?_)
  refine le_48 F h m_o1 r_o1 (by omega) dX7_meet_5 (fun o3 m_o3 r_o3 eo3 => ?_)
  have so0 := pre0.2.2 0 o3 (by rw [rfa_of ho1, show (0 : Nat) = z2.toInt.toNat by omega]; exact eo3) (by decide)
  have sp0 := pre1 0 o3 (by rw [rfa_of ho1, show (0 : Nat) = z2.toInt.toNat by omega]; exact eo3) (by decide)
  refine lv_astore (lv' := [(5, .ref o3), (0, .ref a0), (1, .ref a1), (2, .ref a2), (3, .ref a3), (4, .int x4)]) F.1 F.2.1 dX7_meet_6 hl (by decide) rfl (fun ls hl => ?_)
  refine lv_aload_n F.1 F.2.1 dX7_meet_8 rfl (lv_at hl 1 rfl) ?_
  refine g_7_51 F h m_a0 r_a0 dX7_meet_9 (fun o4 m_o4 r_o4 ho4 => ?_)
  refine tw_iconst F dX7_meet_12 ki_1 (fun z5 hz5 => ?_)
  refine le_48 F h m_o4 r_o4 (by omega) dX7_meet_13 (fun o6 m_o6 r_o6 eo6 => ?_)
  have so1 := pre0.2.2 1 o6 (by rw [rfa_of ho4, show (1 : Nat) = z5.toInt.toNat by omega]; exact eo6) (by decide)
  have sp1 := pre1 1 o6 (by rw [rfa_of ho4, show (1 : Nat) = z5.toInt.toNat by omega]; exact eo6) (by decide)
  have hne : o3 ≠ o6 := fun e => by rw [e, sp1] at sp0; exact absurd sp0 (by decide)
  refine lv_astore (lv' := [(6, .ref o6), (5, .ref o3), (0, .ref a0), (1, .ref a1), (2, .ref a2), (3, .ref a3), (4, .int x4)]) F.1 F.2.1 dX7_meet_14 hl (by decide) rfl (fun ls hl => ?_)
  refine lv_aload_n F.1 F.2.1 dX7_meet_16 rfl (lv_at hl 2 rfl) ?_
  refine g_7_11 F h m_a0 r_a0 dX7_meet_17 (fun o7 m_o7 r_o7 ho7 => ?_)
  refine tw_iconst F dX7_meet_20 ki_0 (fun z8 hz8 => ?_)
  refine ld_45 F h m_o7 r_o7 (by omega) dX7_meet_21 (fun o9 m_o9 r_o9 => ?_)
  refine lv_astore (lv' := [(7, .ref o9), (6, .ref o6), (5, .ref o3), (0, .ref a0), (1, .ref a1), (2, .ref a2), (3, .ref a3), (4, .int x4)]) F.1 F.2.1 dX7_meet_22 hl (by decide) rfl (fun ls hl => ?_)
  refine lv_aload F.1 F.2.1 dX7_meet_24 (lv_at hl 2 rfl) ?_
  refine tw_Vv (As := []) F hZ h yk_X8_refresh mw_1168 mw_627 mw_628 (s_X8_refresh l D cy L R O f0 o3 m_o3 r_o3) rfl rfl m_o3 r_o3 (fun e q => (T_8 e).mp q) rfl hl.1 rfl (Nat.le_of_ble_eq_true rfl) ⟨Nat.le_of_ble_eq_true rfl, Nat.le_of_ble_eq_true rfl⟩ ⟨Nat.le_of_ble_eq_true rfl, Nat.le_of_ble_eq_true rfl⟩ dX7_meet_26 (fun f10 H locs hp10 h => ?_)
  obtain ⟨hf10, hv11p0, hv11p1⟩ := hp10
  have hN : fld f10 a0 16 = .null := (hf10.efl m_a0 r_a0 (by decide +kernel)).trans hN
  have hk : fr L R [(1, 0), (1, 1), (1, 2), (1, 3), (1, 5), (2, 2), (2, 3), (4, 1), (5, 4), (5, 5), (5, 6), (5, 7), (7, 5), (7, 6), (8, 1), (8, 2)] [1, 2, 4, 5, 7, 8, 23, 24, 25, 26, 27, 28, 29, 34, 51] f0 f10 := hk.tr hf10 rfl rfl
  have hz5 := hv11p0
  have hO : KO L R O (rfa f0 a0 12) f0 f10 := KO_ks KO.rf hv11p1 so0.2.2
  refine lv_aload F.1 F.2.1 dX7_meet_29 (lv_at hl 1 rfl) ?_
  refine tw_Vv (As := []) F hZ h yk_X8_refresh mw_1168 mw_627 mw_628 (s_X8_refresh l D cy L R O f10 o6 m_o6 r_o6) rfl rfl m_o6 r_o6 (fun e q => (T_8 e).mp q) rfl hl.1 rfl (Nat.le_of_ble_eq_true rfl) ⟨Nat.le_of_ble_eq_true rfl, Nat.le_of_ble_eq_true rfl⟩ ⟨Nat.le_of_ble_eq_true rfl, Nat.le_of_ble_eq_true rfl⟩ dX7_meet_31 (fun f12 H locs hp12 h => ?_)
  obtain ⟨hf12, hv13p0, hv13p1⟩ := hp12
  have hN : fld f12 a0 16 = .null := (hf12.efl m_a0 r_a0 (by decide +kernel)).trans hN
  have hk : fr L R [(1, 0), (1, 1), (1, 2), (1, 3), (1, 5), (2, 2), (2, 3), (4, 1), (5, 4), (5, 5), (5, 6), (5, 7), (7, 5), (7, 6), (8, 1), (8, 2)] [1, 2, 4, 5, 7, 8, 23, 24, 25, 26, 27, 28, 29, 34, 51] f0 f12 := hk.tr hf12 rfl rfl
  have hz5 : dg f12 o3 = 0 := by unfold dg; rw [hv13p1 o3 m_o3 r_o3 hne]; exact hz5
  have hz6 := hv13p0
  have hO : KO L R O (rfa f0 a0 12) f0 f12 := KO_ks hO hv13p1 so1.2.2
  refine lv_aload_n F.1 F.2.1 dX7_meet_34 rfl (lv_at hl 3 rfl) ?_
  refine tw_iconst F dX7_meet_35 ki_m1 (fun z14 hz14 => ?_)
  refine p_7_28 F h m_a0 r_a0 dX7_meet_36 (fun f15 H locs e15p hf15 h => ?_)
  have hN : fld f15 a0 16 = .null := (hf15.efl m_a0 r_a0 (by decide +kernel)).trans hN
  have hz5 : dg f15 o3 = 0 := (by unfold dg; rw [hf15.efl m_o3 r_o3 (by decide +kernel)]; exact hz5)
  have hz6 : dg f15 o6 = 0 := (by unfold dg; rw [hf15.efl m_o6 r_o6 (by decide +kernel)]; exact hz6)
  have hO : KO L R O (rfa f0 a0 12) f0 f15 := KO_fr hO hf15 (by decide +kernel)
  have hk : fr L R [(1, 0), (1, 1), (1, 2), (1, 3), (1, 5), (2, 2), (2, 3), (4, 1), (5, 4), (5, 5), (5, 6), (5, 7), (7, 5), (7, 6), (8, 1), (8, 2)] [1, 2, 4, 5, 7, 8, 23, 24, 25, 26, 27, 28, 29, 34, 51] f0 f15 := hk.tr hf15 rfl rfl
  refine lv_aload_n F.1 F.2.1 dX7_meet_39 rfl (lv_at hl 3 rfl) ?_
  refine tw_iconst F dX7_meet_40 ki_m1 (fun z16 hz16 => ?_)
  refine p_7_31 F h m_a0 r_a0 dX7_meet_41 (fun f17 H locs e17p hf17 h => ?_)
  have hN : fld f17 a0 16 = .null := (hf17.efl m_a0 r_a0 (by decide +kernel)).trans hN
  have hz5 : dg f17 o3 = 0 := (by unfold dg; rw [hf17.efl m_o3 r_o3 (by decide +kernel)]; exact hz5)
  have hz6 : dg f17 o6 = 0 := (by unfold dg; rw [hf17.efl m_o6 r_o6 (by decide +kernel)]; exact hz6)
  have hO : KO L R O (rfa f0 a0 12) f0 f17 := KO_fr hO hf17 (by decide +kernel)
  have hk : fr L R [(1, 0), (1, 1), (1, 2), (1, 3), (1, 5), (2, 2), (2, 3), (4, 1), (5, 4), (5, 5), (5, 6), (5, 7), (7, 5), (7, 6), (8, 1), (8, 2)] [1, 2, 4, 5, 7, 8, 23, 24, 25, 26, 27, 28, 29, 34, 51] f0 f17 := hk.tr hf17 rfl rfl
  refine lv_aload_n F.1 F.2.1 dX7_meet_44 rfl (lv_at hl 3 rfl) ?_
  refine g_7_69 F h m_a0 r_a0 dX7_meet_45 (fun ho18 => ?_) (fun o18 m_o18 r_o18 ho18 => absurd (ho18.symm.trans hN) (fun q => nomatch q))
  refine lv_ifnonnullN F.1 F.2.1 dX7_meet_48 ?_
  refine lv_aload_n F.1 F.2.1 dX7_meet_51 rfl (lv_at hl 3 rfl) ?_
  have hall := h.2
  have hG0 : GG L R O f0 := hG
  refine x_new F h.1 inlX2 tyX2_ok dfX2 rfl mw_1252 mw_1253 mw_1254 dX7_meet_52 (Nat.le_of_ble_eq_true rfl) (Nat.le_of_ble_eq_true rfl) (ws' := fun q => va_pl L f17 ++ [(q, .inr (2, [.null, .null, .int 0, .int 0]))]) (fun _ => rfl) (fun q H hx => ?_)
  refine lv_dup F.1 F.2.1 dX7_meet_55 rfl ?_
  refine x_Nt (wr := va_pl L f17) F hx yk_X2_init hx.2.2.2.2.2.2.2.2.2.2.2.2.2.2.2.2.2.2 mw_1255 rfl (c_Past_init l D cy q) rfl hl.1 rfl (Nat.le_of_ble_eq_true rfl) ⟨(Nat.le_of_ble_eq_true rfl), (Nat.le_of_ble_eq_true rfl)⟩ ⟨(Nat.le_of_ble_eq_true rfl), (Nat.le_of_ble_eq_true rfl)⟩ dX7_meet_56 (fun u H locs _ hx => ?_)
  obtain ⟨L1, R1, g1, h, gw, eg, mq, rq⟩ := x_grow hx hall
  have frE : fr L R [] [] f17 g1 := ⟨fun a ha k _ => by unfold fld; rw [eg a ha], fun a ha _ => eg a ha⟩
  refine p_7_69 F h (gw.1 _ m_a0).1 ((gw.1 _ m_a0).2.trans r_a0) mq rq dX7_meet_59 (fun f2 H locs he hf h => ?_)
  have hf := gw.fr hf
  have hk2 : fr L R [(1, 0), (1, 1), (1, 2), (1, 3), (1, 5), (2, 2), (2, 3), (4, 1), (5, 4), (5, 5), (5, 6), (5, 7), (7, 5), (7, 6), (7, 16), (8, 1), (8, 2)] [1, 2, 4, 5, 7, 8, 23, 24, 25, 26, 27, 28, 29, 34, 51] f0 f2 := (((fr.rf (Mo := [(1, 0), (1, 1), (1, 2), (1, 3), (1, 5), (2, 2), (2, 3), (4, 1), (5, 4), (5, 5), (5, 6), (5, 7), (7, 5), (7, 6), (7, 16), (8, 1), (8, 2)]) (Mr := [1, 2, 4, 5, 7, 8, 23, 24, 25, 26, 27, 28, 29, 34, 51])).tr hk (by decide +kernel) (by decide +kernel)).tr frE (by decide +kernel) (by decide +kernel)).tr hf (by decide +kernel) (by decide +kernel)
  have z5 : dg f2 o3 = 0 := by unfold dg; rw [hf.efl m_o3 r_o3 (by decide +kernel), frE.efl m_o3 r_o3 (by decide +kernel)]; exact hz5
  have z6 : dg f2 o6 = 0 := by unfold dg; rw [hf.efl m_o6 r_o6 (by decide +kernel), frE.efl m_o6 r_o6 (by decide +kernel)]; exact hz6
  have hO2 : KO L R O (rfa f0 a0 12) f0 f2 := KO_fr (KO_fr hO frE (by decide +kernel)) hf (by decide +kernel)
  exact t_X7_meet (L := L1) (R := R1) (O := O) (A0 := rfa f0 a0 12) (pst := q) 3 34979 F hZ (gw.gg (hG0.fr hk2 (by decide +kernel) (by decide +kernel))) (gw.1 _ m_a0).1 ((gw.1 _ m_a0).2.trans r_a0) (gw.1 _ m_a1).1 ((gw.1 _ m_a1).2.trans r_a1) (gw.1 _ m_a2).1 ((gw.1 _ m_a2).2.trans r_a2) (gw.1 _ m_a3).1 ((gw.1 _ m_a3).2.trans r_a3) b4 (gw.1 _ m_o3).1 ((gw.1 _ m_o3).2.trans r_o3) (gw.1 _ m_o6).1 ((gw.1 _ m_o6).2.trans r_o6) (gw.1 _ m_o9).1 ((gw.1 _ m_o9).2.trans r_o9) so0.2.2 so1.2.2 hne (fun q => (pre2 (by rw [hk2.efi m_a1 r_a1 (by decide +kernel)] at q; exact q)).fr hG0.1 hk2 (by decide +kernel) (by decide +kernel) m_a1 r_a1) (fun q => (pre3 (by rw [hk2.efi m_a2 r_a2 (by decide +kernel)] at q; exact q)).fr hG0.1 hk2 (by decide +kernel) (by decide +kernel) m_a2 r_a2) (Or.inl z5) (Or.inl z6) mq rq he h (lv_sub hl [3, 4, 5, 6, 7, 2, 1, 0] rfl) (fun f3 H locs pc ls r q1 q2 q3 q4 => hret _ _ (Nat.le_refl _) (Nat.le_refl _) (f3, L1, R1) H locs pc ls r q1 q2 ⟨gw, hk2.tr (gw.fr q3.1) (by decide +kernel) (by decide +kernel), hO2.tr (gw.ko q3.2.1), q, mq, rq, q3.2.2.trans he⟩ q4)
