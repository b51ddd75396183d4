def rm_X11_grantM : Room := { frames := 0, cells := 0, slots := 0, locals := 0 }
set_option maxHeartbeats 4000000 in
set_option maxRecDepth 100000 in
theorem s_X11_grantM (l : Launch) (D : va_G) (cy : Nat → ClassId) (L : List Nat) (R O : Nat → Nat) (f0 : Nat → va_E) (a0 : Nat) (m_a0 : a0 ∈ L) (r_a0 : R a0 = 11) (x1 : Int32) : ∀ sz, Met l yX11_grant (Cond.code yX11_grant cX11_grant 2 (some .int) :: wsL_law) rm_X11_grantM (va_Pc [.ref a0, .int x1] (tPZ D cy L R (TT cy L R) f0 sz)) (va_Qi (fun (r : Int32) f1 => fr L R [(11, 14)] [11] f0 f1 ∧ r.toInt = x1.toInt) (tB D (tA L sz) L R (TT cy L R)) (tA L sz)) 0 0 (tA L sz) := by
  refine tw_enteri (by decide +kernel) rfl (Nat.le_of_ble_eq_true rfl) ?_
  intro p e s m below meth c A ls args Q F hZ h hl hret
  have hl : lv_has ls 2 [(0, .ref a0), (1, .int x1)] := hl
  have hk : fr L R [(11, 14)] [11] f0 f0 := fr.rf
  refine lv_aload_n F.1 F.2.1 dX11_grant_0 rfl (lv_at hl 0 rfl) ?_
  refine tw_iconst F dX11_grant_1 ki_0 (fun z1 hz1 => ?_)
  refine p_11_79 F h m_a0 r_a0 dX11_grant_2 (fun f2 H locs e2p hf2 h => ?_)
  have hk : fr L R [(11, 14)] [11] f0 f2 := hk.tr hf2 rfl rfl
  refine lv_iload_n F.1 F.2.1 dX11_grant_5 rfl (lv_at hl 1 rfl) ?_
  exact hret f2 _ _ _ _ x1 dX11_grant_6 rfl ⟨hk, by omega⟩ h
def rm_X11_refuseM : Room := { frames := 0, cells := 0, slots := 0, locals := 0 }
set_option maxHeartbeats 4000000 in
set_option maxRecDepth 100000 in
theorem s_X11_refuseM (l : Launch) (D : va_G) (cy : Nat → ClassId) (L : List Nat) (R O : Nat → Nat) (f0 : Nat → va_E) (a0 : Nat) (m_a0 : a0 ∈ L) (r_a0 : R a0 = 11) (x1 : Int32) (b1 : 1 ≤ x1.toInt ∧ x1.toInt ≤ 9) : ∀ sz, Met l yX11_refuse (Cond.code yX11_refuse cX11_refuse 2 (some .int) :: wsL_law) rm_X11_refuseM (va_Pc [.ref a0, .int x1] (tPZ D cy L R (TT cy L R) f0 sz)) (va_Qi (fun (r : Int32) f1 => fr L R [(11, 14)] [11] f0 f1 ∧ (-1) ≤ r.toInt ∧ r.toInt ≤ (-1) ∧ r.toInt = -1) (tB D (tA L sz) L R (TT cy L R)) (tA L sz)) 0 0 (tA L sz) := by
  refine tw_enteri (by decide +kernel) rfl (Nat.le_of_ble_eq_true rfl) ?_
  intro p e s m below meth c A ls args Q F hZ h hl hret
  have hl : lv_has ls 2 [(0, .ref a0), (1, .int x1)] := hl
  have hk : fr L R [(11, 14)] [11] f0 f0 := fr.rf
  refine lv_aload_n F.1 F.2.1 dX11_refuse_0 rfl (lv_at hl 0 rfl) ?_
  refine lv_iload_n F.1 F.2.1 dX11_refuse_1 rfl (lv_at hl 1 rfl) ?_
  refine p_11_79 F h m_a0 r_a0 dX11_refuse_2 (fun f1 H locs e1p hf1 h => ?_)
  have hk : fr L R [(11, 14)] [11] f0 f1 := hk.tr hf1 rfl rfl
  refine tw_iconst F dX11_refuse_5 ki_m1 (fun z2 hz2 => ?_)
  exact hret f1 _ _ _ _ z2 dX11_refuse_6 rfl ⟨hk, by omega, by omega, by omega⟩ h
def rm_X12_givesM : Room := { frames := 0, cells := 0, slots := 0, locals := 0 }
set_option maxHeartbeats 4000000 in
set_option maxRecDepth 100000 in
theorem s_X12_givesM (l : Launch) (D : va_G) (cy : Nat → ClassId) (L : List Nat) (R O : Nat → Nat) (f0 : Nat → va_E) (a0 : Nat) (m_a0 : a0 ∈ L) (r_a0 : R a0 = 12) (x1 : Int32) : ∀ sz, Met l yX12_gives (Cond.code yX12_gives cX12_gives 2 (some .int) :: wsL_law) rm_X12_givesM (va_Pc [.ref a0, .int x1] (tPZ D cy L R (TT cy L R) f0 sz)) (va_Qi (fun (r : Int32) f1 => fr L R [(12, 1)] [12] f0 f1 ∧ r.toInt = x1.toInt) (tB D (tA L sz) L R (TT cy L R)) (tA L sz)) 0 0 (tA L sz) := by
  refine tw_enteri (by decide +kernel) rfl (Nat.le_of_ble_eq_true rfl) ?_
  intro p e s m below meth c A ls args Q F hZ h hl hret
  have hl : lv_has ls 2 [(0, .ref a0), (1, .int x1)] := hl
  have hk : fr L R [(12, 1)] [12] f0 f0 := fr.rf
  refine lv_aload_n F.1 F.2.1 dX12_gives_0 rfl (lv_at hl 0 rfl) ?_
  refine tw_iconst F dX12_gives_1 ki_0 (fun z1 hz1 => ?_)
  refine p_12_121 F h m_a0 r_a0 dX12_gives_2 (fun f2 H locs e2p hf2 h => ?_)
  have hk : fr L R [(12, 1)] [12] f0 f2 := hk.tr hf2 rfl rfl
  refine lv_iload_n F.1 F.2.1 dX12_gives_5 rfl (lv_at hl 1 rfl) ?_
  exact hret f2 _ _ _ _ x1 dX12_gives_6 rfl ⟨hk, by omega⟩ h
def rm_X12_refuseM : Room := { frames := 0, cells := 0, slots := 0, locals := 0 }
set_option maxHeartbeats 4000000 in
set_option maxRecDepth 100000 in
theorem s_X12_refuseM (l : Launch) (D : va_G) (cy : Nat → ClassId) (L : List Nat) (R O : Nat → Nat) (f0 : Nat → va_E) (a0 : Nat) (m_a0 : a0 ∈ L) (r_a0 : R a0 = 12) (x1 : Int32) (b1 : 1 ≤ x1.toInt ∧ x1.toInt ≤ 9) : ∀ sz, Met l yX12_refuse (Cond.code yX12_refuse cX12_refuse 2 (some .int) :: wsL_law) rm_X12_refuseM (va_Pc [.ref a0, .int x1] (tPZ D cy L R (TT cy L R) f0 sz)) (va_Qi (fun (r : Int32) f1 => fr L R [(12, 1)] [12] f0 f1 ∧ (-1) ≤ r.toInt ∧ r.toInt ≤ (-1) ∧ r.toInt = -1) (tB D (tA L sz) L R (TT cy L R)) (tA L sz)) 0 0 (tA L sz) := by
  refine tw_enteri (by decide +kernel) rfl (Nat.le_of_ble_eq_true rfl) ?_
  intro p e s m below meth c A ls args Q F hZ h hl hret
  have hl : lv_has ls 2 [(0, .ref a0), (1, .int x1)] := hl
  have hk : fr L R [(12, 1)] [12] f0 f0 := fr.rf
  refine lv_aload_n F.1 F.2.1 dX12_refuse_0 rfl (lv_at hl 0 rfl) ?_
  refine lv_iload_n F.1 F.2.1 dX12_refuse_1 rfl (lv_at hl 1 rfl) ?_
  refine p_12_121 F h m_a0 r_a0 dX12_refuse_2 (fun f1 H locs e1p hf1 h => ?_)
  have hk : fr L R [(12, 1)] [12] f0 f1 := hk.tr hf1 rfl rfl
  refine tw_iconst F dX12_refuse_5 ki_m1 (fun z2 hz2 => ?_)
  exact hret f1 _ _ _ _ z2 dX12_refuse_6 rfl ⟨hk, by omega, by omega, by omega⟩ h
def rm_X11_isWordC : Room := { frames := 0, cells := 0, slots := 0, locals := 0 }
set_option maxHeartbeats 4000000 in
set_option maxRecDepth 100000 in
theorem s_X11_isWordC (l : Launch) (D : va_G) (cy : Nat → ClassId) (L : List Nat) (R O : Nat → Nat) (f0 : Nat → va_E) (x0 : Int64) : ∀ sz, Met l yX11_isWord (Cond.code yX11_isWord cX11_isWord 7 (some .boolean) :: wsL_law) rm_X11_isWordC (va_Pc [.long x0] (tPZ D cy L R (TT cy L R) f0 sz)) (va_Qi (fun (r : Int32) f1 => f0 = f1 ∧ 0 ≤ r.toInt ∧ r.toInt ≤ 1 ∧ ((r.toInt = 1 ∧ WI x0 = 1) ∨ (r.toInt = 0 ∧ WI x0 = 0))) (tB D (tA L sz) L R (TT cy L R)) (tA L sz)) 0 0 (tA L sz) := by
  refine tw_enteri (by decide +kernel) rfl (Nat.le_of_ble_eq_true rfl) ?_
  intro p e s m below meth c A ls args Q F hZ h hl hret
  have hl : lv_has ls 7 [(0, .long x0)] := hl
  refine lv_lload_n F.1 F.2.1 dX11_isWord_0 rfl (lv_at hl 0 rfl) ?_
  refine tu_lconst F dX11_isWord_1 (by decide) (fun z1 (hz1 : z1.toInt = 0) => ?_)
  refine tw_lcmp F dX11_isWord_2 (fun z2 hz2 => ?_)
  refine tw_if_le (tgt := 15) F dX11_isWord_3 (by decide) (fun b3 => ?_) (fun b3 => ?_)
  · refine tw_iconst F dX11_isWord_15 ki_0 (fun z4 hz4 => ?_)
    exact hret f0 _ _ _ _ z4 dX11_isWord_16 (tw_nb (by omega)) ⟨rfl, by omega, by omega, (Or.inr ⟨by omega, WI_0 (fun q => by have q1 := q.1; have q2 := q.2.1; omega)⟩)⟩ h
  · refine lv_lload_n F.1 F.2.1 dX11_isWord_6 rfl (lv_at hl 0 rfl) ?_
    refine tw_bipush F dX11_isWord_7 kb_40 (fun z5 hz5 => ?_)
    refine lv_lushr F.1 F.2.1 dX11_isWord_9 rfl ?_
    refine lv_topl (fun z6 qz6 => ?_)
    have q40 := tw_ush40 hz5 (by omega) qz6
    refine tu_lconst F dX11_isWord_10 (by decide) (fun z7 (hz7 : z7.toInt = 0) => ?_)
    refine tw_lcmp F dX11_isWord_11 (fun z8 hz8 => ?_)
    refine tw_if_eq (tgt := 17) F dX11_isWord_12 (by decide) (fun b9 => ?_) (fun b9 => ?_)
    · refine lv_lload_n F.1 F.2.1 dX11_isWord_17 rfl (lv_at hl 0 rfl) ?_
      refine lv_lstore_n (lv' := [(2, .long x0), (0, .long x0)]) F.1 F.2.1 dX11_isWord_18 rfl hl (by decide) rfl (fun ls hl => ?_)
      refine tw_iconst F dX11_isWord_19 ki_0 (fun z10 hz10 => ?_)
      refine lv_istore (lv' := [(4, .int z10), (2, .long x0), (0, .long x0)]) F.1 F.2.1 dX11_isWord_20 hl (by decide) rfl (fun ls hl => ?_)
      have j_22 : ∀ (n22 : Nat) (ls : Array Slot) (x2_22 : Int64) (x4_22 : Int32), 0 ≤ x4_22.toInt → x4_22.toInt ≤ 8 → 0 ≤ x2_22.toInt → 0 ≤ x4_22.toInt → (0 ≤ x2_22.toInt ∧ (wdk (8 - x4_22.toInt.toNat) x2_22.toInt.toNat ↔ wdk 8 x0.toInt.toNat)) → ((8 - x4_22.toInt)).toNat < n22 → lv_has ls 7 [(2, .long x2_22), (4, .int x4_22)] → W p l e rm_X11_isWordC s m args below meth c s.heap [] 0 0 Q (F0 m 22 ls []) := by
        intro n22
        induction n22 with
        | zero =>
          intro ls x2_22 x4_22 b11 b12 b13 b14 ip22_0 b15 hl
          exfalso
          omega
        | succ n22 ih22 =>
          intro ls x2_22 x4_22 b11 b12 b13 b14 ip22_0 b15 hl
          refine lv_iload F.1 F.2.1 dX11_isWord_22 (lv_at hl 1 rfl) ?_
          refine tw_bipush F dX11_isWord_24 kb_8 (fun z16 hz16 => ?_)
          refine tw_icmp_ge (tgt := 70) F dX11_isWord_26 (by decide) (fun b17 => ?_) (fun b17 => ?_)
          · refine tw_iconst F dX11_isWord_70 ki_1 (fun z18 hz18 => ?_)
            exact hret f0 _ _ _ _ z18 dX11_isWord_71 (tw_nb (by omega)) ⟨rfl, by omega, by omega, (Or.inl ⟨by omega, WI_1 (by unfold isWd; exact ⟨by omega, by omega, wd_e ip22_0 (by omega)⟩)⟩)⟩ h
          · refine lv_lload_n F.1 F.2.1 dX11_isWord_29 rfl (lv_at hl 0 rfl) ?_
            refine tu_lconst F dX11_isWord_30 (by decide) (fun z19 (hz19 : z19.toInt = 0) => ?_)
            refine tw_lcmp F dX11_isWord_31 (fun z20 hz20 => ?_)
            refine tw_if_eq (tgt := 70) F dX11_isWord_32 (by decide) (fun b21 => ?_) (fun b21 => ?_)
            · refine tw_iconst F dX11_isWord_70 ki_1 (fun z22 hz22 => ?_)
              exact hret f0 _ _ _ _ z22 dX11_isWord_71 (tw_nb (by omega)) ⟨rfl, by omega, by omega, (Or.inl ⟨by omega, WI_1 (by unfold isWd; exact ⟨by omega, by omega, wd_e ip22_0 (by omega)⟩)⟩)⟩ h
            · refine lv_lload_n F.1 F.2.1 dX11_isWord_35 rfl (lv_at hl 0 rfl) ?_
              refine tu_ldc2 F mw_921 dX11_isWord_36 kl_31 (fun z23 hz23 => ?_)
              refine lv_land F.1 F.2.1 dX11_isWord_39 ?_
              refine lv_topl (fun z24 qz24 => ?_)
              have q31 := tw_mod32 hz23 (by omega) qz24
              refine lv_lstore (lv' := [(5, .long z24), (2, .long x2_22), (4, .int x4_22)]) F.1 F.2.1 dX11_isWord_40 hl (by decide) rfl (fun ls hl => ?_)
              refine lv_lload F.1 F.2.1 dX11_isWord_42 (lv_at hl 0 rfl) ?_
              refine tu_lconst F dX11_isWord_44 (by decide) (fun z25 (hz25 : z25.toInt = 1) => ?_)
              refine tw_lcmp F dX11_isWord_45 (fun z26 hz26 => ?_)
              refine tw_if_lt (tgt := 58) F dX11_isWord_46 (by decide) (fun b27 => ?_) (fun b27 => ?_)
              · refine tw_iconst F dX11_isWord_58 ki_0 (fun z28 hz28 => ?_)
                exact hret f0 _ _ _ _ z28 dX11_isWord_59 (tw_nb (by omega)) ⟨rfl, by omega, by omega, (Or.inr ⟨by omega, WI_0 (fun q => wd_n ip22_0 (by omega) (by omega) (by omega) (by omega) q.2.2)⟩)⟩ h
              · refine lv_lload F.1 F.2.1 dX11_isWord_49 (lv_at hl 0 rfl) ?_
                refine tu_ldc2 F mw_922 dX11_isWord_51 kl_26 (fun z29 hz29 => ?_)
                refine tw_lcmp F dX11_isWord_54 (fun z30 hz30 => ?_)
                refine tw_if_le (tgt := 60) F dX11_isWord_55 (by decide) (fun b31 => ?_) (fun b31 => ?_)
                · refine lv_lload_n F.1 F.2.1 dX11_isWord_60 rfl (lv_at hl 1 rfl) ?_
                  refine tw_iconst F dX11_isWord_61 ki_5 (fun z32 hz32 => ?_)
                  refine lv_lushr F.1 F.2.1 dX11_isWord_62 rfl ?_
                  refine lv_topl (fun z33 qz33 => ?_)
                  have q5 := tw_ush5 hz32 (by omega) qz33
                  refine lv_lstore_n (lv' := [(2, .long z33), (5, .long z24), (4, .int x4_22)]) F.1 F.2.1 dX11_isWord_63 rfl hl (by decide) rfl (fun ls hl => ?_)
                  refine tu_iinc F dX11_isWord_64 hl (k := 2) rfl (by decide) ki_1 (by omega) (fun z34 ls hz34 hl => ?_)
                  have hl : lv_has ls 7 [(4, .int z34), (2, .long z33), (5, .long z24)] := hl
                  refine lv_goto (tgt := 22) F.1 F.2.1 dX11_isWord_67 (by decide) ?_
                  exact ih22 _ z33 z34 (by omega) (by omega) (by omega) (by omega) (by have q := wd_c ip22_0 (by omega) (by omega) (by omega) (by omega) q5; rw [show z34.toInt.toNat = (x4_22.toInt + 1).toNat by omega]; exact q) (by omega) (lv_sub hl [1, 0] rfl)
                · refine tw_iconst F dX11_isWord_58 ki_0 (fun z35 hz35 => ?_)
                  exact hret f0 _ _ _ _ z35 dX11_isWord_59 (tw_nb (by omega)) ⟨rfl, by omega, by omega, (Or.inr ⟨by omega, WI_0 (fun q => wd_n ip22_0 (by omega) (by omega) (by omega) (by omega) q.2.2)⟩)⟩ h
      exact j_22 (((8 - z10.toInt)).toNat + 1) _ x0 z10 (by omega) (by omega) (by omega) (by omega) (by rw [show z10.toInt.toNat = 0 by omega]; exact ⟨by omega, Iff.rfl⟩) (by omega) (lv_sub hl [1, 0] rfl)
    · refine tw_iconst F dX11_isWord_15 ki_0 (fun z36 hz36 => ?_)
      exact hret f0 _ _ _ _ z36 dX11_isWord_16 (tw_nb (by omega)) ⟨rfl, by omega, by omega, (Or.inr ⟨by omega, WI_0 (fun q => by have q1 := q.1; have q2 := q.2.1; omega)⟩)⟩ h
def rm_X12_isWordNumberC : Room := { frames := 0, cells := 0, slots := 0, locals := 0 }
set_option maxHeartbeats 4000000 in
set_option maxRecDepth 100000 in
theorem s_X12_isWordNumberC (l : Launch) (D : va_G) (cy : Nat → ClassId) (L : List Nat) (R O : Nat → Nat) (f0 : Nat → va_E) (x0 : Int64) : ∀ sz, Met l yX12_isWordNumber (Cond.code yX12_isWordNumber cX12_isWordNumber 5 (some .boolean) :: wsL_law) rm_X12_isWordNumberC (va_Pc [.long x0] (tPZ D cy L R (TT cy L R) f0 sz)) (va_Qi (fun (r : Int32) f1 => f0 = f1 ∧ 0 ≤ r.toInt ∧ r.toInt ≤ 1 ∧ ((r.toInt = 1 ∧ WI x0 = 1) ∨ (r.toInt = 0 ∧ WI x0 = 0))) (tB D (tA L sz) L R (TT cy L R)) (tA L sz)) 0 0 (tA L sz) := by
  refine tw_enteri (by decide +kernel) rfl (Nat.le_of_ble_eq_true rfl) ?_
  intro p e s m below meth c A ls args Q F hZ h hl hret
  have hl : lv_has ls 5 [(0, .long x0)] := hl
  refine lv_lload_n F.1 F.2.1 dX12_isWordNumber_0 rfl (lv_at hl 0 rfl) ?_
  refine tu_lconst F dX12_isWordNumber_1 (by decide) (fun z1 (hz1 : z1.toInt = 1) => ?_)
  refine tw_lcmp F dX12_isWordNumber_2 (fun z2 hz2 => ?_)
  refine tw_if_lt (tgt := 14) F dX12_isWordNumber_3 (by decide) (fun b3 => ?_) (fun b3 => ?_)
  · refine tw_iconst F dX12_isWordNumber_14 ki_0 (fun z4 hz4 => ?_)
    exact hret f0 _ _ _ _ z4 dX12_isWordNumber_15 (tw_nb (by omega)) ⟨rfl, by omega, by omega, (Or.inr ⟨by omega, WI_0 (fun q => by have q1 := q.1; have q2 := q.2.1; omega)⟩)⟩ h
  · refine lv_lload_n F.1 F.2.1 dX12_isWordNumber_6 rfl (lv_at hl 0 rfl) ?_
    refine tu_ldc2 F mw_934 dX12_isWordNumber_7 kl_1099511627776 (fun z5 hz5 => ?_)
    refine tw_lcmp F dX12_isWordNumber_10 (fun z6 hz6 => ?_)
    refine tw_if_lt (tgt := 16) F dX12_isWordNumber_11 (by decide) (fun b7 => ?_) (fun b7 => ?_)
    · refine tw_iconst F dX12_isWordNumber_16 ki_1 (fun z8 hz8 => ?_)
      refine lv_istore_n (lv' := [(2, .int z8), (0, .long x0)]) F.1 F.2.1 dX12_isWordNumber_17 rfl hl (by decide) rfl (fun ls hl => ?_)
      refine lv_lload_n F.1 F.2.1 dX12_isWordNumber_18 rfl (lv_at hl 1 rfl) ?_
      refine lv_lstore_n (lv' := [(3, .long x0), (2, .int z8), (0, .long x0)]) F.1 F.2.1 dX12_isWordNumber_19 rfl hl (by decide) rfl (fun ls hl => ?_)
      have j_20 : ∀ (n20 : Nat) (ls : Array Slot) (x2_20 : Int32) (x3_20 : Int64), 0 ≤ x2_20.toInt → x2_20.toInt ≤ 1 → 0 ≤ x3_20.toInt → (WM (wdk 8 x0.toInt.toNat) (x2_20.toInt) (x3_20.toInt)) → ((x3_20.toInt)).toNat < n20 → lv_has ls 5 [(2, .int x2_20), (3, .long x3_20)] → W p l e rm_X12_isWordNumberC s m args below meth c s.heap [] 0 0 Q (F0 m 20 ls []) := by
        intro n20
        induction n20 with
        | zero =>
          intro ls x2_20 x3_20 b9 b10 b11 ip20_0 b12 hl
          exfalso
          omega
        | succ n20 ih20 =>
          intro ls x2_20 x3_20 b9 b10 b11 ip20_0 b12 hl
          refine lv_lload_n F.1 F.2.1 dX12_isWordNumber_20 rfl (lv_at hl 1 rfl) ?_
          refine tu_lconst F dX12_isWordNumber_21 (by decide) (fun z13 (hz13 : z13.toInt = 0) => ?_)
          refine tw_lcmp F dX12_isWordNumber_22 (fun z14 hz14 => ?_)
          refine tw_if_le (tgt := 65) F dX12_isWordNumber_23 (by decide) (fun b15 => ?_) (fun b15 => ?_)
          · refine lv_iload_n F.1 F.2.1 dX12_isWordNumber_65 rfl (lv_at hl 0 rfl) ?_
            exact hret f0 _ _ _ _ x2_20 dX12_isWordNumber_66 (tw_nb (by omega)) ⟨rfl, by omega, by omega, (if e : x2_20.toInt = 1 then Or.inl ⟨e, WI_1 (by unfold isWd; exact ⟨by omega, by omega, (wd_me ip20_0 (by omega)).mp e⟩)⟩ else Or.inr ⟨by omega, WI_0 (fun q => e ((wd_me ip20_0 (by omega)).mpr q.2.2))⟩)⟩ h
          · refine lv_iload_n F.1 F.2.1 dX12_isWordNumber_26 rfl (lv_at hl 0 rfl) ?_
            have j_57 : ∀ (ls : Array Slot) (y0_57 : Int32), 0 ≤ y0_57.toInt → y0_57.toInt ≤ 1 → ((y0_57.toInt = 1 ∧ x2_20.toInt = 1 ∧ 1 ≤ x3_20.toInt % 32 ∧ x3_20.toInt % 32 ≤ 26) ∨ (y0_57.toInt = 0 ∧ ¬ (x2_20.toInt = 1 ∧ 1 ≤ x3_20.toInt % 32 ∧ x3_20.toInt % 32 ≤ 26))) → lv_has ls 5 [(2, .int x2_20), (3, .long x3_20)] → W p l e rm_X12_isWordNumberC s m args below meth c s.heap [] 0 0 Q (F0 m 57 ls [.int y0_57]) := by
              intro ls y0_57 b16 b17 b18 hl
              refine lv_istore_n (lv' := [(2, .int y0_57), (3, .long x3_20)]) F.1 F.2.1 dX12_isWordNumber_57 rfl hl (by decide) rfl (fun ls hl => ?_)
              refine lv_lload_n F.1 F.2.1 dX12_isWordNumber_58 rfl (lv_at hl 1 rfl) ?_
              refine tw_iconst F dX12_isWordNumber_59 ki_5 (fun z19 hz19 => ?_)
              refine lv_lshr F.1 F.2.1 dX12_isWordNumber_60 rfl ?_
              refine lv_topl (fun z20 qz20 => ?_)
              have hs5 : z20.toInt = x3_20.toInt / 32 := tw_shr5 hz19 qz20
              refine lv_lstore_n (lv' := [(3, .long z20), (2, .int y0_57)]) F.1 F.2.1 dX12_isWordNumber_61 rfl hl (by decide) rfl (fun ls hl => ?_)
              refine lv_goto (tgt := 20) F.1 F.2.1 dX12_isWordNumber_62 (by decide) ?_
              exact ih20 _ y0_57 z20 (by omega) (by omega) (by omega) (wd_m ip20_0 (by omega) hs5 (by omega)) (by omega) (lv_sub hl [1, 0] rfl)
            refine tw_if_eq (tgt := 56) F dX12_isWordNumber_27 (by decide) (fun b21 => ?_) (fun b21 => ?_)
            · refine tw_iconst F dX12_isWordNumber_56 ki_0 (fun z22 hz22 => ?_)
              exact j_57 _ z22 (by omega) (by omega) (by omega) (lv_sub hl [0, 1] rfl)
            · refine lv_lload_n F.1 F.2.1 dX12_isWordNumber_30 rfl (lv_at hl 1 rfl) ?_
              refine tu_ldc2 F mw_935 dX12_isWordNumber_31 kl_31 (fun z23 hz23 => ?_)
              refine lv_land F.1 F.2.1 dX12_isWordNumber_34 ?_
              refine lv_topl (fun z24 qz24 => ?_)
              have q34 := tw_mod32 hz23 (by omega) qz24
              refine tu_lconst F dX12_isWordNumber_35 (by decide) (fun z25 (hz25 : z25.toInt = 1) => ?_)
              refine tw_lcmp F dX12_isWordNumber_36 (fun z26 hz26 => ?_)
              refine tw_if_lt (tgt := 56) F dX12_isWordNumber_37 (by decide) (fun b27 => ?_) (fun b27 => ?_)
              · refine tw_iconst F dX12_isWordNumber_56 ki_0 (fun z28 hz28 => ?_)
                exact j_57 _ z28 (by omega) (by omega) (by omega) (lv_sub hl [0, 1] rfl)
              · refine lv_lload_n F.1 F.2.1 dX12_isWordNumber_40 rfl (lv_at hl 1 rfl) ?_
                refine tu_ldc2 F mw_935 dX12_isWordNumber_41 kl_31 (fun z29 hz29 => ?_)
                refine lv_land F.1 F.2.1 dX12_isWordNumber_44 ?_
                refine lv_topl (fun z30 qz30 => ?_)
                have q44 := tw_mod32 hz29 (by omega) qz30
                refine tu_ldc2 F mw_936 dX12_isWordNumber_45 kl_26 (fun z31 hz31 => ?_)
                refine tw_lcmp F dX12_isWordNumber_48 (fun z32 hz32 => ?_)
                refine tw_if_gt (tgt := 56) F dX12_isWordNumber_49 (by decide) (fun b33 => ?_) (fun b33 => ?_)
                · refine tw_iconst F dX12_isWordNumber_56 ki_0 (fun z34 hz34 => ?_)
                  exact j_57 _ z34 (by omega) (by omega) (by omega) (lv_sub hl [0, 1] rfl)
                · refine tw_iconst F dX12_isWordNumber_52 ki_1 (fun z35 hz35 => ?_)
                  refine lv_goto (tgt := 57) F.1 F.2.1 dX12_isWordNumber_53 (by decide) ?_
                  exact j_57 _ z35 (by omega) (by omega) (by omega) (lv_sub hl [0, 1] rfl)
      exact j_20 (((x0.toInt)).toNat + 1) _ z8 x0 (by omega) (by omega) (by omega) (by rw [show z8.toInt = 1 by omega]; exact wd_m0 (by omega)) (by omega) (lv_sub hl [1, 0] rfl)
    · refine tw_iconst F dX12_isWordNumber_14 ki_0 (fun z36 hz36 => ?_)
      exact hret f0 _ _ _ _ z36 dX12_isWordNumber_15 (tw_nb (by omega)) ⟨rfl, by omega, by omega, (Or.inr ⟨by omega, WI_0 (fun q => by have q1 := q.1; have q2 := q.2.1; omega)⟩)⟩ h
section
variable {p : Program} {l : Launch} {e : Env} {R0 : Room} {s : State} {m : MethodId} {args : Array Value} {below : List Frame} {meth : Method} {c : Code} {H H0 : Heap} {locs : List Loc} {cells slots : Nat} {Q : State → Prop} {cc : ByteArray} {nL : Nat} {D : va_G} {cy : Nat → ClassId} {A : Nat → Prop} {L : List Nat} {R : Nat → Nat} {f : Nat → va_E} {pc : Nat} {ls : Array Slot} {rest : List Value} {a : Nat}
theorem pe_0_40 (F : CallFix p m c cc nL s args wsL_law RX0) (h : tS D cy A H0 L R (TT cy L R) f s H locs) {x : Int32} (ha : a ∈ L) (hr : R a = 0) (hv : 0 ≤ x.toInt ∧ x.toInt ≤ 12) (hdg : decode cc pc = .ok (.putfield 40, 3)) (kk : ∀ (f1 : Nat → va_E) (H1 : Heap) (locs1 : List Loc), fld f1 a 6 = .int x → (∀ a', a' ≠ a → f1 a' = f a') → fr L R [(0, 6)] [0] f f1 → tS D cy A H0 L R (TT cy L R) f1 s H1 locs1 → W p l e R0 s m args below meth c H1 locs1 cells slots Q (F0 m (pc + 3) ls (rest))) : W p l e R0 s m args below meth c H locs cells slots Q (F0 m pc ls (.int x :: .ref a :: rest)) := tu_putiE (k := 6) F h ha hr T_0 rfl hv.1 hv.2 inlX0 tyX0_ok nmX0 rfl (Nat.le_of_ble_eq_true rfl) mw_112 rfl rfl rfl hdg kk
end
def rm_X0_addCoupleC : Room := { frames := 0, cells := 0, slots := 0, locals := 0 }
set_option maxHeartbeats 4000000 in
set_option maxRecDepth 100000 in
theorem s_X0_addCoupleC (l : Launch) (D : va_G) (cy : Nat → ClassId) (L : List Nat) (R O : Nat → Nat) (f0 : Nat → va_E) (a0 : Nat) (m_a0 : a0 ∈ L) (r_a0 : R a0 = 0) (x1 : Int64) (x3 : Int64) : ∀ sz, Met l yX0_addCouple (Cond.code yX0_addCouple cX0_addCouple 5 (some .int) :: wsL_law) rm_X0_addCoupleC (va_Pc [.ref a0, .long x1, .long x3] (tPZ D cy L R (TT cy L R) f0 sz)) (va_Qi (fun (r : Int32) f1 => fr L R [(0, 6)] [0, 23] f0 f1 ∧ 0 ≤ r.toInt ∧ r.toInt ≤ 12 ∧ ((fi f0 a0 6 < 12 ∧ r.toInt = fi f0 a0 6 + 1 ∧ fi f1 a0 6 = fi f0 a0 6 + 1) ∨ (12 ≤ fi f0 a0 6 ∧ r.toInt = fi f0 a0 6 ∧ fi f1 a0 6 = fi f0 a0 6)) ∧ KC L R a0 f0 f1) (tB D (tA L sz) L R (TT cy L R)) (tA L sz)) 0 0 (tA L sz) := by
  refine tw_enteri (by decide +kernel) rfl (Nat.le_of_ble_eq_true rfl) ?_
  intro p e s m below meth c A ls args Q F hZ h hl hret
  have hl : lv_has ls 5 [(0, .ref a0), (1, .long x1), (3, .long x3)] := hl
  have hk : fr L R [(0, 6)] [0, 23] f0 f0 := fr.rf
  have hKC : KC L R a0 f0 f0 := KC.rf
  refine lv_aload_n F.1 F.2.1 dX0_addCouple_0 rfl (lv_at hl 0 rfl) ?_
  refine g_0_40 F h m_a0 r_a0 dX0_addCouple_1 (fun v1 hv1 hv1a hv1b => ?_)
  refine tw_bipush F dX0_addCouple_4 kb_12 (fun z2 hz2 => ?_)
  refine tw_icmp_ge (tgt := 39) F dX0_addCouple_6 (by decide) (fun b3 => ?_) (fun b3 => ?_)
  · refine lv_aload_n F.1 F.2.1 dX0_addCouple_39 rfl (lv_at hl 0 rfl) ?_
    refine g_0_40 F h m_a0 r_a0 dX0_addCouple_40 (fun v4 hv4 hv4a hv4b => ?_)
    exact hret f0 _ _ _ _ v4 dX0_addCouple_43 rfl ⟨hk, by omega, by omega, by omega, hKC⟩ h
  · refine lv_aload_n F.1 F.2.1 dX0_addCouple_9 rfl (lv_at hl 0 rfl) ?_
    refine g_0_29 F h m_a0 r_a0 dX0_addCouple_10 (fun o5 m_o5 r_o5 ho5 => ?_)
    refine lv_aload_n F.1 F.2.1 dX0_addCouple_13 rfl (lv_at hl 0 rfl) ?_
    refine g_0_40 F h m_a0 r_a0 dX0_addCouple_14 (fun v6 hv6 hv6a hv6b => ?_)
    refine lv_lload_n F.1 F.2.1 dX0_addCouple_17 rfl (lv_at hl 1 rfl) ?_
    refine st_23 F h m_o5 r_o5 (by omega) dX0_addCouple_18 (fun f7 H locs hf7 h => ?_)
    have hKC : KC L R a0 f0 f7 := hKC.fr hf7 (by decide +kernel)
    have hk : fr L R [(0, 6)] [0, 23] f0 f7 := hk.tr hf7 rfl rfl
    have e8 : fi f7 a0 6 = fi f0 a0 6 := hf7.efi m_a0 r_a0 rfl
    refine lv_aload_n F.1 F.2.1 dX0_addCouple_19 rfl (lv_at hl 0 rfl) ?_
    refine g_0_33 F h m_a0 r_a0 dX0_addCouple_20 (fun o9 m_o9 r_o9 ho9 => ?_)
    refine lv_aload_n F.1 F.2.1 dX0_addCouple_23 rfl (lv_at hl 0 rfl) ?_
    refine g_0_40 F h m_a0 r_a0 dX0_addCouple_24 (fun v10 hv10 hv10a hv10b => ?_)
    refine lv_lload_n F.1 F.2.1 dX0_addCouple_27 rfl (lv_at hl 2 rfl) ?_
    refine st_23 F h m_o9 r_o9 (by omega) dX0_addCouple_28 (fun f11 H locs hf11 h => ?_)
    have hKC : KC L R a0 f0 f11 := hKC.fr hf11 (by decide +kernel)
    have hk : fr L R [(0, 6)] [0, 23] f0 f11 := hk.tr hf11 rfl rfl
    have e12 : fi f11 a0 6 = fi f7 a0 6 := hf11.efi m_a0 r_a0 rfl
    refine lv_aload_n F.1 F.2.1 dX0_addCouple_29 rfl (lv_at hl 0 rfl) ?_
    refine lv_dup F.1 F.2.1 dX0_addCouple_30 rfl ?_
    refine g_0_40 F h m_a0 r_a0 dX0_addCouple_31 (fun v13 hv13 hv13a hv13b => ?_)
    refine tw_iconst F dX0_addCouple_34 ki_1 (fun z14 hz14 => ?_)
    refine tu_iadd F dX0_addCouple_35 (by omega) (fun z15 hz15 => ?_)
    have hKC0 := hKC
    refine pe_0_40 F h m_a0 r_a0 (by omega) dX0_addCouple_36 (fun f16 H locs e16pq e16po hf16 h => ?_)
    have e16p : fi f16 a0 6 = z15.toInt := by unfold fi; rw [e16pq]; rfl
    have hk : fr L R [(0, 6)] [0, 23] f0 f16 := hk.tr hf16 rfl rfl
    have hKC : KC L R a0 f0 f16 := fun x hx hr hn => by unfold fi fld; rw [e16po x hn]; exact hKC0 x hx hr hn
    refine lv_aload_n F.1 F.2.1 dX0_addCouple_39 rfl (lv_at hl 0 rfl) ?_
    refine g_0_40 F h m_a0 r_a0 dX0_addCouple_40 (fun v17 hv17 hv17a hv17b => ?_)
    exact hret f16 _ _ _ _ v17 dX0_addCouple_43 rfl ⟨hk, by omega, by omega, by omega, hKC⟩ h
def rm_X0_copyC : Room := { frames := 3, cells := 0, slots := 0, locals := 83 }
set_option maxHeartbeats 4000000 in
set_option maxRecDepth 100000 in
theorem s_X0_copyC (l : Launch) (D : va_G) (cy : Nat → ClassId) (L : List Nat) (R O : Nat → Nat) (f0 : Nat → va_E) (hG : GG L R O f0) (a0 : Nat) (m_a0 : a0 ∈ L) (r_a0 : R a0 = 0) (a1 : Nat) (m_a1 : a1 ∈ L) (r_a1 : R a1 = 0) (P : Nat → Nat) (rd : Nat) (m_rd : rd ∈ L) (r_rd : R rd = 3) (pre0 : IB L R O P f0 rd) : ∀ sz, Met l yX0_copy (Cond.code yX0_copy cX0_copy 3 none :: wsL_law) rm_X0_copyC (va_Pc [.ref a0, .ref a1] (tPZ D cy L R (TT cy L R) f0 sz)) (va_Qv (fun f1 => fr L R [(0, 5), (0, 6), (4, 1), (6, 14), (6, 15), (6, 16), (6, 17), (6, 18), (8, 1), (8, 2)] [0, 4, 6, 8, 23, 35, 36, 37, 38, 39, 40, 41, 42, 43, 44] f0 f1 ∧ GG L R O f1 ∧ IB L R O P f1 rd ∧ fi f1 a0 6 = fi f0 a1 6 ∧ KC L R a0 f0 f1) (tB D (tA L sz) L R (TT cy L R)) (tA L sz)) 0 0 (tA L sz) := by
  refine tw_enterv (by decide +kernel) rfl (Nat.le_of_ble_eq_true rfl) ?_
  intro p e s m below meth c A ls args Q F hZ h hl hret
  have hl : lv_has ls 3 [(0, .ref a0), (1, .ref a1)] := hl
  have hk : fr L R [(0, 5), (0, 6), (4, 1), (6, 14), (6, 15), (6, 16), (6, 17), (6, 18), (8, 1), (8, 2)] [0, 4, 6, 8, 23, 35, 36, 37, 38, 39, 40, 41, 42, 43, 44] f0 f0 := fr.rf
  have t_a1_coupleCount := h.bfi m_a1 r_a1 (fun e q => (T_0 e).mp q) (k := 6) rfl
  have hI := pre0
  have hKC : KC L R a0 f0 f0 := KC.rf
  refine tw_iconst F dX0_copy_0 ki_0 (fun z1 hz1 => ?_)
  refine lv_istore_n (lv' := [(2, .int z1), (0, .ref a0), (1, .ref a1)]) F.1 F.2.1 dX0_copy_1 rfl hl (by decide) rfl (fun ls hl => ?_)
  have j_2 : ∀ (n2 : Nat) (f2 : Nat → va_E) (H : Heap) (locs : List Loc) (ls : Array Slot) (x2_2 : Int32), 0 ≤ x2_2.toInt → x2_2.toInt ≤ 3 → ((3 - x2_2.toInt)).toNat < n2 → tS D cy A s.heap L R (TT cy L R) f2 s H locs → GG L R O f2 → IB L R O P f2 rd → KC L R a0 f0 f2 → fr L R [(0, 5), (0, 6), (4, 1), (6, 14), (6, 15), (6, 16), (6, 17), (6, 18), (8, 1), (8, 2)] [0, 4, 6, 8, 23, 35, 36, 37, 38, 39, 40, 41, 42, 43, 44] f0 f2 → fr L R [(4, 1), (6, 14), (6, 15), (6, 16), (6, 17), (6, 18), (8, 1), (8, 2)] [4, 6, 8, 23, 35, 36, 37, 38, 39, 40, 41, 42, 43, 44] f0 f2 → lv_has ls 3 [(0, .ref a0), (1, .ref a1), (2, .int x2_2)] → W p l e rm_X0_copyC s m args below meth c H locs 0 0 Q (F0 m 2 ls []) := by
    intro n2
    induction n2 with
    | zero =>
      intro f2 H locs ls x2_2 b3 b4 b5 h hG hI hKC hk hb2 hl
      exfalso
      omega
    | succ n2 ih2 =>
      intro f2 H locs ls x2_2 b3 b4 b5 h hG hI hKC hk hb2 hl
      have e6 : fi f2 a1 6 = fi f0 a1 6 := hb2.efi m_a1 r_a1 rfl
      refine lv_iload_n F.1 F.2.1 dX0_copy_2 rfl (lv_at hl 2 rfl) ?_
      refine tw_iconst F dX0_copy_3 ki_3 (fun z7 hz7 => ?_)
      refine tw_icmp_ge (tgt := 43) F dX0_copy_4 (by decide) (fun b8 => ?_) (fun b8 => ?_)
      · refine lv_aload_n F.1 F.2.1 dX0_copy_43 rfl (lv_at hl 0 rfl) ?_
        refine lv_aload_n F.1 F.2.1 dX0_copy_44 rfl (lv_at hl 1 rfl) ?_
        refine g_0_36 F h m_a1 r_a1 dX0_copy_45 (fun v9 hv9 hv9a hv9b => ?_)
        refine p_0_36 F h m_a0 r_a0 (by omega) dX0_copy_48 (fun f10 H locs e10p hf10 h => ?_)
        have hI : IB L R O P f10 rd := IB_fr hI hG.1 hf10 (by decide +kernel) (by decide +kernel) (by decide +kernel) m_rd r_rd
        have hKC : KC L R a0 f0 f10 := hKC.fr hf10 (by decide +kernel)
        have hG : GG L R O f10 := hG.fr hf10 (by decide +kernel) (by decide +kernel)
        have hk : fr L R [(0, 5), (0, 6), (4, 1), (6, 14), (6, 15), (6, 16), (6, 17), (6, 18), (8, 1), (8, 2)] [0, 4, 6, 8, 23, 35, 36, 37, 38, 39, 40, 41, 42, 43, 44] f0 f10 := hk.tr hf10 rfl rfl
        have e11 : fi f10 a1 6 = fi f2 a1 6 := hf10.efi m_a1 r_a1 rfl
        refine tw_iconst F dX0_copy_51 ki_0 (fun z12 hz12 => ?_)
        refine lv_istore_n (lv' := [(2, .int z12), (0, .ref a0), (1, .ref a1)]) F.1 F.2.1 dX0_copy_52 rfl hl (by decide) rfl (fun ls hl => ?_)
        have j_53 : ∀ (n53 : Nat) (f13 : Nat → va_E) (H : Heap) (locs : List Loc) (ls : Array Slot) (x2_53 : Int32), 0 ≤ x2_53.toInt → x2_53.toInt ≤ 16 → ((16 - x2_53.toInt)).toNat < n53 → tS D cy A s.heap L R (TT cy L R) f13 s H locs → GG L R O f13 → IB L R O P f13 rd → KC L R a0 f0 f13 → fr L R [(0, 5), (0, 6), (4, 1), (6, 14), (6, 15), (6, 16), (6, 17), (6, 18), (8, 1), (8, 2)] [0, 4, 6, 8, 23, 35, 36, 37, 38, 39, 40, 41, 42, 43, 44] f0 f13 → fr L R [(4, 1)] [4, 23] f10 f13 → lv_has ls 3 [(0, .ref a0), (1, .ref a1), (2, .int x2_53)] → W p l e rm_X0_copyC s m args below meth c H locs 0 0 Q (F0 m 53 ls []) := by
          intro n53
          induction n53 with
          | zero =>
            intro f13 H locs ls x2_53 b14 b15 b16 h hG hI hKC hk hb53 hl
            exfalso
            omega
          | succ n53 ih53 =>
            intro f13 H locs ls x2_53 b14 b15 b16 h hG hI hKC hk hb53 hl
            have e17 : fi f13 a1 6 = fi f10 a1 6 := hb53.efi m_a1 r_a1 rfl
            have e18 : fi f13 a1 5 = fi f10 a1 5 := hb53.efi m_a1 r_a1 rfl
            have e19 : fi f13 a0 5 = fi f10 a0 5 := hb53.efi m_a0 r_a0 rfl
            refine lv_iload_n F.1 F.2.1 dX0_copy_53 rfl (lv_at hl 2 rfl) ?_
            refine lv_aload_n F.1 F.2.1 dX0_copy_54 rfl (lv_at hl 0 rfl) ?_
            refine g_0_36 F h m_a0 r_a0 dX0_copy_55 (fun v20 hv20 hv20a hv20b => ?_)
            refine tw_icmp_ge (tgt := 82) F dX0_copy_58 (by decide) (fun b21 => ?_) (fun b21 => ?_)
            · refine lv_aload_n F.1 F.2.1 dX0_copy_82 rfl (lv_at hl 0 rfl) ?_
              refine lv_aload_n F.1 F.2.1 dX0_copy_83 rfl (lv_at hl 1 rfl) ?_
              refine g_0_40 F h m_a1 r_a1 dX0_copy_84 (fun v22 hv22 hv22a hv22b => ?_)
              have hKC0 := hKC
              refine pe_0_40 F h m_a0 r_a0 (by omega) dX0_copy_87 (fun f23 H locs e23pq e23po hf23 h => ?_)
              have e23p : fi f23 a0 6 = v22.toInt := by unfold fi; rw [e23pq]; rfl
              have hI : IB L R O P f23 rd := IB_fr hI hG.1 hf23 (by decide +kernel) (by decide +kernel) (by decide +kernel) m_rd r_rd
              have hG : GG L R O f23 := hG.fr hf23 (by decide +kernel) (by decide +kernel)
              have hk : fr L R [(0, 5), (0, 6), (4, 1), (6, 14), (6, 15), (6, 16), (6, 17), (6, 18), (8, 1), (8, 2)] [0, 4, 6, 8, 23, 35, 36, 37, 38, 39, 40, 41, 42, 43, 44] f0 f23 := hk.tr hf23 rfl rfl
              have e24 : fi f23 a1 5 = fi f13 a1 5 := hf23.efi m_a1 r_a1 rfl
              have e25 : fi f23 a0 5 = fi f13 a0 5 := hf23.efi m_a0 r_a0 rfl
              have hKC : KC L R a0 f0 f23 := fun x hx hr hn => by unfold fi fld; rw [e23po x hn]; exact hKC0 x hx hr hn
              refine lv_aload_n F.1 F.2.1 dX0_copy_90 rfl (lv_at hl 1 rfl) ?_
              refine g_0_29 F h m_a1 r_a1 dX0_copy_91 (fun o26 m_o26 r_o26 ho26 => ?_)
              refine tw_iconst F dX0_copy_94 ki_0 (fun z27 hz27 => ?_)
              refine lv_aload_n F.1 F.2.1 dX0_copy_95 rfl (lv_at hl 0 rfl) ?_
              refine g_0_29 F h m_a0 r_a0 dX0_copy_96 (fun o28 m_o28 r_o28 ho28 => ?_)
              refine tw_iconst F dX0_copy_99 ki_0 (fun z29 hz29 => ?_)
              refine lv_aload_n F.1 F.2.1 dX0_copy_100 rfl (lv_at hl 0 rfl) ?_
              refine g_0_40 F h m_a0 r_a0 dX0_copy_101 (fun v30 hv30 hv30a hv30b => ?_)
              refine cp_23_23 F h hl.1 mw_1565 m_o26 r_o26 m_o28 r_o28 (by omega) (Nat.le_of_ble_eq_true rfl) (Nat.le_of_ble_eq_true rfl) dX0_copy_104 (fun f31 H locs hf31 h => ?_)
              have hI : IB L R O P f31 rd := IB_fr hI hG.1 hf31 (by decide +kernel) (by decide +kernel) (by decide +kernel) m_rd r_rd
              have hKC : KC L R a0 f0 f31 := hKC.fr hf31 (by decide +kernel)
              have hG : GG L R O f31 := hG.fr hf31 (by decide +kernel) (by decide +kernel)
              have hk : fr L R [(0, 5), (0, 6), (4, 1), (6, 14), (6, 15), (6, 16), (6, 17), (6, 18), (8, 1), (8, 2)] [0, 4, 6, 8, 23, 35, 36, 37, 38, 39, 40, 41, 42, 43, 44] f0 f31 := hk.tr hf31 rfl rfl
              have e32 : fi f31 a1 6 = fi f23 a1 6 := hf31.efi m_a1 r_a1 rfl
              have e33 : fi f31 a1 5 = fi f23 a1 5 := hf31.efi m_a1 r_a1 rfl
              have e34 : fi f31 a0 5 = fi f23 a0 5 := hf31.efi m_a0 r_a0 rfl
              have e35 : fi f31 a0 6 = fi f23 a0 6 := hf31.efi m_a0 r_a0 rfl
              refine lv_aload_n F.1 F.2.1 dX0_copy_107 rfl (lv_at hl 1 rfl) ?_
              refine g_0_33 F h m_a1 r_a1 dX0_copy_108 (fun o36 m_o36 r_o36 ho36 => ?_)
              refine tw_iconst F dX0_copy_111 ki_0 (fun z37 hz37 => ?_)
              refine lv_aload_n F.1 F.2.1 dX0_copy_112 rfl (lv_at hl 0 rfl) ?_
              refine g_0_33 F h m_a0 r_a0 dX0_copy_113 (fun o38 m_o38 r_o38 ho38 => ?_)
              refine tw_iconst F dX0_copy_116 ki_0 (fun z39 hz39 => ?_)
              refine lv_aload_n F.1 F.2.1 dX0_copy_117 rfl (lv_at hl 0 rfl) ?_
              refine g_0_40 F h m_a0 r_a0 dX0_copy_118 (fun v40 hv40 hv40a hv40b => ?_)
              refine cp_23_23 F h hl.1 mw_1565 m_o36 r_o36 m_o38 r_o38 (by omega) (Nat.le_of_ble_eq_true rfl) (Nat.le_of_ble_eq_true rfl) dX0_copy_121 (fun f41 H locs hf41 h => ?_)
              have hI : IB L R O P f41 rd := IB_fr hI hG.1 hf41 (by decide +kernel) (by decide +kernel) (by decide +kernel) m_rd r_rd
              have hKC : KC L R a0 f0 f41 := hKC.fr hf41 (by decide +kernel)
              have hG : GG L R O f41 := hG.fr hf41 (by decide +kernel) (by decide +kernel)
              have hk : fr L R [(0, 5), (0, 6), (4, 1), (6, 14), (6, 15), (6, 16), (6, 17), (6, 18), (8, 1), (8, 2)] [0, 4, 6, 8, 23, 35, 36, 37, 38, 39, 40, 41, 42, 43, 44] f0 f41 := hk.tr hf41 rfl rfl
              have e42 : fi f41 a1 6 = fi f31 a1 6 := hf41.efi m_a1 r_a1 rfl
              have e43 : fi f41 a1 5 = fi f31 a1 5 := hf41.efi m_a1 r_a1 rfl
              have e44 : fi f41 a0 5 = fi f31 a0 5 := hf41.efi m_a0 r_a0 rfl
              have e45 : fi f41 a0 6 = fi f31 a0 6 := hf41.efi m_a0 r_a0 rfl
              exact hret f41 _ _ _ _ dX0_copy_124 ⟨hk, hG, hI, by omega, hKC⟩ h
            · refine lv_aload_n F.1 F.2.1 dX0_copy_61 rfl (lv_at hl 0 rfl) ?_
              refine g_0_25 F h m_a0 r_a0 dX0_copy_62 (fun o46 m_o46 r_o46 ho46 => ?_)
              refine lv_iload_n F.1 F.2.1 dX0_copy_65 rfl (lv_at hl 2 rfl) ?_
              refine ld_22 F h m_o46 r_o46 (by omega) dX0_copy_66 (fun o47 m_o47 r_o47 => ?_)
              refine lv_aload_n F.1 F.2.1 dX0_copy_67 rfl (lv_at hl 1 rfl) ?_
              refine g_0_25 F h m_a1 r_a1 dX0_copy_68 (fun o48 m_o48 r_o48 ho48 => ?_)
              refine lv_iload_n F.1 F.2.1 dX0_copy_71 rfl (lv_at hl 2 rfl) ?_
              refine ld_22 F h m_o48 r_o48 (by omega) dX0_copy_72 (fun o49 m_o49 r_o49 => ?_)
              refine tw_Vv (As := [.ref o49]) F hZ h yk_X4_copy mw_437 mw_438 mw_439 (s_X4_copy l D cy L R O f13 o47 m_o47 r_o47 o49 m_o49 r_o49) rfl rfl m_o47 r_o47 (fun e q => (T_4 e).mp q) rfl hl.1 rfl (Nat.le_of_ble_eq_true rfl) ⟨Nat.le_of_ble_eq_true rfl, Nat.le_of_ble_eq_true rfl⟩ ⟨Nat.le_of_ble_eq_true rfl, Nat.le_of_ble_eq_true rfl⟩ dX0_copy_73 (fun f50 H locs hp50 h => ?_)
              have hf50 := hp50
              have hI : IB L R O P f50 rd := IB_fr hI hG.1 hf50 (by decide +kernel) (by decide +kernel) (by decide +kernel) m_rd r_rd
              have hKC : KC L R a0 f0 f50 := hKC.fr hf50 (by decide +kernel)
              have hG : GG L R O f50 := hG.fr hf50 (by decide +kernel) (by decide +kernel)
              have hk : fr L R [(0, 5), (0, 6), (4, 1), (6, 14), (6, 15), (6, 16), (6, 17), (6, 18), (8, 1), (8, 2)] [0, 4, 6, 8, 23, 35, 36, 37, 38, 39, 40, 41, 42, 43, 44] f0 f50 := hk.tr hf50 rfl rfl
              have hb53 : fr L R [(4, 1)] [4, 23] f10 f50 := hb53.tr hf50 rfl rfl
              have e52 : fi f50 a1 6 = fi f13 a1 6 := hf50.efi m_a1 r_a1 rfl
              have e53 : fi f50 a1 5 = fi f13 a1 5 := hf50.efi m_a1 r_a1 rfl
              have e54 : fi f50 a0 5 = fi f13 a0 5 := hf50.efi m_a0 r_a0 rfl
              refine tu_iinc F dX0_copy_76 hl (k := 2) rfl (by decide) ki_1 (by omega) (fun z55 ls hz55 hl => ?_)
              have hl : lv_has ls 3 [(2, .int z55), (0, .ref a0), (1, .ref a1)] := hl
              refine lv_goto (tgt := 53) F.1 F.2.1 dX0_copy_79 (by decide) ?_
              exact ih53 f50 _ _ _ z55 (by omega) (by omega) (by omega) h hG hI hKC hk hb53 (lv_sub hl [1, 2, 0] rfl)
        have hb53 : fr L R [(4, 1)] [4, 23] f10 f10 := fr.rf
        exact j_53 (((16 - z12.toInt)).toNat + 1) f10 _ _ _ z12 (by omega) (by omega) (by omega) h hG hI hKC hk hb53 (lv_sub hl [1, 2, 0] rfl)
      · refine lv_aload_n F.1 F.2.1 dX0_copy_7 rfl (lv_at hl 0 rfl) ?_
        refine g_0_11 F h m_a0 r_a0 dX0_copy_8 (fun o56 m_o56 r_o56 ho56 => ?_)
        refine lv_iload_n F.1 F.2.1 dX0_copy_11 rfl (lv_at hl 2 rfl) ?_
        refine le_20 F h m_o56 r_o56 (by omega) dX0_copy_12 (fun o57 m_o57 r_o57 eo57 => ?_)
        refine lv_aload_n F.1 F.2.1 dX0_copy_13 rfl (lv_at hl 1 rfl) ?_
        refine g_0_11 F h m_a1 r_a1 dX0_copy_14 (fun o58 m_o58 r_o58 ho58 => ?_)
        refine lv_iload_n F.1 F.2.1 dX0_copy_17 rfl (lv_at hl 2 rfl) ?_
        refine le_20 F h m_o58 r_o58 (by omega) dX0_copy_18 (fun o59 m_o59 r_o59 eo59 => ?_)
        have hGo := hG
        refine tw_Vv (As := [.ref o59]) F hZ h yk_X6_copy mw_1566 mw_1567 mw_1568 (s_X6_copy l D cy L R O f2 hG o57 m_o57 r_o57 o59 m_o59 r_o59) rfl rfl m_o57 r_o57 (fun e q => (T_6 e).mp q) rfl hl.1 rfl (Nat.le_of_ble_eq_true rfl) ⟨Nat.le_of_ble_eq_true rfl, Nat.le_of_ble_eq_true rfl⟩ ⟨Nat.le_of_ble_eq_true rfl, Nat.le_of_ble_eq_true rfl⟩ dX0_copy_19 (fun f60 H locs hp60 h => ?_)
        obtain ⟨hf60, hG, hv61p0, hv61p1, hv61p2⟩ := hp60
        have hKC : KC L R a0 f0 f60 := hKC.fr hf60 (by decide +kernel)
        have hk : fr L R [(0, 5), (0, 6), (4, 1), (6, 14), (6, 15), (6, 16), (6, 17), (6, 18), (8, 1), (8, 2)] [0, 4, 6, 8, 23, 35, 36, 37, 38, 39, 40, 41, 42, 43, 44] f0 f60 := hk.tr hf60 (by decide +kernel) (by decide +kernel)
        have hb2 : fr L R [(4, 1), (6, 14), (6, 15), (6, 16), (6, 17), (6, 18), (8, 1), (8, 2)] [4, 6, 8, 23, 35, 36, 37, 38, 39, 40, 41, 42, 43, 44] f0 f60 := hb2.tr hf60 (by decide +kernel) (by decide +kernel)
        have e62 : fi f60 a1 6 = fi f2 a1 6 := hf60.efi m_a1 r_a1 rfl
        refine lv_aload_n F.1 F.2.1 dX0_copy_22 rfl (lv_at hl 0 rfl) ?_
        refine g_0_19 F h m_a0 r_a0 dX0_copy_23 (fun o63 m_o63 r_o63 ho63 => ?_)
        refine lv_iload_n F.1 F.2.1 dX0_copy_26 rfl (lv_at hl 2 rfl) ?_
        refine le_21 F h m_o63 r_o63 (by omega) dX0_copy_27 (fun o64 m_o64 r_o64 eo64 => ?_)
        refine lv_aload_n F.1 F.2.1 dX0_copy_28 rfl (lv_at hl 1 rfl) ?_
        refine g_0_19 F h m_a1 r_a1 dX0_copy_29 (fun o65 m_o65 r_o65 ho65 => ?_)
        refine lv_iload_n F.1 F.2.1 dX0_copy_32 rfl (lv_at hl 2 rfl) ?_
        refine le_21 F h m_o65 r_o65 (by omega) dX0_copy_33 (fun o66 m_o66 r_o66 eo66 => ?_)
        refine tw_Vv (As := [.ref o66]) F hZ h yk_X8_copy mw_1571 mw_1220 mw_1221 (s_X8_copy l D cy L R O f60 o64 m_o64 r_o64 o66 m_o66 r_o66) rfl rfl m_o64 r_o64 (fun e q => (T_8 e).mp q) rfl hl.1 rfl (Nat.le_of_ble_eq_true rfl) ⟨Nat.le_of_ble_eq_true rfl, Nat.le_of_ble_eq_true rfl⟩ ⟨Nat.le_of_ble_eq_true rfl, Nat.le_of_ble_eq_true rfl⟩ dX0_copy_34 (fun f67 H locs hp67 h => ?_)
        obtain ⟨hf67, hv68p0, hv68p1⟩ := hp67
        have hKC : KC L R a0 f0 f67 := hKC.fr hf67 (by decide +kernel)
        have hG : GG L R O f67 := hG.fr hf67 (by decide +kernel) (by decide +kernel)
        have hk : fr L R [(0, 5), (0, 6), (4, 1), (6, 14), (6, 15), (6, 16), (6, 17), (6, 18), (8, 1), (8, 2)] [0, 4, 6, 8, 23, 35, 36, 37, 38, 39, 40, 41, 42, 43, 44] f0 f67 := hk.tr hf67 (by decide +kernel) (by decide +kernel)
        have hb2 : fr L R [(4, 1), (6, 14), (6, 15), (6, 16), (6, 17), (6, 18), (8, 1), (8, 2)] [4, 6, 8, 23, 35, 36, 37, 38, 39, 40, 41, 42, 43, 44] f0 f67 := hb2.tr hf67 rfl (by decide +kernel)
        have e69 : fi f67 a1 6 = fi f60 a1 6 := hf67.efi m_a1 r_a1 rfl
        have hI : IB L R O P f67 rd := IB_copy hI hGo.1 hf60 hf67 (by decide +kernel) (by decide +kernel) (by decide +kernel) (by decide +kernel) (by decide +kernel) m_rd r_rd m_a0 r_a0 m_a1 r_a1 (i := x2_2.toInt.toNat) (by omega) (by rw [rfa_of ho56]; exact eo57) (by rw [rfa_of ho58]; exact eo59) (by rw [← hf60.erf m_a0 r_a0 (by decide +kernel), rfa_of ho63, ← hf60.eelq m_o63 r_o63 (by decide +kernel)]; exact eo64) (by rw [← hf60.erf m_a1 r_a1 (by decide +kernel), rfa_of ho65, ← hf60.eelq m_o65 r_o65 (by decide +kernel)]; exact eo66) hv61p0 hv61p1 hv61p2 hv68p0 hv68p1
        refine tu_iinc F dX0_copy_37 hl (k := 2) rfl (by decide) ki_1 (by omega) (fun z70 ls hz70 hl => ?_)
        have hl : lv_has ls 3 [(2, .int z70), (0, .ref a0), (1, .ref a1)] := hl
        refine lv_goto (tgt := 2) F.1 F.2.1 dX0_copy_40 (by decide) ?_
        exact ih2 f67 _ _ _ z70 (by omega) (by omega) (by omega) h hG hI hKC hk hb2 (lv_sub hl [1, 2, 0] rfl)
  have hb2 : fr L R [(4, 1), (6, 14), (6, 15), (6, 16), (6, 17), (6, 18), (8, 1), (8, 2)] [4, 6, 8, 23, 35, 36, 37, 38, 39, 40, 41, 42, 43, 44] f0 f0 := fr.rf
  exact j_2 (((3 - z1.toInt)).toNat + 1) f0 _ _ _ z1 (by omega) (by omega) (by omega) h hG hI hKC hk hb2 (lv_sub hl [1, 2, 0] rfl)
def rm_X11_brokenC : Room := { frames := 1, cells := 0, slots := 0, locals := 26 }
set_option maxHeartbeats 4000000 in
set_option maxRecDepth 100000 in
theorem s_X11_brokenC (l : Launch) (D : va_G) (cy : Nat → ClassId) (L : List Nat) (R O : Nat → Nat) (f0 : Nat → va_E) (a0 : Nat) (m_a0 : a0 ∈ L) (r_a0 : R a0 = 11) (x1 : Int64) (x3 : Int64) (P : Nat → Nat) (pre0 : PB P f0 a0) : ∀ sz, Met l yX11_broken (Cond.code yX11_broken cX11_broken 5 (some .int) :: wsL_law) rm_X11_brokenC (va_Pc [.ref a0, .long x1, .long x3] (tPZ D cy L R (TT cy L R) f0 sz)) (va_Qi (fun (r : Int32) f1 => fr L R [(0, 6), (11, 14)] [0, 11, 23] f0 f1 ∧ (((WI x1 = 1 ∧ WI x3 = 1 ∧ CB f0 a0 < 12) ∧ r.toInt = CB f0 a0 + 1 ∧ CB f1 a0 = CB f0 a0 + 1) ∨ (¬ (WI x1 = 1 ∧ WI x3 = 1 ∧ CB f0 a0 < 12) ∧ r.toInt = -1 ∧ CB f1 a0 = CB f0 a0)) ∧ (CK f1 a0 0 = CK f0 a0 0 ∧ CK f1 a0 1 = CK f0 a0 1 ∧ CK f1 a0 2 = CK f0 a0 2)) (tB D (tA L sz) L R (TT cy L R)) (tA L sz)) 0 0 (tA L sz) := by
  refine tw_enteri (by decide +kernel) rfl (Nat.le_of_ble_eq_true rfl) ?_
  intro p e s m below meth c A ls args Q F hZ h hl hret
  have hl : lv_has ls 5 [(0, .ref a0), (1, .long x1), (3, .long x3)] := hl
  have hk : fr L R [(0, 6), (11, 14)] [0, 11, 23] f0 f0 := fr.rf
  obtain ⟨a0_book, m_a0_book, r_a0_book, t_a0_book⟩ := h.rf m_a0 r_a0 (fun e q => (T_11 e).mp q) (k := 3) rfl
  have t_a0_book_coupleCount := h.bfi m_a0_book r_a0_book (fun e q => (T_0 e).mp q) (k := 6) rfl
  have hbm := BM_of h m_a0 r_a0
  refine lv_lload_n F.1 F.2.1 dX11_broken_0 rfl (lv_at hl 1 rfl) ?_
  refine tw_Si (As := [.long x1]) F hZ h yk_X11_isWord mw_918 mw_919 (s_X11_isWordC l D cy L R O f0 x1) rfl rfl hl.1 rfl (Nat.le_of_ble_eq_true rfl) ⟨Nat.le_of_ble_eq_true rfl, Nat.le_of_ble_eq_true rfl⟩ ⟨Nat.le_of_ble_eq_true rfl, Nat.le_of_ble_eq_true rfl⟩ dX11_broken_1 (fun v2 f1 H locs hp1 h => ?_)
  obtain ⟨rfl, hv2a, hv2b, hv2p0⟩ := hp1
  refine tw_if_eq (tgt := 14) F dX11_broken_4 (by decide) (fun b3 => ?_) (fun b3 => ?_)
  · refine lv_aload_n F.1 F.2.1 dX11_broken_14 rfl (lv_at hl 0 rfl) ?_
    refine tw_iconst F dX11_broken_15 ki_1 (fun z4 hz4 => ?_)
    refine tw_Vi (As := [.int z4]) F hZ h yk_X11_refuse mw_378 mw_379 mw_380 (s_X11_refuseM l D cy L R O f0 a0 m_a0 r_a0 z4 ⟨by omega, by omega⟩) rfl rfl m_a0 r_a0 (fun e q => (T_11 e).mp q) rfl hl.1 rfl (Nat.le_of_ble_eq_true rfl) ⟨Nat.le_of_ble_eq_true rfl, Nat.le_of_ble_eq_true rfl⟩ ⟨Nat.le_of_ble_eq_true rfl, Nat.le_of_ble_eq_true rfl⟩ dX11_broken_16 (fun v6 f5 H locs hp5 h => ?_)
    obtain ⟨hf5, hv6a, hv6b, hv6p0⟩ := hp5
    have hk : fr L R [(0, 6), (11, 14)] [0, 11, 23] f0 f5 := hk.tr hf5 rfl rfl
    have e7 : fld f5 a0 3 = .ref a0_book := (hf5.efl m_a0 r_a0 rfl).trans t_a0_book
    have e8 : fi f5 a0_book 6 = fi f0 a0_book 6 := hf5.efi m_a0_book r_a0_book rfl
    exact hret f5 _ _ _ _ v6 dX11_broken_19 rfl ⟨hk, (by have q1 := (BKc hbm hf5 m_a0 r_a0 (by decide +kernel) (by decide +kernel) (by decide +kernel) (by decide +kernel)).1; omega), ⟨(BKc hbm hf5 m_a0 r_a0 (by decide +kernel) (by decide +kernel) (by decide +kernel) (by decide +kernel)).2 0 (by omega), (BKc hbm hf5 m_a0 r_a0 (by decide +kernel) (by decide +kernel) (by decide +kernel) (by decide +kernel)).2 1 (by omega), (BKc hbm hf5 m_a0 r_a0 (by decide +kernel) (by decide +kernel) (by decide +kernel) (by decide +kernel)).2 2 (by omega)⟩⟩ h
  · refine lv_lload_n F.1 F.2.1 dX11_broken_7 rfl (lv_at hl 2 rfl) ?_
    refine tw_Si (As := [.long x3]) F hZ h yk_X11_isWord mw_918 mw_919 (s_X11_isWordC l D cy L R O f0 x3) rfl rfl hl.1 rfl (Nat.le_of_ble_eq_true rfl) ⟨Nat.le_of_ble_eq_true rfl, Nat.le_of_ble_eq_true rfl⟩ ⟨Nat.le_of_ble_eq_true rfl, Nat.le_of_ble_eq_true rfl⟩ dX11_broken_8 (fun v10 f9 H locs hp9 h => ?_)
    obtain ⟨rfl, hv10a, hv10b, hv10p0⟩ := hp9
    refine tw_if_ne (tgt := 20) F dX11_broken_11 (by decide) (fun b11 => ?_) (fun b11 => ?_)
    · refine lv_aload_n F.1 F.2.1 dX11_broken_20 rfl (lv_at hl 0 rfl) ?_
      refine g_11_29 F h m_a0 r_a0 dX11_broken_21 (fun o12 m_o12 r_o12 ho12 => ?_)
      obtain rfl := (fld_inj t_a0_book ho12).symm
      refine g_11_195 F h m_a0_book r_a0_book dX11_broken_24 (fun v13 hv13 hv13a hv13b => ?_)
      refine tw_bipush F dX11_broken_27 kb_12 (fun z14 hz14 => ?_)
      refine tw_icmp_lt (tgt := 38) F dX11_broken_29 (by decide) (fun b15 => ?_) (fun b15 => ?_)
      · refine lv_aload_n F.1 F.2.1 dX11_broken_38 rfl (lv_at hl 0 rfl) ?_
        refine lv_aload_n F.1 F.2.1 dX11_broken_39 rfl (lv_at hl 0 rfl) ?_
        refine g_11_29 F h m_a0 r_a0 dX11_broken_40 (fun o16 m_o16 r_o16 ho16 => ?_)
        obtain rfl := (fld_inj t_a0_book ho16).symm
        refine lv_lload_n F.1 F.2.1 dX11_broken_43 rfl (lv_at hl 1 rfl) ?_
        refine lv_lload_n F.1 F.2.1 dX11_broken_44 rfl (lv_at hl 2 rfl) ?_
        refine tw_Vi (As := [.long x1, .long x3]) F hZ h yk_X0_addCouple mw_1329 mw_1330 mw_1331 (s_X0_addCoupleC l D cy L R O f0 a0_book m_a0_book r_a0_book x1 x3) rfl rfl m_a0_book r_a0_book (fun e q => (T_0 e).mp q) rfl hl.1 rfl (Nat.le_of_ble_eq_true rfl) ⟨Nat.le_of_ble_eq_true rfl, Nat.le_of_ble_eq_true rfl⟩ ⟨Nat.le_of_ble_eq_true rfl, Nat.le_of_ble_eq_true rfl⟩ dX11_broken_45 (fun v18 f17 H locs hp17 h => ?_)
        obtain ⟨hf17, hv18a, hv18b, hv18p0, hv18p1⟩ := hp17
        have hk : fr L R [(0, 6), (11, 14)] [0, 11, 23] f0 f17 := hk.tr hf17 rfl rfl
        have e19 : fld f17 a0 3 = .ref a0_book := (hf17.efl m_a0 r_a0 rfl).trans t_a0_book
        have hbm1 := BM_of h m_a0 r_a0
        have cb45 := CB_of e19
        refine tw_Vi (As := [.int v18]) F hZ h yk_X11_grant mw_442 mw_443 mw_444 (s_X11_grantM l D cy L R O f17 a0 m_a0 r_a0 v18) rfl rfl m_a0 r_a0 (fun e q => (T_11 e).mp q) rfl hl.1 rfl (Nat.le_of_ble_eq_true rfl) ⟨Nat.le_of_ble_eq_true rfl, Nat.le_of_ble_eq_true rfl⟩ ⟨Nat.le_of_ble_eq_true rfl, Nat.le_of_ble_eq_true rfl⟩ dX11_broken_48 (fun v21 f20 H locs hp20 h => ?_)
        obtain ⟨hf20, hv21p0⟩ := hp20
        have hk : fr L R [(0, 6), (11, 14)] [0, 11, 23] f0 f20 := hk.tr hf20 rfl rfl
        have e22 : fld f20 a0 3 = .ref a0_book := (hf20.efl m_a0 r_a0 rfl).trans e19
        have e23 : fi f20 a0_book 6 = fi f17 a0_book 6 := hf20.efi m_a0_book r_a0_book rfl
        exact hret f20 _ _ _ _ v21 dX11_broken_51 rfl ⟨hk, (by have q2 := CB_of t_a0_book; have q3 := cb45; have q4 := (BKc hbm1 hf20 m_a0 r_a0 (by decide +kernel) (by decide +kernel) (by decide +kernel) (by decide +kernel)).1; omega), ⟨((BKc hbm1 hf20 m_a0 r_a0 (by decide +kernel) (by decide +kernel) (by decide +kernel) (by decide +kernel)).2 0 (by omega)).trans (BK_one hbm pre0 hf17 m_a0 r_a0 (by decide +kernel) (by decide +kernel) (by rw [rfa_of t_a0_book]; exact hv18p1) 0 (by omega)), ((BKc hbm1 hf20 m_a0 r_a0 (by decide +kernel) (by decide +kernel) (by decide +kernel) (by decide +kernel)).2 1 (by omega)).trans (BK_one hbm pre0 hf17 m_a0 r_a0 (by decide +kernel) (by decide +kernel) (by rw [rfa_of t_a0_book]; exact hv18p1) 1 (by omega)), ((BKc hbm1 hf20 m_a0 r_a0 (by decide +kernel) (by decide +kernel) (by decide +kernel) (by decide +kernel)).2 2 (by omega)).trans (BK_one hbm pre0 hf17 m_a0 r_a0 (by decide +kernel) (by decide +kernel) (by rw [rfa_of t_a0_book]; exact hv18p1) 2 (by omega))⟩⟩ h
      · refine lv_aload_n F.1 F.2.1 dX11_broken_32 rfl (lv_at hl 0 rfl) ?_
        refine tw_iconst F dX11_broken_33 ki_4 (fun z24 hz24 => ?_)
        refine tw_Vi (As := [.int z24]) F hZ h yk_X11_refuse mw_378 mw_379 mw_380 (s_X11_refuseM l D cy L R O f0 a0 m_a0 r_a0 z24 ⟨by omega, by omega⟩) rfl rfl m_a0 r_a0 (fun e q => (T_11 e).mp q) rfl hl.1 rfl (Nat.le_of_ble_eq_true rfl) ⟨Nat.le_of_ble_eq_true rfl, Nat.le_of_ble_eq_true rfl⟩ ⟨Nat.le_of_ble_eq_true rfl, Nat.le_of_ble_eq_true rfl⟩ dX11_broken_34 (fun v26 f25 H locs hp25 h => ?_)
        obtain ⟨hf25, hv26a, hv26b, hv26p0⟩ := hp25
        have hk : fr L R [(0, 6), (11, 14)] [0, 11, 23] f0 f25 := hk.tr hf25 rfl rfl
        have e27 : fld f25 a0 3 = .ref a0_book := (hf25.efl m_a0 r_a0 rfl).trans t_a0_book
        have e28 : fi f25 a0_book 6 = fi f0 a0_book 6 := hf25.efi m_a0_book r_a0_book rfl
        exact hret f25 _ _ _ _ v26 dX11_broken_37 rfl ⟨hk, (by have q1 := (BKc hbm hf25 m_a0 r_a0 (by decide +kernel) (by decide +kernel) (by decide +kernel) (by decide +kernel)).1; have q2 := CB_of t_a0_book; omega), ⟨(BKc hbm hf25 m_a0 r_a0 (by decide +kernel) (by decide +kernel) (by decide +kernel) (by decide +kernel)).2 0 (by omega), (BKc hbm hf25 m_a0 r_a0 (by decide +kernel) (by decide +kernel) (by decide +kernel) (by decide +kernel)).2 1 (by omega), (BKc hbm hf25 m_a0 r_a0 (by decide +kernel) (by decide +kernel) (by decide +kernel) (by decide +kernel)).2 2 (by omega)⟩⟩ h
    · refine lv_aload_n F.1 F.2.1 dX11_broken_14 rfl (lv_at hl 0 rfl) ?_
      refine tw_iconst F dX11_broken_15 ki_1 (fun z29 hz29 => ?_)
      refine tw_Vi (As := [.int z29]) F hZ h yk_X11_refuse mw_378 mw_379 mw_380 (s_X11_refuseM l D cy L R O f0 a0 m_a0 r_a0 z29 ⟨by omega, by omega⟩) rfl rfl m_a0 r_a0 (fun e q => (T_11 e).mp q) rfl hl.1 rfl (Nat.le_of_ble_eq_true rfl) ⟨Nat.le_of_ble_eq_true rfl, Nat.le_of_ble_eq_true rfl⟩ ⟨Nat.le_of_ble_eq_true rfl, Nat.le_of_ble_eq_true rfl⟩ dX11_broken_16 (fun v31 f30 H locs hp30 h => ?_)
      obtain ⟨hf30, hv31a, hv31b, hv31p0⟩ := hp30
      have hk : fr L R [(0, 6), (11, 14)] [0, 11, 23] f0 f30 := hk.tr hf30 rfl rfl
      have e32 : fld f30 a0 3 = .ref a0_book := (hf30.efl m_a0 r_a0 rfl).trans t_a0_book
      have e33 : fi f30 a0_book 6 = fi f0 a0_book 6 := hf30.efi m_a0_book r_a0_book rfl
      exact hret f30 _ _ _ _ v31 dX11_broken_19 rfl ⟨hk, (by have q1 := (BKc hbm hf30 m_a0 r_a0 (by decide +kernel) (by decide +kernel) (by decide +kernel) (by decide +kernel)).1; omega), ⟨(BKc hbm hf30 m_a0 r_a0 (by decide +kernel) (by decide +kernel) (by decide +kernel) (by decide +kernel)).2 0 (by omega), (BKc hbm hf30 m_a0 r_a0 (by decide +kernel) (by decide +kernel) (by decide +kernel) (by decide +kernel)).2 1 (by omega), (BKc hbm hf30 m_a0 r_a0 (by decide +kernel) (by decide +kernel) (by decide +kernel) (by decide +kernel)).2 2 (by omega)⟩⟩ h
def rm_X12_brokenC : Room := { frames := 1, cells := 0, slots := 0, locals := 24 }
set_option maxHeartbeats 4000000 in
set_option maxRecDepth 100000 in
theorem s_X12_brokenC (l : Launch) (D : va_G) (cy : Nat → ClassId) (L : List Nat) (R O : Nat → Nat) (f0 : Nat → va_E) (a0 : Nat) (m_a0 : a0 ∈ L) (r_a0 : R a0 = 12) (x1 : Int64) (x3 : Int64) (GA : Nat) (m_GA : GA ∈ L) (r_GA : R GA = 61) (t_GA : fld f0 a0 0 = .ref GA) (GP : Nat) (m_GP : GP ∈ L) (r_GP : R GP = 69) (t_GP : fld f0 a0 22 = .ref GP) (GL : Nat) (m_GL : GL ∈ L) (r_GL : R GL = 70) (t_GL : fld f0 a0 23 = .ref GL) (GT : Nat) (m_GT : GT ∈ L) (r_GT : R GT = 64) (t_GT : fld f0 a0 6 = .ref GT) (pre0 : RBA GA f0) (pre1 : GZ GP GL f0) : ∀ sz, Met l yX12_broken (Cond.code yX12_broken cX12_broken 6 (some .int) :: wsL_law) rm_X12_brokenC (va_Pc [.ref a0, .long x1, .long x3] (tPZ D cy L R (TT cy L R) f0 sz)) (va_Qi (fun (r : Int32) f1 => fr L R [(12, 1)] [12, 61] f0 f1 ∧ RBA GA f1 ∧ GZ GP GL f1 ∧ elj f1 GA 10349 = elj f0 GA 10349 ∧ elj f1 GA 15539 = elj f0 GA 15539 ∧ elj f1 GA 20729 = elj f0 GA 20729 ∧ (((WI x1 = 1 ∧ WI x3 = 1 ∧ elj f0 GA 5159 < 12) ∧ r.toInt = elj f0 GA 5159 + 1 ∧ elj f1 GA 5159 = elj f0 GA 5159 + 1) ∨ (¬ (WI x1 = 1 ∧ WI x3 = 1 ∧ elj f0 GA 5159 < 12) ∧ r.toInt = -1 ∧ elj f1 GA 5159 = elj f0 GA 5159))) (tB D (tA L sz) L R (TT cy L R)) (tA L sz)) 0 0 (tA L sz) := by
  refine tw_enteri (by decide +kernel) rfl (Nat.le_of_ble_eq_true rfl) ?_
  intro p e s m below meth c A ls args Q F hZ h hl hret
  have hl : lv_has ls 6 [(0, .ref a0), (1, .long x1), (3, .long x3)] := hl
  have hk : fr L R [(12, 1)] [12, 61] f0 f0 := fr.rf
  have hR := pre0
  have hX := pre1
  have hqkc1 : elj f0 GA 10349 = elj f0 GA 10349 := rfl
  have hqkc2 : elj f0 GA 15539 = elj f0 GA 15539 := rfl
  have hqkc3 : elj f0 GA 20729 = elj f0 GA 20729 := rfl
  have hqkc0 : elj f0 GA 5159 = elj f0 GA 5159 := rfl
  refine lv_lload_n F.1 F.2.1 dX12_broken_0 rfl (lv_at hl 1 rfl) ?_
  refine tw_Si (As := [.long x1]) F hZ h yk_X12_isWordNumber mw_931 mw_932 (s_X12_isWordNumberC l D cy L R O f0 x1) rfl rfl hl.1 rfl (Nat.le_of_ble_eq_true rfl) ⟨Nat.le_of_ble_eq_true rfl, Nat.le_of_ble_eq_true rfl⟩ ⟨Nat.le_of_ble_eq_true rfl, Nat.le_of_ble_eq_true rfl⟩ dX12_broken_1 (fun v2 f1 H locs hp1 h => ?_)
  obtain ⟨rfl, hv2a, hv2b, hv2p0⟩ := hp1
  refine tw_if_eq (tgt := 14) F dX12_broken_4 (by decide) (fun b3 => ?_) (fun b3 => ?_)
  · refine lv_aload_n F.1 F.2.1 dX12_broken_14 rfl (lv_at hl 0 rfl) ?_
    refine tw_iconst F dX12_broken_15 ki_1 (fun z4 hz4 => ?_)
    refine tw_Vi (As := [.int z4]) F hZ h yk_X12_refuse mw_452 mw_453 mw_454 (s_X12_refuseM l D cy L R O f0 a0 m_a0 r_a0 z4 ⟨by omega, by omega⟩) rfl rfl m_a0 r_a0 (fun e q => (T_12 e).mp q) rfl hl.1 rfl (Nat.le_of_ble_eq_true rfl) ⟨Nat.le_of_ble_eq_true rfl, Nat.le_of_ble_eq_true rfl⟩ ⟨Nat.le_of_ble_eq_true rfl, Nat.le_of_ble_eq_true rfl⟩ dX12_broken_16 (fun v6 f5 H locs hp5 h => ?_)
    obtain ⟨hf5, hv6a, hv6b, hv6p0⟩ := hp5
    have hR : RBA GA f5 := hR.fm hf5 m_GA r_GA (by decide +kernel)
    have hX : GZ GP GL f5 := hX.fm hf5 m_GP r_GP m_GL r_GL (by decide +kernel) (by decide +kernel)
    have hqkc1 : elj f5 GA 10349 = elj f0 GA 10349 := (hf5.eelj m_GA r_GA (by decide +kernel) _).trans hqkc1
    have hqkc2 : elj f5 GA 15539 = elj f0 GA 15539 := (hf5.eelj m_GA r_GA (by decide +kernel) _).trans hqkc2
    have hqkc3 : elj f5 GA 20729 = elj f0 GA 20729 := (hf5.eelj m_GA r_GA (by decide +kernel) _).trans hqkc3
    have hqkc0 : elj f5 GA 5159 = elj f0 GA 5159 := (hf5.eelj m_GA r_GA (by decide +kernel) _).trans hqkc0
    have hk : fr L R [(12, 1)] [12, 61] f0 f5 := hk.tr hf5 rfl rfl
    have e7 : fld f5 a0 0 = .ref GA := (hf5.efl m_a0 r_a0 rfl).trans t_GA
    have e8 : fld f5 a0 22 = .ref GP := (hf5.efl m_a0 r_a0 rfl).trans t_GP
    have e9 : fld f5 a0 23 = .ref GL := (hf5.efl m_a0 r_a0 rfl).trans t_GL
    have e10 : fld f5 a0 6 = .ref GT := (hf5.efl m_a0 r_a0 rfl).trans t_GT
    exact hret f5 _ _ _ _ v6 dX12_broken_19 rfl ⟨hk, hR, hX, hqkc1, hqkc2, hqkc3, (by omega)⟩ h
  · refine lv_lload_n F.1 F.2.1 dX12_broken_7 rfl (lv_at hl 2 rfl) ?_
    refine tw_Si (As := [.long x3]) F hZ h yk_X12_isWordNumber mw_931 mw_932 (s_X12_isWordNumberC l D cy L R O f0 x3) rfl rfl hl.1 rfl (Nat.le_of_ble_eq_true rfl) ⟨Nat.le_of_ble_eq_true rfl, Nat.le_of_ble_eq_true rfl⟩ ⟨Nat.le_of_ble_eq_true rfl, Nat.le_of_ble_eq_true rfl⟩ dX12_broken_8 (fun v12 f11 H locs hp11 h => ?_)
    obtain ⟨rfl, hv12a, hv12b, hv12p0⟩ := hp11
    refine tw_if_ne (tgt := 20) F dX12_broken_11 (by decide) (fun b13 => ?_) (fun b13 => ?_)
    · refine lv_aload_n F.1 F.2.1 dX12_broken_20 rfl (lv_at hl 0 rfl) ?_
      refine g_12_7 F h m_a0 r_a0 dX12_broken_21 (fun o14 m_o14 r_o14 ho14 => ?_)
      obtain rfl := (fld_inj t_GA ho14).symm
      refine tw_sipush F dX12_broken_24 ks_5159 (fun z15 hz15 => ?_)
      refine le_61 F h m_GA r_GA (by omega) dX12_broken_27 (fun v16 ev16 hv16a => ?_)
      have hv16b := clP_1.mp (atb hv16a (ac_s2 (by omega)))
      have u27 : v16.toInt = elj f0 GA (5159) := by rw [ev16, show z15.toInt.toNat = 5159 by omega]
      refine tw_l2i F dX12_broken_28 (by omega) (by omega) (fun z17 hz17 => ?_)
      refine lv_istore (lv' := [(5, .int z17), (0, .ref a0), (1, .long x1), (3, .long x3)]) F.1 F.2.1 dX12_broken_29 hl (by decide) rfl (fun ls hl => ?_)
      refine lv_iload F.1 F.2.1 dX12_broken_31 (lv_at hl 0 rfl) ?_
      refine tw_bipush F dX12_broken_33 kb_12 (fun z18 hz18 => ?_)
      refine tw_icmp_ne (tgt := 44) F dX12_broken_35 (by decide) (fun b19 => ?_) (fun b19 => ?_)
      · have hqk : elj f0 GA 5159 ≤ 11 := by omega
        refine lv_aload_n F.1 F.2.1 dX12_broken_44 rfl (lv_at hl 1 rfl) ?_
        refine g_12_7 F h m_a0 r_a0 dX12_broken_45 (fun o20 m_o20 r_o20 ho20 => ?_)
        obtain rfl := (fld_inj t_GA ho20).symm
        refine tw_sipush F dX12_broken_48 ks_5160 (fun z21 hz21 => ?_)
        refine tw_iconst F dX12_broken_51 ki_2 (fun z22 hz22 => ?_)
        refine lv_iload F.1 F.2.1 dX12_broken_52 (lv_at hl 0 rfl) ?_
        refine tu_imull F dX12_broken_54 hz22 (by omega) (fun z23 hz23 => ?_)
        refine tu_iadd F dX12_broken_55 (by omega) (fun z24 hz24 => ?_)
        refine lv_lload_n F.1 F.2.1 dX12_broken_56 rfl (lv_at hl 2 rfl) ?_
        refine se_61 F h m_GA r_GA (by omega) (atS (ac_cp (by omega)) clP_0) dX12_broken_57 (fun f25 H locs e25a e25b hf25 h => ?_)
        have hR : RBA GA f25 := hR.st e25a (Or.inr (Or.inl (by omega)))
        have hX : GZ GP GL f25 := hX.fm hf25 m_GP r_GP m_GL r_GL (by decide +kernel) (by decide +kernel)
        have hqkc1 : elj f25 GA 10349 = elj f0 GA 10349 := ((e25a _).trans (if_neg (by omega))).trans hqkc1
        have hqkc2 : elj f25 GA 15539 = elj f0 GA 15539 := ((e25a _).trans (if_neg (by omega))).trans hqkc2
        have hqkc3 : elj f25 GA 20729 = elj f0 GA 20729 := ((e25a _).trans (if_neg (by omega))).trans hqkc3
        have hqkc0 : elj f25 GA 5159 = elj f0 GA 5159 := ((e25a _).trans (if_neg (by omega))).trans hqkc0
        have hqk : elj f25 GA 5159 ≤ 11 := by rw [e25a, if_neg (by omega)]; exact hqk
        have hk : fr L R [(12, 1)] [12, 61] f0 f25 := hk.tr hf25 rfl rfl
        have e26 : fld f25 a0 0 = .ref GA := (hf25.efl m_a0 r_a0 rfl).trans t_GA
        have e27 : fld f25 a0 22 = .ref GP := (hf25.efl m_a0 r_a0 rfl).trans t_GP
        have e28 : fld f25 a0 23 = .ref GL := (hf25.efl m_a0 r_a0 rfl).trans t_GL
        have e29 : fld f25 a0 6 = .ref GT := (hf25.efl m_a0 r_a0 rfl).trans t_GT
        refine lv_aload_n F.1 F.2.1 dX12_broken_58 rfl (lv_at hl 1 rfl) ?_
        refine g_12_7 F h m_a0 r_a0 dX12_broken_59 (fun o30 m_o30 r_o30 ho30 => ?_)
        obtain rfl := (fld_inj e26 ho30).symm
        refine tw_sipush F dX12_broken_62 ks_5160 (fun z31 hz31 => ?_)
        refine tw_iconst F dX12_broken_65 ki_2 (fun z32 hz32 => ?_)
        refine lv_iload F.1 F.2.1 dX12_broken_66 (lv_at hl 0 rfl) ?_
        refine tu_imull F dX12_broken_68 hz32 (by omega) (fun z33 hz33 => ?_)
        refine tu_iadd F dX12_broken_69 (by omega) (fun z34 hz34 => ?_)
        refine tw_iconst F dX12_broken_70 ki_1 (fun z35 hz35 => ?_)
        refine tu_iadd F dX12_broken_71 (by omega) (fun z36 hz36 => ?_)
        refine lv_lload_n F.1 F.2.1 dX12_broken_72 rfl (lv_at hl 3 rfl) ?_
        refine se_61 F h m_GA r_GA (by omega) (atS (ac_cp (by omega)) clP_0) dX12_broken_73 (fun f37 H locs e37a e37b hf37 h => ?_)
        have hR : RBA GA f37 := hR.st e37a (Or.inr (Or.inl (by omega)))
        have hX : GZ GP GL f37 := hX.fm hf37 m_GP r_GP m_GL r_GL (by decide +kernel) (by decide +kernel)
        have hqkc1 : elj f37 GA 10349 = elj f0 GA 10349 := ((e37a _).trans (if_neg (by omega))).trans hqkc1
        have hqkc2 : elj f37 GA 15539 = elj f0 GA 15539 := ((e37a _).trans (if_neg (by omega))).trans hqkc2
        have hqkc3 : elj f37 GA 20729 = elj f0 GA 20729 := ((e37a _).trans (if_neg (by omega))).trans hqkc3
        have hqkc0 : elj f37 GA 5159 = elj f0 GA 5159 := ((e37a _).trans (if_neg (by omega))).trans hqkc0
        have hqk : elj f37 GA 5159 ≤ 11 := by rw [e37a, if_neg (by omega)]; exact hqk
        have hk : fr L R [(12, 1)] [12, 61] f0 f37 := hk.tr hf37 rfl rfl
        have e38 : fld f37 a0 0 = .ref GA := (hf37.efl m_a0 r_a0 rfl).trans e26
        have e39 : fld f37 a0 22 = .ref GP := (hf37.efl m_a0 r_a0 rfl).trans e27
        have e40 : fld f37 a0 23 = .ref GL := (hf37.efl m_a0 r_a0 rfl).trans e28
        have e41 : fld f37 a0 6 = .ref GT := (hf37.efl m_a0 r_a0 rfl).trans e29
        refine lv_aload_n F.1 F.2.1 dX12_broken_74 rfl (lv_at hl 1 rfl) ?_
        refine g_12_7 F h m_a0 r_a0 dX12_broken_75 (fun o42 m_o42 r_o42 ho42 => ?_)
        obtain rfl := (fld_inj e38 ho42).symm
        refine tw_sipush F dX12_broken_78 ks_5159 (fun z43 hz43 => ?_)
        refine lv_dup2_11 F.1 F.2.1 dX12_broken_81 rfl rfl ?_
        refine le_61 F h m_GA r_GA (by omega) dX12_broken_82 (fun v44 ev44 hv44a => ?_)
        have hv44b := clP_1.mp (atb hv44a (ac_s2 (by omega)))
        have u82 : v44.toInt = elj f37 GA (5159) := by rw [ev44, show z43.toInt.toNat = 5159 by omega]
        refine tu_lconst F dX12_broken_83 (by decide) (fun z45 (hz45 : z45.toInt = 1) => ?_)
        refine tu_ladd F dX12_broken_84 (by omega) (fun z46 hz46 => ?_)
        have g85 := hqkc0
        refine se_61 F h m_GA r_GA (by omega) (atS (ac_s2 (by omega)) (clP_1.mpr (by omega))) dX12_broken_85 (fun f47 H locs e47a e47b hf47 h => ?_)
        have hR : RBA GA f47 := hR.st e47a (Or.inr (Or.inl (by omega)))
        have hX : GZ GP GL f47 := hX.fm hf47 m_GP r_GP m_GL r_GL (by decide +kernel) (by decide +kernel)
        have hqkc1 : elj f47 GA 10349 = elj f0 GA 10349 := ((e47a _).trans (if_neg (by omega))).trans hqkc1
        have hqkc2 : elj f47 GA 15539 = elj f0 GA 15539 := ((e47a _).trans (if_neg (by omega))).trans hqkc2
        have hqkc3 : elj f47 GA 20729 = elj f0 GA 20729 := ((e47a _).trans (if_neg (by omega))).trans hqkc3
        have hk : fr L R [(12, 1)] [12, 61] f0 f47 := hk.tr hf47 rfl rfl
        have e48 : fld f47 a0 0 = .ref GA := (hf47.efl m_a0 r_a0 rfl).trans e38
        have e49 : fld f47 a0 22 = .ref GP := (hf47.efl m_a0 r_a0 rfl).trans e39
        have e50 : fld f47 a0 23 = .ref GL := (hf47.efl m_a0 r_a0 rfl).trans e40
        have e51 : fld f47 a0 6 = .ref GT := (hf47.efl m_a0 r_a0 rfl).trans e41
        have hqkS : elj f47 GA 5159 = elj f0 GA 5159 + 1 := by rw [e47a, if_pos (by omega)]; omega
        refine lv_aload_n F.1 F.2.1 dX12_broken_86 rfl (lv_at hl 1 rfl) ?_
        refine lv_iload F.1 F.2.1 dX12_broken_87 (lv_at hl 0 rfl) ?_
        refine tw_iconst F dX12_broken_89 ki_1 (fun z52 hz52 => ?_)
        refine tu_iadd F dX12_broken_90 (by omega) (fun z53 hz53 => ?_)
        refine tw_Vi (As := [.int z53]) F hZ h yk_X12_gives mw_499 mw_500 mw_501 (s_X12_givesM l D cy L R O f47 a0 m_a0 r_a0 z53) rfl rfl m_a0 r_a0 (fun e q => (T_12 e).mp q) rfl hl.1 rfl (Nat.le_of_ble_eq_true rfl) ⟨Nat.le_of_ble_eq_true rfl, Nat.le_of_ble_eq_true rfl⟩ ⟨Nat.le_of_ble_eq_true rfl, Nat.le_of_ble_eq_true rfl⟩ dX12_broken_91 (fun v55 f54 H locs hp54 h => ?_)
        obtain ⟨hf54, hv55p0⟩ := hp54
        have hR : RBA GA f54 := hR.fm hf54 m_GA r_GA (by decide +kernel)
        have hX : GZ GP GL f54 := hX.fm hf54 m_GP r_GP m_GL r_GL (by decide +kernel) (by decide +kernel)
        have hqkc1 : elj f54 GA 10349 = elj f0 GA 10349 := (hf54.eelj m_GA r_GA (by decide +kernel) _).trans hqkc1
        have hqkc2 : elj f54 GA 15539 = elj f0 GA 15539 := (hf54.eelj m_GA r_GA (by decide +kernel) _).trans hqkc2
        have hqkc3 : elj f54 GA 20729 = elj f0 GA 20729 := (hf54.eelj m_GA r_GA (by decide +kernel) _).trans hqkc3
        have hqkS : elj f54 GA 5159 = elj f0 GA 5159 + 1 := (hf54.eelj m_GA r_GA (by decide +kernel) _).trans hqkS
        have hk : fr L R [(12, 1)] [12, 61] f0 f54 := hk.tr hf54 rfl rfl
        have e56 : fld f54 a0 0 = .ref GA := (hf54.efl m_a0 r_a0 rfl).trans e48
        have e57 : fld f54 a0 22 = .ref GP := (hf54.efl m_a0 r_a0 rfl).trans e49
        have e58 : fld f54 a0 23 = .ref GL := (hf54.efl m_a0 r_a0 rfl).trans e50
        have e59 : fld f54 a0 6 = .ref GT := (hf54.efl m_a0 r_a0 rfl).trans e51
        exact hret f54 _ _ _ _ v55 dX12_broken_94 rfl ⟨hk, hR, hX, hqkc1, hqkc2, hqkc3, (by omega)⟩ h
      · refine lv_aload_n F.1 F.2.1 dX12_broken_38 rfl (lv_at hl 1 rfl) ?_
        refine tw_iconst F dX12_broken_39 ki_4 (fun z60 hz60 => ?_)
        refine tw_Vi (As := [.int z60]) F hZ h yk_X12_refuse mw_452 mw_453 mw_454 (s_X12_refuseM l D cy L R O f0 a0 m_a0 r_a0 z60 ⟨by omega, by omega⟩) rfl rfl m_a0 r_a0 (fun e q => (T_12 e).mp q) rfl hl.1 rfl (Nat.le_of_ble_eq_true rfl) ⟨Nat.le_of_ble_eq_true rfl, Nat.le_of_ble_eq_true rfl⟩ ⟨Nat.le_of_ble_eq_true rfl, Nat.le_of_ble_eq_true rfl⟩ dX12_broken_40 (fun v62 f61 H locs hp61 h => ?_)
        obtain ⟨hf61, hv62a, hv62b, hv62p0⟩ := hp61
        have hR : RBA GA f61 := hR.fm hf61 m_GA r_GA (by decide +kernel)
        have hX : GZ GP GL f61 := hX.fm hf61 m_GP r_GP m_GL r_GL (by decide +kernel) (by decide +kernel)
        have hqkc1 : elj f61 GA 10349 = elj f0 GA 10349 := (hf61.eelj m_GA r_GA (by decide +kernel) _).trans hqkc1
        have hqkc2 : elj f61 GA 15539 = elj f0 GA 15539 := (hf61.eelj m_GA r_GA (by decide +kernel) _).trans hqkc2
        have hqkc3 : elj f61 GA 20729 = elj f0 GA 20729 := (hf61.eelj m_GA r_GA (by decide +kernel) _).trans hqkc3
        have hqkc0 : elj f61 GA 5159 = elj f0 GA 5159 := (hf61.eelj m_GA r_GA (by decide +kernel) _).trans hqkc0
        have hk : fr L R [(12, 1)] [12, 61] f0 f61 := hk.tr hf61 rfl rfl
        have e63 : fld f61 a0 0 = .ref GA := (hf61.efl m_a0 r_a0 rfl).trans t_GA
        have e64 : fld f61 a0 22 = .ref GP := (hf61.efl m_a0 r_a0 rfl).trans t_GP
        have e65 : fld f61 a0 23 = .ref GL := (hf61.efl m_a0 r_a0 rfl).trans t_GL
        have e66 : fld f61 a0 6 = .ref GT := (hf61.efl m_a0 r_a0 rfl).trans t_GT
        exact hret f61 _ _ _ _ v62 dX12_broken_43 rfl ⟨hk, hR, hX, hqkc1, hqkc2, hqkc3, (by omega)⟩ h
    · refine lv_aload_n F.1 F.2.1 dX12_broken_14 rfl (lv_at hl 0 rfl) ?_
      refine tw_iconst F dX12_broken_15 ki_1 (fun z67 hz67 => ?_)
      refine tw_Vi (As := [.int z67]) F hZ h yk_X12_refuse mw_452 mw_453 mw_454 (s_X12_refuseM l D cy L R O f0 a0 m_a0 r_a0 z67 ⟨by omega, by omega⟩) rfl rfl m_a0 r_a0 (fun e q => (T_12 e).mp q) rfl hl.1 rfl (Nat.le_of_ble_eq_true rfl) ⟨Nat.le_of_ble_eq_true rfl, Nat.le_of_ble_eq_true rfl⟩ ⟨Nat.le_of_ble_eq_true rfl, Nat.le_of_ble_eq_true rfl⟩ dX12_broken_16 (fun v69 f68 H locs hp68 h => ?_)
      obtain ⟨hf68, hv69a, hv69b, hv69p0⟩ := hp68
      have hR : RBA GA f68 := hR.fm hf68 m_GA r_GA (by decide +kernel)
      have hX : GZ GP GL f68 := hX.fm hf68 m_GP r_GP m_GL r_GL (by decide +kernel) (by decide +kernel)
      have hqkc1 : elj f68 GA 10349 = elj f0 GA 10349 := (hf68.eelj m_GA r_GA (by decide +kernel) _).trans hqkc1
      have hqkc2 : elj f68 GA 15539 = elj f0 GA 15539 := (hf68.eelj m_GA r_GA (by decide +kernel) _).trans hqkc2
      have hqkc3 : elj f68 GA 20729 = elj f0 GA 20729 := (hf68.eelj m_GA r_GA (by decide +kernel) _).trans hqkc3
      have hqkc0 : elj f68 GA 5159 = elj f0 GA 5159 := (hf68.eelj m_GA r_GA (by decide +kernel) _).trans hqkc0
      have hk : fr L R [(12, 1)] [12, 61] f0 f68 := hk.tr hf68 rfl rfl
      have e70 : fld f68 a0 0 = .ref GA := (hf68.efl m_a0 r_a0 rfl).trans t_GA
      have e71 : fld f68 a0 22 = .ref GP := (hf68.efl m_a0 r_a0 rfl).trans t_GP
      have e72 : fld f68 a0 23 = .ref GL := (hf68.efl m_a0 r_a0 rfl).trans t_GL
      have e73 : fld f68 a0 6 = .ref GT := (hf68.efl m_a0 r_a0 rfl).trans t_GT
      exact hret f68 _ _ _ _ v69 dX12_broken_19 rfl ⟨hk, hR, hX, hqkc1, hqkc2, hqkc3, (by omega)⟩ h
section
variable {p : Program} {l : Launch} {e : Env} {R0 : Room} {s : State} {m : MethodId} {args : Array Value} {below : List Frame} {meth : Method} {c : Code} {H H0 : Heap} {locs : List Loc} {cells slots : Nat} {Q : State → Prop} {cc : ByteArray} {nL : Nat} {D : va_G} {cy : Nat → ClassId} {A : Nat → Prop} {L : List Nat} {R : Nat → Nat} {f : Nat → va_E} {pc : Nat} {ls : Array Slot} {rest : List Value} {a : Nat}
theorem le_57 {own : String} (F : CallFix p m c cc nL s args wsL_law own) (h : tS D cy A H0 L R (TT cy L R) f s H locs) {i : Int32} (ha : a ∈ L) (hr : R a = 57) (hb : 0 ≤ i.toInt ∧ i.toInt < 3) (hdg : decode cc pc = .ok (.aaload, 1)) (kk : ∀ b : Nat, b ∈ L → R b = 0 → elq f a i.toInt.toNat = some b → W p l e R0 s m args below meth c H locs cells slots Q (F0 m (pc + 1) ls (.ref b :: rest))) : W p l e R0 s m args below meth c H locs cells slots Q (F0 m pc ls (.int i :: .ref a :: rest)) := tu_aaldE (t0 := 4) F h ha hr (fun e q => (T_57 e).mp q) rfl hb.1 hb.2 hdg kk
end
def rm_X11_markC : Room := { frames := 4, cells := 0, slots := 0, locals := 105 }
set_option maxHeartbeats 4000000 in
set_option maxRecDepth 100000 in
theorem s_X11_markC (l : Launch) (D : va_G) (cy : Nat → ClassId) (L : List Nat) (R O : Nat → Nat) (f0 : Nat → va_E) (hG : GG L R O f0) (a0 : Nat) (m_a0 : a0 ∈ L) (r_a0 : R a0 = 11) (P : Nat → Nat) (pre0 : IB L R O P f0 (rfa f0 a0 2)) (pre1 : PB P f0 a0) : ∀ sz, Met l yX11_mark (Cond.code yX11_mark cX11_mark 1 (some .int) :: wsL_law) rm_X11_markC (va_Pc [.ref a0] (tPZ D cy L R (TT cy L R) f0 sz)) (va_Qi (fun (r : Int32) f1 => fr L R [(0, 5), (0, 6), (4, 1), (6, 14), (6, 15), (6, 16), (6, 17), (6, 18), (8, 1), (8, 2), (11, 11), (11, 14)] [0, 4, 6, 8, 11, 23, 35, 36, 37, 38, 39, 40, 41, 42, 43, 44] f0 f1 ∧ GG L R O f1 ∧ IB L R O P f1 (rfa f0 a0 2) ∧ ((r.toInt = -1 ∧ 3 ≤ fi f0 a0 11 ∧ fi f1 a0 11 = fi f0 a0 11) ∨ (r.toInt = fi f0 a0 11 + 1 ∧ fi f0 a0 11 < 3 ∧ fi f1 a0 11 = fi f0 a0 11 + 1)) ∧ (CB f1 a0 = CB f0 a0 ∧ ((r.toInt ≠ -1 ∧ fi f0 a0 11 = 0 ∧ CK f1 a0 0 = CB f0 a0) ∨ ((r.toInt = -1 ∨ fi f0 a0 11 ≠ 0) ∧ CK f1 a0 0 = CK f0 a0 0)) ∧ ((r.toInt ≠ -1 ∧ fi f0 a0 11 = 1 ∧ CK f1 a0 1 = CB f0 a0) ∨ ((r.toInt = -1 ∨ fi f0 a0 11 ≠ 1) ∧ CK f1 a0 1 = CK f0 a0 1)) ∧ ((r.toInt ≠ -1 ∧ fi f0 a0 11 = 2 ∧ CK f1 a0 2 = CB f0 a0) ∨ ((r.toInt = -1 ∨ fi f0 a0 11 ≠ 2) ∧ CK f1 a0 2 = CK f0 a0 2)))) (tB D (tA L sz) L R (TT cy L R)) (tA L sz)) 0 0 (tA L sz) := by
  refine tw_enteri (by decide +kernel) rfl (Nat.le_of_ble_eq_true rfl) ?_
  intro p e s m below meth c A ls args Q F hZ h hl hret
  have hl : lv_has ls 1 [(0, .ref a0)] := hl
  have hk : fr L R [(0, 5), (0, 6), (4, 1), (6, 14), (6, 15), (6, 16), (6, 17), (6, 18), (8, 1), (8, 2), (11, 11), (11, 14)] [0, 4, 6, 8, 11, 23, 35, 36, 37, 38, 39, 40, 41, 42, 43, 44] f0 f0 := fr.rf
  obtain ⟨a0_reader, m_a0_reader, r_a0_reader, t_a0_reader⟩ := h.rf m_a0 r_a0 (fun e q => (T_11 e).mp q) (k := 2) rfl
  obtain ⟨a0_book, m_a0_book, r_a0_book, t_a0_book⟩ := h.rf m_a0 r_a0 (fun e q => (T_11 e).mp q) (k := 3) rfl
  rw [rfa_of t_a0_reader] at pre0
  have hI := pre0
  have hbm := BM_of h m_a0 r_a0
  refine lv_aload_n F.1 F.2.1 dX11_mark_0 rfl (lv_at hl 0 rfl) ?_
  refine g_11_69 F h m_a0 r_a0 dX11_mark_1 (fun v1 hv1 hv1a hv1b => ?_)
  refine tw_iconst F dX11_mark_4 ki_3 (fun z2 hz2 => ?_)
  refine tw_icmp_lt (tgt := 14) F dX11_mark_5 (by decide) (fun b3 => ?_) (fun b3 => ?_)
  · refine lv_aload_n F.1 F.2.1 dX11_mark_14 rfl (lv_at hl 0 rfl) ?_
    refine g_11_33 F h m_a0 r_a0 dX11_mark_15 (fun o4 m_o4 r_o4 ho4 => ?_)
    refine lv_aload_n F.1 F.2.1 dX11_mark_18 rfl (lv_at hl 0 rfl) ?_
    refine g_11_69 F h m_a0 r_a0 dX11_mark_19 (fun v5 hv5 hv5a hv5b => ?_)
    refine le_57 F h m_o4 r_o4 (by omega) dX11_mark_22 (fun o6 m_o6 r_o6 eo6 => ?_)
    refine lv_aload_n F.1 F.2.1 dX11_mark_23 rfl (lv_at hl 0 rfl) ?_
    refine g_11_29 F h m_a0 r_a0 dX11_mark_24 (fun o7 m_o7 r_o7 ho7 => ?_)
    obtain rfl := (fld_inj t_a0_book ho7).symm
    have hGo := hG
    refine tw_Vv (As := [.ref a0_book]) F hZ h yk_X0_copy mw_1561 mw_1562 mw_1563 (s_X0_copyC l D cy L R O f0 hG o6 m_o6 r_o6 a0_book m_a0_book r_a0_book P a0_reader m_a0_reader r_a0_reader hI) rfl rfl m_o6 r_o6 (fun e q => (T_0 e).mp q) rfl hl.1 rfl (Nat.le_of_ble_eq_true rfl) ⟨Nat.le_of_ble_eq_true rfl, Nat.le_of_ble_eq_true rfl⟩ ⟨Nat.le_of_ble_eq_true rfl, Nat.le_of_ble_eq_true rfl⟩ dX11_mark_27 (fun f8 H locs hp8 h => ?_)
    obtain ⟨hf8, hG, hv9p0, hv9p1, hv9p2⟩ := hp8
    have hk : fr L R [(0, 5), (0, 6), (4, 1), (6, 14), (6, 15), (6, 16), (6, 17), (6, 18), (8, 1), (8, 2), (11, 11), (11, 14)] [0, 4, 6, 8, 11, 23, 35, 36, 37, 38, 39, 40, 41, 42, 43, 44] f0 f8 := hk.tr hf8 (by decide +kernel) (by decide +kernel)
    have e10 : fld f8 a0 2 = .ref a0_reader := (hf8.efl m_a0 r_a0 rfl).trans t_a0_reader
    have e11 : fld f8 a0 3 = .ref a0_book := (hf8.efl m_a0 r_a0 rfl).trans t_a0_book
    have e12 : fi f8 a0 11 = fi f0 a0 11 := hf8.efi m_a0 r_a0 rfl
    have hI : IB L R O P f8 a0_reader := hv9p0
    have hbm1 := BM_of h m_a0 r_a0
    refine lv_aload_n F.1 F.2.1 dX11_mark_30 rfl (lv_at hl 0 rfl) ?_
    refine lv_dup F.1 F.2.1 dX11_mark_31 rfl ?_
    refine g_11_69 F h m_a0 r_a0 dX11_mark_32 (fun v13 hv13 hv13a hv13b => ?_)
    refine tw_iconst F dX11_mark_35 ki_1 (fun z14 hz14 => ?_)
    refine tu_iadd F dX11_mark_36 (by omega) (fun z15 hz15 => ?_)
    refine p_11_69 F h m_a0 r_a0 (by omega) dX11_mark_37 (fun f16 H locs e16p hf16 h => ?_)
    have hI : IB L R O P f16 a0_reader := IB_fr hI hG.1 hf16 (by decide +kernel) (by decide +kernel) (by decide +kernel) m_a0_reader r_a0_reader
    have hG : GG L R O f16 := hG.fr hf16 (by decide +kernel) (by decide +kernel)
    have hk : fr L R [(0, 5), (0, 6), (4, 1), (6, 14), (6, 15), (6, 16), (6, 17), (6, 18), (8, 1), (8, 2), (11, 11), (11, 14)] [0, 4, 6, 8, 11, 23, 35, 36, 37, 38, 39, 40, 41, 42, 43, 44] f0 f16 := hk.tr hf16 rfl rfl
    have e17 : fld f16 a0 2 = .ref a0_reader := (hf16.efl m_a0 r_a0 rfl).trans e10
    have e18 : fld f16 a0 3 = .ref a0_book := (hf16.efl m_a0 r_a0 rfl).trans e11
    have hbm2 := BM_of h m_a0 r_a0
    refine lv_aload_n F.1 F.2.1 dX11_mark_40 rfl (lv_at hl 0 rfl) ?_
    refine lv_aload_n F.1 F.2.1 dX11_mark_41 rfl (lv_at hl 0 rfl) ?_
    refine g_11_69 F h m_a0 r_a0 dX11_mark_42 (fun v19 hv19 hv19a hv19b => ?_)
    refine tw_Vi (As := [.int v19]) F hZ h yk_X11_grant mw_442 mw_443 mw_444 (s_X11_grantM l D cy L R O f16 a0 m_a0 r_a0 v19) rfl rfl m_a0 r_a0 (fun e q => (T_11 e).mp q) rfl hl.1 rfl (Nat.le_of_ble_eq_true rfl) ⟨Nat.le_of_ble_eq_true rfl, Nat.le_of_ble_eq_true rfl⟩ ⟨Nat.le_of_ble_eq_true rfl, Nat.le_of_ble_eq_true rfl⟩ dX11_mark_45 (fun v21 f20 H locs hp20 h => ?_)
    obtain ⟨hf20, hv21p0⟩ := hp20
    have hI : IB L R O P f20 a0_reader := IB_fr hI hG.1 hf20 (by decide +kernel) (by decide +kernel) (by decide +kernel) m_a0_reader r_a0_reader
    have hG : GG L R O f20 := hG.fr hf20 (by decide +kernel) (by decide +kernel)
    have hk : fr L R [(0, 5), (0, 6), (4, 1), (6, 14), (6, 15), (6, 16), (6, 17), (6, 18), (8, 1), (8, 2), (11, 11), (11, 14)] [0, 4, 6, 8, 11, 23, 35, 36, 37, 38, 39, 40, 41, 42, 43, 44] f0 f20 := hk.tr hf20 rfl rfl
    have e22 : fld f20 a0 2 = .ref a0_reader := (hf20.efl m_a0 r_a0 rfl).trans e17
    have e23 : fld f20 a0 3 = .ref a0_book := (hf20.efl m_a0 r_a0 rfl).trans e18
    have e24 : fi f20 a0 11 = fi f16 a0 11 := hf20.efi m_a0 r_a0 rfl
    exact hret f20 _ _ _ _ v21 dX11_mark_48 rfl ⟨hk, hG, by rw [rfa_of t_a0_reader]; exact hI, by omega, ⟨by have q1 := BK_mk (n := v5.toInt.toNat) hbm pre1 hf8 m_a0 r_a0 (by decide +kernel) (by decide +kernel) (by decide +kernel) (by omega) (by rw [(CK_of ho4 eo6).1]; exact hv9p2) ((congrArg (fun z => fi _ z 6) (CK_of ho4 eo6).1).trans hv9p1); have q2 := BKc hbm1 hf16 m_a0 r_a0 (by decide +kernel) (by decide +kernel) (by decide +kernel) (by decide +kernel); have q3 := BKc hbm2 hf20 m_a0 r_a0 (by decide +kernel) (by decide +kernel) (by decide +kernel) (by decide +kernel); have q4 := CB_of t_a0_book; have q5 := q1.1; have q6 := q2.1; have q7 := q3.1; omega, by have q1 := BK_mk (n := v5.toInt.toNat) hbm pre1 hf8 m_a0 r_a0 (by decide +kernel) (by decide +kernel) (by decide +kernel) (by omega) (by rw [(CK_of ho4 eo6).1]; exact hv9p2) ((congrArg (fun z => fi _ z 6) (CK_of ho4 eo6).1).trans hv9p1); have q2 := BKc hbm1 hf16 m_a0 r_a0 (by decide +kernel) (by decide +kernel) (by decide +kernel) (by decide +kernel); have q3 := BKc hbm2 hf20 m_a0 r_a0 (by decide +kernel) (by decide +kernel) (by decide +kernel) (by decide +kernel); have q4 := CB_of t_a0_book; have q5 := q1.1; have q6 := q2.1; have q7 := q3.1; have w1 := q1.2 0 (by omega); have w2 := q2.2 0 (by omega); have w3 := q3.2 0 (by omega); omega, by have q1 := BK_mk (n := v5.toInt.toNat) hbm pre1 hf8 m_a0 r_a0 (by decide +kernel) (by decide +kernel) (by decide +kernel) (by omega) (by rw [(CK_of ho4 eo6).1]; exact hv9p2) ((congrArg (fun z => fi _ z 6) (CK_of ho4 eo6).1).trans hv9p1); have q2 := BKc hbm1 hf16 m_a0 r_a0 (by decide +kernel) (by decide +kernel) (by decide +kernel) (by decide +kernel); have q3 := BKc hbm2 hf20 m_a0 r_a0 (by decide +kernel) (by decide +kernel) (by decide +kernel) (by decide +kernel); have q4 := CB_of t_a0_book; have q5 := q1.1; have q6 := q2.1; have q7 := q3.1; have w1 := q1.2 1 (by omega); have w2 := q2.2 1 (by omega); have w3 := q3.2 1 (by omega); omega, by have q1 := BK_mk (n := v5.toInt.toNat) hbm pre1 hf8 m_a0 r_a0 (by decide +kernel) (by decide +kernel) (by decide +kernel) (by omega) (by rw [(CK_of ho4 eo6).1]; exact hv9p2) ((congrArg (fun z => fi _ z 6) (CK_of ho4 eo6).1).trans hv9p1); have q2 := BKc hbm1 hf16 m_a0 r_a0 (by decide +kernel) (by decide +kernel) (by decide +kernel) (by decide +kernel); have q3 := BKc hbm2 hf20 m_a0 r_a0 (by decide +kernel) (by decide +kernel) (by decide +kernel) (by decide +kernel); have q4 := CB_of t_a0_book; have q5 := q1.1; have q6 := q2.1; have q7 := q3.1; have w1 := q1.2 2 (by omega); have w2 := q2.2 2 (by omega); have w3 := q3.2 2 (by omega); omega⟩⟩ h
  · refine lv_aload_n F.1 F.2.1 dX11_mark_8 rfl (lv_at hl 0 rfl) ?_
    refine tw_iconst F dX11_mark_9 ki_4 (fun z25 hz25 => ?_)
    refine tw_Vi (As := [.int z25]) F hZ h yk_X11_refuse mw_378 mw_379 mw_380 (s_X11_refuseM l D cy L R O f0 a0 m_a0 r_a0 z25 ⟨by omega, by omega⟩) rfl rfl m_a0 r_a0 (fun e q => (T_11 e).mp q) rfl hl.1 rfl (Nat.le_of_ble_eq_true rfl) ⟨Nat.le_of_ble_eq_true rfl, Nat.le_of_ble_eq_true rfl⟩ ⟨Nat.le_of_ble_eq_true rfl, Nat.le_of_ble_eq_true rfl⟩ dX11_mark_10 (fun v27 f26 H locs hp26 h => ?_)
    obtain ⟨hf26, hv27a, hv27b, hv27p0⟩ := hp26
    have hI : IB L R O P f26 a0_reader := IB_fr hI hG.1 hf26 (by decide +kernel) (by decide +kernel) (by decide +kernel) m_a0_reader r_a0_reader
    have hG : GG L R O f26 := hG.fr hf26 (by decide +kernel) (by decide +kernel)
    have hk : fr L R [(0, 5), (0, 6), (4, 1), (6, 14), (6, 15), (6, 16), (6, 17), (6, 18), (8, 1), (8, 2), (11, 11), (11, 14)] [0, 4, 6, 8, 11, 23, 35, 36, 37, 38, 39, 40, 41, 42, 43, 44] f0 f26 := hk.tr hf26 rfl rfl
    have e28 : fld f26 a0 2 = .ref a0_reader := (hf26.efl m_a0 r_a0 rfl).trans t_a0_reader
    have e29 : fld f26 a0 3 = .ref a0_book := (hf26.efl m_a0 r_a0 rfl).trans t_a0_book
    have e30 : fi f26 a0 11 = fi f0 a0 11 := hf26.efi m_a0 r_a0 rfl
    exact hret f26 _ _ _ _ v27 dX11_mark_13 rfl ⟨hk, hG, by rw [rfa_of t_a0_reader]; exact hI, by omega, ⟨(BKc hbm hf26 m_a0 r_a0 (by decide +kernel) (by decide +kernel) (by decide +kernel) (by decide +kernel)).1, Or.inr ⟨by omega, (BKc hbm hf26 m_a0 r_a0 (by decide +kernel) (by decide +kernel) (by decide +kernel) (by decide +kernel)).2 0 (by omega)⟩, Or.inr ⟨by omega, (BKc hbm hf26 m_a0 r_a0 (by decide +kernel) (by decide +kernel) (by decide +kernel) (by decide +kernel)).2 1 (by omega)⟩, Or.inr ⟨by omega, (BKc hbm hf26 m_a0 r_a0 (by decide +kernel) (by decide +kernel) (by decide +kernel) (by decide +kernel)).2 2 (by omega)⟩⟩⟩ h
def rm_X11_backC : Room := { frames := 4, cells := 0, slots := 0, locals := 105 }
set_option maxHeartbeats 4000000 in
set_option maxRecDepth 100000 in
theorem s_X11_backC (l : Launch) (D : va_G) (cy : Nat → ClassId) (L : List Nat) (R O : Nat → Nat) (f0 : Nat → va_E) (hG : GG L R O f0) (a0 : Nat) (m_a0 : a0 ∈ L) (r_a0 : R a0 = 11) (P : Nat → Nat) (pre0 : IB L R O P f0 (rfa f0 a0 2)) (pre1 : PB P f0 a0) : ∀ sz, Met l yX11_back (Cond.code yX11_back cX11_back 1 (some .int) :: wsL_law) rm_X11_backC (va_Pc [.ref a0] (tPZ D cy L R (TT cy L R) f0 sz)) (va_Qi (fun (r : Int32) f1 => fr L R [(0, 5), (0, 6), (4, 1), (6, 14), (6, 15), (6, 16), (6, 17), (6, 18), (8, 1), (8, 2), (11, 11), (11, 14)] [0, 4, 6, 8, 11, 23, 35, 36, 37, 38, 39, 40, 41, 42, 43, 44] f0 f1 ∧ GG L R O f1 ∧ IB L R O P f1 (rfa f0 a0 2) ∧ ((r.toInt = -1 ∧ fi f0 a0 11 ≤ 0 ∧ fi f1 a0 11 = fi f0 a0 11) ∨ (r.toInt = fi f0 a0 11 - 1 ∧ 1 ≤ fi f0 a0 11 ∧ fi f1 a0 11 = fi f0 a0 11 - 1)) ∧ (((r.toInt = -1 ∧ CB f1 a0 = CB f0 a0) ∨ (r.toInt = 0 ∧ CB f1 a0 = CK f0 a0 0) ∨ (r.toInt = 1 ∧ CB f1 a0 = CK f0 a0 1) ∨ (r.toInt = 2 ∧ CB f1 a0 = CK f0 a0 2)) ∧ (CK f1 a0 0 = CK f0 a0 0 ∧ CK f1 a0 1 = CK f0 a0 1 ∧ CK f1 a0 2 = CK f0 a0 2))) (tB D (tA L sz) L R (TT cy L R)) (tA L sz)) 0 0 (tA L sz) := by
  refine tw_enteri (by decide +kernel) rfl (Nat.le_of_ble_eq_true rfl) ?_
  intro p e s m below meth c A ls args Q F hZ h hl hret
  have hl : lv_has ls 1 [(0, .ref a0)] := hl
  have hk : fr L R [(0, 5), (0, 6), (4, 1), (6, 14), (6, 15), (6, 16), (6, 17), (6, 18), (8, 1), (8, 2), (11, 11), (11, 14)] [0, 4, 6, 8, 11, 23, 35, 36, 37, 38, 39, 40, 41, 42, 43, 44] f0 f0 := fr.rf
  obtain ⟨a0_reader, m_a0_reader, r_a0_reader, t_a0_reader⟩ := h.rf m_a0 r_a0 (fun e q => (T_11 e).mp q) (k := 2) rfl
  obtain ⟨a0_book, m_a0_book, r_a0_book, t_a0_book⟩ := h.rf m_a0 r_a0 (fun e q => (T_11 e).mp q) (k := 3) rfl
  rw [rfa_of t_a0_reader] at pre0
  have hI := pre0
  have hbm := BM_of h m_a0 r_a0
  refine lv_aload_n F.1 F.2.1 dX11_back_0 rfl (lv_at hl 0 rfl) ?_
  refine g_11_69 F h m_a0 r_a0 dX11_back_1 (fun v1 hv1 hv1a hv1b => ?_)
  refine tw_if_gt (tgt := 14) F dX11_back_4 (by decide) (fun b2 => ?_) (fun b2 => ?_)
  · refine lv_aload_n F.1 F.2.1 dX11_back_14 rfl (lv_at hl 0 rfl) ?_
    refine lv_dup F.1 F.2.1 dX11_back_15 rfl ?_
    refine g_11_69 F h m_a0 r_a0 dX11_back_16 (fun v3 hv3 hv3a hv3b => ?_)
    refine tw_iconst F dX11_back_19 ki_1 (fun z4 hz4 => ?_)
    refine tu_isub F dX11_back_20 (by omega) (fun z5 hz5 => ?_)
    refine p_11_69 F h m_a0 r_a0 (by omega) dX11_back_21 (fun f6 H locs e6p hf6 h => ?_)
    have hI : IB L R O P f6 a0_reader := IB_fr hI hG.1 hf6 (by decide +kernel) (by decide +kernel) (by decide +kernel) m_a0_reader r_a0_reader
    have hG : GG L R O f6 := hG.fr hf6 (by decide +kernel) (by decide +kernel)
    have hk : fr L R [(0, 5), (0, 6), (4, 1), (6, 14), (6, 15), (6, 16), (6, 17), (6, 18), (8, 1), (8, 2), (11, 11), (11, 14)] [0, 4, 6, 8, 11, 23, 35, 36, 37, 38, 39, 40, 41, 42, 43, 44] f0 f6 := hk.tr hf6 rfl rfl
    have e7 : fld f6 a0 2 = .ref a0_reader := (hf6.efl m_a0 r_a0 rfl).trans t_a0_reader
    have e8 : fld f6 a0 3 = .ref a0_book := (hf6.efl m_a0 r_a0 rfl).trans t_a0_book
    have hbm1 := BM_of h m_a0 r_a0
    have hpb1 : PB P f6 a0 := PB.fr pre1 hbm hf6 m_a0 r_a0 (by decide +kernel) (by decide +kernel) (by decide +kernel)
    refine lv_aload_n F.1 F.2.1 dX11_back_24 rfl (lv_at hl 0 rfl) ?_
    refine g_11_29 F h m_a0 r_a0 dX11_back_25 (fun o9 m_o9 r_o9 ho9 => ?_)
    obtain rfl := (fld_inj e8 ho9).symm
    refine lv_aload_n F.1 F.2.1 dX11_back_28 rfl (lv_at hl 0 rfl) ?_
    refine g_11_33 F h m_a0 r_a0 dX11_back_29 (fun o10 m_o10 r_o10 ho10 => ?_)
    refine lv_aload_n F.1 F.2.1 dX11_back_32 rfl (lv_at hl 0 rfl) ?_
    refine g_11_69 F h m_a0 r_a0 dX11_back_33 (fun v11 hv11 hv11a hv11b => ?_)
    refine le_57 F h m_o10 r_o10 (by omega) dX11_back_36 (fun o12 m_o12 r_o12 eo12 => ?_)
    have hGo := hG
    refine tw_Vv (As := [.ref o12]) F hZ h yk_X0_copy mw_1561 mw_1562 mw_1563 (s_X0_copyC l D cy L R O f6 hG a0_book m_a0_book r_a0_book o12 m_o12 r_o12 P a0_reader m_a0_reader r_a0_reader hI) rfl rfl m_a0_book r_a0_book (fun e q => (T_0 e).mp q) rfl hl.1 rfl (Nat.le_of_ble_eq_true rfl) ⟨Nat.le_of_ble_eq_true rfl, Nat.le_of_ble_eq_true rfl⟩ ⟨Nat.le_of_ble_eq_true rfl, Nat.le_of_ble_eq_true rfl⟩ dX11_back_37 (fun f13 H locs hp13 h => ?_)
    obtain ⟨hf13, hG, hv14p0, hv14p1, hv14p2⟩ := hp13
    have hk : fr L R [(0, 5), (0, 6), (4, 1), (6, 14), (6, 15), (6, 16), (6, 17), (6, 18), (8, 1), (8, 2), (11, 11), (11, 14)] [0, 4, 6, 8, 11, 23, 35, 36, 37, 38, 39, 40, 41, 42, 43, 44] f0 f13 := hk.tr hf13 (by decide +kernel) (by decide +kernel)
    have e15 : fld f13 a0 2 = .ref a0_reader := (hf13.efl m_a0 r_a0 rfl).trans e7
    have e16 : fld f13 a0 3 = .ref a0_book := (hf13.efl m_a0 r_a0 rfl).trans e8
    have e17 : fi f13 a0 11 = fi f6 a0 11 := hf13.efi m_a0 r_a0 rfl
    have hI : IB L R O P f13 a0_reader := hv14p0
    have hbm2 := BM_of h m_a0 r_a0
    have cb37 := CB_of e16
    refine lv_aload_n F.1 F.2.1 dX11_back_40 rfl (lv_at hl 0 rfl) ?_
    refine lv_aload_n F.1 F.2.1 dX11_back_41 rfl (lv_at hl 0 rfl) ?_
    refine g_11_69 F h m_a0 r_a0 dX11_back_42 (fun v18 hv18 hv18a hv18b => ?_)
    refine tw_Vi (As := [.int v18]) F hZ h yk_X11_grant mw_442 mw_443 mw_444 (s_X11_grantM l D cy L R O f13 a0 m_a0 r_a0 v18) rfl rfl m_a0 r_a0 (fun e q => (T_11 e).mp q) rfl hl.1 rfl (Nat.le_of_ble_eq_true rfl) ⟨Nat.le_of_ble_eq_true rfl, Nat.le_of_ble_eq_true rfl⟩ ⟨Nat.le_of_ble_eq_true rfl, Nat.le_of_ble_eq_true rfl⟩ dX11_back_45 (fun v20 f19 H locs hp19 h => ?_)
    obtain ⟨hf19, hv20p0⟩ := hp19
    have hI : IB L R O P f19 a0_reader := IB_fr hI hG.1 hf19 (by decide +kernel) (by decide +kernel) (by decide +kernel) m_a0_reader r_a0_reader
    have hG : GG L R O f19 := hG.fr hf19 (by decide +kernel) (by decide +kernel)
    have hk : fr L R [(0, 5), (0, 6), (4, 1), (6, 14), (6, 15), (6, 16), (6, 17), (6, 18), (8, 1), (8, 2), (11, 11), (11, 14)] [0, 4, 6, 8, 11, 23, 35, 36, 37, 38, 39, 40, 41, 42, 43, 44] f0 f19 := hk.tr hf19 rfl rfl
    have e21 : fld f19 a0 2 = .ref a0_reader := (hf19.efl m_a0 r_a0 rfl).trans e15
    have e22 : fld f19 a0 3 = .ref a0_book := (hf19.efl m_a0 r_a0 rfl).trans e16
    have e23 : fi f19 a0 11 = fi f13 a0 11 := hf19.efi m_a0 r_a0 rfl
    exact hret f19 _ _ _ _ v20 dX11_back_48 rfl ⟨hk, hG, by rw [rfa_of t_a0_reader]; exact hI, by omega, ⟨(if e0 : v20.toInt = 0 then Or.inr (Or.inl ⟨by omega, by have q3 := (BKc hbm2 hf19 m_a0 r_a0 (by decide +kernel) (by decide +kernel) (by decide +kernel) (by decide +kernel)).1; have q4 := cb37; have q5 := (CK_of ho10 eo12).2; have q6 := hv14p1; have q7 := (BKc hbm hf6 m_a0 r_a0 (by decide +kernel) (by decide +kernel) (by decide +kernel) (by decide +kernel)).2 0 (by omega); rw [show v11.toInt.toNat = 0 by omega] at q5; omega⟩) else if e1 : v20.toInt = 1 then Or.inr (Or.inr (Or.inl ⟨by omega, by have q3 := (BKc hbm2 hf19 m_a0 r_a0 (by decide +kernel) (by decide +kernel) (by decide +kernel) (by decide +kernel)).1; have q4 := cb37; have q5 := (CK_of ho10 eo12).2; have q6 := hv14p1; have q7 := (BKc hbm hf6 m_a0 r_a0 (by decide +kernel) (by decide +kernel) (by decide +kernel) (by decide +kernel)).2 1 (by omega); rw [show v11.toInt.toNat = 1 by omega] at q5; omega⟩)) else Or.inr (Or.inr (Or.inr ⟨by omega, by have q3 := (BKc hbm2 hf19 m_a0 r_a0 (by decide +kernel) (by decide +kernel) (by decide +kernel) (by decide +kernel)).1; have q4 := cb37; have q5 := (CK_of ho10 eo12).2; have q6 := hv14p1; have q7 := (BKc hbm hf6 m_a0 r_a0 (by decide +kernel) (by decide +kernel) (by decide +kernel) (by decide +kernel)).2 2 (by omega); rw [show v11.toInt.toNat = 2 by omega] at q5; omega⟩))), by have q1 := (BKc hbm hf6 m_a0 r_a0 (by decide +kernel) (by decide +kernel) (by decide +kernel) (by decide +kernel)).2 0 (by omega); have q2 := BK_one hbm1 hpb1 hf13 m_a0 r_a0 (by decide +kernel) (by decide +kernel) (by rw [rfa_of e8]; exact hv14p2) 0 (by omega); have q3 := (BKc hbm2 hf19 m_a0 r_a0 (by decide +kernel) (by decide +kernel) (by decide +kernel) (by decide +kernel)).2 0 (by omega); omega, by have q1 := (BKc hbm hf6 m_a0 r_a0 (by decide +kernel) (by decide +kernel) (by decide +kernel) (by decide +kernel)).2 1 (by omega); have q2 := BK_one hbm1 hpb1 hf13 m_a0 r_a0 (by decide +kernel) (by decide +kernel) (by rw [rfa_of e8]; exact hv14p2) 1 (by omega); have q3 := (BKc hbm2 hf19 m_a0 r_a0 (by decide +kernel) (by decide +kernel) (by decide +kernel) (by decide +kernel)).2 1 (by omega); omega, by have q1 := (BKc hbm hf6 m_a0 r_a0 (by decide +kernel) (by decide +kernel) (by decide +kernel) (by decide +kernel)).2 2 (by omega); have q2 := BK_one hbm1 hpb1 hf13 m_a0 r_a0 (by decide +kernel) (by decide +kernel) (by rw [rfa_of e8]; exact hv14p2) 2 (by omega); have q3 := (BKc hbm2 hf19 m_a0 r_a0 (by decide +kernel) (by decide +kernel) (by decide +kernel) (by decide +kernel)).2 2 (by omega); omega⟩⟩ h
  · refine lv_aload_n F.1 F.2.1 dX11_back_7 rfl (lv_at hl 0 rfl) ?_
    refine tw_bipush F dX11_back_8 kb_6 (fun z24 hz24 => ?_)
    refine tw_Vi (As := [.int z24]) F hZ h yk_X11_refuse mw_378 mw_379 mw_380 (s_X11_refuseM l D cy L R O f0 a0 m_a0 r_a0 z24 ⟨by omega, by omega⟩) rfl rfl m_a0 r_a0 (fun e q => (T_11 e).mp q) rfl hl.1 rfl (Nat.le_of_ble_eq_true rfl) ⟨Nat.le_of_ble_eq_true rfl, Nat.le_of_ble_eq_true rfl⟩ ⟨Nat.le_of_ble_eq_true rfl, Nat.le_of_ble_eq_true rfl⟩ dX11_back_10 (fun v26 f25 H locs hp25 h => ?_)
    obtain ⟨hf25, hv26a, hv26b, hv26p0⟩ := hp25
    have hI : IB L R O P f25 a0_reader := IB_fr hI hG.1 hf25 (by decide +kernel) (by decide +kernel) (by decide +kernel) m_a0_reader r_a0_reader
    have hG : GG L R O f25 := hG.fr hf25 (by decide +kernel) (by decide +kernel)
    have hk : fr L R [(0, 5), (0, 6), (4, 1), (6, 14), (6, 15), (6, 16), (6, 17), (6, 18), (8, 1), (8, 2), (11, 11), (11, 14)] [0, 4, 6, 8, 11, 23, 35, 36, 37, 38, 39, 40, 41, 42, 43, 44] f0 f25 := hk.tr hf25 rfl rfl
    have e27 : fld f25 a0 2 = .ref a0_reader := (hf25.efl m_a0 r_a0 rfl).trans t_a0_reader
    have e28 : fld f25 a0 3 = .ref a0_book := (hf25.efl m_a0 r_a0 rfl).trans t_a0_book
    have e29 : fi f25 a0 11 = fi f0 a0 11 := hf25.efi m_a0 r_a0 rfl
    exact hret f25 _ _ _ _ v26 dX11_back_13 rfl ⟨hk, hG, by rw [rfa_of t_a0_reader]; exact hI, by omega, ⟨Or.inl ⟨by omega, (BKc hbm hf25 m_a0 r_a0 (by decide +kernel) (by decide +kernel) (by decide +kernel) (by decide +kernel)).1⟩, ⟨(BKc hbm hf25 m_a0 r_a0 (by decide +kernel) (by decide +kernel) (by decide +kernel) (by decide +kernel)).2 0 (by omega), (BKc hbm hf25 m_a0 r_a0 (by decide +kernel) (by decide +kernel) (by decide +kernel) (by decide +kernel)).2 1 (by omega), (BKc hbm hf25 m_a0 r_a0 (by decide +kernel) (by decide +kernel) (by decide +kernel) (by decide +kernel)).2 2 (by omega)⟩⟩⟩ h
def rm_X12_markC : Room := { frames := 1, cells := 0, slots := 0, locals := 24 }
set_option maxHeartbeats 4000000 in
set_option maxRecDepth 100000 in
theorem s_X12_markC (l : Launch) (D : va_G) (cy : Nat → ClassId) (L : List Nat) (R O : Nat → Nat) (f0 : Nat → va_E) (a0 : Nat) (m_a0 : a0 ∈ L) (r_a0 : R a0 = 12) (GA : Nat) (m_GA : GA ∈ L) (r_GA : R GA = 61) (t_GA : fld f0 a0 0 = .ref GA) (GP : Nat) (m_GP : GP ∈ L) (r_GP : R GP = 69) (t_GP : fld f0 a0 22 = .ref GP) (GL : Nat) (m_GL : GL ∈ L) (r_GL : R GL = 70) (t_GL : fld f0 a0 23 = .ref GL) (GT : Nat) (m_GT : GT ∈ L) (r_GT : R GT = 64) (t_GT : fld f0 a0 6 = .ref GT) (pre0 : RBA GA f0) (pre1 : GZ GP GL f0) : ∀ sz, Met l yX12_mark (Cond.code yX12_mark cX12_mark 1 (some .int) :: wsL_law) rm_X12_markC (va_Pc [.ref a0] (tPZ D cy L R (TT cy L R) f0 sz)) (va_Qi (fun (r : Int32) f1 => fr L R [(12, 1), (12, 64)] [12, 61] f0 f1 ∧ RBA GA f1 ∧ GZ GP GL f1 ∧ ((r.toInt = -1 ∧ 3 ≤ fi f0 a0 64 ∧ fi f1 a0 64 = fi f0 a0 64) ∨ (r.toInt = fi f0 a0 64 + 1 ∧ fi f0 a0 64 < 3 ∧ fi f1 a0 64 = fi f0 a0 64 + 1)) ∧ (elj f1 GA 5159 = elj f0 GA 5159 ∧ ((r.toInt ≠ -1 ∧ fi f0 a0 64 = 0 ∧ elj f1 GA 10349 = elj f0 GA 5159) ∨ ((r.toInt = -1 ∨ fi f0 a0 64 ≠ 0) ∧ elj f1 GA 10349 = elj f0 GA 10349)) ∧ ((r.toInt ≠ -1 ∧ fi f0 a0 64 = 1 ∧ elj f1 GA 15539 = elj f0 GA 5159) ∨ ((r.toInt = -1 ∨ fi f0 a0 64 ≠ 1) ∧ elj f1 GA 15539 = elj f0 GA 15539)) ∧ ((r.toInt ≠ -1 ∧ fi f0 a0 64 = 2 ∧ elj f1 GA 20729 = elj f0 GA 5159) ∨ ((r.toInt = -1 ∨ fi f0 a0 64 ≠ 2) ∧ elj f1 GA 20729 = elj f0 GA 20729)))) (tB D (tA L sz) L R (TT cy L R)) (tA L sz)) 0 0 (tA L sz) := by
  refine tw_enteri (by decide +kernel) rfl (Nat.le_of_ble_eq_true rfl) ?_
  intro p e s m below meth c A ls args Q F hZ h hl hret
  have hl : lv_has ls 1 [(0, .ref a0)] := hl
  have hk : fr L R [(12, 1), (12, 64)] [12, 61] f0 f0 := fr.rf
  have t_a0_marks := h.bfi m_a0 r_a0 (fun e q => (T_12 e).mp q) (k := 64) rfl
  have hR := pre0
  have hX := pre1
  have hE0 : (∀ j : Nat, elj f0 GA j = elj f0 GA j) := fun _ => rfl
  refine lv_aload_n F.1 F.2.1 dX12_mark_0 rfl (lv_at hl 0 rfl) ?_
  refine g_12_460 F h m_a0 r_a0 dX12_mark_1 (fun v1 hv1 hv1a hv1b => ?_)
  refine tw_iconst F dX12_mark_4 ki_3 (fun z2 hz2 => ?_)
  refine tw_icmp_ne (tgt := 14) F dX12_mark_5 (by decide) (fun b3 => ?_) (fun b3 => ?_)
  · refine lv_aload_n F.1 F.2.1 dX12_mark_14 rfl (lv_at hl 0 rfl) ?_
    refine lv_dup F.1 F.2.1 dX12_mark_15 rfl ?_
    refine g_12_460 F h m_a0 r_a0 dX12_mark_16 (fun v4 hv4 hv4a hv4b => ?_)
    refine tw_iconst F dX12_mark_19 ki_1 (fun z5 hz5 => ?_)
    refine tu_iadd F dX12_mark_20 (by omega) (fun z6 hz6 => ?_)
    refine p_12_460 F h m_a0 r_a0 (by omega) dX12_mark_21 (fun f7 H locs e7p hf7 h => ?_)
    have hR : RBA GA f7 := hR.fm hf7 m_GA r_GA (by decide +kernel)
    have hX : GZ GP GL f7 := hX.fm hf7 m_GP r_GP m_GL r_GL (by decide +kernel) (by decide +kernel)
    have hE0 : (∀ j : Nat, elj f7 GA j = elj f0 GA j) := fun j => (hf7.eelj m_GA r_GA (by decide +kernel) j).trans (hE0 j)
    have hk : fr L R [(12, 1), (12, 64)] [12, 61] f0 f7 := hk.tr hf7 rfl rfl
    have e8 : fld f7 a0 0 = .ref GA := (hf7.efl m_a0 r_a0 rfl).trans t_GA
    have e9 : fld f7 a0 22 = .ref GP := (hf7.efl m_a0 r_a0 rfl).trans t_GP
    have e10 : fld f7 a0 23 = .ref GL := (hf7.efl m_a0 r_a0 rfl).trans t_GL
    have e11 : fld f7 a0 6 = .ref GT := (hf7.efl m_a0 r_a0 rfl).trans t_GT
    refine lv_aload_n F.1 F.2.1 dX12_mark_24 rfl (lv_at hl 0 rfl) ?_
    refine tw_iconst F dX12_mark_25 ki_0 (fun z12 hz12 => ?_)
    refine tw_sipush F dX12_mark_26 ks_5190 (fun z13 hz13 => ?_)
    refine lv_aload_n F.1 F.2.1 dX12_mark_29 rfl (lv_at hl 0 rfl) ?_
    refine g_12_460 F h m_a0 r_a0 dX12_mark_30 (fun v14 hv14 hv14a hv14b => ?_)
    refine tu_imull F dX12_mark_33 hz13 (by omega) (fun z15 hz15 => ?_)
    refine tw_sipush F dX12_mark_34 ks_5190 (fun z16 hz16 => ?_)
    have hR0 := hR
    refine tw_Vv (As := [.int z12, .int z15, .int z16]) F hZ h yk_X12_copies mw_749 mw_750 mw_751 (s_X12_copies l D cy L R O f7 a0 m_a0 r_a0 z12 ⟨by omega, by omega⟩ z15 ⟨by omega, by omega⟩ z16 ⟨by omega, by omega⟩ GA m_GA r_GA e8 GP m_GP r_GP e9 GL m_GL r_GL e10 GT m_GT r_GT e11 (by rw [show z16.toInt.toNat = 5190 by omega, show z12.toInt.toNat = 0 by omega]; exact CPc_m (m := z15.toInt.toNat / 5190) (by omega) (by omega)) (by omega) (by omega) (by omega)) rfl rfl m_a0 r_a0 (fun e q => (T_12 e).mp q) rfl hl.1 rfl (Nat.le_of_ble_eq_true rfl) ⟨Nat.le_of_ble_eq_true rfl, Nat.le_of_ble_eq_true rfl⟩ ⟨Nat.le_of_ble_eq_true rfl, Nat.le_of_ble_eq_true rfl⟩ dX12_mark_37 (fun f17 H locs hp17 h => ?_)
    obtain ⟨hf17, hv18p0, hv18p1⟩ := hp17
    have hX : GZ GP GL f17 := hX.fm hf17 m_GP r_GP m_GL r_GL (by decide +kernel) (by decide +kernel)
    have hk : fr L R [(12, 1), (12, 64)] [12, 61] f0 f17 := hk.tr hf17 rfl rfl
    have e19 : fld f17 a0 0 = .ref GA := (hf17.efl m_a0 r_a0 rfl).trans e8
    have e20 : fld f17 a0 22 = .ref GP := (hf17.efl m_a0 r_a0 rfl).trans e9
    have e21 : fld f17 a0 23 = .ref GL := (hf17.efl m_a0 r_a0 rfl).trans e10
    have e22 : fld f17 a0 6 = .ref GT := (hf17.efl m_a0 r_a0 rfl).trans e11
    have e23 : fi f17 a0 64 = fi f7 a0 64 := hf17.efi m_a0 r_a0 rfl
    have hR : RBA GA f17 := RBA.mk (m := z15.toInt.toNat / 5190) (a := z15.toInt.toNat) hR0 (by omega) (by omega) (by have q := hv18p0; rw [show z16.toInt.toNat = 5190 by omega] at q; exact q) (fun q hq => by have w := hv18p1 q (by omega); rw [show z12.toInt.toNat = 0 by omega] at w; exact w)
    have hE1 : ((∀ j : Nat, (j < z15.toInt.toNat ∨ z15.toInt.toNat + 5190 ≤ j) → elj f17 GA j = elj f0 GA j) ∧ ∀ q : Nat, q < 5190 → elj f17 GA (z15.toInt.toNat + q) = elj f0 GA q) := ⟨fun j hj => (hv18p0 j (by omega)).trans (hE0 j), fun q hq => by have w := hv18p1 q (by omega); rw [show z12.toInt.toNat + q = q by omega] at w; exact w.trans (hE0 q)⟩
    refine lv_aload_n F.1 F.2.1 dX12_mark_40 rfl (lv_at hl 0 rfl) ?_
    refine lv_aload_n F.1 F.2.1 dX12_mark_41 rfl (lv_at hl 0 rfl) ?_
    refine g_12_460 F h m_a0 r_a0 dX12_mark_42 (fun v24 hv24 hv24a hv24b => ?_)
    refine tw_Vi (As := [.int v24]) F hZ h yk_X12_gives mw_499 mw_500 mw_501 (s_X12_givesM l D cy L R O f17 a0 m_a0 r_a0 v24) rfl rfl m_a0 r_a0 (fun e q => (T_12 e).mp q) rfl hl.1 rfl (Nat.le_of_ble_eq_true rfl) ⟨Nat.le_of_ble_eq_true rfl, Nat.le_of_ble_eq_true rfl⟩ ⟨Nat.le_of_ble_eq_true rfl, Nat.le_of_ble_eq_true rfl⟩ dX12_mark_45 (fun v26 f25 H locs hp25 h => ?_)
    obtain ⟨hf25, hv26p0⟩ := hp25
    have hX : GZ GP GL f25 := hX.fm hf25 m_GP r_GP m_GL r_GL (by decide +kernel) (by decide +kernel)
    have hR : RBA GA f25 := hR.fm hf25 m_GA r_GA (by decide +kernel)
    have hE1 : ((∀ j : Nat, (j < z15.toInt.toNat ∨ z15.toInt.toNat + 5190 ≤ j) → elj f25 GA j = elj f0 GA j) ∧ ∀ q : Nat, q < 5190 → elj f25 GA (z15.toInt.toNat + q) = elj f0 GA q) := ⟨fun j hj => (hf25.eelj m_GA r_GA (by decide +kernel) _).trans (hE1.1 j hj), fun q hq => (hf25.eelj m_GA r_GA (by decide +kernel) _).trans (hE1.2 q hq)⟩
    have hk : fr L R [(12, 1), (12, 64)] [12, 61] f0 f25 := hk.tr hf25 rfl rfl
    have e27 : fld f25 a0 0 = .ref GA := (hf25.efl m_a0 r_a0 rfl).trans e19
    have e28 : fld f25 a0 22 = .ref GP := (hf25.efl m_a0 r_a0 rfl).trans e20
    have e29 : fld f25 a0 23 = .ref GL := (hf25.efl m_a0 r_a0 rfl).trans e21
    have e30 : fld f25 a0 6 = .ref GT := (hf25.efl m_a0 r_a0 rfl).trans e22
    have e31 : fi f25 a0 64 = fi f17 a0 64 := hf25.efi m_a0 r_a0 rfl
    exact hret f25 _ _ _ _ v26 dX12_mark_48 rfl ⟨hk, hR, hX, by omega, ⟨hE1.1 5159 (by omega), (if e : fi f0 a0 64 = 0 then Or.inl ⟨by omega, e, by have w := hE1.2 5159 (by omega); rw [show z15.toInt.toNat + 5159 = 10349 by omega] at w; exact w⟩ else Or.inr ⟨Or.inr e, hE1.1 10349 (by omega)⟩), (if e : fi f0 a0 64 = 1 then Or.inl ⟨by omega, e, by have w := hE1.2 5159 (by omega); rw [show z15.toInt.toNat + 5159 = 15539 by omega] at w; exact w⟩ else Or.inr ⟨Or.inr e, hE1.1 15539 (by omega)⟩), (if e : fi f0 a0 64 = 2 then Or.inl ⟨by omega, e, by have w := hE1.2 5159 (by omega); rw [show z15.toInt.toNat + 5159 = 20729 by omega] at w; exact w⟩ else Or.inr ⟨Or.inr e, hE1.1 20729 (by omega)⟩)⟩⟩ h
  · refine lv_aload_n F.1 F.2.1 dX12_mark_8 rfl (lv_at hl 0 rfl) ?_
    refine tw_iconst F dX12_mark_9 ki_4 (fun z32 hz32 => ?_)
    refine tw_Vi (As := [.int z32]) F hZ h yk_X12_refuse mw_452 mw_453 mw_454 (s_X12_refuseM l D cy L R O f0 a0 m_a0 r_a0 z32 ⟨by omega, by omega⟩) rfl rfl m_a0 r_a0 (fun e q => (T_12 e).mp q) rfl hl.1 rfl (Nat.le_of_ble_eq_true rfl) ⟨Nat.le_of_ble_eq_true rfl, Nat.le_of_ble_eq_true rfl⟩ ⟨Nat.le_of_ble_eq_true rfl, Nat.le_of_ble_eq_true rfl⟩ dX12_mark_10 (fun v34 f33 H locs hp33 h => ?_)
    obtain ⟨hf33, hv34a, hv34b, hv34p0⟩ := hp33
    have hR : RBA GA f33 := hR.fm hf33 m_GA r_GA (by decide +kernel)
    have hX : GZ GP GL f33 := hX.fm hf33 m_GP r_GP m_GL r_GL (by decide +kernel) (by decide +kernel)
    have hE0 : (∀ j : Nat, elj f33 GA j = elj f0 GA j) := fun j => (hf33.eelj m_GA r_GA (by decide +kernel) j).trans (hE0 j)
    have hk : fr L R [(12, 1), (12, 64)] [12, 61] f0 f33 := hk.tr hf33 rfl rfl
    have e35 : fld f33 a0 0 = .ref GA := (hf33.efl m_a0 r_a0 rfl).trans t_GA
    have e36 : fld f33 a0 22 = .ref GP := (hf33.efl m_a0 r_a0 rfl).trans t_GP
    have e37 : fld f33 a0 23 = .ref GL := (hf33.efl m_a0 r_a0 rfl).trans t_GL
    have e38 : fld f33 a0 6 = .ref GT := (hf33.efl m_a0 r_a0 rfl).trans t_GT
    have e39 : fi f33 a0 64 = fi f0 a0 64 := hf33.efi m_a0 r_a0 rfl
    exact hret f33 _ _ _ _ v34 dX12_mark_13 rfl ⟨hk, hR, hX, by omega, ⟨hE0 5159, Or.inr ⟨by omega, hE0 10349⟩, Or.inr ⟨by omega, hE0 15539⟩, Or.inr ⟨by omega, hE0 20729⟩⟩⟩ h
def rm_X12_backC : Room := { frames := 1, cells := 0, slots := 0, locals := 24 }
set_option maxHeartbeats 4000000 in
set_option maxRecDepth 100000 in
theorem s_X12_backC (l : Launch) (D : va_G) (cy : Nat → ClassId) (L : List Nat) (R O : Nat → Nat) (f0 : Nat → va_E) (a0 : Nat) (m_a0 : a0 ∈ L) (r_a0 : R a0 = 12) (GA : Nat) (m_GA : GA ∈ L) (r_GA : R GA = 61) (t_GA : fld f0 a0 0 = .ref GA) (GP : Nat) (m_GP : GP ∈ L) (r_GP : R GP = 69) (t_GP : fld f0 a0 22 = .ref GP) (GL : Nat) (m_GL : GL ∈ L) (r_GL : R GL = 70) (t_GL : fld f0 a0 23 = .ref GL) (GT : Nat) (m_GT : GT ∈ L) (r_GT : R GT = 64) (t_GT : fld f0 a0 6 = .ref GT) (pre0 : RBA GA f0) (pre1 : GZ GP GL f0) : ∀ sz, Met l yX12_back (Cond.code yX12_back cX12_back 1 (some .int) :: wsL_law) rm_X12_backC (va_Pc [.ref a0] (tPZ D cy L R (TT cy L R) f0 sz)) (va_Qi (fun (r : Int32) f1 => fr L R [(12, 1), (12, 64)] [12, 61] f0 f1 ∧ RBA GA f1 ∧ GZ GP GL f1 ∧ ((r.toInt = -1 ∧ fi f0 a0 64 ≤ 0 ∧ fi f1 a0 64 = fi f0 a0 64) ∨ (r.toInt = fi f0 a0 64 - 1 ∧ 1 ≤ fi f0 a0 64 ∧ fi f1 a0 64 = fi f0 a0 64 - 1)) ∧ (((r.toInt = -1 ∧ elj f1 GA 5159 = elj f0 GA 5159) ∨ (r.toInt = 0 ∧ elj f1 GA 5159 = elj f0 GA 10349) ∨ (r.toInt = 1 ∧ elj f1 GA 5159 = elj f0 GA 15539) ∨ (r.toInt = 2 ∧ elj f1 GA 5159 = elj f0 GA 20729)) ∧ elj f1 GA 10349 = elj f0 GA 10349 ∧ elj f1 GA 15539 = elj f0 GA 15539 ∧ elj f1 GA 20729 = elj f0 GA 20729)) (tB D (tA L sz) L R (TT cy L R)) (tA L sz)) 0 0 (tA L sz) := by
  refine tw_enteri (by decide +kernel) rfl (Nat.le_of_ble_eq_true rfl) ?_
  intro p e s m below meth c A ls args Q F hZ h hl hret
  have hl : lv_has ls 1 [(0, .ref a0)] := hl
  have hk : fr L R [(12, 1), (12, 64)] [12, 61] f0 f0 := fr.rf
  have t_a0_marks := h.bfi m_a0 r_a0 (fun e q => (T_12 e).mp q) (k := 64) rfl
  have hR := pre0
  have hX := pre1
  have hE0 : (∀ j : Nat, elj f0 GA j = elj f0 GA j) := fun _ => rfl
  refine lv_aload_n F.1 F.2.1 dX12_back_0 rfl (lv_at hl 0 rfl) ?_
  refine g_12_460 F h m_a0 r_a0 dX12_back_1 (fun v1 hv1 hv1a hv1b => ?_)
  refine tw_if_ne (tgt := 14) F dX12_back_4 (by decide) (fun b2 => ?_) (fun b2 => ?_)
  · refine lv_aload_n F.1 F.2.1 dX12_back_14 rfl (lv_at hl 0 rfl) ?_
    refine tw_sipush F dX12_back_15 ks_5190 (fun z3 hz3 => ?_)
    refine lv_aload_n F.1 F.2.1 dX12_back_18 rfl (lv_at hl 0 rfl) ?_
    refine g_12_460 F h m_a0 r_a0 dX12_back_19 (fun v4 hv4 hv4a hv4b => ?_)
    refine tu_imull F dX12_back_22 hz3 (by omega) (fun z5 hz5 => ?_)
    refine tw_iconst F dX12_back_23 ki_0 (fun z6 hz6 => ?_)
    refine tw_sipush F dX12_back_24 ks_5190 (fun z7 hz7 => ?_)
    have hR0 := hR
    refine tw_Vv (As := [.int z5, .int z6, .int z7]) F hZ h yk_X12_copies mw_749 mw_750 mw_751 (s_X12_copies l D cy L R O f0 a0 m_a0 r_a0 z5 ⟨by omega, by omega⟩ z6 ⟨by omega, by omega⟩ z7 ⟨by omega, by omega⟩ GA m_GA r_GA t_GA GP m_GP r_GP t_GP GL m_GL r_GL t_GL GT m_GT r_GT t_GT (by rw [show z7.toInt.toNat = 5190 by omega, show z6.toInt.toNat = 0 by omega]; exact CPc_b (m := z5.toInt.toNat / 5190) (by omega) (by omega)) (by omega) (by omega) (by omega)) rfl rfl m_a0 r_a0 (fun e q => (T_12 e).mp q) rfl hl.1 rfl (Nat.le_of_ble_eq_true rfl) ⟨Nat.le_of_ble_eq_true rfl, Nat.le_of_ble_eq_true rfl⟩ ⟨Nat.le_of_ble_eq_true rfl, Nat.le_of_ble_eq_true rfl⟩ dX12_back_27 (fun f8 H locs hp8 h => ?_)
    obtain ⟨hf8, hv9p0, hv9p1⟩ := hp8
    have hX : GZ GP GL f8 := hX.fm hf8 m_GP r_GP m_GL r_GL (by decide +kernel) (by decide +kernel)
    have hk : fr L R [(12, 1), (12, 64)] [12, 61] f0 f8 := hk.tr hf8 rfl rfl
    have e10 : fld f8 a0 0 = .ref GA := (hf8.efl m_a0 r_a0 rfl).trans t_GA
    have e11 : fld f8 a0 22 = .ref GP := (hf8.efl m_a0 r_a0 rfl).trans t_GP
    have e12 : fld f8 a0 23 = .ref GL := (hf8.efl m_a0 r_a0 rfl).trans t_GL
    have e13 : fld f8 a0 6 = .ref GT := (hf8.efl m_a0 r_a0 rfl).trans t_GT
    have e14 : fi f8 a0 64 = fi f0 a0 64 := hf8.efi m_a0 r_a0 rfl
    have hR : RBA GA f8 := RBA.bk (m := z5.toInt.toNat / 5190) (a := z5.toInt.toNat) hR0 (by omega) (by omega) (by have q := hv9p0; rw [show z7.toInt.toNat = 5190 by omega, show z6.toInt.toNat = 0 by omega] at q; exact q) (fun q hq => by have w := hv9p1 q (by omega); rw [show z6.toInt.toNat = 0 by omega] at w; exact w)
    have hE1 : ((∀ j : Nat, 5190 ≤ j → elj f8 GA j = elj f0 GA j) ∧ ∀ q : Nat, q < 5190 → elj f8 GA q = elj f0 GA (z5.toInt.toNat + q)) := ⟨fun j hj => (hv9p0 j (by omega)).trans (hE0 j), fun q hq => by have w := hv9p1 q (by omega); rw [show z6.toInt.toNat + q = q by omega] at w; exact w.trans (hE0 _)⟩
    refine lv_aload_n F.1 F.2.1 dX12_back_30 rfl (lv_at hl 0 rfl) ?_
    refine lv_dup F.1 F.2.1 dX12_back_31 rfl ?_
    refine g_12_460 F h m_a0 r_a0 dX12_back_32 (fun v15 hv15 hv15a hv15b => ?_)
    refine tw_iconst F dX12_back_35 ki_1 (fun z16 hz16 => ?_)
    refine tu_isub F dX12_back_36 (by omega) (fun z17 hz17 => ?_)
    refine p_12_460 F h m_a0 r_a0 (by omega) dX12_back_37 (fun f18 H locs e18p hf18 h => ?_)
    have hX : GZ GP GL f18 := hX.fm hf18 m_GP r_GP m_GL r_GL (by decide +kernel) (by decide +kernel)
    have hR : RBA GA f18 := hR.fm hf18 m_GA r_GA (by decide +kernel)
    have hE1 : ((∀ j : Nat, 5190 ≤ j → elj f18 GA j = elj f0 GA j) ∧ ∀ q : Nat, q < 5190 → elj f18 GA q = elj f0 GA (z5.toInt.toNat + q)) := ⟨fun j hj => (hf18.eelj m_GA r_GA (by decide +kernel) _).trans (hE1.1 j hj), fun q hq => (hf18.eelj m_GA r_GA (by decide +kernel) _).trans (hE1.2 q hq)⟩
    have hk : fr L R [(12, 1), (12, 64)] [12, 61] f0 f18 := hk.tr hf18 rfl rfl
    have e19 : fld f18 a0 0 = .ref GA := (hf18.efl m_a0 r_a0 rfl).trans e10
    have e20 : fld f18 a0 22 = .ref GP := (hf18.efl m_a0 r_a0 rfl).trans e11
    have e21 : fld f18 a0 23 = .ref GL := (hf18.efl m_a0 r_a0 rfl).trans e12
    have e22 : fld f18 a0 6 = .ref GT := (hf18.efl m_a0 r_a0 rfl).trans e13
    refine lv_aload_n F.1 F.2.1 dX12_back_40 rfl (lv_at hl 0 rfl) ?_
    refine lv_aload_n F.1 F.2.1 dX12_back_41 rfl (lv_at hl 0 rfl) ?_
    refine g_12_460 F h m_a0 r_a0 dX12_back_42 (fun v23 hv23 hv23a hv23b => ?_)
    refine tw_Vi (As := [.int v23]) F hZ h yk_X12_gives mw_499 mw_500 mw_501 (s_X12_givesM l D cy L R O f18 a0 m_a0 r_a0 v23) rfl rfl m_a0 r_a0 (fun e q => (T_12 e).mp q) rfl hl.1 rfl (Nat.le_of_ble_eq_true rfl) ⟨Nat.le_of_ble_eq_true rfl, Nat.le_of_ble_eq_true rfl⟩ ⟨Nat.le_of_ble_eq_true rfl, Nat.le_of_ble_eq_true rfl⟩ dX12_back_45 (fun v25 f24 H locs hp24 h => ?_)
    obtain ⟨hf24, hv25p0⟩ := hp24
    have hX : GZ GP GL f24 := hX.fm hf24 m_GP r_GP m_GL r_GL (by decide +kernel) (by decide +kernel)
    have hR : RBA GA f24 := hR.fm hf24 m_GA r_GA (by decide +kernel)
    have hE1 : ((∀ j : Nat, 5190 ≤ j → elj f24 GA j = elj f0 GA j) ∧ ∀ q : Nat, q < 5190 → elj f24 GA q = elj f0 GA (z5.toInt.toNat + q)) := ⟨fun j hj => (hf24.eelj m_GA r_GA (by decide +kernel) _).trans (hE1.1 j hj), fun q hq => (hf24.eelj m_GA r_GA (by decide +kernel) _).trans (hE1.2 q hq)⟩
    have hk : fr L R [(12, 1), (12, 64)] [12, 61] f0 f24 := hk.tr hf24 rfl rfl
    have e26 : fld f24 a0 0 = .ref GA := (hf24.efl m_a0 r_a0 rfl).trans e19
    have e27 : fld f24 a0 22 = .ref GP := (hf24.efl m_a0 r_a0 rfl).trans e20
    have e28 : fld f24 a0 23 = .ref GL := (hf24.efl m_a0 r_a0 rfl).trans e21
    have e29 : fld f24 a0 6 = .ref GT := (hf24.efl m_a0 r_a0 rfl).trans e22
    have e30 : fi f24 a0 64 = fi f18 a0 64 := hf24.efi m_a0 r_a0 rfl
    exact hret f24 _ _ _ _ v25 dX12_back_48 rfl ⟨hk, hR, hX, by omega, ⟨(if e0 : v25.toInt = 0 then Or.inr (Or.inl ⟨by omega, by have w := hE1.2 5159 (by omega); rw [show z5.toInt.toNat + 5159 = 10349 by omega] at w; exact w⟩) else if e1 : v25.toInt = 1 then Or.inr (Or.inr (Or.inl ⟨by omega, by have w := hE1.2 5159 (by omega); rw [show z5.toInt.toNat + 5159 = 15539 by omega] at w; exact w⟩)) else Or.inr (Or.inr (Or.inr ⟨by omega, by have w := hE1.2 5159 (by omega); rw [show z5.toInt.toNat + 5159 = 20729 by omega] at w; exact w⟩))), hE1.1 10349 (by omega), hE1.1 15539 (by omega), hE1.1 20729 (by omega)⟩⟩ h
  · refine lv_aload_n F.1 F.2.1 dX12_back_7 rfl (lv_at hl 0 rfl) ?_
    refine tw_bipush F dX12_back_8 kb_6 (fun z31 hz31 => ?_)
    refine tw_Vi (As := [.int z31]) F hZ h yk_X12_refuse mw_452 mw_453 mw_454 (s_X12_refuseM l D cy L R O f0 a0 m_a0 r_a0 z31 ⟨by omega, by omega⟩) rfl rfl m_a0 r_a0 (fun e q => (T_12 e).mp q) rfl hl.1 rfl (Nat.le_of_ble_eq_true rfl) ⟨Nat.le_of_ble_eq_true rfl, Nat.le_of_ble_eq_true rfl⟩ ⟨Nat.le_of_ble_eq_true rfl, Nat.le_of_ble_eq_true rfl⟩ dX12_back_10 (fun v33 f32 H locs hp32 h => ?_)
    obtain ⟨hf32, hv33a, hv33b, hv33p0⟩ := hp32
    have hR : RBA GA f32 := hR.fm hf32 m_GA r_GA (by decide +kernel)
    have hX : GZ GP GL f32 := hX.fm hf32 m_GP r_GP m_GL r_GL (by decide +kernel) (by decide +kernel)
    have hE0 : (∀ j : Nat, elj f32 GA j = elj f0 GA j) := fun j => (hf32.eelj m_GA r_GA (by decide +kernel) j).trans (hE0 j)
    have hk : fr L R [(12, 1), (12, 64)] [12, 61] f0 f32 := hk.tr hf32 rfl rfl
    have e34 : fld f32 a0 0 = .ref GA := (hf32.efl m_a0 r_a0 rfl).trans t_GA
    have e35 : fld f32 a0 22 = .ref GP := (hf32.efl m_a0 r_a0 rfl).trans t_GP
    have e36 : fld f32 a0 23 = .ref GL := (hf32.efl m_a0 r_a0 rfl).trans t_GL
    have e37 : fld f32 a0 6 = .ref GT := (hf32.efl m_a0 r_a0 rfl).trans t_GT
    have e38 : fi f32 a0 64 = fi f0 a0 64 := hf32.efi m_a0 r_a0 rfl
    exact hret f32 _ _ _ _ v33 dX12_back_13 rfl ⟨hk, hR, hX, by omega, ⟨Or.inl ⟨by omega, hE0 5159⟩, hE0 10349, hE0 15539, hE0 20729⟩⟩ h
