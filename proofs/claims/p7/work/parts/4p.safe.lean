theorem dX11_face_0 : decode cX11_face 0 = .ok (.iload_n 1, 1) := by decide +kernel
theorem dX11_face_1 : decode cX11_face 1 = .ok (.invokestatic 161, 3) := by decide +kernel
theorem dX11_face_4 : decode cX11_face 4 = .ok (.ifCond .eq 33, 3) := by decide +kernel
theorem dX11_face_37 : decode cX11_face 37 = .ok (.aload_n 0, 1) := by decide +kernel
theorem dX11_face_38 : decode cX11_face 38 = .ok (.iconst 1, 1) := by decide +kernel
theorem dX11_face_39 : decode cX11_face 39 = .ok (.invokevirtual 140, 3) := by decide +kernel
theorem dX11_face_42 : decode cX11_face 42 = .ok (.ireturn, 1) := by decide +kernel
theorem dX11_face_7 : decode cX11_face 7 = .ok (.iload_n 2, 1) := by decide +kernel
theorem dX11_face_8 : decode cX11_face 8 = .ok (.invokestatic 161, 3) := by decide +kernel
theorem dX11_face_11 : decode cX11_face 11 = .ok (.ifCond .eq 26, 3) := by decide +kernel
theorem dX11_face_14 : decode cX11_face 14 = .ok (.aload_n 0, 1) := by decide +kernel
theorem dX11_face_15 : decode cX11_face 15 = .ok (.iload_n 3, 1) := by decide +kernel
theorem dX11_face_16 : decode cX11_face 16 = .ok (.i2l, 1) := by decide +kernel
theorem dX11_face_17 : decode cX11_face 17 = .ok (.invokevirtual 201, 3) := by decide +kernel
theorem dX11_face_20 : decode cX11_face 20 = .ok (.ifCond .eq 17, 3) := by decide +kernel
theorem dX11_face_23 : decode cX11_face 23 = .ok (.iload 4, 2) := by decide +kernel
theorem dX11_face_25 : decode cX11_face 25 = .ok (.iconst 1, 1) := by decide +kernel
theorem dX11_face_26 : decode cX11_face 26 = .ok (.if_icmp .lt 11, 3) := by decide +kernel
theorem dX11_face_29 : decode cX11_face 29 = .ok (.iload 4, 2) := by decide +kernel
theorem dX11_face_31 : decode cX11_face 31 = .ok (.sipush 200, 3) := by decide +kernel
theorem ks_200 : (Int16.ofInt 200).toInt32.toInt = 200 := by decide
theorem dX11_face_34 : decode cX11_face 34 = .ok (.if_icmp .le 9, 3) := by decide +kernel
theorem dX11_face_43 : decode cX11_face 43 = .ok (.aload_n 0, 1) := by decide +kernel
theorem dX11_face_44 : decode cX11_face 44 = .ok (.aload_n 0, 1) := by decide +kernel
theorem dX11_face_45 : decode cX11_face 45 = .ok (.getfield 47, 3) := by decide +kernel
theorem dX11_face_48 : decode cX11_face 48 = .ok (.aload_n 0, 1) := by decide +kernel
theorem dX11_face_49 : decode cX11_face 49 = .ok (.getfield 29, 3) := by decide +kernel
theorem dX11_face_52 : decode cX11_face 52 = .ok (.getfield 167, 3) := by decide +kernel
theorem dX11_face_55 : decode cX11_face 55 = .ok (.iload_n 1, 1) := by decide +kernel
theorem dX11_face_56 : decode cX11_face 56 = .ok (.aaload, 1) := by decide +kernel
theorem dX11_face_57 : decode cX11_face 57 = .ok (.aload_n 0, 1) := by decide +kernel
theorem dX11_face_58 : decode cX11_face 58 = .ok (.getfield 29, 3) := by decide +kernel
theorem dX11_face_61 : decode cX11_face 61 = .ok (.getfield 167, 3) := by decide +kernel
theorem dX11_face_64 : decode cX11_face 64 = .ok (.iload_n 2, 1) := by decide +kernel
theorem dX11_face_65 : decode cX11_face 65 = .ok (.aaload, 1) := by decide +kernel
theorem dX11_face_66 : decode cX11_face 66 = .ok (.aload_n 0, 1) := by decide +kernel
theorem dX11_face_67 : decode cX11_face 67 = .ok (.getfield 29, 3) := by decide +kernel
theorem dX11_face_70 : decode cX11_face 70 = .ok (.getfield 205, 3) := by decide +kernel
theorem dX11_face_73 : decode cX11_face 73 = .ok (.iload_n 3, 1) := by decide +kernel
theorem dX11_face_74 : decode cX11_face 74 = .ok (.aaload, 1) := by decide +kernel
theorem dX11_face_75 : decode cX11_face 75 = .ok (.iload 4, 2) := by decide +kernel
theorem dX11_face_77 : decode cX11_face 77 = .ok (.invokevirtual 328, 3) := by decide +kernel
theorem mw_1248 : Cond.methodLink RX11 328 yX7_meet ∈ wsL_law := inr_53 _ (List.mem_of_getElem? (i := 0) rfl)
theorem mw_1251 : Cond.code yX7_meet cX7_meet 10 (some .int) ∈ wsL_law := inr_53 _ (List.mem_of_getElem? (i := 3) rfl)
theorem yk_X7_meet : xY yX7_meet RX7 cX7_meet 10 (some .int) 4 := ⟨⟨rfl, by decide +kernel, by decide +kernel, by decide +kernel⟩, mw_32, mw_1251⟩
theorem mw_1249 : Cond.instanceMethod yX7_meet ∈ wsL_law := inr_53 _ (List.mem_of_getElem? (i := 1) rfl)
theorem mw_1250 : Cond.selects RX7 yX7_meet yX7_meet ∈ wsL_law := inr_53 _ (List.mem_of_getElem? (i := 2) rfl)
theorem dX11_face_80 : decode cX11_face 80 = .ok (.invokevirtual 158, 3) := by decide +kernel
theorem dX11_face_83 : decode cX11_face 83 = .ok (.ireturn, 1) := by decide +kernel
def rm_X11_faceN : Room := { frames := 6, cells := 0, slots := 0, locals := 157 }
set_option maxHeartbeats 4000000 in
set_option maxRecDepth 100000 in
theorem s_X11_faceN (l : Launch) (D : va_G) (cy : Nat → ClassId) (L : List Nat) (R O : Nat → Nat) (f0 : Nat → va_E) (hG : GG L R O f0) (a0 : Nat) (m_a0 : a0 ∈ L) (r_a0 : R a0 = 11) (x1 : Int32) (x2 : Int32) (x3 : Int32) (x4 : Int32) (P : Nat → Nat) (pst : Nat) (m_pst : pst ∈ L) (r_pst : R pst = 2) (pre0 : PI L R O f0 a0) (pre1 : (∀ j st, elq f0 (rfa f0 (rfa f0 a0 6) 12) j = some st → j < 6 → P st = j)) (pre2 : fld f0 (rfa f0 a0 6) 16 = .ref pst) : ∀ sz, Met l yX11_face (Cond.code yX11_face cX11_face 5 (some .int) :: wsL_law) rm_X11_faceN (va_Pc [.ref a0, .int x1, .int x2, .int x3, .int x4] (tPZ D cy L R (TT cy L R) f0 sz)) (va_Qi (fun (r : Int32) f1 => fr L R [(1, 0), (1, 1), (1, 2), (1, 3), (1, 5), (2, 2), (2, 3), (4, 1), (5, 4), (5, 5), (5, 6), (5, 7), (7, 5), (7, 6), (8, 1), (8, 2), (11, 14)] [1, 2, 4, 5, 7, 8, 11, 23, 24, 25, 26, 27, 28, 29, 34, 51] f0 f1 ∧ KO L R O (rfa f0 (rfa f0 a0 6) 12) f0 f1) (tB D (tA L sz) L R (TT cy L R)) (tA L sz)) 0 0 (tA L sz) := by
  refine tw_enteri (by decide +kernel) rfl (Nat.le_of_ble_eq_true rfl) ?_
  intro p e s m below meth c A ls args Q F hZ h hl hret
  have hl : lv_has ls 5 [(0, .ref a0), (1, .int x1), (2, .int x2), (3, .int x3), (4, .int x4)] := hl
  have hk : fr L R [(1, 0), (1, 1), (1, 2), (1, 3), (1, 5), (2, 2), (2, 3), (4, 1), (5, 4), (5, 5), (5, 6), (5, 7), (7, 5), (7, 6), (8, 1), (8, 2), (11, 14)] [1, 2, 4, 5, 7, 8, 11, 23, 24, 25, 26, 27, 28, 29, 34, 51] f0 f0 := fr.rf
  obtain ⟨a0_search, m_a0_search, r_a0_search, t_a0_search⟩ := h.rf m_a0 r_a0 (fun e q => (T_11 e).mp q) (k := 6) rfl
  obtain ⟨a0_book, m_a0_book, r_a0_book, t_a0_book⟩ := h.rf m_a0 r_a0 (fun e q => (T_11 e).mp q) (k := 3) rfl
  obtain ⟨a0_book_scripts, m_a0_book_scripts, r_a0_book_scripts, t_a0_book_scripts⟩ := h.rf m_a0_book r_a0_book (fun e q => (T_0 e).mp q) (k := 0) rfl
  have hs6 := rfa_of t_a0_search
  have hs3 := rfa_of t_a0_book
  unfold PI at pre0
  rw [hs6, hs3] at pre0
  obtain ⟨hSO, ⟨pb1, pb2, pb3⟩, hBD⟩ := pre0
  have hO : KO L R O (rfa f0 a0_search 12) f0 f0 := KO.rf
  refine lv_iload_n F.1 F.2.1 dX11_face_0 rfl (lv_at hl 1 rfl) ?_
  refine tw_Si (As := [.int x1]) F hZ h yk_X11_isScript mw_511 mw_512 (s_X11_isScript l D cy L R O f0 x1) rfl rfl hl.1 rfl (Nat.le_of_ble_eq_true rfl) ⟨Nat.le_of_ble_eq_true rfl, Nat.le_of_ble_eq_true rfl⟩ ⟨Nat.le_of_ble_eq_true rfl, Nat.le_of_ble_eq_true rfl⟩ dX11_face_1 (fun v2 f1 H locs hp1 h => ?_)
  obtain ⟨rfl, hv2a, hv2b, hv2p0⟩ := hp1
  refine tw_if_eq (tgt := 37) F dX11_face_4 (by decide) (fun b3 => ?_) (fun b3 => ?_)
  · refine lv_aload_n F.1 F.2.1 dX11_face_37 rfl (lv_at hl 0 rfl) ?_
    refine tw_iconst F dX11_face_38 ki_1 (fun z4 hz4 => ?_)
    refine tw_Vi (As := [.int z4]) F hZ h yk_X11_refuse mw_378 mw_379 mw_380 (s_X11_refuse l D cy L R O f0 a0 m_a0 r_a0 z4 ⟨by omega, by omega⟩) rfl rfl m_a0 r_a0 (fun e q => (T_11 e).mp q) rfl hl.1 rfl (Nat.le_of_ble_eq_true rfl) ⟨Nat.le_of_ble_eq_true rfl, Nat.le_of_ble_eq_true rfl⟩ ⟨Nat.le_of_ble_eq_true rfl, Nat.le_of_ble_eq_true rfl⟩ dX11_face_39 (fun v6 f5 H locs hp5 h => ?_)
    obtain ⟨hf5, hv6a, hv6b⟩ := hp5
    have hO : KO L R O (rfa f0 a0_search 12) f0 f5 := KO_fr hO hf5 (by decide +kernel)
    have hk : fr L R [(1, 0), (1, 1), (1, 2), (1, 3), (1, 5), (2, 2), (2, 3), (4, 1), (5, 4), (5, 5), (5, 6), (5, 7), (7, 5), (7, 6), (8, 1), (8, 2), (11, 14)] [1, 2, 4, 5, 7, 8, 11, 23, 24, 25, 26, 27, 28, 29, 34, 51] f0 f5 := hk.tr hf5 rfl rfl
    have e7 : fld f5 a0 6 = .ref a0_search := (hf5.efl m_a0 r_a0 rfl).trans t_a0_search
    have e8 : fld f5 a0 3 = .ref a0_book := (hf5.efl m_a0 r_a0 rfl).trans t_a0_book
    have e9 : fld f5 a0_book 0 = .ref a0_book_scripts := (hf5.efl m_a0_book r_a0_book rfl).trans t_a0_book_scripts
    exact hret f5 _ _ _ _ v6 dX11_face_42 rfl ⟨hk, by rw [hs6]; exact hO⟩ h
  · refine lv_iload_n F.1 F.2.1 dX11_face_7 rfl (lv_at hl 2 rfl) ?_
    refine tw_Si (As := [.int x2]) F hZ h yk_X11_isScript mw_511 mw_512 (s_X11_isScript l D cy L R O f0 x2) rfl rfl hl.1 rfl (Nat.le_of_ble_eq_true rfl) ⟨Nat.le_of_ble_eq_true rfl, Nat.le_of_ble_eq_true rfl⟩ ⟨Nat.le_of_ble_eq_true rfl, Nat.le_of_ble_eq_true rfl⟩ dX11_face_8 (fun v11 f10 H locs hp10 h => ?_)
    obtain ⟨rfl, hv11a, hv11b, hv11p0⟩ := hp10
    refine tw_if_eq (tgt := 37) F dX11_face_11 (by decide) (fun b12 => ?_) (fun b12 => ?_)
    · refine lv_aload_n F.1 F.2.1 dX11_face_37 rfl (lv_at hl 0 rfl) ?_
      refine tw_iconst F dX11_face_38 ki_1 (fun z13 hz13 => ?_)
      refine tw_Vi (As := [.int z13]) F hZ h yk_X11_refuse mw_378 mw_379 mw_380 (s_X11_refuse l D cy L R O f0 a0 m_a0 r_a0 z13 ⟨by omega, by omega⟩) rfl rfl m_a0 r_a0 (fun e q => (T_11 e).mp q) rfl hl.1 rfl (Nat.le_of_ble_eq_true rfl) ⟨Nat.le_of_ble_eq_true rfl, Nat.le_of_ble_eq_true rfl⟩ ⟨Nat.le_of_ble_eq_true rfl, Nat.le_of_ble_eq_true rfl⟩ dX11_face_39 (fun v15 f14 H locs hp14 h => ?_)
      obtain ⟨hf14, hv15a, hv15b⟩ := hp14
      have hO : KO L R O (rfa f0 a0_search 12) f0 f14 := KO_fr hO hf14 (by decide +kernel)
      have hk : fr L R [(1, 0), (1, 1), (1, 2), (1, 3), (1, 5), (2, 2), (2, 3), (4, 1), (5, 4), (5, 5), (5, 6), (5, 7), (7, 5), (7, 6), (8, 1), (8, 2), (11, 14)] [1, 2, 4, 5, 7, 8, 11, 23, 24, 25, 26, 27, 28, 29, 34, 51] f0 f14 := hk.tr hf14 rfl rfl
      have e16 : fld f14 a0 6 = .ref a0_search := (hf14.efl m_a0 r_a0 rfl).trans t_a0_search
      have e17 : fld f14 a0 3 = .ref a0_book := (hf14.efl m_a0 r_a0 rfl).trans t_a0_book
      have e18 : fld f14 a0_book 0 = .ref a0_book_scripts := (hf14.efl m_a0_book r_a0_book rfl).trans t_a0_book_scripts
      exact hret f14 _ _ _ _ v15 dX11_face_42 rfl ⟨hk, by rw [hs6]; exact hO⟩ h
    · refine lv_aload_n F.1 F.2.1 dX11_face_14 rfl (lv_at hl 0 rfl) ?_
      refine lv_iload_n F.1 F.2.1 dX11_face_15 rfl (lv_at hl 3 rfl) ?_
      refine tu_i2l F dX11_face_16 (fun z19 hz19 hz19a hz19b => ?_)
      refine tw_Vi (As := [.long z19]) F hZ h yk_X11_isLine mw_779 mw_780 mw_781 (s_X11_isLine l D cy L R O f0 a0 m_a0 r_a0 z19) rfl rfl m_a0 r_a0 (fun e q => (T_11 e).mp q) rfl hl.1 rfl (Nat.le_of_ble_eq_true rfl) ⟨Nat.le_of_ble_eq_true rfl, Nat.le_of_ble_eq_true rfl⟩ ⟨Nat.le_of_ble_eq_true rfl, Nat.le_of_ble_eq_true rfl⟩ dX11_face_17 (fun v21 f20 H locs hp20 h => ?_)
      obtain ⟨rfl, hv21a, hv21b, hv21p0⟩ := hp20
      refine tw_if_eq (tgt := 37) F dX11_face_20 (by decide) (fun b22 => ?_) (fun b22 => ?_)
      · refine lv_aload_n F.1 F.2.1 dX11_face_37 rfl (lv_at hl 0 rfl) ?_
        refine tw_iconst F dX11_face_38 ki_1 (fun z23 hz23 => ?_)
        refine tw_Vi (As := [.int z23]) F hZ h yk_X11_refuse mw_378 mw_379 mw_380 (s_X11_refuse l D cy L R O f0 a0 m_a0 r_a0 z23 ⟨by omega, by omega⟩) rfl rfl m_a0 r_a0 (fun e q => (T_11 e).mp q) rfl hl.1 rfl (Nat.le_of_ble_eq_true rfl) ⟨Nat.le_of_ble_eq_true rfl, Nat.le_of_ble_eq_true rfl⟩ ⟨Nat.le_of_ble_eq_true rfl, Nat.le_of_ble_eq_true rfl⟩ dX11_face_39 (fun v25 f24 H locs hp24 h => ?_)
        obtain ⟨hf24, hv25a, hv25b⟩ := hp24
        have hO : KO L R O (rfa f0 a0_search 12) f0 f24 := KO_fr hO hf24 (by decide +kernel)
        have hk : fr L R [(1, 0), (1, 1), (1, 2), (1, 3), (1, 5), (2, 2), (2, 3), (4, 1), (5, 4), (5, 5), (5, 6), (5, 7), (7, 5), (7, 6), (8, 1), (8, 2), (11, 14)] [1, 2, 4, 5, 7, 8, 11, 23, 24, 25, 26, 27, 28, 29, 34, 51] f0 f24 := hk.tr hf24 rfl rfl
        have e26 : fld f24 a0 6 = .ref a0_search := (hf24.efl m_a0 r_a0 rfl).trans t_a0_search
        have e27 : fld f24 a0 3 = .ref a0_book := (hf24.efl m_a0 r_a0 rfl).trans t_a0_book
        have e28 : fld f24 a0_book 0 = .ref a0_book_scripts := (hf24.efl m_a0_book r_a0_book rfl).trans t_a0_book_scripts
        exact hret f24 _ _ _ _ v25 dX11_face_42 rfl ⟨hk, by rw [hs6]; exact hO⟩ h
      · refine lv_iload F.1 F.2.1 dX11_face_23 (lv_at hl 4 rfl) ?_
        refine tw_iconst F dX11_face_25 ki_1 (fun z29 hz29 => ?_)
        refine tw_icmp_lt (tgt := 37) F dX11_face_26 (by decide) (fun b30 => ?_) (fun b30 => ?_)
        · refine lv_aload_n F.1 F.2.1 dX11_face_37 rfl (lv_at hl 0 rfl) ?_
          refine tw_iconst F dX11_face_38 ki_1 (fun z31 hz31 => ?_)
          refine tw_Vi (As := [.int z31]) F hZ h yk_X11_refuse mw_378 mw_379 mw_380 (s_X11_refuse l D cy L R O f0 a0 m_a0 r_a0 z31 ⟨by omega, by omega⟩) rfl rfl m_a0 r_a0 (fun e q => (T_11 e).mp q) rfl hl.1 rfl (Nat.le_of_ble_eq_true rfl) ⟨Nat.le_of_ble_eq_true rfl, Nat.le_of_ble_eq_true rfl⟩ ⟨Nat.le_of_ble_eq_true rfl, Nat.le_of_ble_eq_true rfl⟩ dX11_face_39 (fun v33 f32 H locs hp32 h => ?_)
          obtain ⟨hf32, hv33a, hv33b⟩ := hp32
          have hO : KO L R O (rfa f0 a0_search 12) f0 f32 := KO_fr hO hf32 (by decide +kernel)
          have hk : fr L R [(1, 0), (1, 1), (1, 2), (1, 3), (1, 5), (2, 2), (2, 3), (4, 1), (5, 4), (5, 5), (5, 6), (5, 7), (7, 5), (7, 6), (8, 1), (8, 2), (11, 14)] [1, 2, 4, 5, 7, 8, 11, 23, 24, 25, 26, 27, 28, 29, 34, 51] f0 f32 := hk.tr hf32 rfl rfl
          have e34 : fld f32 a0 6 = .ref a0_search := (hf32.efl m_a0 r_a0 rfl).trans t_a0_search
          have e35 : fld f32 a0 3 = .ref a0_book := (hf32.efl m_a0 r_a0 rfl).trans t_a0_book
          have e36 : fld f32 a0_book 0 = .ref a0_book_scripts := (hf32.efl m_a0_book r_a0_book rfl).trans t_a0_book_scripts
          exact hret f32 _ _ _ _ v33 dX11_face_42 rfl ⟨hk, by rw [hs6]; exact hO⟩ h
        · refine lv_iload F.1 F.2.1 dX11_face_29 (lv_at hl 4 rfl) ?_
          refine tw_sipush F dX11_face_31 ks_200 (fun z37 hz37 => ?_)
          refine tw_icmp_le (tgt := 43) F dX11_face_34 (by decide) (fun b38 => ?_) (fun b38 => ?_)
          · refine lv_aload_n F.1 F.2.1 dX11_face_43 rfl (lv_at hl 0 rfl) ?_
            refine lv_aload_n F.1 F.2.1 dX11_face_44 rfl (lv_at hl 0 rfl) ?_
            refine g_11_47 F h m_a0 r_a0 dX11_face_45 (fun o39 m_o39 r_o39 ho39 => ?_)
            obtain rfl := (fld_inj t_a0_search ho39).symm
            refine lv_aload_n F.1 F.2.1 dX11_face_48 rfl (lv_at hl 0 rfl) ?_
            refine g_11_29 F h m_a0 r_a0 dX11_face_49 (fun o40 m_o40 r_o40 ho40 => ?_)
            obtain rfl := (fld_inj t_a0_book ho40).symm
            refine g_11_167 F h m_a0_book r_a0_book dX11_face_52 (fun o41 m_o41 r_o41 ho41 => ?_)
            obtain rfl := (fld_inj t_a0_book_scripts ho41).symm
            refine lv_iload_n F.1 F.2.1 dX11_face_55 rfl (lv_at hl 1 rfl) ?_
            refine le_20 F h m_a0_book_scripts r_a0_book_scripts (by omega) dX11_face_56 (fun o42 m_o42 r_o42 eo42 => ?_)
            refine lv_aload_n F.1 F.2.1 dX11_face_57 rfl (lv_at hl 0 rfl) ?_
            refine g_11_29 F h m_a0 r_a0 dX11_face_58 (fun o43 m_o43 r_o43 ho43 => ?_)
            obtain rfl := (fld_inj t_a0_book ho43).symm
            refine g_11_167 F h m_a0_book r_a0_book dX11_face_61 (fun o44 m_o44 r_o44 ho44 => ?_)
            obtain rfl := (fld_inj t_a0_book_scripts ho44).symm
            refine lv_iload_n F.1 F.2.1 dX11_face_64 rfl (lv_at hl 2 rfl) ?_
            refine le_20 F h m_a0_book_scripts r_a0_book_scripts (by omega) dX11_face_65 (fun o45 m_o45 r_o45 eo45 => ?_)
            refine lv_aload_n F.1 F.2.1 dX11_face_66 rfl (lv_at hl 0 rfl) ?_
            refine g_11_29 F h m_a0 r_a0 dX11_face_67 (fun o46 m_o46 r_o46 ho46 => ?_)
            obtain rfl := (fld_inj t_a0_book ho46).symm
            refine g_11_205 F h m_a0_book r_a0_book dX11_face_70 (fun o47 m_o47 r_o47 ho47 => ?_)
            refine lv_iload_n F.1 F.2.1 dX11_face_73 rfl (lv_at hl 3 rfl) ?_
            refine ld_22 F h m_o47 r_o47 (by omega) dX11_face_74 (fun o48 m_o48 r_o48 => ?_)
            refine lv_iload F.1 F.2.1 dX11_face_75 (lv_at hl 4 rfl) ?_
            refine tw_Vi (As := [.ref o42, .ref o45, .ref o48, .int x4]) F hZ h yk_X7_meet mw_1248 mw_1249 mw_1250 (s_X7_meetN l D cy L R O f0 hG a0_search m_a0_search r_a0_search o42 m_o42 r_o42 o45 m_o45 r_o45 o48 m_o48 r_o48 x4 ⟨by omega, by omega⟩ P pst m_pst r_pst hSO (by rw [← hs6]; exact pre1) (pb3 _ _ (elq_a t_a0_book_scripts eo42) (by omega)).2.2 (pb3 _ _ (elq_a t_a0_book_scripts eo45) (by omega)).2.2 (by rw [← hs6]; exact pre2)) rfl rfl m_a0_search r_a0_search (fun e q => (T_7 e).mp q) rfl hl.1 rfl (Nat.le_of_ble_eq_true rfl) ⟨Nat.le_of_ble_eq_true rfl, Nat.le_of_ble_eq_true rfl⟩ ⟨Nat.le_of_ble_eq_true rfl, Nat.le_of_ble_eq_true rfl⟩ dX11_face_77 (fun v50 f49 H locs hp49 h => ?_)
            obtain ⟨hf49, hv50p0, hv50p1⟩ := hp49
            have hk : fr L R [(1, 0), (1, 1), (1, 2), (1, 3), (1, 5), (2, 2), (2, 3), (4, 1), (5, 4), (5, 5), (5, 6), (5, 7), (7, 5), (7, 6), (8, 1), (8, 2), (11, 14)] [1, 2, 4, 5, 7, 8, 11, 23, 24, 25, 26, 27, 28, 29, 34, 51] f0 f49 := hk.tr hf49 (by decide +kernel) (by decide +kernel)
            have e51 : fld f49 a0 6 = .ref a0_search := (hf49.efl m_a0 r_a0 rfl).trans t_a0_search
            have e52 : fld f49 a0 3 = .ref a0_book := (hf49.efl m_a0 r_a0 rfl).trans t_a0_book
            have e53 : fld f49 a0_book 0 = .ref a0_book_scripts := (hf49.efl m_a0_book r_a0_book rfl).trans t_a0_book_scripts
            have hO : KO L R O (rfa f0 a0_search 12) f0 f49 := hv50p0
            refine tw_Vi (As := [.int v50]) F hZ h yk_X11_grant mw_442 mw_443 mw_444 (s_X11_grant l D cy L R O f49 a0 m_a0 r_a0 v50) rfl rfl m_a0 r_a0 (fun e q => (T_11 e).mp q) rfl hl.1 rfl (Nat.le_of_ble_eq_true rfl) ⟨Nat.le_of_ble_eq_true rfl, Nat.le_of_ble_eq_true rfl⟩ ⟨Nat.le_of_ble_eq_true rfl, Nat.le_of_ble_eq_true rfl⟩ dX11_face_80 (fun v55 f54 H locs hp54 h => ?_)
            have hf54 := hp54
            have hO : KO L R O (rfa f0 a0_search 12) f0 f54 := KO_fr hO hf54 (by decide +kernel)
            have hk : fr L R [(1, 0), (1, 1), (1, 2), (1, 3), (1, 5), (2, 2), (2, 3), (4, 1), (5, 4), (5, 5), (5, 6), (5, 7), (7, 5), (7, 6), (8, 1), (8, 2), (11, 14)] [1, 2, 4, 5, 7, 8, 11, 23, 24, 25, 26, 27, 28, 29, 34, 51] f0 f54 := hk.tr hf54 rfl rfl
            have e56 : fld f54 a0 6 = .ref a0_search := (hf54.efl m_a0 r_a0 rfl).trans e51
            have e57 : fld f54 a0 3 = .ref a0_book := (hf54.efl m_a0 r_a0 rfl).trans e52
            have e58 : fld f54 a0_book 0 = .ref a0_book_scripts := (hf54.efl m_a0_book r_a0_book rfl).trans e53
            exact hret f54 _ _ _ _ v55 dX11_face_83 rfl ⟨hk, by rw [hs6]; exact hO⟩ h
          · refine lv_aload_n F.1 F.2.1 dX11_face_37 rfl (lv_at hl 0 rfl) ?_
            refine tw_iconst F dX11_face_38 ki_1 (fun z59 hz59 => ?_)
            refine tw_Vi (As := [.int z59]) F hZ h yk_X11_refuse mw_378 mw_379 mw_380 (s_X11_refuse l D cy L R O f0 a0 m_a0 r_a0 z59 ⟨by omega, by omega⟩) rfl rfl m_a0 r_a0 (fun e q => (T_11 e).mp q) rfl hl.1 rfl (Nat.le_of_ble_eq_true rfl) ⟨Nat.le_of_ble_eq_true rfl, Nat.le_of_ble_eq_true rfl⟩ ⟨Nat.le_of_ble_eq_true rfl, Nat.le_of_ble_eq_true rfl⟩ dX11_face_39 (fun v61 f60 H locs hp60 h => ?_)
            obtain ⟨hf60, hv61a, hv61b⟩ := hp60
            have hO : KO L R O (rfa f0 a0_search 12) f0 f60 := KO_fr hO hf60 (by decide +kernel)
            have hk : fr L R [(1, 0), (1, 1), (1, 2), (1, 3), (1, 5), (2, 2), (2, 3), (4, 1), (5, 4), (5, 5), (5, 6), (5, 7), (7, 5), (7, 6), (8, 1), (8, 2), (11, 14)] [1, 2, 4, 5, 7, 8, 11, 23, 24, 25, 26, 27, 28, 29, 34, 51] f0 f60 := hk.tr hf60 rfl rfl
            have e62 : fld f60 a0 6 = .ref a0_search := (hf60.efl m_a0 r_a0 rfl).trans t_a0_search
            have e63 : fld f60 a0 3 = .ref a0_book := (hf60.efl m_a0 r_a0 rfl).trans t_a0_book
            have e64 : fld f60 a0_book 0 = .ref a0_book_scripts := (hf60.efl m_a0_book r_a0_book rfl).trans t_a0_book_scripts
            exact hret f60 _ _ _ _ v61 dX11_face_42 rfl ⟨hk, by rw [hs6]; exact hO⟩ h
def rm_X11_face0 : Room := { frames := 6, cells := 3, slots := 34979, locals := 157 }
set_option maxHeartbeats 4000000 in
set_option maxRecDepth 100000 in
theorem s_X11_face0 (l : Launch) (D : va_G) (cy : Nat → ClassId) (L : List Nat) (R O : Nat → Nat) (f0 : Nat → va_E) (hG : GG L R O f0) (a0 : Nat) (m_a0 : a0 ∈ L) (r_a0 : R a0 = 11) (x1 : Int32) (x2 : Int32) (x3 : Int32) (x4 : Int32) (P : Nat → Nat) (pre0 : PI L R O f0 a0) (pre1 : (∀ j st, elq f0 (rfa f0 (rfa f0 a0 6) 12) j = some st → j < 6 → P st = j)) (pre2 : fld f0 (rfa f0 a0 6) 16 = .null) : ∀ sz, Met l yX11_face (Cond.code yX11_face cX11_face 5 (some .int) :: wsL_law) rm_X11_face0 (va_Pc [.ref a0, .int x1, .int x2, .int x3, .int x4] (tPZ D cy L R (TT cy L R) f0 sz)) (va_Qi (fun (r : Int32) (x : tX) => GW L x.L R x.R ∧ fr L R [(1, 0), (1, 1), (1, 2), (1, 3), (1, 5), (2, 2), (2, 3), (4, 1), (5, 4), (5, 5), (5, 6), (5, 7), (7, 5), (7, 6), (7, 16), (8, 1), (8, 2), (11, 14)] [1, 2, 4, 5, 7, 8, 11, 23, 24, 25, 26, 27, 28, 29, 34, 51] f0 x.f ∧ KO L R O (rfa f0 (rfa f0 a0 6) 12) f0 x.f) (tBX D cy (tA L sz)) (tA L sz)) 3 34979 (tA L sz) := by
  refine tw_enteriG (by decide +kernel) rfl (Nat.le_of_ble_eq_true rfl) ?_
  intro p e s m below meth c A ls args Q F hZ h hl hret
  have hl : lv_has ls 5 [(0, .ref a0), (1, .int x1), (2, .int x2), (3, .int x3), (4, .int x4)] := hl
  have hk : fr L R [(1, 0), (1, 1), (1, 2), (1, 3), (1, 5), (2, 2), (2, 3), (4, 1), (5, 4), (5, 5), (5, 6), (5, 7), (7, 5), (7, 6), (8, 1), (8, 2), (11, 14)] [1, 2, 4, 5, 7, 8, 11, 23, 24, 25, 26, 27, 28, 29, 34, 51] f0 f0 := fr.rf
  obtain ⟨a0_search, m_a0_search, r_a0_search, t_a0_search⟩ := h.rf m_a0 r_a0 (fun e q => (T_11 e).mp q) (k := 6) rfl
  obtain ⟨a0_book, m_a0_book, r_a0_book, t_a0_book⟩ := h.rf m_a0 r_a0 (fun e q => (T_11 e).mp q) (k := 3) rfl
  obtain ⟨a0_book_scripts, m_a0_book_scripts, r_a0_book_scripts, t_a0_book_scripts⟩ := h.rf m_a0_book r_a0_book (fun e q => (T_0 e).mp q) (k := 0) rfl
  have hs6 := rfa_of t_a0_search
  have hs3 := rfa_of t_a0_book
  unfold PI at pre0
  rw [hs6, hs3] at pre0
  obtain ⟨hSO, ⟨pb1, pb2, pb3⟩, hBD⟩ := pre0
  have hO : KO L R O (rfa f0 a0_search 12) f0 f0 := KO.rf
  refine lv_iload_n F.1 F.2.1 dX11_face_0 rfl (lv_at hl 1 rfl) ?_
  refine tw_Si (As := [.int x1]) F hZ h yk_X11_isScript mw_511 mw_512 (s_X11_isScript l D cy L R O f0 x1) rfl rfl hl.1 rfl (Nat.le_of_ble_eq_true rfl) ⟨Nat.le_of_ble_eq_true rfl, Nat.le_of_ble_eq_true rfl⟩ ⟨Nat.le_of_ble_eq_true rfl, Nat.le_of_ble_eq_true rfl⟩ dX11_face_1 (fun v2 f1 H locs hp1 h => ?_)
  obtain ⟨rfl, hv2a, hv2b, hv2p0⟩ := hp1
  refine tw_if_eq (tgt := 37) F dX11_face_4 (by decide) (fun b3 => ?_) (fun b3 => ?_)
  · refine lv_aload_n F.1 F.2.1 dX11_face_37 rfl (lv_at hl 0 rfl) ?_
    refine tw_iconst F dX11_face_38 ki_1 (fun z4 hz4 => ?_)
    refine tw_Vi (As := [.int z4]) F hZ h yk_X11_refuse mw_378 mw_379 mw_380 (s_X11_refuse l D cy L R O f0 a0 m_a0 r_a0 z4 ⟨by omega, by omega⟩) rfl rfl m_a0 r_a0 (fun e q => (T_11 e).mp q) rfl hl.1 rfl (Nat.le_of_ble_eq_true rfl) ⟨Nat.le_of_ble_eq_true rfl, Nat.le_of_ble_eq_true rfl⟩ ⟨Nat.le_of_ble_eq_true rfl, Nat.le_of_ble_eq_true rfl⟩ dX11_face_39 (fun v6 f5 H locs hp5 h => ?_)
    obtain ⟨hf5, hv6a, hv6b⟩ := hp5
    have hO : KO L R O (rfa f0 a0_search 12) f0 f5 := KO_fr hO hf5 (by decide +kernel)
    have hk : fr L R [(1, 0), (1, 1), (1, 2), (1, 3), (1, 5), (2, 2), (2, 3), (4, 1), (5, 4), (5, 5), (5, 6), (5, 7), (7, 5), (7, 6), (8, 1), (8, 2), (11, 14)] [1, 2, 4, 5, 7, 8, 11, 23, 24, 25, 26, 27, 28, 29, 34, 51] f0 f5 := hk.tr hf5 rfl rfl
    have e7 : fld f5 a0 6 = .ref a0_search := (hf5.efl m_a0 r_a0 rfl).trans t_a0_search
    have e8 : fld f5 a0 3 = .ref a0_book := (hf5.efl m_a0 r_a0 rfl).trans t_a0_book
    have e9 : fld f5 a0_book 0 = .ref a0_book_scripts := (hf5.efl m_a0_book r_a0_book rfl).trans t_a0_book_scripts
    exact hret 0 0 (Nat.le_of_ble_eq_true rfl) (Nat.le_of_ble_eq_true rfl) (f5, L, R) _ _ _ _ v6 dX11_face_42 rfl ⟨⟨fun a ha => ⟨ha, rfl⟩, fun a ha => Or.inl ha⟩, (fr.rf (Mo := [(1, 0), (1, 1), (1, 2), (1, 3), (1, 5), (2, 2), (2, 3), (4, 1), (5, 4), (5, 5), (5, 6), (5, 7), (7, 5), (7, 6), (7, 16), (8, 1), (8, 2), (11, 14)]) (Mr := [1, 2, 4, 5, 7, 8, 11, 23, 24, 25, 26, 27, 28, 29, 34, 51])).tr hk (by decide +kernel) (by decide +kernel), by rw [hs6]; exact hO⟩ h
  · refine lv_iload_n F.1 F.2.1 dX11_face_7 rfl (lv_at hl 2 rfl) ?_
    refine tw_Si (As := [.int x2]) F hZ h yk_X11_isScript mw_511 mw_512 (s_X11_isScript l D cy L R O f0 x2) rfl rfl hl.1 rfl (Nat.le_of_ble_eq_true rfl) ⟨Nat.le_of_ble_eq_true rfl, Nat.le_of_ble_eq_true rfl⟩ ⟨Nat.le_of_ble_eq_true rfl, Nat.le_of_ble_eq_true rfl⟩ dX11_face_8 (fun v11 f10 H locs hp10 h => ?_)
    obtain ⟨rfl, hv11a, hv11b, hv11p0⟩ := hp10
    refine tw_if_eq (tgt := 37) F dX11_face_11 (by decide) (fun b12 => ?_) (fun b12 => ?_)
    · refine lv_aload_n F.1 F.2.1 dX11_face_37 rfl (lv_at hl 0 rfl) ?_
      refine tw_iconst F dX11_face_38 ki_1 (fun z13 hz13 => ?_)
      refine tw_Vi (As := [.int z13]) F hZ h yk_X11_refuse mw_378 mw_379 mw_380 (s_X11_refuse l D cy L R O f0 a0 m_a0 r_a0 z13 ⟨by omega, by omega⟩) rfl rfl m_a0 r_a0 (fun e q => (T_11 e).mp q) rfl hl.1 rfl (Nat.le_of_ble_eq_true rfl) ⟨Nat.le_of_ble_eq_true rfl, Nat.le_of_ble_eq_true rfl⟩ ⟨Nat.le_of_ble_eq_true rfl, Nat.le_of_ble_eq_true rfl⟩ dX11_face_39 (fun v15 f14 H locs hp14 h => ?_)
      obtain ⟨hf14, hv15a, hv15b⟩ := hp14
      have hO : KO L R O (rfa f0 a0_search 12) f0 f14 := KO_fr hO hf14 (by decide +kernel)
      have hk : fr L R [(1, 0), (1, 1), (1, 2), (1, 3), (1, 5), (2, 2), (2, 3), (4, 1), (5, 4), (5, 5), (5, 6), (5, 7), (7, 5), (7, 6), (8, 1), (8, 2), (11, 14)] [1, 2, 4, 5, 7, 8, 11, 23, 24, 25, 26, 27, 28, 29, 34, 51] f0 f14 := hk.tr hf14 rfl rfl
      have e16 : fld f14 a0 6 = .ref a0_search := (hf14.efl m_a0 r_a0 rfl).trans t_a0_search
      have e17 : fld f14 a0 3 = .ref a0_book := (hf14.efl m_a0 r_a0 rfl).trans t_a0_book
      have e18 : fld f14 a0_book 0 = .ref a0_book_scripts := (hf14.efl m_a0_book r_a0_book rfl).trans t_a0_book_scripts
      exact hret 0 0 (Nat.le_of_ble_eq_true rfl) (Nat.le_of_ble_eq_true rfl) (f14, L, R) _ _ _ _ v15 dX11_face_42 rfl ⟨⟨fun a ha => ⟨ha, rfl⟩, fun a ha => Or.inl ha⟩, (fr.rf (Mo := [(1, 0), (1, 1), (1, 2), (1, 3), (1, 5), (2, 2), (2, 3), (4, 1), (5, 4), (5, 5), (5, 6), (5, 7), (7, 5), (7, 6), (7, 16), (8, 1), (8, 2), (11, 14)]) (Mr := [1, 2, 4, 5, 7, 8, 11, 23, 24, 25, 26, 27, 28, 29, 34, 51])).tr hk (by decide +kernel) (by decide +kernel), by rw [hs6]; exact hO⟩ h
    · refine lv_aload_n F.1 F.2.1 dX11_face_14 rfl (lv_at hl 0 rfl) ?_
      refine lv_iload_n F.1 F.2.1 dX11_face_15 rfl (lv_at hl 3 rfl) ?_
      refine tu_i2l F dX11_face_16 (fun z19 hz19 hz19a hz19b => ?_)
      refine tw_Vi (As := [.long z19]) F hZ h yk_X11_isLine mw_779 mw_780 mw_781 (s_X11_isLine l D cy L R O f0 a0 m_a0 r_a0 z19) rfl rfl m_a0 r_a0 (fun e q => (T_11 e).mp q) rfl hl.1 rfl (Nat.le_of_ble_eq_true rfl) ⟨Nat.le_of_ble_eq_true rfl, Nat.le_of_ble_eq_true rfl⟩ ⟨Nat.le_of_ble_eq_true rfl, Nat.le_of_ble_eq_true rfl⟩ dX11_face_17 (fun v21 f20 H locs hp20 h => ?_)
      obtain ⟨rfl, hv21a, hv21b, hv21p0⟩ := hp20
      refine tw_if_eq (tgt := 37) F dX11_face_20 (by decide) (fun b22 => ?_) (fun b22 => ?_)
      · refine lv_aload_n F.1 F.2.1 dX11_face_37 rfl (lv_at hl 0 rfl) ?_
        refine tw_iconst F dX11_face_38 ki_1 (fun z23 hz23 => ?_)
        refine tw_Vi (As := [.int z23]) F hZ h yk_X11_refuse mw_378 mw_379 mw_380 (s_X11_refuse l D cy L R O f0 a0 m_a0 r_a0 z23 ⟨by omega, by omega⟩) rfl rfl m_a0 r_a0 (fun e q => (T_11 e).mp q) rfl hl.1 rfl (Nat.le_of_ble_eq_true rfl) ⟨Nat.le_of_ble_eq_true rfl, Nat.le_of_ble_eq_true rfl⟩ ⟨Nat.le_of_ble_eq_true rfl, Nat.le_of_ble_eq_true rfl⟩ dX11_face_39 (fun v25 f24 H locs hp24 h => ?_)
        obtain ⟨hf24, hv25a, hv25b⟩ := hp24
        have hO : KO L R O (rfa f0 a0_search 12) f0 f24 := KO_fr hO hf24 (by decide +kernel)
        have hk : fr L R [(1, 0), (1, 1), (1, 2), (1, 3), (1, 5), (2, 2), (2, 3), (4, 1), (5, 4), (5, 5), (5, 6), (5, 7), (7, 5), (7, 6), (8, 1), (8, 2), (11, 14)] [1, 2, 4, 5, 7, 8, 11, 23, 24, 25, 26, 27, 28, 29, 34, 51] f0 f24 := hk.tr hf24 rfl rfl
        have e26 : fld f24 a0 6 = .ref a0_search := (hf24.efl m_a0 r_a0 rfl).trans t_a0_search
        have e27 : fld f24 a0 3 = .ref a0_book := (hf24.efl m_a0 r_a0 rfl).trans t_a0_book
        have e28 : fld f24 a0_book 0 = .ref a0_book_scripts := (hf24.efl m_a0_book r_a0_book rfl).trans t_a0_book_scripts
        exact hret 0 0 (Nat.le_of_ble_eq_true rfl) (Nat.le_of_ble_eq_true rfl) (f24, L, R) _ _ _ _ v25 dX11_face_42 rfl ⟨⟨fun a ha => ⟨ha, rfl⟩, fun a ha => Or.inl ha⟩, (fr.rf (Mo := [(1, 0), (1, 1), (1, 2), (1, 3), (1, 5), (2, 2), (2, 3), (4, 1), (5, 4), (5, 5), (5, 6), (5, 7), (7, 5), (7, 6), (7, 16), (8, 1), (8, 2), (11, 14)]) (Mr := [1, 2, 4, 5, 7, 8, 11, 23, 24, 25, 26, 27, 28, 29, 34, 51])).tr hk (by decide +kernel) (by decide +kernel), by rw [hs6]; exact hO⟩ h
      · refine lv_iload F.1 F.2.1 dX11_face_23 (lv_at hl 4 rfl) ?_
        refine tw_iconst F dX11_face_25 ki_1 (fun z29 hz29 => ?_)
        refine tw_icmp_lt (tgt := 37) F dX11_face_26 (by decide) (fun b30 => ?_) (fun b30 => ?_)
        · refine lv_aload_n F.1 F.2.1 dX11_face_37 rfl (lv_at hl 0 rfl) ?_
          refine tw_iconst F dX11_face_38 ki_1 (fun z31 hz31 => ?_)
          refine tw_Vi (As := [.int z31]) F hZ h yk_X11_refuse mw_378 mw_379 mw_380 (s_X11_refuse l D cy L R O f0 a0 m_a0 r_a0 z31 ⟨by omega, by omega⟩) rfl rfl m_a0 r_a0 (fun e q => (T_11 e).mp q) rfl hl.1 rfl (Nat.le_of_ble_eq_true rfl) ⟨Nat.le_of_ble_eq_true rfl, Nat.le_of_ble_eq_true rfl⟩ ⟨Nat.le_of_ble_eq_true rfl, Nat.le_of_ble_eq_true rfl⟩ dX11_face_39 (fun v33 f32 H locs hp32 h => ?_)
          obtain ⟨hf32, hv33a, hv33b⟩ := hp32
          have hO : KO L R O (rfa f0 a0_search 12) f0 f32 := KO_fr hO hf32 (by decide +kernel)
          have hk : fr L R [(1, 0), (1, 1), (1, 2), (1, 3), (1, 5), (2, 2), (2, 3), (4, 1), (5, 4), (5, 5), (5, 6), (5, 7), (7, 5), (7, 6), (8, 1), (8, 2), (11, 14)] [1, 2, 4, 5, 7, 8, 11, 23, 24, 25, 26, 27, 28, 29, 34, 51] f0 f32 := hk.tr hf32 rfl rfl
          have e34 : fld f32 a0 6 = .ref a0_search := (hf32.efl m_a0 r_a0 rfl).trans t_a0_search
          have e35 : fld f32 a0 3 = .ref a0_book := (hf32.efl m_a0 r_a0 rfl).trans t_a0_book
          have e36 : fld f32 a0_book 0 = .ref a0_book_scripts := (hf32.efl m_a0_book r_a0_book rfl).trans t_a0_book_scripts
          exact hret 0 0 (Nat.le_of_ble_eq_true rfl) (Nat.le_of_ble_eq_true rfl) (f32, L, R) _ _ _ _ v33 dX11_face_42 rfl ⟨⟨fun a ha => ⟨ha, rfl⟩, fun a ha => Or.inl ha⟩, (fr.rf (Mo := [(1, 0), (1, 1), (1, 2), (1, 3), (1, 5), (2, 2), (2, 3), (4, 1), (5, 4), (5, 5), (5, 6), (5, 7), (7, 5), (7, 6), (7, 16), (8, 1), (8, 2), (11, 14)]) (Mr := [1, 2, 4, 5, 7, 8, 11, 23, 24, 25, 26, 27, 28, 29, 34, 51])).tr hk (by decide +kernel) (by decide +kernel), by rw [hs6]; exact hO⟩ h
        · refine lv_iload F.1 F.2.1 dX11_face_29 (lv_at hl 4 rfl) ?_
          refine tw_sipush F dX11_face_31 ks_200 (fun z37 hz37 => ?_)
          refine tw_icmp_le (tgt := 43) F dX11_face_34 (by decide) (fun b38 => ?_) (fun b38 => ?_)
          · refine lv_aload_n F.1 F.2.1 dX11_face_43 rfl (lv_at hl 0 rfl) ?_
            refine lv_aload_n F.1 F.2.1 dX11_face_44 rfl (lv_at hl 0 rfl) ?_
            refine g_11_47 F h m_a0 r_a0 dX11_face_45 (fun o39 m_o39 r_o39 ho39 => ?_)
            obtain rfl := (fld_inj t_a0_search ho39).symm
            refine lv_aload_n F.1 F.2.1 dX11_face_48 rfl (lv_at hl 0 rfl) ?_
            refine g_11_29 F h m_a0 r_a0 dX11_face_49 (fun o40 m_o40 r_o40 ho40 => ?_)
            obtain rfl := (fld_inj t_a0_book ho40).symm
            refine g_11_167 F h m_a0_book r_a0_book dX11_face_52 (fun o41 m_o41 r_o41 ho41 => ?_)
            obtain rfl := (fld_inj t_a0_book_scripts ho41).symm
            refine lv_iload_n F.1 F.2.1 dX11_face_55 rfl (lv_at hl 1 rfl) ?_
            refine le_20 F h m_a0_book_scripts r_a0_book_scripts (by omega) dX11_face_56 (fun o42 m_o42 r_o42 eo42 => ?_)
            refine lv_aload_n F.1 F.2.1 dX11_face_57 rfl (lv_at hl 0 rfl) ?_
            refine g_11_29 F h m_a0 r_a0 dX11_face_58 (fun o43 m_o43 r_o43 ho43 => ?_)
            obtain rfl := (fld_inj t_a0_book ho43).symm
            refine g_11_167 F h m_a0_book r_a0_book dX11_face_61 (fun o44 m_o44 r_o44 ho44 => ?_)
            obtain rfl := (fld_inj t_a0_book_scripts ho44).symm
            refine lv_iload_n F.1 F.2.1 dX11_face_64 rfl (lv_at hl 2 rfl) ?_
            refine le_20 F h m_a0_book_scripts r_a0_book_scripts (by omega) dX11_face_65 (fun o45 m_o45 r_o45 eo45 => ?_)
            refine lv_aload_n F.1 F.2.1 dX11_face_66 rfl (lv_at hl 0 rfl) ?_
            refine g_11_29 F h m_a0 r_a0 dX11_face_67 (fun o46 m_o46 r_o46 ho46 => ?_)
            obtain rfl := (fld_inj t_a0_book ho46).symm
            refine g_11_205 F h m_a0_book r_a0_book dX11_face_70 (fun o47 m_o47 r_o47 ho47 => ?_)
            refine lv_iload_n F.1 F.2.1 dX11_face_73 rfl (lv_at hl 3 rfl) ?_
            refine ld_22 F h m_o47 r_o47 (by omega) dX11_face_74 (fun o48 m_o48 r_o48 => ?_)
            refine lv_iload F.1 F.2.1 dX11_face_75 (lv_at hl 4 rfl) ?_
            refine tw_ViG (As := [.ref o42, .ref o45, .ref o48, .int x4]) F hZ h yk_X7_meet mw_1248 mw_1249 mw_1250 (s_X7_meet0 l D cy L R O f0 hG a0_search m_a0_search r_a0_search o42 m_o42 r_o42 o45 m_o45 r_o45 o48 m_o48 r_o48 x4 ⟨by omega, by omega⟩ P hSO (by rw [← hs6]; exact pre1) (pb3 _ _ (elq_a t_a0_book_scripts eo42) (by omega)).2.2 (pb3 _ _ (elq_a t_a0_book_scripts eo45) (by omega)).2.2 (by rw [← hs6]; exact pre2)) m_a0_search r_a0_search (fun e q => (T_7 e).mp q) rfl hl.1 rfl (Nat.le_of_ble_eq_true rfl) ⟨Nat.le_of_ble_eq_true rfl, Nat.le_of_ble_eq_true rfl⟩ ⟨Nat.le_of_ble_eq_true rfl, Nat.le_of_ble_eq_true rfl⟩ dX11_face_77 (fun r x H locs hp h => ?_)
            obtain ⟨gw, hf, hO, -⟩ := hp
            have ma := (gw.1 _ m_a0).1
            have ra := (gw.1 _ m_a0).2.trans r_a0
            refine tw_Vi (As := [.int r]) F hZ h yk_X11_grant mw_442 mw_443 mw_444 (s_X11_grant l D cy x.L x.R O x.f a0 ma ra r) rfl rfl ma ra (fun e q => (T_11 e).mp q) rfl hl.1 rfl (Nat.le_of_ble_eq_true rfl) ⟨Nat.le_of_ble_eq_true rfl, Nat.le_of_ble_eq_true rfl⟩ ⟨Nat.le_of_ble_eq_true rfl, Nat.le_of_ble_eq_true rfl⟩ dX11_face_80 (fun v f3 H locs hp h => ?_)
            have hp := gw.fr hp
            exact hret _ _ (Nat.le_refl _) (Nat.le_refl _) (f3, x.L, x.R) _ _ _ _ v dX11_face_83 rfl ⟨gw, (((fr.rf (Mo := [(1, 0), (1, 1), (1, 2), (1, 3), (1, 5), (2, 2), (2, 3), (4, 1), (5, 4), (5, 5), (5, 6), (5, 7), (7, 5), (7, 6), (7, 16), (8, 1), (8, 2), (11, 14)]) (Mr := [1, 2, 4, 5, 7, 8, 11, 23, 24, 25, 26, 27, 28, 29, 34, 51])).tr hk (by decide +kernel) (by decide +kernel)).tr hf (by decide +kernel) (by decide +kernel)).tr hp (by decide +kernel) (by decide +kernel), by rw [hs6]; exact KO_fr hO hp (by decide +kernel)⟩ h
          · refine lv_aload_n F.1 F.2.1 dX11_face_37 rfl (lv_at hl 0 rfl) ?_
            refine tw_iconst F dX11_face_38 ki_1 (fun z49 hz49 => ?_)
            refine tw_Vi (As := [.int z49]) F hZ h yk_X11_refuse mw_378 mw_379 mw_380 (s_X11_refuse l D cy L R O f0 a0 m_a0 r_a0 z49 ⟨by omega, by omega⟩) rfl rfl m_a0 r_a0 (fun e q => (T_11 e).mp q) rfl hl.1 rfl (Nat.le_of_ble_eq_true rfl) ⟨Nat.le_of_ble_eq_true rfl, Nat.le_of_ble_eq_true rfl⟩ ⟨Nat.le_of_ble_eq_true rfl, Nat.le_of_ble_eq_true rfl⟩ dX11_face_39 (fun v51 f50 H locs hp50 h => ?_)
            obtain ⟨hf50, hv51a, hv51b⟩ := hp50
            have hO : KO L R O (rfa f0 a0_search 12) f0 f50 := KO_fr hO hf50 (by decide +kernel)
            have hk : fr L R [(1, 0), (1, 1), (1, 2), (1, 3), (1, 5), (2, 2), (2, 3), (4, 1), (5, 4), (5, 5), (5, 6), (5, 7), (7, 5), (7, 6), (8, 1), (8, 2), (11, 14)] [1, 2, 4, 5, 7, 8, 11, 23, 24, 25, 26, 27, 28, 29, 34, 51] f0 f50 := hk.tr hf50 rfl rfl
            have e52 : fld f50 a0 6 = .ref a0_search := (hf50.efl m_a0 r_a0 rfl).trans t_a0_search
            have e53 : fld f50 a0 3 = .ref a0_book := (hf50.efl m_a0 r_a0 rfl).trans t_a0_book
            have e54 : fld f50 a0_book 0 = .ref a0_book_scripts := (hf50.efl m_a0_book r_a0_book rfl).trans t_a0_book_scripts
            exact hret 0 0 (Nat.le_of_ble_eq_true rfl) (Nat.le_of_ble_eq_true rfl) (f50, L, R) _ _ _ _ v51 dX11_face_42 rfl ⟨⟨fun a ha => ⟨ha, rfl⟩, fun a ha => Or.inl ha⟩, (fr.rf (Mo := [(1, 0), (1, 1), (1, 2), (1, 3), (1, 5), (2, 2), (2, 3), (4, 1), (5, 4), (5, 5), (5, 6), (5, 7), (7, 5), (7, 6), (7, 16), (8, 1), (8, 2), (11, 14)]) (Mr := [1, 2, 4, 5, 7, 8, 11, 23, 24, 25, 26, 27, 28, 29, 34, 51])).tr hk (by decide +kernel) (by decide +kernel), by rw [hs6]; exact hO⟩ h
