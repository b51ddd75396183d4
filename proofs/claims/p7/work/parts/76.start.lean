section LW
variable {ad : Nat → Nat} {cy : Nat → ClassId}
set_option maxRecDepth 200000 in
theorem mok : stg 830 = 0 ∧ sfc 830 0 = (4, 831) ∧ sfc 830 22 = (4, 839) ∧ sfc 830 23 = (4, 840) ∧ sfc 830 6 = (4, 834) ∧ srt 830 = 12 ∧ srt 831 = 61 ∧ srt 839 = 69 ∧ srt 840 = 70 ∧ srt 834 = 64 ∧ stg 831 = 2 ∧ stg 839 = 1 ∧ stg 840 = 1 := by decide +kernel
theorem RBA_start (hinj : ∀ i j, i < 857 → j < 857 → ad i = ad j → i = j) : RBA (ad 831) (stF ad cy) := by
  have z := elj_0 (cy := cy) hinj (c := 831) (by omega) mok.2.2.2.2.2.2.2.2.2.2.1
  refine fun m s _ _ => ⟨fun r _ q => ?_, fun q => ?_⟩
  · rw [z] at q
    omega
  · rw [z] at q
    omega
theorem GZ_start (hinj : ∀ i j, i < 857 → j < 857 → ad i = ad j → i = j) : GZ (ad 839) (ad 840) (stF ad cy) := fun g _ => by
  rw [eli_0 (cy := cy) hinj (c := 839) (by omega) mok.2.2.2.2.2.2.2.2.2.2.2.1, eli_0 (cy := cy) hinj (c := 840) (by omega) mok.2.2.2.2.2.2.2.2.2.2.2.2]
  omega
theorem fi_1 (hinj : ∀ i j, i < 857 → j < 857 → ad i = ad j → i = j) {c k : Nat} (hc : c < 857) (h0 : stg c = 0) (h4 : sfc c k = (1, 0)) : fi (stF ad cy) (ad c) k = -1 := by
  unfold fi
  rw [fld_c hinj hc h0, h4]
  show (-1 : Int32).toInt = -1
  decide
theorem eli_4 (hinj : ∀ i j, i < 857 → j < 857 → ad i = ad j → i = j) {c i : Nat} (hc : c < 857) (h1 : stg c = 4) (hi : i < 4) : eli (stF ad cy) (ad c) i = -1 := by
  unfold eli
  rw [st_fP_ad hinj hc]
  unfold stg at h1
  generalize DCg c = d at h1 ⊢
  obtain ⟨t, a, b, fs⟩ := d
  obtain rfl : t = 4 := h1
  match i, hi with
  | 0, _ => exact (show (-1 : Int32).toInt = -1 from by decide)
  | 1, _ => exact (show (-1 : Int32).toInt = -1 from by decide)
  | 2, _ => exact (show (-1 : Int32).toInt = -1 from by decide)
  | 3, _ => exact (show (-1 : Int32).toInt = -1 from by decide)
  | j + 4, hj => exact absurd hj (by omega)
set_option maxRecDepth 200000 in
theorem trk : (sfc 0 0).1 = 4 ∧ (sfc 0 0).2 < 857 ∧ stg (sfc 0 0).2 = 3 ∧ sln (sfc 0 0).2 = 4 ∧ (∀ i, i < 4 → (sfc (sfc 0 0).2 i).2 < 857 ∧ spt (sfc (sfc 0 0).2 i).2 = i ∧ stg (sfc (sfc 0 0).2 i).2 = 0 ∧ sfc (sfc (sfc 0 0).2 i).2 1 = (1, 0) ∧ sfc (sfc (sfc 0 0).2 i).2 2 = (0, 0)) ∧ (sfc 830 4).1 = 4 ∧ (sfc 830 4).2 < 857 ∧ stg (sfc 830 4).2 = 1 ∧ (sfc 830 5).1 = 4 ∧ (sfc 830 5).2 < 857 ∧ stg (sfc 830 5).2 = 4 := by decide +kernel
theorem tr_0 (hinj : ∀ i j, i < 857 → j < 857 → ad i = ad j → i = j) {i : Nat} (hi : i < 4) : trs (stF ad cy) (ad 0) i = ad (sfc (sfc 0 0).2 i).2 := by
  obtain ⟨a1, a2, a3, a4, -⟩ := trk
  unfold trs
  rw [rfa_c hinj (by omega) sek.1 (pr4 a1), elq_c hinj a2 a3 (by omega)]
  rfl
theorem trP_start (hinj : ∀ i j, i < 857 → j < 857 → ad i = ad j → i = j) : ∀ i, i < 4 → stP ad (trs (stF ad cy) (ad 0) i) = i := fun i hi => by
  have h := trk.2.2.2.2.1 i hi
  rw [tr_0 hinj hi, P_c hinj h.1]
  exact h.2.1
theorem trR_start (hinj : ∀ i j, i < 857 → j < 857 → ad i = ad j → i = j) : ∀ i, i < 4 → CS (stF ad cy) (ad 0) i = MS (stF ad cy) (ad 830) i ∧ CT (stF ad cy) (ad 0) i = MT (stF ad cy) (ad 830) i := fun i hi => by
  obtain ⟨-, -, -, -, h, b1, b2, b3, b4, b5, b6⟩ := trk
  obtain ⟨c1, -, c3, c4, c5⟩ := h i hi
  unfold CS CT MS MT
  rw [tr_0 hinj hi, rfa_c hinj (by omega) mok.1 (pr4 b4), rfa_c hinj (by omega) mok.1 (pr4 b1), fi_0 hinj c1 c3 c5, eli_0 hinj b2 b3, fi_1 hinj c1 c3 c4, eli_4 hinj b5 b6 hi]
  exact ⟨rfl, rfl⟩
set_option maxRecDepth 200000 in
theorem trk7 : ∀ i, i < 4 → (sfc (sfc (sfc 0 0).2 i).2 0).1 = 4 ∧ (sfc (sfc (sfc 0 0).2 i).2 0).2 < 857 ∧ spt (sfc (sfc (sfc 0 0).2 i).2 0).2 = i := by decide +kernel
theorem trQ_start (hinj : ∀ i j, i < 857 → j < 857 → ad i = ad j → i = j) : ∀ i, i < 4 → stP ad (rfa (stF ad cy) (trs (stF ad cy) (ad 0) i) 0) = i := fun i hi => by
  obtain ⟨c1, -, c3, -, -⟩ := trk.2.2.2.2.1 i hi
  obtain ⟨d1, d2, d3⟩ := trk7 i hi
  rw [tr_0 hinj hi, rfa_c hinj c1 c3 (pr4 d1), P_c hinj d2]
  exact d3
theorem trN_start (hinj : ∀ i j, i < 857 → j < 857 → ad i = ad j → i = j) : ∀ i, i < 4 → ∀ j : Nat, (j : Int) < CS (stF ad cy) (ad 0) i → CN (stF ad cy) (ad 0) i j = MN (stF ad cy) (ad 830) i j := fun i hi j hj => by
  obtain ⟨c1, -, c3, c4, -⟩ := trk.2.2.2.2.1 i hi
  exfalso
  unfold CS at hj
  rw [tr_0 hinj hi, fi_1 hinj c1 c3 c4] at hj
  omega
theorem LWS_start (hinj : ∀ i j, i < 857 → j < 857 → ad i = ad j → i = j) {D : va_G} {A : Nat → Prop} {s : State} {H : Heap} {locs : List Loc} (h : tS D cy A s.heap (stL ad) (stR ad) (TT cy (stL ad) (stR ad)) (stF ad cy) s H locs) : LWS D cy A s (stL ad) (stR ad) (stO ad) (stP ad) (ad 0) (ad 830) (ad 831) (ad 839) (ad 840) (ad 834) .null (stF ad cy) H locs := by
  obtain ⟨m0, m1, m2, m3, m4, -⟩ := mok
  obtain ⟨h0, -, -, f6, -, -, -, -, -, -, -, h7, f16, -⟩ := sek
  refine ⟨h, INV_start hinj, ⟨fld_r hinj (by omega) m0 m1, fld_r hinj (by omega) m0 m2, fld_r hinj (by omega) m0 m3, fld_r hinj (by omega) m0 m4⟩, RBA_start hinj, GZ_start hinj, ?_, trP_start hinj, trR_start hinj, trQ_start hinj, trN_start hinj⟩
  rw [rfa_c (cy := cy) hinj (by omega) h0 f6, fld_c hinj (by omega) h7, f16]
  rfl
theorem mem_start (hinj : ∀ i j, i < 857 → j < 857 → ad i = ad j → i = j) : (ad 0 ∈ stL ad ∧ stR ad (ad 0) = 11) ∧ (ad 830 ∈ stL ad ∧ stR ad (ad 830) = 12) ∧ (ad 831 ∈ stL ad ∧ stR ad (ad 831) = 61) ∧ (ad 839 ∈ stL ad ∧ stR ad (ad 839) = 69) ∧ (ad 840 ∈ stL ad ∧ stR ad (ad 840) = 70) ∧ (ad 834 ∈ stL ad ∧ stR ad (ad 834) = 64) := by
  obtain ⟨-, -, -, -, -, r0, r1, r2, r3, r4, -⟩ := mok
  exact ⟨⟨st_LP_mem (by omega), by rw [R_c hinj (by omega)]; exact sek.2.2.2.2.1⟩, ⟨st_LP_mem (by omega), by rw [R_c hinj (by omega)]; exact r0⟩, ⟨st_LP_mem (by omega), by rw [R_c hinj (by omega)]; exact r1⟩, ⟨st_LP_mem (by omega), by rw [R_c hinj (by omega)]; exact r2⟩, ⟨st_LP_mem (by omega), by rw [R_c hinj (by omega)]; exact r3⟩, ⟨st_LP_mem (by omega), by rw [R_c hinj (by omega)]; exact r4⟩⟩
end LW
