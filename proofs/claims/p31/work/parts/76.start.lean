section LW
variable {ad : Nat → Nat} {cy : Nat → ClassId}
set_option maxRecDepth 200000 in
theorem mok : stg 830 = 0 ∧ sfc 830 0 = (4, 831) ∧ sfc 830 22 = (4, 839) ∧ sfc 830 23 = (4, 840) ∧ sfc 830 6 = (4, 834) ∧ srt 830 = 12 ∧ srt 831 = 61 ∧ srt 839 = 69 ∧ srt 840 = 70 ∧ srt 834 = 64 ∧ stg 831 = 2 ∧ stg 839 = 1 ∧ stg 840 = 1 := by decide +kernel
theorem RBA_start (hinj : ∀ i j, i < 857 → j < 857 → ad i = ad j → i = j) : RBA (ad 831) (stF ad cy) := by
  have z := elj_0 (cy := cy) hinj (c := 831) (by omega) mok.2.2.2.2.2.2.2.2.2.2.1
  refine fun m s _ _ => ⟨fun r _ q => ?_, fun q => ?_⟩
  · rw [z] at q
    omega
  · rw [z] at q
    omega
theorem GZ_start (hinj : ∀ i j, i < 857 → j < 857 → ad i = ad j → i = j) : GZ (ad 839) (ad 840) (stF ad cy) := fun g _ => by
  rw [eli_0 (cy := cy) hinj (c := 839) (by omega) mok.2.2.2.2.2.2.2.2.2.2.2.1, eli_0 (cy := cy) hinj (c := 840) (by omega) mok.2.2.2.2.2.2.2.2.2.2.2.2]
  omega
set_option maxRecDepth 200000 in
theorem cpk : (sfc 0 3).1 = 4 ∧ (sfc 0 3).2 < 857 ∧ stg (sfc 0 3).2 = 0 ∧ sfc (sfc 0 3).2 6 = (0, 0) ∧ spt (sfc 0 3).2 = 3 ∧ (sfc 0 4).1 = 4 ∧ (sfc 0 4).2 < 857 ∧ stg (sfc 0 4).2 = 3 ∧ sln (sfc 0 4).2 = 3 ∧ ∀ i, i < 3 → (sfc (sfc 0 4).2 i).2 < 857 ∧ spt (sfc (sfc 0 4).2 i).2 = i ∧ stg (sfc (sfc 0 4).2 i).2 = 0 ∧ sfc (sfc (sfc 0 4).2 i).2 6 = (0, 0) := by decide +kernel
theorem mk_0 (hinj : ∀ i j, i < 857 → j < 857 → ad i = ad j → i = j) {i : Nat} (hi : i < 3) : mks (stF ad cy) (ad 0) i = ad (sfc (sfc 0 4).2 i).2 := by
  obtain ⟨-, -, -, -, -, a1, a2, a3, a4, -⟩ := cpk
  unfold mks
  rw [rfa_c hinj (by omega) sek.1 (pr4 a1), elq_c hinj a2 a3 (by omega)]
  rfl
theorem cb_start (hinj : ∀ i j, i < 857 → j < 857 → ad i = ad j → i = j) {j : Nat} : CB (stF ad cy) (ad 0) = elj (stF ad cy) (ad 831) j := by
  obtain ⟨a1, a2, a3, a4, -⟩ := cpk
  unfold CB
  rw [rfa_c hinj (by omega) sek.1 (pr4 a1), fi_0 hinj a2 a3 a4, elj_0 (cy := cy) hinj (c := 831) (by omega) mok.2.2.2.2.2.2.2.2.2.2.1]
theorem ck_start (hinj : ∀ i j, i < 857 → j < 857 → ad i = ad j → i = j) (i : Nat) (hi : i < 3) {j : Nat} : CK (stF ad cy) (ad 0) i = elj (stF ad cy) (ad 831) j := by
  obtain ⟨b1, -, b3, b4⟩ := cpk.2.2.2.2.2.2.2.2.2 i hi
  unfold CK
  rw [mk_0 hinj hi, fi_0 hinj b1 b3 b4, elj_0 (cy := cy) hinj (c := 831) (by omega) mok.2.2.2.2.2.2.2.2.2.2.1]
theorem pb_start (hinj : ∀ i j, i < 857 → j < 857 → ad i = ad j → i = j) : PB (stP ad) (stF ad cy) (ad 0) := by
  obtain ⟨a1, a2, a3, a4, a5, -⟩ := cpk
  unfold PB
  refine ⟨?_, fun i hi => ?_⟩
  · rw [rfa_c hinj (by omega) sek.1 (pr4 a1), P_c hinj a2]
    exact a5
  · have h := cpk.2.2.2.2.2.2.2.2.2 i hi
    rw [mk_0 hinj hi, P_c hinj h.1]
    exact h.2.1
theorem LWS_start (hinj : ∀ i j, i < 857 → j < 857 → ad i = ad j → i = j) {D : va_G} {A : Nat → Prop} {s : State} {H : Heap} {locs : List Loc} (h : tS D cy A s.heap (stL ad) (stR ad) (TT cy (stL ad) (stR ad)) (stF ad cy) s H locs) : LWS D cy A s (stL ad) (stR ad) (stO ad) (stP ad) (ad 0) (ad 830) (ad 831) (ad 839) (ad 840) (ad 834) .null (stF ad cy) H locs := by
  obtain ⟨m0, m1, m2, m3, m4, -⟩ := mok
  obtain ⟨h0, -, -, f6, -, -, -, -, -, -, -, h7, f16, -⟩ := sek
  refine ⟨h, INV_start hinj, ⟨fld_r hinj (by omega) m0 m1, fld_r hinj (by omega) m0 m2, fld_r hinj (by omega) m0 m3, fld_r hinj (by omega) m0 m4⟩, RBA_start hinj, GZ_start hinj, ?_, (fi_0 hinj (by omega) h0 (by decide +kernel)).trans (fi_0 hinj (by omega) m0 (by decide +kernel)).symm, cb_start hinj, ck_start hinj 0 (by omega), ck_start hinj 1 (by omega), ck_start hinj 2 (by omega), pb_start hinj⟩
  rw [rfa_c (cy := cy) hinj (by omega) h0 f6, fld_c hinj (by omega) h7, f16]
  rfl
theorem mem_start (hinj : ∀ i j, i < 857 → j < 857 → ad i = ad j → i = j) : (ad 0 ∈ stL ad ∧ stR ad (ad 0) = 11) ∧ (ad 830 ∈ stL ad ∧ stR ad (ad 830) = 12) ∧ (ad 831 ∈ stL ad ∧ stR ad (ad 831) = 61) ∧ (ad 839 ∈ stL ad ∧ stR ad (ad 839) = 69) ∧ (ad 840 ∈ stL ad ∧ stR ad (ad 840) = 70) ∧ (ad 834 ∈ stL ad ∧ stR ad (ad 834) = 64) := by
  obtain ⟨-, -, -, -, -, r0, r1, r2, r3, r4, -⟩ := mok
  exact ⟨⟨st_LP_mem (by omega), by rw [R_c hinj (by omega)]; exact sek.2.2.2.2.1⟩, ⟨st_LP_mem (by omega), by rw [R_c hinj (by omega)]; exact r0⟩, ⟨st_LP_mem (by omega), by rw [R_c hinj (by omega)]; exact r1⟩, ⟨st_LP_mem (by omega), by rw [R_c hinj (by omega)]; exact r2⟩, ⟨st_LP_mem (by omega), by rw [R_c hinj (by omega)]; exact r3⟩, ⟨st_LP_mem (by omega), by rw [R_c hinj (by omega)]; exact r4⟩⟩
end LW
