section IV
variable {ad : Nat → Nat} {cy : Nat → ClassId}
def sfc (c k : Nat) : Nat × Nat := (DCg c).2.2.2.getD k (9, 0)
def stg (c : Nat) : Nat := (DCg c).1
def sln (c : Nat) : Nat := (DCg c).2.2.2.length
theorem st_fP_ad (hinj : ∀ i j, i < 857 → j < 857 → ad i = ad j → i = j) {c : Nat} (hc : c < 857) : stF ad cy (ad c) = cellOf ad cy (DCg c) := by
  unfold stF
  rw [invP_ad hinj hc]
theorem fld_c (hinj : ∀ i j, i < 857 → j < 857 → ad i = ad j → i = j) {c k : Nat} (hc : c < 857) (h0 : stg c = 0) : fld (stF ad cy) (ad c) k = fv ad (sfc c k) := by
  unfold fld
  rw [st_fP_ad hinj hc]
  unfold stg at h0
  unfold sfc
  generalize DCg c = d at h0 ⊢
  obtain ⟨t, a, b, fs⟩ := d
  obtain rfl : t = 0 := h0
  show (fs.map (fv ad)).getD k .null = fv ad (fs.getD k (9, 0))
  rw [List.getD_eq_getElem?_getD, List.getD_eq_getElem?_getD, List.getElem?_map]
  cases fs[k]? with
  | none => rfl
  | some x => rfl
theorem fld_r (hinj : ∀ i j, i < 857 → j < 857 → ad i = ad j → i = j) {c k t : Nat} (hc : c < 857) (h0 : stg c = 0) (h4 : sfc c k = (4, t)) : fld (stF ad cy) (ad c) k = .ref (ad t) := by
  rw [fld_c hinj hc h0, h4]
  rfl
theorem rfa_c (hinj : ∀ i j, i < 857 → j < 857 → ad i = ad j → i = j) {c k t : Nat} (hc : c < 857) (h0 : stg c = 0) (h4 : sfc c k = (4, t)) : rfa (stF ad cy) (ad c) k = ad t := rfa_of (fld_r hinj hc h0 h4)
theorem fi_0 (hinj : ∀ i j, i < 857 → j < 857 → ad i = ad j → i = j) {c k : Nat} (hc : c < 857) (h0 : stg c = 0) (h4 : sfc c k = (0, 0)) : fi (stF ad cy) (ad c) k = 0 := by
  unfold fi
  rw [fld_c hinj hc h0, h4]
  rfl
theorem st_dg0 (hinj : ∀ i j, i < 857 → j < 857 → ad i = ad j → i = j) {c : Nat} (hc : c < 857) (h0 : stg c = 0) (h4 : sfc c 2 = (2, 0)) : dg (stF ad cy) (ad c) = 0 := by
  unfold dg
  rw [fld_c hinj hc h0, h4]
  rfl
theorem eli_0 (hinj : ∀ i j, i < 857 → j < 857 → ad i = ad j → i = j) {c : Nat} (hc : c < 857) (h1 : stg c = 1) (j : Nat) : eli (stF ad cy) (ad c) j = 0 := by
  unfold eli
  rw [st_fP_ad hinj hc]
  unfold stg at h1
  generalize DCg c = d at h1 ⊢
  obtain ⟨t, a, b, fs⟩ := d
  obtain rfl : t = 1 := h1
  rfl
theorem elj_0 (hinj : ∀ i j, i < 857 → j < 857 → ad i = ad j → i = j) {c : Nat} (hc : c < 857) (h1 : stg c = 2) (j : Nat) : elj (stF ad cy) (ad c) j = 0 := by
  unfold elj
  rw [st_fP_ad hinj hc]
  unfold stg at h1
  generalize DCg c = d at h1 ⊢
  obtain ⟨t, a, b, fs⟩ := d
  obtain rfl : t = 2 := h1
  rfl
theorem elq_c (hinj : ∀ i j, i < 857 → j < 857 → ad i = ad j → i = j) {c j : Nat} (hc : c < 857) (h3 : stg c = 3) (hj : j < sln c) : elq (stF ad cy) (ad c) j = some (ad (sfc c j).2) := by
  unfold elq
  rw [st_fP_ad hinj hc]
  unfold stg at h3
  unfold sln at hj
  unfold sfc
  generalize DCg c = d at h3 hj ⊢
  obtain ⟨t, a, b, fs⟩ := d
  obtain rfl : t = 3 := h3
  have hj' : j < fs.length := hj
  have q := upsL_get (fs.map (fun x => ad x.2)) 0 (fun _ => none) j (by rw [List.length_map]; exact hj')
  rw [Nat.zero_add] at q
  show upsL 0 (fun _ => none) (fs.map (fun x => ad x.2)) j = some (ad (fs.getD j (9, 0)).2)
  rw [q, List.getElem_map, List.getD_eq_getElem?_getD, List.getElem?_eq_getElem hj']
  rfl
def srt (c : Nat) : Nat := RTg c
def sot (c : Nat) : Nat := OTg c
def spt (c : Nat) : Nat := PTg c
theorem R_c (hinj : ∀ i j, i < 857 → j < 857 → ad i = ad j → i = j) {c : Nat} (hc : c < 857) : stR ad (ad c) = srt c := (st_LP_R hinj c hc).2
theorem O_c (hinj : ∀ i j, i < 857 → j < 857 → ad i = ad j → i = j) {c : Nat} (hc : c < 857) : stO ad (ad c) = ad (sot c) := by
  unfold stO
  rw [invP_ad hinj hc]
  rfl
theorem P_c (hinj : ∀ i j, i < 857 → j < 857 → ad i = ad j → i = j) {c : Nat} (hc : c < 857) : stP ad (ad c) = spt c := by
  unfold stP
  rw [invP_ad hinj hc]
  rfl
def scb (c : Nat) : Bool := !(Nat.beq (srt c) 6) || ((Nat.beq (stg c) 0 && Nat.beq (sot c) c) && (Nat.beq (sfc c 17).1 0 && Nat.beq (sfc c 17).2 0) && [0, 8, 9, 10, 11, 12, 13].all (fun k => (Nat.beq (sfc c k).1 4 && Nat.blt (sfc c k).2 857) && (Nat.beq (srt (sfc c k).2) (sra k) && Nat.beq (sot (sfc c k).2) c) && (Nat.beq k 0 || Nat.beq (stg (sfc c k).2) 1)))
theorem scb_all : allN 857 scb = true := by decide +kernel
def bcb (c : Nat) : Bool := !(Nat.beq (srt c) 0) || [330, 455, 580, 705].any (fun x => Nat.beq x c)
theorem bcb_all : allN 857 bcb = true := by decide +kernel
theorem sck : ∀ c, c < 857 → srt c = 6 → stg c = 0 ∧ sot c = c ∧ sfc c 17 = (0, 0) ∧ ∀ k ∈ [0, 8, 9, 10, 11, 12, 13], (sfc c k).1 = 4 ∧ (sfc c k).2 < 857 ∧ srt (sfc c k).2 = sra k ∧ sot (sfc c k).2 = c ∧ (k = 0 ∨ stg (sfc c k).2 = 1) := fun c hc h6 => by
  have h := allN_ok scb_all c hc
  unfold scb at h
  have h := orN h (by rw [h6]; rfl)
  simp only [Bool.and_eq_true, List.all_eq_true, Bool.or_eq_true] at h
  obtain ⟨⟨⟨h0, h1⟩, h2, h3⟩, h4⟩ := h
  refine ⟨Nat.eq_of_beq_eq_true h0, Nat.eq_of_beq_eq_true h1, Prod.ext (Nat.eq_of_beq_eq_true h2) (Nat.eq_of_beq_eq_true h3), fun k hk => ?_⟩
  obtain ⟨⟨⟨q1, q2⟩, q3, q4⟩, q5⟩ := h4 k hk
  exact ⟨Nat.eq_of_beq_eq_true q1, (Nat.blt_eq).mp q2, Nat.eq_of_beq_eq_true q3, Nat.eq_of_beq_eq_true q4, q5.imp Nat.eq_of_beq_eq_true Nat.eq_of_beq_eq_true⟩
theorem bck : ∀ c, c < 857 → srt c = 0 → c ∈ [330, 455, 580, 705] := fun c hc h0 => by
  have h := allN_ok bcb_all c hc
  unfold bcb at h
  have h := orN h (by rw [h0]; rfl)
  rw [List.any_eq_true] at h
  obtain ⟨x, hx, e⟩ := h
  rw [← Nat.eq_of_beq_eq_true e]
  exact hx
set_option maxRecDepth 200000 in
theorem bkk : ∀ c ∈ [330, 455, 580, 705], stg c = 0 ∧ (sfc c 0).1 = 4 ∧ (sfc c 0).2 < 857 ∧ srt (sfc c 0).2 = 20 ∧ sot (sfc c 0).2 = c ∧ stg (sfc c 0).2 = 3 ∧ sln (sfc c 0).2 = 3 ∧ (sfc c 1).1 = 4 ∧ (sfc c 1).2 < 857 ∧ srt (sfc c 1).2 = 21 ∧ sot (sfc c 1).2 = c ∧ stg (sfc c 1).2 = 3 ∧ sln (sfc c 1).2 = 3 ∧ ∀ i, i < 3 → (sfc (sfc c 0).2 i).2 < 857 ∧ srt (sfc (sfc c 0).2 i).2 = 6 ∧ (sfc (sfc c 0).2 i).2 ≠ (sfc 16 1).2 ∧ (sfc (sfc c 1).2 i).2 < 857 ∧ srt (sfc (sfc c 1).2 i).2 = 8 ∧ sot (sfc (sfc c 1).2 i).2 = (sfc c 1).2 ∧ spt (sfc (sfc c 1).2 i).2 = i ∧ stg (sfc (sfc c 1).2 i).2 = 0 ∧ sfc (sfc (sfc c 1).2 i).2 2 = (2, 0) := by decide +kernel
set_option maxRecDepth 200000 in
theorem bjk : ∀ c ∈ [330, 455, 580, 705], ∀ c' ∈ [330, 455, 580, 705], ∀ i, i < 3 → ∀ i', i' < 3 → (sfc (sfc c 0).2 i).2 = (sfc (sfc c' 0).2 i').2 → c = c' ∧ i = i' := by decide +kernel
set_option maxRecDepth 200000 in
theorem sek : stg 0 = 0 ∧ sfc 0 2 = (4, 16) ∧ sfc 0 3 = (4, 330) ∧ sfc 0 6 = (4, 105) ∧ srt 0 = 11 ∧ srt 16 = 3 ∧ srt 330 = 0 ∧ srt 105 = 7 ∧ stg 16 = 0 ∧ (sfc 16 1).1 = 4 ∧ (sfc 16 1).2 < 857 ∧ stg 105 = 0 ∧ sfc 105 16 = (5, 0) ∧ (sfc 105 12).1 = 4 ∧ (sfc 105 12).2 < 857 ∧ srt (sfc 105 12).2 = 48 ∧ stg (sfc 105 12).2 = 3 ∧ sln (sfc 105 12).2 = 6 ∧ ∀ j, j < 6 → (sfc (sfc 105 12).2 j).2 < 857 ∧ srt (sfc (sfc 105 12).2 j).2 = 8 ∧ sot (sfc (sfc 105 12).2 j).2 = (sfc 105 12).2 ∧ spt (sfc (sfc 105 12).2 j).2 = j := by decide +kernel
theorem pr4 {x : Nat × Nat} (h : x.1 = 4) : x = (4, x.2) := by rw [← h]
theorem GG_start (hinj : ∀ i j, i < 857 → j < 857 → ad i = ad j → i = j) : GG (stL ad) (stR ad) (stO ad) (stF ad cy) := by
  have key : ∀ a ∈ stL ad, stR ad a = 6 → ∃ c, c < 857 ∧ a = ad c ∧ srt c = 6 := fun a ha hr => by
    obtain ⟨c, hc, rfl⟩ := st_LP_of ha
    exact ⟨c, hc, rfl, by rw [← R_c hinj hc]; exact hr⟩
  refine ⟨fun a ha hr => ?_, fun a ha hr => ?_⟩
  · obtain ⟨c, hc, rfl, h6⟩ := key a ha hr
    obtain ⟨h0, h1, -, h2⟩ := sck c hc h6
    refine ⟨by rw [O_c hinj hc, h1], fun k hk => ?_⟩
    have hm : k ∈ [0, 8, 9, 10, 11, 12, 13] := by
      rcases hk with rfl | rfl | rfl | rfl | rfl | rfl | rfl <;> decide
    obtain ⟨q1, q2, q3, q4, -⟩ := h2 k hm
    have e := rfa_c (cy := cy) hinj hc h0 (pr4 q1)
    rw [e]
    exact ⟨fld_r hinj hc h0 (pr4 q1), st_LP_mem q2, by rw [R_c hinj q2]; exact q3, by rw [O_c hinj q2, q4]⟩
  · obtain ⟨c, hc, rfl, h6⟩ := key a ha hr
    obtain ⟨h0, h1, -, h2⟩ := sck c hc h6
    have z : ∀ k ∈ [8, 9, 11, 12], ∀ j, eli (stF ad cy) (rfa (stF ad cy) (ad c) k) j = 0 := fun k hk j => by
      have hm : k ∈ [0, 8, 9, 10, 11, 12, 13] := by
        simp only [List.mem_cons, List.not_mem_nil, or_false] at hk ⊢
        omega
      have hk0 : k ≠ 0 := by
        simp only [List.mem_cons, List.not_mem_nil, or_false] at hk
        omega
      obtain ⟨q1, q2, -, -, q5⟩ := h2 k hm
      rw [rfa_c (cy := cy) hinj hc h0 (pr4 q1)]
      exact eli_0 hinj q2 (q5.resolve_left hk0) j
    exact ⟨fun j _ => by rw [z 8 (by decide), z 9 (by decide)]; omega, fun j _ => by rw [z 11 (by decide), z 12 (by decide)]; omega⟩
theorem IB_start (hinj : ∀ i j, i < 857 → j < 857 → ad i = ad j → i = j) : IB (stL ad) (stR ad) (stO ad) (stP ad) (stF ad cy) (ad 16) := by
  have s := sek
  have e1 := rfa_c (cy := cy) hinj (c := 16) (by omega) s.2.2.2.2.2.2.2.2.1 (pr4 s.2.2.2.2.2.2.2.2.2.1)
  have kb : ∀ k ∈ stL ad, stR ad k = 0 → ∃ c ∈ [330, 455, 580, 705], c < 857 ∧ k = ad c := fun k hk hr => by
    obtain ⟨c, hc, rfl⟩ := st_LP_of hk
    exact ⟨c, bck c hc (by rw [← R_c hinj hc]; exact hr), hc, rfl⟩
  refine ⟨fun b hb hr _ h17 => ?_, fun k hk hr => ?_, fun k hk hr k' hk' hr' i i' b hi hi' q q' => ?_⟩
  · exfalso
    obtain ⟨c, hc, rfl⟩ := st_LP_of hb
    have q := sck c hc (by rw [← R_c hinj hc]; exact hr)
    rw [fi_0 hinj hc q.1 q.2.2.1] at h17
    omega
  · obtain ⟨c, hm, hc, rfl⟩ := kb k hk hr
    obtain ⟨h0, a1, a2, a3, a4, a5, a6, b1, b2, b3, b4, b5, b6, h⟩ := bkk c hm
    unfold BK
    rw [rfa_c (cy := cy) hinj hc h0 (pr4 a1), rfa_c (cy := cy) hinj hc h0 (pr4 b1), e1]
    refine ⟨st_LP_mem a2, by rw [R_c hinj a2]; exact a3, by rw [O_c hinj a2, a4], st_LP_mem b2, by rw [R_c hinj b2]; exact b3, by rw [O_c hinj b2, b4], fun i hi => ?_⟩
    obtain ⟨q1, q2, q3, q4, q5, q6, q7, q8, q9⟩ := h i hi
    refine ⟨_, _, elq_c hinj a2 a5 (by omega), st_LP_mem q1, by rw [R_c hinj q1]; exact q2, fun e => q3 (hinj _ _ q1 s.2.2.2.2.2.2.2.2.2.2.1 e), elq_c hinj b2 b5 (by omega), st_LP_mem q4, by rw [R_c hinj q4]; exact q5, by rw [O_c hinj q4, q6], by rw [P_c hinj q4]; exact q7, Or.inl (st_dg0 hinj q4 q8 q9)⟩
  · obtain ⟨c, hm, hc, rfl⟩ := kb k hk hr
    obtain ⟨c', hm', hc', rfl⟩ := kb k' hk' hr'
    obtain ⟨h0, a1, a2, a3, a4, a5, a6, -, -, -, -, -, -, h⟩ := bkk c hm
    obtain ⟨h0', a1', a2', a3', a4', a5', a6', -, -, -, -, -, -, h'⟩ := bkk c' hm'
    rw [rfa_c (cy := cy) hinj hc h0 (pr4 a1), elq_c hinj a2 a5 (by omega)] at q
    rw [rfa_c (cy := cy) hinj hc' h0' (pr4 a1'), elq_c hinj a2' a5' (by omega)] at q'
    have e := hinj _ _ (h i hi).1 (h' i' hi').1 (Option.some.inj (q.trans q'.symm))
    obtain ⟨rfl, rfl⟩ := bjk c hm c' hm' i hi i' hi' e
    exact ⟨rfl, rfl⟩
theorem SO_start (hinj : ∀ i j, i < 857 → j < 857 → ad i = ad j → i = j) : SO (stL ad) (stR ad) (stO ad) (stF ad cy) (ad 105) ∧ ∀ j st, elq (stF ad cy) (rfa (stF ad cy) (ad 105) 12) j = some st → j < 6 → stP ad st = j := by
  obtain ⟨-, -, -, -, -, -, -, -, -, -, -, h7, -, p1, p2, p3, p4, p5, h⟩ := sek
  have e := rfa_c (cy := cy) hinj (c := 105) (by omega) h7 (pr4 p1)
  have w : ∀ j st, elq (stF ad cy) (ad (sfc 105 12).2) j = some st → j < 6 → st = ad (sfc (sfc 105 12).2 j).2 := fun j st q hj => by
    rw [elq_c hinj p2 p4 (by omega)] at q
    exact (Option.some.inj q).symm
  unfold SO
  rw [e]
  refine ⟨⟨st_LP_mem p2, by rw [R_c hinj p2]; exact p3, fun j st q hj => ?_⟩, fun j st q hj => ?_⟩
  · have q1 := h j hj
    rw [w j st q hj]
    exact ⟨st_LP_mem q1.1, by rw [R_c hinj q1.1]; exact q1.2.1, by rw [O_c hinj q1.1, q1.2.2.1]⟩
  · have q1 := h j hj
    rw [w j st q hj, P_c hinj q1.1]
    exact q1.2.2.2
theorem INV_start (hinj : ∀ i j, i < 857 → j < 857 → ad i = ad j → i = j) : INV (stL ad) (stR ad) (stO ad) (stP ad) (stF ad cy) (ad 0) := by
  obtain ⟨h0, f2, f3, f6, r0, r3, r4, r7, -⟩ := sek
  have so := SO_start (cy := cy) hinj
  unfold INV
  rw [rfa_c (cy := cy) hinj (by omega) h0 f2, rfa_c (cy := cy) hinj (by omega) h0 f3, rfa_c (cy := cy) hinj (by omega) h0 f6]
  exact ⟨⟨st_LP_mem (by omega), by rw [R_c hinj (by omega)]; exact r3⟩, ⟨st_LP_mem (by omega), by rw [R_c hinj (by omega)]; exact r4⟩, ⟨st_LP_mem (by omega), by rw [R_c hinj (by omega)]; exact r7⟩, GG_start hinj, IB_start hinj, so.1, so.2⟩
end IV
