section AT
variable {ad : Nat → Nat} {cy : Nat → ClassId}
theorem TT_cell {c ro : Nat} {d : Dt} (hL : ∀ c, c < 857 → ad c ∈ stL ad ∧ stR ad (ad c) = RTg c) (hd : DCg c = d) (hr : RTg c = ro) (h : chkc c = true) : TT cy (stL ad) (stR ad) ro (cellOf ad cy d) := by
  unfold chkc at h
  rw [hd, hr] at h
  obtain ⟨t, a, b, fs⟩ := d
  by_cases h0 : t = 0
  · subst h0
    simp only [beq_self_eq_true, if_true, Bool.and_eq_true, beq_iff_eq, Bool.not_eq_true'] at h
    obtain ⟨⟨rfl, h1⟩, h2⟩ := h
    have w := mt_ok hL h2
    exact TTo_all ro h1 _ ⟨_, rfl, w.1, w.2⟩
  by_cases h3 : t = 3
  · subst h3
    simp only [show ((3 : Nat) == 0) = false from rfl, Bool.false_eq_true, if_false, beq_self_eq_true, if_true, Bool.and_eq_true, beq_iff_eq, List.any_eq_true, List.all_eq_true, Nat.blt_eq] at h
    obtain ⟨h1, z, hz, ⟨⟨h4, h5⟩, h6⟩, h7⟩ := h
    have w := QL_ok (cy := cy) (L := stL ad) (R := stR ad) z hz (fs.map (fun x => ad x.2)) (by rw [List.length_map, ← h1, h6]) (fun x hx => by
      rw [List.mem_map] at hx
      obtain ⟨y, hy, rfl⟩ := hx
      have q := h7 y hy
      exact ⟨(hL _ q.1).1, (hL _ q.1).2.trans q.2⟩)
    rw [h4, h5, h6] at w
    exact w
  · have e0 : (t == 0) = false := by simpa using h0
    have e3 : (t == 3) = false := by simpa using h3
    simp only [e0, e3, Bool.false_eq_true, if_false, Bool.and_eq_true, List.isEmpty_iff, List.any_eq_true, beq_iff_eq] at h
    obtain ⟨rfl, z, hz, h4⟩ := h
    have w := ZL_ok (cy := cy) (L := stL ad) (R := stR ad) (ad := ad) z hz
    rw [h4] at w
    exact w
theorem TT_all (hinj : ∀ i j, i < 857 → j < 857 → ad i = ad j → i = j) : ∀ a ∈ stL ad, TT cy (stL ad) (stR ad) (stR ad a) (stF ad cy a) := by
  intro a ha
  obtain ⟨c, hc, rfl⟩ := st_LP_of ha
  have hL := st_LP_R hinj
  rw [(hL c hc).2]
  unfold stF
  rw [invP_ad hinj hc]
  exact TT_cell hL rfl rfl (chk_all c hc)
theorem inj_of {q : Nat} {u : Nat → Nat} {r : Nat} {v : Nat → Nat} {A : Nat → Prop} (hD : va_D A (askFW cy q u ++ modFW cy r v)) : ∀ i j, i < 857 → j < 857 → adP q u r v i = adP q u r v j → i = j := by
  intro i j hi hj e
  rw [ws_eq] at hD
  have wi : (DLc.map (fun p => (adP q u r v p.1, cellOf (adP q u r v) cy p.2)))[i]? = some (adP q u r v i, cellOf (adP q u r v) cy (DCg i)) := by
    rw [List.getElem?_map, pchk i hi]
    rfl
  have wj : (DLc.map (fun p => (adP q u r v p.1, cellOf (adP q u r v) cy p.2)))[j]? = some (adP q u r v j, cellOf (adP q u r v) cy (DCg j)) := by
    rw [List.getElem?_map, pchk j hj]
    rfl
  exact hD.1 _ _ _ _ wi wj e
theorem tS_start {D : va_G} {A : Nat → Prop} {s : State} {H : Heap} {locs : List Loc} {q : Nat} {u : Nat → Nat} {r : Nat} {v : Nat → Nat} (h : xS D cy A s.heap (askFW cy q u ++ modFW cy r v) s H locs) : (∀ i j, i < 857 → j < 857 → adP q u r v i = adP q u r v j → i = j) ∧ tS D cy A s.heap (stL (adP q u r v)) (stR (adP q u r v)) (TT cy (stL (adP q u r v)) (stR (adP q u r v))) (stF (adP q u r v) cy) s H locs := by
  have hinj := inj_of h.2.1
  refine ⟨hinj, ?_, TT_all hinj⟩
  rw [pl_eq hinj, ← ws_eq]
  exact h
end AT
