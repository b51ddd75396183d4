def adP (q : Nat) (u : Nat → Nat) (r : Nat) (v : Nat → Nat) (c : Nat) : Nat := if c < 830 then adA q u c else adA r v (c - 830)
theorem cellOf_congr {g g' : Nat → Nat} {cy : Nat → ClassId} {d : Dt} (h : ∀ x ∈ d.2.2.2, x.1 = 4 → g x.2 = g' x.2) (h3 : d.1 = 3 → ∀ x ∈ d.2.2.2, x.1 = 4) : cellOf g cy d = cellOf g' cy d := by
  obtain ⟨t, a, b, fs⟩ := d
  have e1 : fs.map (fv g) = fs.map (fv g') := List.map_congr_left (fun x hx => by
    obtain ⟨y, z⟩ := x
    unfold fv
    match y, h (y, z) hx with
    | 0, _ => rfl
    | 1, _ => rfl
    | 2, _ => rfl
    | 3, _ => rfl
    | 4, q => exact congrArg Value.ref (q rfl)
    | n + 5, _ => rfl)
  unfold cellOf
  match t, h3 with
  | 0, _ => show Sum.inr (a, fs.map (fv g)) = Sum.inr (a, fs.map (fv g')); rw [e1]
  | 1, _ => rfl
  | 2, _ => rfl
  | 3, h3 =>
    have e2 : fs.map (fun x => g x.2) = fs.map (fun x => g' x.2) := List.map_congr_left (fun x hx => h x hx (h3 rfl x hx))
    show Sum.inl (cy a, b, Sum.inr (Sum.inr (Sum.inr (Sum.inr (upsL 0 (fun _ => none) (fs.map (fun x => g x.2))))))) = Sum.inl (cy a, b, Sum.inr (Sum.inr (Sum.inr (Sum.inr (upsL 0 (fun _ => none) (fs.map (fun x => g' x.2)))))))
    rw [e2]
  | n + 4, _ => rfl
def allN : Nat → (Nat → Bool) → Bool
  | 0, _ => true
  | n + 1, g => g n && allN n g
theorem allN_ok : ∀ {n : Nat} {g : Nat → Bool}, allN n g = true → ∀ c, c < n → g c = true
  | 0, _, _, c, hc => absurd hc (by omega)
  | n + 1, g, h, c, hc => by
    unfold allN at h
    rw [Bool.and_eq_true] at h
    by_cases e : c = n
    · rw [e]
      exact h.1
    · exact allN_ok h.2 c (by omega)
def leq : List (Nat × Nat) → List (Nat × Nat) → Bool
  | [], [] => true
  | x :: l, y :: m => (Nat.beq x.1 y.1 && Nat.beq x.2 y.2) && leq l m
  | _, _ => false
theorem leq_ok : ∀ {l m : List (Nat × Nat)}, leq l m = true → l = m
  | [], [], _ => rfl
  | x :: l, y :: m, h => by
    unfold leq at h
    rw [Bool.and_eq_true, Bool.and_eq_true] at h
    rw [leq_ok h.2, show x = y from Prod.ext (Nat.eq_of_beq_eq_true h.1.1) (Nat.eq_of_beq_eq_true h.1.2)]
  | [], _ :: _, h => by simp [leq] at h
  | _ :: _, [], h => by simp [leq] at h
def deq (d d' : Dt) : Bool := (Nat.beq d.1 d'.1 && Nat.beq d.2.1 d'.2.1) && (Nat.beq d.2.2.1 d'.2.2.1 && leq d.2.2.2 d'.2.2.2)
theorem deq_ok {d d' : Dt} (h : deq d d' = true) : d = d' := by
  unfold deq at h
  rw [Bool.and_eq_true, Bool.and_eq_true, Bool.and_eq_true] at h
  exact Prod.ext (Nat.eq_of_beq_eq_true h.1.1) (Prod.ext (Nat.eq_of_beq_eq_true h.1.2) (Prod.ext (Nat.eq_of_beq_eq_true h.2.1) (leq_ok h.2.2)))
def kA (p : Nat × Dt) : Bool := Nat.blt p.1 830 && p.2.2.2.2.all (fun x => (!(Nat.beq x.1 4) || Nat.blt x.2 830) && (!(Nat.beq p.2.1 3) || Nat.beq x.1 4))
def kM (p : Nat × Dt) : Bool := Nat.ble 830 p.1 && p.2.2.2.2.all (fun x => (!(Nat.beq x.1 4) || Nat.ble 830 x.2) && (!(Nat.beq p.2.1 3) || Nat.beq x.1 4))
def kD (p : Nat × Dt) : Bool := Nat.blt p.1 857 && deq (DCg p.1) p.2
theorem kA_all : DLa.all kA = true := by decide +kernel
theorem kM_all : DLm.all kM = true := by decide +kernel
theorem kD_all : DLc.all kD = true := by decide +kernel
theorem orN {a b : Bool} (h : (!a || b) = true) (ha : a = true) : b = true := by
  cases a <;> cases b <;> simp_all
theorem chkA : ∀ p ∈ DLa, p.1 < 830 ∧ ∀ x ∈ p.2.2.2.2, (x.1 = 4 → x.2 < 830) ∧ (p.2.1 = 3 → x.1 = 4) := fun p hp => by
  have h := List.all_eq_true.mp kA_all p hp
  unfold kA at h
  rw [Bool.and_eq_true, List.all_eq_true] at h
  refine ⟨(Nat.blt_eq).mp h.1, fun x hx => ?_⟩
  have q := h.2 x hx
  rw [Bool.and_eq_true] at q
  exact ⟨fun e => (Nat.blt_eq).mp (orN q.1 (by rw [e]; rfl)), fun e => Nat.eq_of_beq_eq_true (orN q.2 (by rw [e]; rfl))⟩
theorem chkM : ∀ p ∈ DLm, 830 ≤ p.1 ∧ ∀ x ∈ p.2.2.2.2, (x.1 = 4 → 830 ≤ x.2) ∧ (p.2.1 = 3 → x.1 = 4) := fun p hp => by
  have h := List.all_eq_true.mp kM_all p hp
  unfold kM at h
  rw [Bool.and_eq_true, List.all_eq_true] at h
  refine ⟨Nat.le_of_ble_eq_true h.1, fun x hx => ?_⟩
  have q := h.2 x hx
  rw [Bool.and_eq_true] at q
  exact ⟨fun e => Nat.le_of_ble_eq_true (orN q.1 (by rw [e]; rfl)), fun e => Nat.eq_of_beq_eq_true (orN q.2 (by rw [e]; rfl))⟩
theorem dchk : ∀ p ∈ DLc, p.1 < 857 ∧ DCg p.1 = p.2 := fun p hp => by
  have h := List.all_eq_true.mp kD_all p hp
  unfold kD at h
  rw [Bool.and_eq_true] at h
  exact ⟨(Nat.blt_eq).mp h.1, deq_ok h.2⟩
def lr : Nat → List (Nat × Dt) → Bool
  | _, [] => true
  | n, p :: l => Nat.beq p.1 n && lr (n + 1) l
theorem lr_ok : ∀ {l : List (Nat × Dt)} {n c : Nat} {p : Nat × Dt}, lr n l = true → l[c]? = some p → p.1 = n + c
  | [], n, c, p, _, h => by simp at h
  | x :: l, n, c, p, h, hp => by
    unfold lr at h
    rw [Bool.and_eq_true] at h
    cases c with
    | zero =>
      simp only [List.getElem?_cons_zero, Option.some.injEq] at hp
      rw [← hp]
      exact Nat.eq_of_beq_eq_true h.1
    | succ c =>
      simp only [List.getElem?_cons_succ] at hp
      have := lr_ok h.2 hp
      omega
theorem lr_1 : lr 0 DLc = true := by decide +kernel
theorem ln_1 : DLc.length = 857 := by decide +kernel
theorem pchk (c : Nat) (hc : c < 857) : DLc[c]? = some (c, DCg c) := by
  have hn := ln_1
  cases e : DLc[c]? with
  | none =>
    have := List.getElem?_eq_none_iff.mp e
    omega
  | some p =>
    have h1 : p.1 = c := by
      have := lr_ok lr_1 e
      omega
    have h2 := (dchk _ (List.mem_of_getElem? e)).2
    rw [h1] at h2
    exact congrArg some (Prod.ext h1 h2.symm)
set_option maxRecDepth 100000 in
theorem ws_eq {cy : Nat → ClassId} {q : Nat} {u : Nat → Nat} {r : Nat} {v : Nat → Nat} : askFW cy q u ++ modFW cy r v = DLc.map (fun p => (adP q u r v p.1, cellOf (adP q u r v) cy p.2)) := by
  unfold DLc
  rw [wA_eq, wM_eq, List.map_append]
  refine congr (congrArg _ ?_) ?_
  · refine List.map_congr_left (fun p hp => ?_)
    have h := chkA p hp
    have e : ∀ c, c < 830 → adA q u c = adP q u r v c := fun c hc => by unfold adP; rw [if_pos hc]
    exact Prod.ext (e _ h.1) (cellOf_congr (fun x hx h4 => e _ ((h.2 x hx).1 h4)) (fun h3 x hx => (h.2 x hx).2 h3))
  · refine List.map_congr_left (fun p hp => ?_)
    have h := chkM p hp
    have e : ∀ c, 830 ≤ c → adA r v (c - 830) = adP q u r v c := fun c hc => by unfold adP; rw [if_neg (by omega)]
    exact Prod.ext (e _ h.1) (cellOf_congr (fun x hx h4 => e _ ((h.2 x hx).1 h4)) (fun h3 x hx => (h.2 x hx).2 h3))
noncomputable def invP (ad : Nat → Nat) (a : Nat) : Nat := @dite _ (∃ k, k < 857 ∧ ad k = a) (Classical.propDecidable _) (fun h => h.choose) (fun _ => 0)
theorem invP_ad {ad : Nat → Nat} (hinj : ∀ i j, i < 857 → j < 857 → ad i = ad j → i = j) {k : Nat} (hk : k < 857) : invP ad (ad k) = k := by
  unfold invP
  rw [dif_pos ⟨k, hk, rfl⟩]
  have h : ∃ j, j < 857 ∧ ad j = ad k := ⟨k, hk, rfl⟩
  exact hinj _ _ h.choose_spec.1 hk h.choose_spec.2
def stL (ad : Nat → Nat) : List Nat := DLc.map (fun p => ad p.1)
noncomputable def stR (ad : Nat → Nat) (a : Nat) : Nat := RTg (invP ad a)
noncomputable def stO (ad : Nat → Nat) (a : Nat) : Nat := ad (OTg (invP ad a))
noncomputable def stP (ad : Nat → Nat) (a : Nat) : Nat := PTg (invP ad a)
noncomputable def stF (ad : Nat → Nat) (cy : Nat → ClassId) (a : Nat) : va_E := cellOf ad cy (DCg (invP ad a))
section PL
variable {ad : Nat → Nat} {cy : Nat → ClassId}
theorem st_LP_mem {c : Nat} (hc : c < 857) : ad c ∈ stL ad := by
  unfold stL
  rw [List.mem_map]
  exact ⟨_, List.mem_of_getElem? (pchk c hc), rfl⟩
theorem st_LP_of {a : Nat} (h : a ∈ stL ad) : ∃ c, c < 857 ∧ a = ad c := by
  unfold stL at h
  rw [List.mem_map] at h
  obtain ⟨p, hp, rfl⟩ := h
  exact ⟨p.1, (dchk p hp).1, rfl⟩
theorem st_LP_R (hinj : ∀ i j, i < 857 → j < 857 → ad i = ad j → i = j) (c : Nat) (hc : c < 857) : ad c ∈ stL ad ∧ stR ad (ad c) = RTg c := ⟨st_LP_mem hc, by unfold stR; rw [invP_ad hinj hc]⟩
theorem pl_eq (hinj : ∀ i j, i < 857 → j < 857 → ad i = ad j → i = j) : va_pl (stL ad) (stF ad cy) = DLc.map (fun p => (ad p.1, cellOf ad cy p.2)) := by
  unfold va_pl stL
  rw [List.map_map]
  refine List.map_congr_left (fun p hp => ?_)
  have h := dchk p hp
  show (ad p.1, stF ad cy (ad p.1)) = _
  unfold stF
  rw [invP_ad hinj h.1, h.2]
def chkc (c : Nat) : Bool := let d := DCg c
  if d.1 == 0 then (RTg c == d.2.1 && !(TMt.getD d.2.1 []).isEmpty && mt d.2.2.2 (TMt.getD d.2.1 []))
  else if d.1 == 3 then (d.2.2.1 == d.2.2.2.length && QL.any (fun z => z.1 == RTg c && z.2.1 == d.2.1 && z.2.2.1 == d.2.2.1 && d.2.2.2.all (fun x => Nat.blt x.2 857 && RTg x.2 == z.2.2.2)))
  else (d.2.2.2.isEmpty && ZL.any (fun z => z == (RTg c, d.1, d.2.1, d.2.2.1)))
theorem chk_b : allN 857 chkc = true := by decide +kernel
theorem chk_all : ∀ c, c < 857 → chkc c = true := allN_ok chk_b
theorem TTo_all {L : List Nat} {R : Nat → Nat} (ci : Nat) (h : (TMt.getD ci []).isEmpty = false) : ∀ e, tO ci ((TMt.getD ci []).map (PFv L R)) e → TT cy L R ci e := match ci, h with
  | 0, _ => TTo_0
  | 1, _ => TTo_1
  | 2, h => absurd h (fun q => nomatch q)
  | 3, _ => TTo_3
  | 4, _ => TTo_4
  | 5, _ => TTo_5
  | 6, _ => TTo_6
  | 7, _ => TTo_7
  | 8, _ => TTo_8
  | 9, _ => TTo_9
  | 10, _ => TTo_10
  | 11, _ => TTo_11
  | 12, _ => TTo_12
  | n + 13, h => absurd h (fun q => nomatch q)
end PL
