section SND
variable {cy : Nat → ClassId} {L : List Nat} {R : Nat → Nat} {ad : Nat → Nat}
def PFv (L : List Nat) (R : Nat → Nat) (x : Nat × Nat) : Value → Prop := match x.1 with
  | 0 => fun v => v = .int 0
  | 1 => fun v => v = .int (-1)
  | 2 => fun v => v = .long 0
  | 3 => fun v => v = .long 1
  | 4 => vR L R x.2
  | _ => fun v => v = .null
def mt : List (Nat × Nat) → List (Nat × Nat) → Bool
  | [], [] => true
  | x :: fs, y :: tm => (x.1 == y.1 && (!(x.1 == 4) || (Nat.blt x.2 857 && RTg x.2 == y.2))) && mt fs tm
  | _, _ => false
theorem PF_ok (hL : ∀ c, c < 857 → ad c ∈ L ∧ R (ad c) = RTg c) {x y : Nat × Nat} (h : (x.1 == y.1 && (!(x.1 == 4) || (Nat.blt x.2 857 && RTg x.2 == y.2))) = true) : PFv L R y (fv ad x) := by
  obtain ⟨t, a⟩ := x
  obtain ⟨t', r⟩ := y
  simp only [Bool.and_eq_true, Bool.or_eq_true, beq_iff_eq, Bool.not_eq_true', beq_eq_false_iff_ne, Nat.blt_eq] at h
  obtain ⟨rfl, h2⟩ := h
  unfold PFv fv
  match t, h2 with
  | 0, _ => rfl
  | 1, _ => rfl
  | 2, _ => rfl
  | 3, _ => rfl
  | 4, h2 =>
    have h3 := h2.resolve_left (fun q => q rfl)
    exact ⟨ad a, rfl, (hL a h3.1).1, (hL a h3.1).2.trans h3.2⟩
  | n + 5, _ => rfl
theorem mt_ok (hL : ∀ c, c < 857 → ad c ∈ L ∧ R (ad c) = RTg c) : ∀ {fs tm : List (Nat × Nat)}, mt fs tm = true → (fs.map (fv ad)).length = (tm.map (PFv L R)).length ∧ ∀ (k : Nat) (p : Value → Prop) (v : Value), (tm.map (PFv L R))[k]? = some p → (fs.map (fv ad))[k]? = some v → p v
  | [], [], _ => ⟨rfl, fun k p v h => by simp at h⟩
  | x :: fs, y :: tm, h => by
    unfold mt at h
    rw [Bool.and_eq_true] at h
    have ih := mt_ok hL h.2
    refine ⟨by simp only [List.map_cons, List.length_cons, ih.1], fun k p v h1 h2 => ?_⟩
    cases k with
    | zero =>
      simp only [List.map_cons, List.getElem?_cons_zero, Option.some.injEq] at h1 h2
      subst h1 h2
      exact PF_ok hL h.1
    | succ k =>
      simp only [List.map_cons, List.getElem?_cons_succ] at h1 h2
      exact ih.2 k p v h1 h2
  | [], _ :: _, h => by simp [mt] at h
  | _ :: _, [], h => by simp [mt] at h
theorem upsL_ne : ∀ (l : List Nat) (i : Nat) (g : Nat → Option Nat) (j : Nat), j < i → upsL i g l j = g j
  | [], _, _, _, _ => rfl
  | a :: l, i, g, j, h => by
    unfold upsL
    rw [upsL_ne l (i + 1) _ j (by omega)]
    unfold va_up
    rw [if_neg (by omega)]
theorem upsL_get : ∀ (l : List Nat) (i : Nat) (g : Nat → Option Nat) (j : Nat) (h : j < l.length), upsL i g l (i + j) = some l[j]
  | a :: l, i, g, 0, h => by
    unfold upsL
    rw [upsL_ne l (i + 1) _ (i + 0) (by omega)]
    unfold va_up
    rw [if_pos (by omega)]
    rfl
  | a :: l, i, g, j + 1, h => by
    unfold upsL
    rw [show i + (j + 1) = (i + 1) + j by omega, upsL_get l (i + 1) _ j (by simpa using h)]
    rfl
theorem TTo_0 (e : va_E) (q : tO 0 ((TMt.getD 0 []).map (PFv L R)) e) : TT cy L R 0 e := (T_0 e).mpr (tO_mono (Im2.cons (fun _ q => q) <| Im2.cons (fun _ q => q) <| Im2.cons (fun _ q => q) <| Im2.cons (fun _ q => q) <| Im2.cons (fun _ q => q) <| Im2.cons (fun _ q => ⟨0, q, by decide, by decide⟩) <| Im2.cons (fun _ q => ⟨0, q, by decide, by decide⟩) <| Im2.nil) e q)
theorem TTo_1 (e : va_E) (q : tO 1 ((TMt.getD 1 []).map (PFv L R)) e) : TT cy L R 1 e := (T_1 e).mpr (tO_mono (Im2.cons (fun _ q => q) <| Im2.cons (fun _ q => q) <| Im2.cons (fun _ q => ⟨0, q, by decide, by decide⟩) <| Im2.cons (fun _ q => ⟨0, q, by decide, by decide⟩) <| Im2.cons (fun _ q => q) <| Im2.cons (fun _ q => ⟨0, q, by decide, by decide⟩) <| Im2.cons (fun _ q => q) <| Im2.cons (fun _ q => q) <| Im2.cons (fun _ q => q) <| Im2.nil) e q)
theorem TTo_3 (e : va_E) (q : tO 3 ((TMt.getD 3 []).map (PFv L R)) e) : TT cy L R 3 e := (T_3 e).mpr (tO_mono (Im2.cons (fun _ q => q) <| Im2.cons (fun _ q => q) <| Im2.cons (fun _ q => ⟨-1, q, by decide, by decide⟩) <| Im2.cons (fun _ q => ⟨-1, q, by decide, by decide⟩) <| Im2.cons (fun _ q => q) <| Im2.cons (fun _ q => q) <| Im2.cons (fun _ q => q) <| Im2.cons (fun _ q => q) <| Im2.cons (fun _ q => ⟨0, q, by decide, by decide⟩) <| Im2.cons (fun _ q => q) <| Im2.cons (fun _ q => q) <| Im2.cons (fun _ q => ⟨0, q, by decide, by decide⟩) <| Im2.cons (fun _ q => ⟨0, q, by decide, by decide⟩) <| Im2.cons (fun _ q => ⟨0, q, by decide, by decide⟩) <| Im2.nil) e q)
theorem TTo_4 (e : va_E) (q : tO 4 ((TMt.getD 4 []).map (PFv L R)) e) : TT cy L R 4 e := (T_4 e).mpr (tO_mono (Im2.cons (fun _ q => q) <| Im2.cons (fun _ q => ⟨0, q, by decide, by decide⟩) <| Im2.nil) e q)
theorem TTo_5 (e : va_E) (q : tO 5 ((TMt.getD 5 []).map (PFv L R)) e) : TT cy L R 5 e := (T_5 e).mpr (tO_mono (Im2.cons (fun _ q => q) <| Im2.cons (fun _ q => q) <| Im2.cons (fun _ q => ⟨0, q, by decide, by decide⟩) <| Im2.cons (fun _ q => ⟨-1, q, by decide, by decide⟩) <| Im2.cons (fun _ q => q) <| Im2.cons (fun _ q => q) <| Im2.cons (fun _ q => q) <| Im2.cons (fun _ q => ⟨0, q, by decide, by decide⟩) <| Im2.nil) e q)
theorem TTo_6 (e : va_E) (q : tO 6 ((TMt.getD 6 []).map (PFv L R)) e) : TT cy L R 6 e := (T_6 e).mpr (tO_mono (Im2.cons (fun _ q => q) <| Im2.cons (fun _ q => q) <| Im2.cons (fun _ q => q) <| Im2.cons (fun _ q => q) <| Im2.cons (fun _ q => q) <| Im2.cons (fun _ q => q) <| Im2.cons (fun _ q => q) <| Im2.cons (fun _ q => q) <| Im2.cons (fun _ q => q) <| Im2.cons (fun _ q => q) <| Im2.cons (fun _ q => q) <| Im2.cons (fun _ q => q) <| Im2.cons (fun _ q => q) <| Im2.cons (fun _ q => q) <| Im2.cons (fun _ q => ⟨0, q, by decide, by decide⟩) <| Im2.cons (fun _ q => ⟨0, q, by decide, by decide⟩) <| Im2.cons (fun _ q => ⟨0, q, by decide, by decide⟩) <| Im2.cons (fun _ q => ⟨0, q, by decide, by decide⟩) <| Im2.cons (fun _ q => ⟨0, q, by decide, by decide⟩) <| Im2.nil) e q)
theorem TTo_7 (e : va_E) (q : tO 7 ((TMt.getD 7 []).map (PFv L R)) e) : TT cy L R 7 e := (T_7 e).mpr (tO_mono (Im2.cons (fun _ q => q) <| Im2.cons (fun _ q => q) <| Im2.cons (fun _ q => q) <| Im2.cons (fun _ q => q) <| Im2.cons (fun _ q => ⟨0, q, by decide, by decide⟩) <| Im2.cons (fun _ q => ⟨-1, q, by decide, by decide⟩) <| Im2.cons (fun _ q => ⟨-1, q, by decide, by decide⟩) <| Im2.cons (fun _ q => ⟨0, q, by decide, by decide⟩) <| Im2.cons (fun _ q => ⟨-1, q, by decide, by decide⟩) <| Im2.cons (fun _ q => ⟨-1, q, by decide, by decide⟩) <| Im2.cons (fun _ q => ⟨-1, q, by decide, by decide⟩) <| Im2.cons (fun _ q => q) <| Im2.cons (fun _ q => q) <| Im2.cons (fun _ q => q) <| Im2.cons (fun _ q => q) <| Im2.cons (fun _ q => q) <| Im2.cons (fun _ q => Or.inl q) <| Im2.nil) e q)
theorem TTo_8 (e : va_E) (q : tO 8 ((TMt.getD 8 []).map (PFv L R)) e) : TT cy L R 8 e := (T_8 e).mpr (tO_mono (Im2.cons (fun _ q => q) <| Im2.cons (fun _ q => ⟨0, q, by decide, by decide⟩) <| Im2.cons (fun _ q => ⟨0, q, by decide +kernel, by decide +kernel⟩) <| Im2.nil) e q)
theorem TTo_9 (e : va_E) (q : tO 9 ((TMt.getD 9 []).map (PFv L R)) e) : TT cy L R 9 e := (T_9 e).mpr (tO_mono (Im2.cons (fun _ q => q) <| Im2.cons (fun _ q => q) <| Im2.cons (fun _ q => q) <| Im2.cons (fun _ q => q) <| Im2.cons (fun _ q => ⟨0, q, by decide, by decide⟩) <| Im2.nil) e q)
theorem TTo_10 (e : va_E) (q : tO 10 ((TMt.getD 10 []).map (PFv L R)) e) : TT cy L R 10 e := (T_10 e).mpr (tO_mono (Im2.cons (fun _ q => q) <| Im2.cons (fun _ q => ⟨-1, q, by decide, by decide⟩) <| Im2.cons (fun _ q => ⟨0, q, by decide, by decide⟩) <| Im2.nil) e q)
theorem TTo_11 (e : va_E) (q : tO 11 ((TMt.getD 11 []).map (PFv L R)) e) : TT cy L R 11 e := (T_11 e).mpr (tO_mono (Im2.cons (fun _ q => q) <| Im2.cons (fun _ q => q) <| Im2.cons (fun _ q => q) <| Im2.cons (fun _ q => q) <| Im2.cons (fun _ q => q) <| Im2.cons (fun _ q => q) <| Im2.cons (fun _ q => q) <| Im2.cons (fun _ q => q) <| Im2.cons (fun _ q => q) <| Im2.cons (fun _ q => q) <| Im2.cons (fun _ q => ⟨0, q, by decide, by decide⟩) <| Im2.cons (fun _ q => ⟨0, q, by decide, by decide⟩) <| Im2.cons (fun _ q => ⟨-1, q, by decide, by decide⟩) <| Im2.cons (fun _ q => ⟨0, q, by decide, by decide⟩) <| Im2.cons (fun _ q => ⟨0, q, by decide, by decide⟩) <| Im2.cons (fun _ q => ⟨0, q, by decide +kernel, by decide +kernel⟩) <| Im2.cons (fun _ q => ⟨1, q, by decide +kernel, by decide +kernel⟩) <| Im2.nil) e q)
theorem TTo_12 (e : va_E) (q : tO 12 ((TMt.getD 12 []).map (PFv L R)) e) : TT cy L R 12 e := (T_12 e).mpr (tO_mono (Im2.cons (fun _ q => q) <| Im2.cons (fun _ q => ⟨0, q, by decide, by decide⟩) <| Im2.cons (fun _ q => ⟨0, q, by decide +kernel, by decide +kernel⟩) <| Im2.cons (fun _ q => ⟨1, q, by decide +kernel, by decide +kernel⟩) <| Im2.cons (fun _ q => q) <| Im2.cons (fun _ q => q) <| Im2.cons (fun _ q => q) <| Im2.cons (fun _ q => q) <| Im2.cons (fun _ q => q) <| Im2.cons (fun _ q => ⟨0, q, by decide, by decide⟩) <| Im2.cons (fun _ q => ⟨0, q, by decide, by decide⟩) <| Im2.cons (fun _ q => ⟨0, q, by decide, by decide⟩) <| Im2.cons (fun _ q => ⟨0, q, by decide, by decide⟩) <| Im2.cons (fun _ q => ⟨0, q, by decide, by decide⟩) <| Im2.cons (fun _ q => ⟨0, q, by decide, by decide⟩) <| Im2.cons (fun _ q => ⟨-1, q, by decide, by decide⟩) <| Im2.cons (fun _ q => ⟨-1, q, by decide, by decide⟩) <| Im2.cons (fun _ q => ⟨0, q, by decide, by decide⟩) <| Im2.cons (fun _ q => q) <| Im2.cons (fun _ q => ⟨0, q, by decide, by decide⟩) <| Im2.cons (fun _ q => ⟨0, q, by decide, by decide⟩) <| Im2.cons (fun _ q => q) <| Im2.cons (fun _ q => q) <| Im2.cons (fun _ q => q) <| Im2.cons (fun _ q => q) <| Im2.cons (fun _ q => q) <| Im2.cons (fun _ q => q) <| Im2.cons (fun _ q => q) <| Im2.cons (fun _ q => ⟨0, q, by decide, by decide⟩) <| Im2.cons (fun _ q => ⟨0, q, by decide, by decide⟩) <| Im2.cons (fun _ q => ⟨-1, q, by decide, by decide⟩) <| Im2.cons (fun _ q => ⟨0, q, by decide, by decide⟩) <| Im2.cons (fun _ q => ⟨-1, q, by decide, by decide⟩) <| Im2.cons (fun _ q => ⟨0, q, by decide, by decide⟩) <| Im2.cons (fun _ q => q) <| Im2.cons (fun _ q => ⟨0, q, by decide, by decide⟩) <| Im2.cons (fun _ q => ⟨0, q, by decide, by decide⟩) <| Im2.cons (fun _ q => ⟨0, q, by decide, by decide⟩) <| Im2.cons (fun _ q => ⟨0, q, by decide, by decide⟩) <| Im2.cons (fun _ q => ⟨0, q, by decide, by decide⟩) <| Im2.cons (fun _ q => q) <| Im2.cons (fun _ q => q) <| Im2.cons (fun _ q => ⟨0, q, by decide, by decide⟩) <| Im2.cons (fun _ q => ⟨-1, q, by decide, by decide⟩) <| Im2.cons (fun _ q => ⟨0, q, by decide, by decide⟩) <| Im2.cons (fun _ q => ⟨0, q, by decide, by decide⟩) <| Im2.cons (fun _ q => ⟨0, q, by decide, by decide⟩) <| Im2.cons (fun _ q => ⟨0, q, by decide, by decide⟩) <| Im2.cons (fun _ q => q) <| Im2.cons (fun _ q => q) <| Im2.cons (fun _ q => q) <| Im2.cons (fun _ q => ⟨0, q, by decide, by decide⟩) <| Im2.cons (fun _ q => q) <| Im2.cons (fun _ q => q) <| Im2.cons (fun _ q => ⟨0, q, by decide, by decide⟩) <| Im2.cons (fun _ q => q) <| Im2.cons (fun _ q => ⟨-1, q, by decide, by decide⟩) <| Im2.cons (fun _ q => ⟨0, q, by decide, by decide⟩) <| Im2.cons (fun _ q => q) <| Im2.cons (fun _ q => ⟨-1, q, by decide, by decide⟩) <| Im2.cons (fun _ q => ⟨-1, q, by decide, by decide⟩) <| Im2.cons (fun _ q => ⟨0, q, by decide, by decide⟩) <| Im2.cons (fun _ q => q) <| Im2.cons (fun _ q => q) <| Im2.cons (fun _ q => ⟨0, q, by decide, by decide⟩) <| Im2.nil) e q)
theorem tm_1 : (-1 : Int) ≤ (-1 : Int32).toInt ∧ (-1 : Int32).toInt ≤ 60 := by decide
theorem zz_23 : TT cy L R 23 (cellOf ad cy (2, 2, 12, [])) := (T_23 _).mpr ⟨fun _ => 0, rfl, fun _ _ => trivial⟩
theorem zz_24 : TT cy L R 24 (cellOf ad cy (1, 1, 12, [])) := (T_24 _).mpr ⟨fun _ => 0, rfl, fun _ _ => (show 0 ≤ (0 : Int32).toInt ∧ (0 : Int32).toInt ≤ 11 from by decide)⟩
theorem zz_25 : TT cy L R 25 (cellOf ad cy (1, 1, 192, [])) := (T_25 _).mpr ⟨fun _ => 0, rfl, fun _ _ => trivial⟩
theorem zz_26 : TT cy L R 26 (cellOf ad cy (1, 1, 12, [])) := (T_26 _).mpr ⟨fun _ => 0, rfl, fun _ _ => (show (-1) ≤ (0 : Int32).toInt ∧ (0 : Int32).toInt ≤ 11 from by decide)⟩
theorem zz_27 : TT cy L R 27 (cellOf ad cy (1, 1, 9, [])) := (T_27 _).mpr ⟨fun _ => 0, rfl, fun _ _ => trivial⟩
theorem zz_30 : TT cy L R 30 (cellOf ad cy (1, 1, 601, [])) := (T_30 _).mpr ⟨fun _ => 0, rfl, fun _ _ => trivial⟩
theorem zz_31 : TT cy L R 31 (cellOf ad cy (2, 2, 601, [])) := (T_31 _).mpr ⟨fun _ => 0, rfl, fun _ _ => trivial⟩
theorem zz_32 : TT cy L R 32 (cellOf ad cy (1, 1, 100, [])) := (T_32 _).mpr ⟨fun _ => 0, rfl, fun _ _ => (show 0 ≤ (0 : Int32).toInt ∧ (0 : Int32).toInt ≤ 601 from by decide)⟩
theorem zz_33 : TT cy L R 33 (cellOf ad cy (1, 1, 100, [])) := (T_33 _).mpr ⟨fun _ => 0, rfl, fun _ _ => (show 0 ≤ (0 : Int32).toInt ∧ (0 : Int32).toInt ≤ 99 from by decide)⟩
theorem zz_34 : TT cy L R 34 (cellOf ad cy (1, 1, 5, [])) := (T_34 _).mpr ⟨fun _ => 0, rfl, fun _ _ => trivial⟩
theorem zz_35 : TT cy L R 35 (cellOf ad cy (2, 2, 600, [])) := (T_35 _).mpr ⟨fun _ => 0, rfl, fun _ _ => (show (-9) ≤ (0 : Int64).toInt from by decide)⟩
theorem zz_36 : TT cy L R 36 (cellOf ad cy (1, 1, 12, [])) := (T_36 _).mpr ⟨fun _ => 0, rfl, fun _ _ => trivial⟩
theorem zz_37 : TT cy L R 37 (cellOf ad cy (1, 1, 12, [])) := (T_37 _).mpr ⟨fun _ => 0, rfl, fun _ _ => (show 0 ≤ (0 : Int32).toInt ∧ (0 : Int32).toInt ≤ 24 from by decide)⟩
theorem zz_38 : TT cy L R 38 (cellOf ad cy (1, 1, 24, [])) := (T_38 _).mpr ⟨fun _ => 0, rfl, fun _ _ => (show 0 ≤ (0 : Int32).toInt ∧ (0 : Int32).toInt ≤ 11 from by decide)⟩
theorem zz_39 : TT cy L R 39 (cellOf ad cy (1, 1, 24, [])) := (T_39 _).mpr ⟨fun _ => 0, rfl, fun _ _ => (show 0 ≤ (0 : Int32).toInt ∧ (0 : Int32).toInt ≤ 600 from by decide)⟩
theorem zz_40 : TT cy L R 40 (cellOf ad cy (1, 1, 24, [])) := (T_40 _).mpr ⟨fun _ => 0, rfl, fun _ _ => (show 0 ≤ (0 : Int32).toInt ∧ (0 : Int32).toInt ≤ 8 from by decide)⟩
theorem zz_41 : TT cy L R 41 (cellOf ad cy (1, 1, 25, [])) := (T_41 _).mpr ⟨fun _ => 0, rfl, fun _ _ => (show 0 ≤ (0 : Int32).toInt ∧ (0 : Int32).toInt ≤ 4 from by decide)⟩
theorem zz_42 : TT cy L R 42 (cellOf ad cy (1, 1, 100, [])) := (T_42 _).mpr ⟨fun _ => 0, rfl, fun _ _ => (show 0 ≤ (0 : Int32).toInt ∧ (0 : Int32).toInt ≤ 600 from by decide)⟩
theorem zz_43 : TT cy L R 43 (cellOf ad cy (1, 1, 100, [])) := (T_43 _).mpr ⟨fun _ => 0, rfl, fun _ _ => (show 0 ≤ (0 : Int32).toInt ∧ (0 : Int32).toInt ≤ 10 from by decide)⟩
theorem zz_44 : TT cy L R 44 (cellOf ad cy (1, 1, 100, [])) := (T_44 _).mpr ⟨fun _ => 0, rfl, fun _ _ => (show (-1) ≤ (0 : Int32).toInt ∧ (0 : Int32).toInt ≤ 11 from by decide)⟩
theorem zz_46 : TT cy L R 46 (cellOf ad cy (1, 1, 5, [])) := (T_46 _).mpr ⟨fun _ => 0, rfl, fun _ _ => (show 0 ≤ (0 : Int32).toInt ∧ (0 : Int32).toInt ≤ 5 from by decide)⟩
theorem zz_47 : TT cy L R 47 (cellOf ad cy (1, 1, 36, [])) := (T_47 _).mpr ⟨fun _ => 0, rfl, fun _ _ => trivial⟩
theorem zz_50 : TT cy L R 50 (cellOf ad cy (1, 1, 6, [])) := (T_50 _).mpr ⟨fun _ => 0, rfl, fun _ _ => (show 0 ≤ (0 : Int32).toInt ∧ (0 : Int32).toInt ≤ 5 from by decide)⟩
theorem zz_52 : TT cy L R 52 (cellOf ad cy (1, 3, 15, [])) := (T_52 _).mpr ⟨fun _ => 0, rfl, fun _ _ => (show 0 ≤ (0 : Int32).toInt ∧ (0 : Int32).toInt ≤ 1 from by decide)⟩
theorem zz_53 : TT cy L R 53 (cellOf ad cy (1, 1, 15, [])) := (T_53 _).mpr ⟨fun _ => 0, rfl, fun _ _ => trivial⟩
theorem zz_54 : TT cy L R 54 (cellOf ad cy (2, 2, 60, [])) := (T_54 _).mpr ⟨fun _ => 0, rfl, fun _ _ => trivial⟩
theorem zz_56 : TT cy L R 56 (cellOf ad cy (1, 0, 600, [])) := (T_56 _).mpr ⟨fun _ => 0, rfl, fun _ _ => trivial⟩
theorem zz_58 : TT cy L R 58 (cellOf ad cy (1, 1, 8, [])) := (T_58 _).mpr ⟨fun _ => 0, rfl, fun _ _ => trivial⟩
theorem zz_59 : TT cy L R 59 (cellOf ad cy (1, 1, 601, [])) := (T_59 _).mpr ⟨fun _ => 0, rfl, fun _ _ => trivial⟩
theorem zz_60 : TT cy L R 60 (cellOf ad cy (1, 1, 601, [])) := (T_60 _).mpr ⟨fun _ => 0, rfl, fun _ _ => trivial⟩
theorem zz_61 : TT cy L R 61 (cellOf ad cy (2, 2, 25710, [])) := (T_61 _).mpr ⟨fun _ => 0, rfl, fun _ _ => atP_0 (show (0 : Int64).toInt = 0 from by decide)⟩
theorem zz_62 : TT cy L R 62 (cellOf ad cy (1, 1, 4, [])) := (T_62 _).mpr ⟨fun _ => 0, rfl, fun _ _ => trivial⟩
theorem zz_63 : TT cy L R 63 (cellOf ad cy (4, 1, 4, [])) := (T_63 _).mpr ⟨_, rfl, fun j hj => match j, hj with | 0, _ => tm_1 | 1, _ => tm_1 | 2, _ => tm_1 | 3, _ => tm_1 | j + 4, hj => absurd hj (by omega)⟩
theorem zz_64 : TT cy L R 64 (cellOf ad cy (2, 2, 240, [])) := (T_64 _).mpr ⟨fun _ => 0, rfl, fun _ _ => trivial⟩
theorem zz_65 : TT cy L R 65 (cellOf ad cy (1, 0, 600, [])) := (T_65 _).mpr ⟨fun _ => 0, rfl, fun _ _ => trivial⟩
theorem zz_66 : TT cy L R 66 (cellOf ad cy (1, 0, 600, [])) := (T_66 _).mpr ⟨fun _ => 0, rfl, fun _ _ => trivial⟩
theorem zz_67 : TT cy L R 67 (cellOf ad cy (2, 2, 12, [])) := (T_67 _).mpr ⟨fun _ => 0, rfl, fun _ _ => trivial⟩
theorem zz_68 : TT cy L R 68 (cellOf ad cy (1, 3, 117, [])) := (T_68 _).mpr ⟨fun _ => 0, rfl, fun _ _ => (show 0 ≤ (0 : Int32).toInt ∧ (0 : Int32).toInt ≤ 1 from by decide)⟩
theorem zz_69 : TT cy L R 69 (cellOf ad cy (1, 1, 8, [])) := (T_69 _).mpr ⟨fun _ => 0, rfl, fun _ _ => (show 0 ≤ (0 : Int32).toInt ∧ (0 : Int32).toInt ≤ 12 from by decide)⟩
theorem zz_70 : TT cy L R 70 (cellOf ad cy (1, 1, 8, [])) := (T_70 _).mpr ⟨fun _ => 0, rfl, fun _ _ => (show 0 ≤ (0 : Int32).toInt ∧ (0 : Int32).toInt ≤ 12 from by decide)⟩
theorem zz_71 : TT cy L R 71 (cellOf ad cy (1, 1, 8, [])) := (T_71 _).mpr ⟨fun _ => 0, rfl, fun _ _ => trivial⟩
theorem zz_72 : TT cy L R 72 (cellOf ad cy (1, 1, 8, [])) := (T_72 _).mpr ⟨fun _ => 0, rfl, fun _ _ => trivial⟩
theorem zz_73 : TT cy L R 73 (cellOf ad cy (2, 2, 12, [])) := (T_73 _).mpr ⟨fun _ => 0, rfl, fun _ _ => trivial⟩
theorem zz_74 : TT cy L R 74 (cellOf ad cy (2, 2, 12, [])) := (T_74 _).mpr ⟨fun _ => 0, rfl, fun _ _ => trivial⟩
theorem zz_75 : TT cy L R 75 (cellOf ad cy (1, 1, 12, [])) := (T_75 _).mpr ⟨fun _ => 0, rfl, fun _ _ => trivial⟩
theorem zz_76 : TT cy L R 76 (cellOf ad cy (1, 1, 12, [])) := (T_76 _).mpr ⟨fun _ => 0, rfl, fun _ _ => (show 0 ≤ (0 : Int32).toInt ∧ (0 : Int32).toInt ≤ 11 from by decide)⟩
theorem zz_77 : TT cy L R 77 (cellOf ad cy (2, 2, 12, [])) := (T_77 _).mpr ⟨fun _ => 0, rfl, fun _ _ => trivial⟩
theorem zz_78 : TT cy L R 78 (cellOf ad cy (2, 2, 520, [])) := (T_78 _).mpr ⟨fun _ => 0, rfl, fun _ _ => fun _ => (show (0 : Int) ≤ (0 : Int64).toInt ∧ (0 : Int64).toInt ≤ 12 from by decide)⟩
theorem zz_79 : TT cy L R 79 (cellOf ad cy (1, 1, 20, [])) := (T_79 _).mpr ⟨fun _ => 0, rfl, fun _ _ => trivial⟩
theorem zz_80 : TT cy L R 80 (cellOf ad cy (1, 3, 20, [])) := (T_80 _).mpr ⟨fun _ => 0, rfl, fun _ _ => (show 0 ≤ (0 : Int32).toInt ∧ (0 : Int32).toInt ≤ 1 from by decide)⟩
theorem zz_81 : TT cy L R 81 (cellOf ad cy (1, 1, 5, [])) := (T_81 _).mpr ⟨fun _ => 0, rfl, fun _ _ => (show 0 ≤ (0 : Int32).toInt ∧ (0 : Int32).toInt ≤ 5 from by decide)⟩
theorem zz_82 : TT cy L R 82 (cellOf ad cy (1, 1, 5, [])) := (T_82 _).mpr ⟨fun _ => 0, rfl, fun _ _ => trivial⟩
theorem zz_83 : TT cy L R 83 (cellOf ad cy (2, 2, 44622, [])) := (T_83 _).mpr ⟨fun _ => 0, rfl, fun _ _ => trivial⟩
theorem zz_84 : TT cy L R 84 (cellOf ad cy (2, 2, 260, [])) := (T_84 _).mpr ⟨fun _ => 0, rfl, fun _ _ => trivial⟩
theorem zz_85 : TT cy L R 85 (cellOf ad cy (1, 1, 36, [])) := (T_85 _).mpr ⟨fun _ => 0, rfl, fun _ _ => trivial⟩
theorem zz_86 : TT cy L R 86 (cellOf ad cy (1, 1, 6, [])) := (T_86 _).mpr ⟨fun _ => 0, rfl, fun _ _ => (show 0 ≤ (0 : Int32).toInt ∧ (0 : Int32).toInt ≤ 5 from by decide)⟩
theorem ZL_ok : ∀ z ∈ ZL, TT cy L R z.1 (cellOf ad cy (z.2.1, z.2.2.1, z.2.2.2, [])) := List.forall_mem_cons.mpr ⟨zz_23, List.forall_mem_cons.mpr ⟨zz_24, List.forall_mem_cons.mpr ⟨zz_25, List.forall_mem_cons.mpr ⟨zz_26, List.forall_mem_cons.mpr ⟨zz_27, List.forall_mem_cons.mpr ⟨zz_30, List.forall_mem_cons.mpr ⟨zz_31, List.forall_mem_cons.mpr ⟨zz_32, List.forall_mem_cons.mpr ⟨zz_33, List.forall_mem_cons.mpr ⟨zz_34, List.forall_mem_cons.mpr ⟨zz_35, List.forall_mem_cons.mpr ⟨zz_36, List.forall_mem_cons.mpr ⟨zz_37, List.forall_mem_cons.mpr ⟨zz_38, List.forall_mem_cons.mpr ⟨zz_39, List.forall_mem_cons.mpr ⟨zz_40, List.forall_mem_cons.mpr ⟨zz_41, List.forall_mem_cons.mpr ⟨zz_42, List.forall_mem_cons.mpr ⟨zz_43, List.forall_mem_cons.mpr ⟨zz_44, List.forall_mem_cons.mpr ⟨zz_46, List.forall_mem_cons.mpr ⟨zz_47, List.forall_mem_cons.mpr ⟨zz_50, List.forall_mem_cons.mpr ⟨zz_52, List.forall_mem_cons.mpr ⟨zz_53, List.forall_mem_cons.mpr ⟨zz_54, List.forall_mem_cons.mpr ⟨zz_56, List.forall_mem_cons.mpr ⟨zz_58, List.forall_mem_cons.mpr ⟨zz_59, List.forall_mem_cons.mpr ⟨zz_60, List.forall_mem_cons.mpr ⟨zz_61, List.forall_mem_cons.mpr ⟨zz_62, List.forall_mem_cons.mpr ⟨zz_63, List.forall_mem_cons.mpr ⟨zz_64, List.forall_mem_cons.mpr ⟨zz_65, List.forall_mem_cons.mpr ⟨zz_66, List.forall_mem_cons.mpr ⟨zz_67, List.forall_mem_cons.mpr ⟨zz_68, List.forall_mem_cons.mpr ⟨zz_69, List.forall_mem_cons.mpr ⟨zz_70, List.forall_mem_cons.mpr ⟨zz_71, List.forall_mem_cons.mpr ⟨zz_72, List.forall_mem_cons.mpr ⟨zz_73, List.forall_mem_cons.mpr ⟨zz_74, List.forall_mem_cons.mpr ⟨zz_75, List.forall_mem_cons.mpr ⟨zz_76, List.forall_mem_cons.mpr ⟨zz_77, List.forall_mem_cons.mpr ⟨zz_78, List.forall_mem_cons.mpr ⟨zz_79, List.forall_mem_cons.mpr ⟨zz_80, List.forall_mem_cons.mpr ⟨zz_81, List.forall_mem_cons.mpr ⟨zz_82, List.forall_mem_cons.mpr ⟨zz_83, List.forall_mem_cons.mpr ⟨zz_84, List.forall_mem_cons.mpr ⟨zz_85, List.forall_mem_cons.mpr ⟨zz_86, (fun _ h => absurd h List.not_mem_nil)⟩⟩⟩⟩⟩⟩⟩⟩⟩⟩⟩⟩⟩⟩⟩⟩⟩⟩⟩⟩⟩⟩⟩⟩⟩⟩⟩⟩⟩⟩⟩⟩⟩⟩⟩⟩⟩⟩⟩⟩⟩⟩⟩⟩⟩⟩⟩⟩⟩⟩⟩⟩⟩⟩⟩⟩
theorem qq_20 (l : List Nat) (hl : l.length = 3) (h : ∀ x ∈ l, x ∈ L ∧ R x = 6) : TT cy L R 20 (.inl (cy 7, 3, .inr (.inr (.inr (.inr (upsL 0 (fun _ => none) l)))))) := (T_20 _).mpr ⟨_, rfl, fun j hj => ⟨l[j], by have q := upsL_get l 0 (fun _ => none) j (by omega); rw [Nat.zero_add] at q; exact q, h _ (List.getElem_mem _)⟩⟩
theorem qq_21 (l : List Nat) (hl : l.length = 3) (h : ∀ x ∈ l, x ∈ L ∧ R x = 8) : TT cy L R 21 (.inl (cy 8, 3, .inr (.inr (.inr (.inr (upsL 0 (fun _ => none) l)))))) := (T_21 _).mpr ⟨_, rfl, fun j hj => ⟨l[j], by have q := upsL_get l 0 (fun _ => none) j (by omega); rw [Nat.zero_add] at q; exact q, h _ (List.getElem_mem _)⟩⟩
theorem qq_22 (l : List Nat) (hl : l.length = 16) (h : ∀ x ∈ l, x ∈ L ∧ R x = 4) : TT cy L R 22 (.inl (cy 6, 16, .inr (.inr (.inr (.inr (upsL 0 (fun _ => none) l)))))) := (T_22 _).mpr ⟨_, rfl, fun j hj => ⟨l[j], by have q := upsL_get l 0 (fun _ => none) j (by omega); rw [Nat.zero_add] at q; exact q, h _ (List.getElem_mem _)⟩⟩
theorem qq_45 (l : List Nat) (hl : l.length = 16) (h : ∀ x ∈ l, x ∈ L ∧ R x = 1) : TT cy L R 45 (.inl (cy 5, 16, .inr (.inr (.inr (.inr (upsL 0 (fun _ => none) l)))))) := (T_45 _).mpr ⟨_, rfl, fun j hj => ⟨l[j], by have q := upsL_get l 0 (fun _ => none) j (by omega); rw [Nat.zero_add] at q; exact q, h _ (List.getElem_mem _)⟩⟩
theorem qq_48 (l : List Nat) (hl : l.length = 6) (h : ∀ x ∈ l, x ∈ L ∧ R x = 8) : TT cy L R 48 (.inl (cy 8, 6, .inr (.inr (.inr (.inr (upsL 0 (fun _ => none) l)))))) := (T_48 _).mpr ⟨_, rfl, fun j hj => ⟨l[j], by have q := upsL_get l 0 (fun _ => none) j (by omega); rw [Nat.zero_add] at q; exact q, h _ (List.getElem_mem _)⟩⟩
theorem qq_49 (l : List Nat) (hl : l.length = 15) (h : ∀ x ∈ l, x ∈ L ∧ R x = 4) : TT cy L R 49 (.inl (cy 6, 15, .inr (.inr (.inr (.inr (upsL 0 (fun _ => none) l)))))) := (T_49 _).mpr ⟨_, rfl, fun j hj => ⟨l[j], by have q := upsL_get l 0 (fun _ => none) j (by omega); rw [Nat.zero_add] at q; exact q, h _ (List.getElem_mem _)⟩⟩
theorem qq_51 (l : List Nat) (hl : l.length = 6) (h : ∀ x ∈ l, x ∈ L ∧ R x = 4) : TT cy L R 51 (.inl (cy 6, 6, .inr (.inr (.inr (.inr (upsL 0 (fun _ => none) l)))))) := (T_51 _).mpr ⟨_, rfl, fun j hj => ⟨l[j], by have q := upsL_get l 0 (fun _ => none) j (by omega); rw [Nat.zero_add] at q; exact q, h _ (List.getElem_mem _)⟩⟩
theorem qq_55 (l : List Nat) (hl : l.length = 4) (h : ∀ x ∈ l, x ∈ L ∧ R x = 10) : TT cy L R 55 (.inl (cy 9, 4, .inr (.inr (.inr (.inr (upsL 0 (fun _ => none) l)))))) := (T_55 _).mpr ⟨_, rfl, fun j hj => ⟨l[j], by have q := upsL_get l 0 (fun _ => none) j (by omega); rw [Nat.zero_add] at q; exact q, h _ (List.getElem_mem _)⟩⟩
theorem qq_57 (l : List Nat) (hl : l.length = 3) (h : ∀ x ∈ l, x ∈ L ∧ R x = 0) : TT cy L R 57 (.inl (cy 4, 3, .inr (.inr (.inr (.inr (upsL 0 (fun _ => none) l)))))) := (T_57 _).mpr ⟨_, rfl, fun j hj => ⟨l[j], by have q := upsL_get l 0 (fun _ => none) j (by omega); rw [Nat.zero_add] at q; exact q, h _ (List.getElem_mem _)⟩⟩
theorem QL_ok : ∀ z ∈ QL, ∀ l : List Nat, l.length = z.2.2.1 → (∀ x ∈ l, x ∈ L ∧ R x = z.2.2.2) → TT cy L R z.1 (.inl (cy z.2.1, z.2.2.1, .inr (.inr (.inr (.inr (upsL 0 (fun _ => none) l)))))) := List.forall_mem_cons.mpr ⟨qq_20, List.forall_mem_cons.mpr ⟨qq_21, List.forall_mem_cons.mpr ⟨qq_22, List.forall_mem_cons.mpr ⟨qq_45, List.forall_mem_cons.mpr ⟨qq_48, List.forall_mem_cons.mpr ⟨qq_49, List.forall_mem_cons.mpr ⟨qq_51, List.forall_mem_cons.mpr ⟨qq_55, List.forall_mem_cons.mpr ⟨qq_57, (fun _ h => absurd h List.not_mem_nil)⟩⟩⟩⟩⟩⟩⟩⟩⟩
end SND
