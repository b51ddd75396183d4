/-! tokens -/
def WT (v s : Int) : Prop := 1 ≤ v ∧ 1 ≤ s ∧ s ≤ 8 ∧ v < 32 ^ s.toNat
theorem WT_1 {v : Int} (h : 1 ≤ v) (h2 : v ≤ 26) : WT v 1 := ⟨h, by omega, by omega, by
  have e : (32 : Int) ^ (1 : Int).toNat = 32 := by decide
  rw [e]
  omega⟩
theorem WT_lt {v s : Int} (h : WT v s) (h7 : s ≤ 7) : v < 34359738368 := by
  obtain ⟨h1, h2, h3, h4⟩ := h
  have e : ∀ n : Nat, n ≤ 7 → (32 : Int) ^ n ≤ 34359738368 := by
    intro n hn
    rcases (by omega : n = 0 ∨ n = 1 ∨ n = 2 ∨ n = 3 ∨ n = 4 ∨ n = 5 ∨ n = 6 ∨ n = 7) with rfl | rfl | rfl | rfl | rfl | rfl | rfl | rfl <;> decide
  have := e s.toNat (by omega)
  omega
theorem WT_s {v s x : Int} (h : WT v s) (h8 : s + 1 ≤ 8) (h1 : 1 ≤ x) (h2 : x ≤ 26) : WT (v * 32 + x) (s + 1) := by
  obtain ⟨q1, q2, q3, q4⟩ := h
  refine ⟨by omega, by omega, h8, ?_⟩
  have e : (s + 1).toNat = s.toNat + 1 := by omega
  rw [e, Int.pow_succ]
  omega
theorem tw_shor {v x : Int64} {five : Int32} (h5 : five.toInt = 5) (h1 : 0 ≤ v.toInt) (h2 : v.toInt < 34359738368) (h3 : 0 ≤ x.toInt) (h4 : x.toInt < 32) : ((v <<< (five.toInt64 &&& 63)) ||| x).toInt = v.toInt * 32 + x.toInt := by
  obtain rfl : five = 5 := Int32.toInt_inj.mp (by rw [h5]; decide)
  have e0 : (v <<< ((5 : Int32).toInt64 &&& 63)).toBitVec = v.toBitVec <<< 5 := rfl
  have mv := tw_msb64 h1
  have mx := tw_msb64 h3
  have ev : v.toInt = (v.toBitVec.toNat : Int) := BitVec.toInt_eq_toNat_of_msb mv
  have ex : x.toInt = (x.toBitVec.toNat : Int) := BitVec.toInt_eq_toNat_of_msb mx
  have en : ((v <<< ((5 : Int32).toInt64 &&& 63)) ||| x).toBitVec.toNat = v.toBitVec.toNat * 32 + x.toBitVec.toNat := by
    rw [Int64.toBitVec_or, e0, BitVec.toNat_or, BitVec.toNat_shiftLeft]
    have hl : v.toBitVec.toNat <<< 5 % 2 ^ 64 = v.toBitVec.toNat <<< 5 := by
      apply Nat.mod_eq_of_lt
      rw [Nat.shiftLeft_eq]
      omega
    rw [hl, ← Nat.shiftLeft_add_eq_or_of_lt (by omega : x.toBitVec.toNat < 2 ^ 5), Nat.shiftLeft_eq]
  have hm : ((v <<< ((5 : Int32).toInt64 &&& 63)) ||| x).toBitVec.msb = false := by
    rw [BitVec.msb_eq_decide]
    simp only [decide_eq_false_iff_not]
    rw [en]
    omega
  have e1 : ((v <<< ((5 : Int32).toInt64 &&& 63)) ||| x).toInt = ((v <<< ((5 : Int32).toInt64 &&& 63)) ||| x).toBitVec.toInt := rfl
  rw [e1, BitVec.toInt_eq_toNat_of_msb hm, en, ev, ex]
  omega
def TK (L : List Nat) (R : Nat → Nat) (f : Nat → va_E) (r : Nat) : Prop := rfa f r 4 ∈ L ∧ R (rfa f r 4) = 30 ∧ rfa f r 7 ∈ L ∧ R (rfa f r 7) = 31 ∧ rfa f r 6 ∈ L ∧ R (rfa f r 6) = 60 ∧ ∀ t : Nat, (t : Int) < fi f r 8 → eli f (rfa f r 4) t = 1 → WT (elj f (rfa f r 7) t) (eli f (rfa f r 6) t)
def tkd (Mo : List (Nat × Nat)) (Mr : List Nat) : Bool := !(mI Mo 3 4) && !(mI Mo 3 7) && !(mI Mo 3 8) && !(mR Mr 30) && !(mR Mr 31) && !(mI Mo 3 6) && !(mR Mr 60)
theorem TK_fr {L : List Nat} {R : Nat → Nat} {f f1 : Nat → va_E} {Mo : List (Nat × Nat)} {Mr : List Nat} {r : Nat} (h : TK L R f r) (hf : fr L R Mo Mr f f1) (d : tkd Mo Mr = true) (hr : r ∈ L) (hrr : R r = 3) : TK L R f1 r := by
  unfold tkd at d
  simp only [Bool.and_eq_true, Bool.not_eq_true'] at d
  obtain ⟨⟨⟨⟨⟨⟨d1, d2⟩, d3⟩, d4⟩, d5⟩, d6⟩, d7⟩ := d
  obtain ⟨h1, h2, h3, h4, h6, h7, h5⟩ := h
  unfold TK
  rw [hf.erf hr hrr d1, hf.erf hr hrr d2, hf.erf hr hrr d6, hf.efi hr hrr d3]
  refine ⟨h1, h2, h3, h4, h6, h7, fun t ht => ?_⟩
  rw [hf.eeli h1 h2 d4, hf.eelj h3 h4 d5, hf.eeli h6 h7 d7]
  exact h5 t ht
theorem tw_orL {a b : Int64} (h : b.toInt ≠ 0) : (a ||| b).toInt ≠ 0 := by
  intro q
  apply h
  have e : a ||| b = 0 := Int64.toInt_inj.mp (by rw [q]; decide)
  have e2 : (a ||| b) &&& b = b := by
    apply Int64.toBitVec_inj.mp
    rw [Int64.toBitVec_and, Int64.toBitVec_or]
    apply BitVec.eq_of_getLsbD_eq
    intro i hi
    simp only [BitVec.getLsbD_and, BitVec.getLsbD_or]
    cases a.toBitVec.getLsbD i <;> cases b.toBitVec.getLsbD i <;> rfl
  rw [e] at e2
  have e3 : (0 : Int64) &&& b = 0 := by simp
  rw [e3] at e2
  rw [← e2]
  decide
section TNN
variable {p : Program} {l : Launch} {e : Env} {R0 : Room} {s : State} {m : MethodId} {args : Array Value} {below : List Frame} {meth : Method} {c : Code} {H : Heap} {locs : List Loc} {cells slots : Nat} {Q : State → Prop} {cc : ByteArray} {nL : Nat} {own : String} {D : va_G} {cy : Nat → ClassId} {A : Nat → Prop} {L : List Nat} {R : Nat → Nat} {T : Nat → va_E → Prop} {f : Nat → va_E} {pc : Nat} {ls : Array Slot} {rest : List Value}
theorem tu_nget (F : CallFix p m c cc nL s args wsL_law own) (h : tS D cy A s.heap L R T f s H locs) {q index : Nat} (hq : va_Z "AskBack$Reader" "NO_NAMES" "[J" (.ref q) A s s.heap) (hm : Cond.fieldLink own index "AskBack$Reader" "NO_NAMES" "[J" ∈ wsL_law) (hdg : decode cc pc = .ok (.getstatic index, 3)) (kk : W p l e R0 s m args below meth c H locs cells slots Q (F0 m (pc + 3) ls (.ref q :: rest))) : W p l e R0 s m args below meth c H locs cells slots Q (F0 m pc ls rest) :=
  va_gets F.1 F.2.1 hq h.dd.2.2 F.2.2.2.1 (F.2.2.2.2 _ hm) (fun _ q => q) hdg kk
theorem tu_nlen (F : CallFix p m c cc nL s args wsL_law own) (h : tS D cy A s.heap L R T f s H locs) {q : Nat} {g : Nat → Value} (hq : va_T .long q 9 g A s s.heap) (hdg : decode cc pc = .ok (.arraylength, 1)) (kk : ∀ z : Int32, z.toInt = 9 → W p l e R0 s m args below meth c H locs cells slots Q (F0 m (pc + 1) ls (.int z :: rest))) : W p l e R0 s m args below meth c H locs cells slots Q (F0 m pc ls (.ref q :: rest)) :=
  va_tlen F.1 F.2.1 hq h.dd.2.2 rfl hdg (kk _ (by decide))
theorem tu_nld (F : CallFix p m c cc nL s args wsL_law own) (h : tS D cy A s.heap L R T f s H locs) {q : Nat} {g : Nat → Int64} {i : Int32} (hq : va_T .long q 9 (fun j => .long (g j)) A s s.heap) (hb : 0 ≤ i.toInt ∧ i.toInt < 9) (hdg : decode cc pc = .ok (.laload, 1)) (kk : ∀ z : Int64, W p l e R0 s m args below meth c H locs cells slots Q (F0 m (pc + 1) ls (.long z :: rest))) : W p l e R0 s m args below meth c H locs cells slots Q (F0 m pc ls (.int i :: .ref q :: rest)) :=
  va_tl F.1 F.2.1 hq h.dd.2.2 (tw_in hb.1 hb.2) rfl hdg (kk _)
end TNN
