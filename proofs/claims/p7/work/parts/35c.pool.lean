/-! whose turn: the digit of rule 0, the answers of rule 0, and that no piece of theirs is 0 -/
def AC0 (f : Nat → va_E) (b : Nat) : Int := eli f (rfa f b 10) 0
def NZ (f : Nat → va_E) (b d : Nat) : Prop := ∀ j : Nat, eli f (rfa f b 11) d ≤ (j : Int) → (j : Int) < eli f (rfa f b 11) d + eli f (rfa f b 12) d → elj f (rfa f b 0) j ≠ 0
def VAL (f : Nat → va_E) (b : Nat) : Prop := 1 ≤ AC0 f b ∧ (∀ d : Nat, (d : Int) < AC0 f b → eli f (rfa f b 13) d ≠ -1 ∨ NZ f b d) ∧ (fi f b 18 % 2 = 0 ∨ NZ f b 0)
def dgv (v : Value) : Int := match v with
  | .long t => (t &&& 3).toInt
  | _ => 0
def dg (f : Nat → va_E) (st : Nat) : Int := dgv (fld f st 2)
def DIG (f : Nat → va_E) (st b : Nat) : Prop := dg f st = 0 ∨ dg f st < AC0 f b
def KS (L : List Nat) (R : Nat → Nat) (st : Nat) (f f1 : Nat → va_E) : Prop := ∀ x ∈ L, R x = 8 → x ≠ st → fld f1 x 2 = fld f x 2
theorem KS.rf {L : List Nat} {R : Nat → Nat} {st : Nat} {f : Nat → va_E} : KS L R st f f := fun _ _ _ _ => rfl
theorem KS.tr {L : List Nat} {R : Nat → Nat} {st : Nat} {f f1 f2 : Nat → va_E} (h : KS L R st f f1) (h1 : KS L R st f1 f2) : KS L R st f f2 := fun x hx hr hn => (h1 x hx hr hn).trans (h x hx hr hn)
theorem KS.fr {L : List Nat} {R : Nat → Nat} {st : Nat} {f f1 f2 : Nat → va_E} {Mo : List (Nat × Nat)} {Mr : List Nat} (h : KS L R st f f1) (hf : fr L R Mo Mr f1 f2) (d : mI Mo 8 2 = false) : KS L R st f f2 := fun x hx hr hn => (hf.efl hx hr d).trans (h x hx hr hn)
theorem OW.k {L : List Nat} {R O : Nat → Nat} {f : Nat → va_E} (h : OW L R O f) {b k ro : Nat} (hb : b ∈ L) (hr : R b = 6) (hk : sk k) (hs : sra k = ro) : rfa f b k ∈ L ∧ R (rfa f b k) = ro ∧ fld f b k = .ref (rfa f b k) ∧ O (rfa f b k) = b := by
  obtain ⟨-, h2⟩ := h b hb hr
  obtain ⟨h3, h4, h5, h6⟩ := h2 k hk
  exact ⟨h4, by rw [h5, hs], h3, h6⟩
/-- elements of a script's rows, told at the start -/
theorem E0i {L : List Nat} {R O : Nat → Nat} {f f1 : Nat → va_E} {Mo : List (Nat × Nat)} {Mr : List Nat} (h : OW L R O f) (hf : fr L R Mo Mr f f1) (d : gd1 Mo = true) {b k ro : Nat} (hb : b ∈ L) (hr : R b = 6) (hk : sk k) (hs : sra k = ro) (hm : mR Mr ro = false) (j : Nat) : eli f1 (rfa f1 b k) j = eli f (rfa f b k) j := by
  obtain ⟨h1, h2, -, -⟩ := h.k hb hr hk hs
  rw [hf.erf hb hr (gd1_k d (sk_lt hk))]
  exact hf.eeli h1 h2 hm j
theorem E0j {L : List Nat} {R O : Nat → Nat} {f f1 : Nat → va_E} {Mo : List (Nat × Nat)} {Mr : List Nat} (h : OW L R O f) (hf : fr L R Mo Mr f f1) (d : gd1 Mo = true) {b k ro : Nat} (hb : b ∈ L) (hr : R b = 6) (hk : sk k) (hs : sra k = ro) (hm : mR Mr ro = false) (j : Nat) : elj f1 (rfa f1 b k) j = elj f (rfa f b k) j := by
  obtain ⟨h1, h2, -, -⟩ := h.k hb hr hk hs
  rw [hf.erf hb hr (gd1_k d (sk_lt hk))]
  exact hf.eelj h1 h2 hm j
theorem sk0 : sk 0 := by unfold sk; omega
theorem sk8 : sk 8 := by unfold sk; omega
theorem sk9 : sk 9 := by unfold sk; omega
theorem sk10 : sk 10 := by unfold sk; omega
theorem sk11 : sk 11 := by unfold sk; omega
theorem sk12 : sk 12 := by unfold sk; omega
theorem sk13 : sk 13 := by unfold sk; omega
def gd4 (Mo : List (Nat × Nat)) : Bool := gd1 Mo && !(mI Mo 6 18)
theorem gd4_e {Mo : List (Nat × Nat)} (d : gd4 Mo = true) : gd1 Mo = true ∧ mI Mo 6 18 = false := by
  unfold gd4 at d
  simp only [Bool.and_eq_true, Bool.not_eq_true'] at d
  exact d
def gd3 (Mr : List Nat) : Bool := !(mR Mr 35) && !(mR Mr 41) && !(mR Mr 42) && !(mR Mr 43) && !(mR Mr 44)
theorem gd3_e {Mr : List Nat} (d : gd3 Mr = true) : mR Mr 35 = false ∧ mR Mr 41 = false ∧ mR Mr 42 = false ∧ mR Mr 43 = false ∧ mR Mr 44 = false := by
  unfold gd3 at d
  simp only [Bool.and_eq_true, Bool.not_eq_true'] at d
  exact ⟨d.1.1.1.1, d.1.1.1.2, d.1.1.2, d.1.2, d.2⟩
theorem AC0_fr {L : List Nat} {R O : Nat → Nat} {f f1 : Nat → va_E} {Mo : List (Nat × Nat)} {Mr : List Nat} (h : OW L R O f) (hf : fr L R Mo Mr f f1) (d : gd1 Mo = true) (d2 : mR Mr 41 = false) {b : Nat} (hb : b ∈ L) (hr : R b = 6) : AC0 f1 b = AC0 f b := E0i h hf d hb hr sk10 rfl d2 0
theorem NZ.fr {L : List Nat} {R O : Nat → Nat} {f f1 : Nat → va_E} {Mo : List (Nat × Nat)} {Mr : List Nat} {b d : Nat} (hn : NZ f b d) (h : OW L R O f) (hf : fr L R Mo Mr f f1) (d1 : gd1 Mo = true) (d2 : gd3 Mr = true) (hb : b ∈ L) (hr : R b = 6) : NZ f1 b d := by
  obtain ⟨q1, q2, q3, q4, q5⟩ := gd3_e d2
  intro j
  rw [E0i h hf d1 hb hr sk11 rfl q3, E0i h hf d1 hb hr sk12 rfl q4, E0j h hf d1 hb hr sk0 rfl q1]
  exact hn j
theorem VAL.fr {L : List Nat} {R O : Nat → Nat} {f f1 : Nat → va_E} {Mo : List (Nat × Nat)} {Mr : List Nat} {b : Nat} (hn : VAL f b) (h : OW L R O f) (hf : fr L R Mo Mr f f1) (d1 : gd4 Mo = true) (d2 : gd3 Mr = true) (hb : b ∈ L) (hr : R b = 6) : VAL f1 b := by
  obtain ⟨g1, g2⟩ := gd4_e d1
  obtain ⟨q1, q2, q3, q4, q5⟩ := gd3_e d2
  have e := AC0_fr h hf g1 q2 hb hr
  refine ⟨by rw [e]; exact hn.1, fun d hd => ?_, ?_⟩
  · rw [E0i h hf g1 hb hr sk13 rfl q5]
    exact (hn.2.1 d (by rw [e] at hd; exact hd)).imp id (fun q => q.fr h hf g1 d2 hb hr)
  · rw [hf.efi hb hr g2]
    exact hn.2.2.imp id (fun q => q.fr h hf g1 d2 hb hr)
theorem DIG.fr {L : List Nat} {R O : Nat → Nat} {f f1 : Nat → va_E} {Mo : List (Nat × Nat)} {Mr : List Nat} {b st : Nat} (hn : DIG f st b) (h : OW L R O f) (hf : fr L R Mo Mr f f1) (d1 : gd1 Mo = true) (d2 : mR Mr 41 = false) (d3 : mI Mo 8 2 = false) (hb : b ∈ L) (hr : R b = 6) (hs : st ∈ L) (hsr : R st = 8) : DIG f1 st b := by
  have e := AC0_fr h hf d1 d2 hb hr
  have e2 : dg f1 st = dg f st := by
    unfold dg
    rw [hf.efl hs hsr d3]
  unfold DIG
  rw [e, e2]
  exact hn
theorem DIG_ks {L : List Nat} {R O : Nat → Nat} {f f1 : Nat → va_E} {Mo : List (Nat × Nat)} {Mr : List Nat} {b st x : Nat} (hn : DIG f x b) (h : OW L R O f) (hf : fr L R Mo Mr f f1) (d1 : gd1 Mo = true) (d2 : mR Mr 41 = false) (hk : KS L R st f f1) (hb : b ∈ L) (hr : R b = 6) (hs : x ∈ L) (hsr : R x = 8) (hne : x ≠ st) : DIG f1 x b := by
  have e := AC0_fr h hf d1 d2 hb hr
  have e2 : dg f1 x = dg f x := by
    unfold dg
    rw [hk x hs hsr hne]
  unfold DIG
  rw [e, e2]
  exact hn
/-! bits -/
theorem tw_3 {z : Int64} (h : z.toInt = 3) : z = 3 := Int64.toInt_inj.mp (by rw [h]; decide)
theorem tw_m1 {z : Int64} (h : z.toInt = -1) : z = -1 := Int64.toInt_inj.mp (by rw [h]; decide)
theorem tw_i0e {z : Int32} (h : z.toInt = 0) : z = 0 := Int32.toInt_inj.mp (by rw [h]; decide)
theorem dg_sh0 {x : Int64} {y : Int32} (h : y.toInt = 0) : (x.toUInt64 >>> (y.toInt64.toUInt64 &&& Int64.toUInt64 63)).toInt64 = x := by
  rw [tw_i0e h]
  have e : ((0 : Int32).toInt64.toUInt64 &&& Int64.toUInt64 63) = 0 := by decide
  rw [e]
  simp
theorem dg_b3 {i : Nat} (h : ¬ i < 2) : (3#64).getLsbD i = false := by
  rw [BitVec.getLsbD_ofNat]
  have : Nat.testBit 3 i = false := Nat.testBit_lt_two_pow (Nat.lt_of_lt_of_le (by decide : 3 < 2 ^ 2) (Nat.pow_le_pow_right (by decide) (by omega)))
  rw [this]
  simp
theorem dg_k (t n : BitVec 64) (k : Nat) (hk : 2 ≤ k) : ((t &&& ((3#64 <<< k) ^^^ BitVec.allOnes 64)) ||| (n <<< k)) &&& 3#64 = t &&& 3#64 := by
  apply BitVec.eq_of_getLsbD_eq
  intro i hi
  simp only [BitVec.getLsbD_and, BitVec.getLsbD_or, BitVec.getLsbD_xor, BitVec.getLsbD_shiftLeft, BitVec.getLsbD_allOnes]
  by_cases h : i < 2
  · have h2 : i < k := by omega
    simp [h2, hi]
  · rw [dg_b3 h]
    simp
theorem dg_0 (t n : BitVec 64) (hn : n &&& 3#64 = n) : ((t &&& (3#64 ^^^ BitVec.allOnes 64)) ||| n) &&& 3#64 = n := by
  apply BitVec.eq_of_getLsbD_eq
  intro i hi
  have h1 : (n &&& 3#64).getLsbD i = n.getLsbD i := by rw [hn]
  simp only [BitVec.getLsbD_and, BitVec.getLsbD_or, BitVec.getLsbD_xor, BitVec.getLsbD_allOnes] at h1 ⊢
  by_cases h : i < 2
  · have h3 : (3#64).getLsbD i = true := by
      rcases (by omega : i = 0 ∨ i = 1) with rfl | rfl <;> decide
    rw [h3] at h1 ⊢
    simp [hi]
  · rw [dg_b3 h] at h1 ⊢
    simpa using h1
theorem dg_sh {y : Int32} {r : Int} (h : y.toInt = 2 * r) (h1 : 1 ≤ r) (h2 : r ≤ 24) (x : Int64) : (x <<< (y.toInt64 &&& 63)).toBitVec = x.toBitVec <<< (2 * r).toNat := by
  rcases (by omega : r = 1 ∨ r = 2 ∨ r = 3 ∨ r = 4 ∨ r = 5 ∨ r = 6 ∨ r = 7 ∨ r = 8 ∨ r = 9 ∨ r = 10 ∨ r = 11 ∨ r = 12 ∨ r = 13 ∨ r = 14 ∨ r = 15 ∨ r = 16 ∨ r = 17 ∨ r = 18 ∨ r = 19 ∨ r = 20 ∨ r = 21 ∨ r = 22 ∨ r = 23 ∨ r = 24) with rfl | rfl | rfl | rfl | rfl | rfl | rfl | rfl | rfl | rfl | rfl | rfl | rfl | rfl | rfl | rfl | rfl | rfl | rfl | rfl | rfl | rfl | rfl | rfl
  · obtain rfl : y = 2 := Int32.toInt_inj.mp (by rw [h]; decide)
    rfl
  · obtain rfl : y = 4 := Int32.toInt_inj.mp (by rw [h]; decide)
    rfl
  · obtain rfl : y = 6 := Int32.toInt_inj.mp (by rw [h]; decide)
    rfl
  · obtain rfl : y = 8 := Int32.toInt_inj.mp (by rw [h]; decide)
    rfl
  · obtain rfl : y = 10 := Int32.toInt_inj.mp (by rw [h]; decide)
    rfl
  · obtain rfl : y = 12 := Int32.toInt_inj.mp (by rw [h]; decide)
    rfl
  · obtain rfl : y = 14 := Int32.toInt_inj.mp (by rw [h]; decide)
    rfl
  · obtain rfl : y = 16 := Int32.toInt_inj.mp (by rw [h]; decide)
    rfl
  · obtain rfl : y = 18 := Int32.toInt_inj.mp (by rw [h]; decide)
    rfl
  · obtain rfl : y = 20 := Int32.toInt_inj.mp (by rw [h]; decide)
    rfl
  · obtain rfl : y = 22 := Int32.toInt_inj.mp (by rw [h]; decide)
    rfl
  · obtain rfl : y = 24 := Int32.toInt_inj.mp (by rw [h]; decide)
    rfl
  · obtain rfl : y = 26 := Int32.toInt_inj.mp (by rw [h]; decide)
    rfl
  · obtain rfl : y = 28 := Int32.toInt_inj.mp (by rw [h]; decide)
    rfl
  · obtain rfl : y = 30 := Int32.toInt_inj.mp (by rw [h]; decide)
    rfl
  · obtain rfl : y = 32 := Int32.toInt_inj.mp (by rw [h]; decide)
    rfl
  · obtain rfl : y = 34 := Int32.toInt_inj.mp (by rw [h]; decide)
    rfl
  · obtain rfl : y = 36 := Int32.toInt_inj.mp (by rw [h]; decide)
    rfl
  · obtain rfl : y = 38 := Int32.toInt_inj.mp (by rw [h]; decide)
    rfl
  · obtain rfl : y = 40 := Int32.toInt_inj.mp (by rw [h]; decide)
    rfl
  · obtain rfl : y = 42 := Int32.toInt_inj.mp (by rw [h]; decide)
    rfl
  · obtain rfl : y = 44 := Int32.toInt_inj.mp (by rw [h]; decide)
    rfl
  · obtain rfl : y = 46 := Int32.toInt_inj.mp (by rw [h]; decide)
    rfl
  · obtain rfl : y = 48 := Int32.toInt_inj.mp (by rw [h]; decide)
    rfl
theorem dg_sh0' {y : Int32} (h : y.toInt = 0) (x : Int64) : (x <<< (y.toInt64 &&& 63)) = x := by
  rw [tw_i0e h]
  have e : ((0 : Int32).toInt64 &&& 63) = 0 := by decide
  rw [e]
  simp
theorem dg_keep {y y' : Int32} {r : Int} {t a b n : Int64} (ha : a.toInt = 3) (hb : b.toInt = -1) (h : y.toInt = 2 * r) (h' : y'.toInt = 2 * r) (h1 : 1 ≤ r) (h2 : r ≤ 24) : ((t &&& ((a <<< (y.toInt64 &&& 63)) ^^^ b)) ||| (n <<< (y'.toInt64 &&& 63))) &&& 3 = t &&& 3 := by
  rw [tw_3 ha, tw_m1 hb]
  apply Int64.toBitVec_inj.mp
  rw [Int64.toBitVec_and, Int64.toBitVec_or, Int64.toBitVec_and, Int64.toBitVec_xor, dg_sh h h1 h2, dg_sh h' h1 h2, Int64.toBitVec_and]
  exact dg_k t.toBitVec n.toBitVec (2 * r).toNat (by omega)
theorem dg_set {y y' : Int32} {t a b n : Int64} (ha : a.toInt = 3) (hb : b.toInt = -1) (h : y.toInt = 0) (h' : y'.toInt = 0) (hn : 0 ≤ n.toInt) (hn3 : n.toInt ≤ 3) : (((t &&& ((a <<< (y.toInt64 &&& 63)) ^^^ b)) ||| (n <<< (y'.toInt64 &&& 63))) &&& 3).toInt = n.toInt := by
  rw [tw_3 ha, tw_m1 hb, dg_sh0' h, dg_sh0' h']
  have e : ((t &&& ((3 : Int64) ^^^ -1)) ||| n) &&& 3 = n := by
    apply Int64.toBitVec_inj.mp
    rw [Int64.toBitVec_and, Int64.toBitVec_or, Int64.toBitVec_and, Int64.toBitVec_xor]
    refine dg_0 t.toBitVec n.toBitVec ?_
    have hh : n = 0 ∨ n = 1 ∨ n = 2 ∨ n = 3 := by
      rcases (by omega : n.toInt = 0 ∨ n.toInt = 1 ∨ n.toInt = 2 ∨ n.toInt = 3) with q | q | q | q
      · exact Or.inl (Int64.toInt_inj.mp (by rw [q]; decide))
      · exact Or.inr (Or.inl (Int64.toInt_inj.mp (by rw [q]; decide)))
      · exact Or.inr (Or.inr (Or.inl (Int64.toInt_inj.mp (by rw [q]; decide))))
      · exact Or.inr (Or.inr (Or.inr (Int64.toInt_inj.mp (by rw [q]; decide))))
    rcases hh with rfl | rfl | rfl | rfl <;> rfl
  rw [e]
theorem tw_and0 {x y z : Int32} (h : z = x &&& y) (hz : z.toInt ≠ 0) : x.toInt ≠ 0 := fun q => hz (by
  rw [h, tw_i0e q]
  simp)
theorem tw_shr0 {x z : Int32} {k : UInt32} (h : z = (x.toUInt32 >>> k).toInt32) (hz : z.toInt ≠ 0) : x.toInt ≠ 0 := fun q => hz (by
  have e : (0 : Int32).toUInt32 = 0 := rfl
  have e2 : (0 : UInt32) >>> k = 0 := by simp
  rw [h, tw_i0e q, e, e2]
  rfl)
theorem tw_b1 (x : Int32) : (x &&& 1).toInt = x.toInt % 2 := by
  have e1 : (x &&& 1).toInt = (x &&& 1).toBitVec.toInt := rfl
  have h0 : (0 : Int) ≤ (1 : Int32).toInt := by decide
  have hy := tw_msb32 h0
  have hz : (x &&& 1).toBitVec.msb = false := by rw [Int32.toBitVec_and, BitVec.msb_and, hy, Bool.and_false]
  have e3 : (1 : Int32).toBitVec.toNat = 1 := by decide
  rw [e1, BitVec.toInt_eq_toNat_of_msb hz, Int32.toBitVec_and, BitVec.toNat_and, e3, Nat.and_one_is_mod]
  have e2 : x.toInt = x.toBitVec.toInt := rfl
  rw [e2, BitVec.toInt_eq_toNat_cond]
  split <;> omega
theorem tw_kb {fit ks keeps z z2 one : Int32} {k : UInt32} (h1 : keeps = fit &&& ks) (h2 : z = (keeps.toUInt32 >>> k).toInt32) (hk : k = 0) (h3 : z2 = z &&& one) (ho : one.toInt = 1) (hz : z2.toInt ≠ 0) : ks.toInt % 2 ≠ 0 := by
  intro q
  apply hz
  have e1 : one = 1 := Int32.toInt_inj.mp (by rw [ho]; decide)
  have e2 : z = keeps := by
    rw [h2, hk]
    simp
  have e3 : ks &&& 1 = 0 := Int32.toInt_inj.mp (by rw [tw_b1, q]; decide)
  rw [h3, e1, e2, h1, Int32.and_assoc, e3]
  simp
section TPE
variable {p : Program} {l : Launch} {e : Env} {R0 : Room} {s : State} {m : MethodId} {args : Array Value} {below : List Frame} {meth : Method} {c : Code} {H H0 : Heap} {locs : List Loc} {cells slots : Nat} {Q : State → Prop} {cc : ByteArray} {nL : Nat} {own : String} {D : va_G} {cy : Nat → ClassId} {A : Nat → Prop} {L : List Nat} {R : Nat → Nat} {T : Nat → va_E → Prop} {f : Nat → va_E} {pc : Nat} {ls : Array Slot} {rest : List Value} {a ro : Nat}
theorem tu_putiE (F : CallFix p m c cc nL s args wsL_law own) (h : tS D cy A H0 L R T f s H locs) {C : String} {TT : u_T} {N ci index k : Nat} {ps : List (Value → Prop)} {lo hi : Int} {x : Int32} (ha : a ∈ L) (hr : R a = ro) (hT : ∀ e, T ro e ↔ tO ci ps e) (hp : ps[k]? = some (vI lo hi)) (hv1 : lo ≤ x.toInt) (hv2 : x.toInt ≤ hi) (hin : ∀ w ∈ u_ws C TT N, w ∈ wsL_law) {ty0 : Nat → FieldType} (hty : ∀ k, k < N → parseFieldDescriptor (TT k).2.2.1 = some (ty0 k)) (hnm : ∀ a, a < N → ∀ b, b < N → a ≠ b → (TT a).2.1 ≠ (TT b).2.1) (hc : vwCl[ci]? = some (C, TT, N)) (hk : k < N) (hm : Cond.fieldLink own index (TT k).1 (TT k).2.1 (TT k).2.2.1 ∈ wsL_law) (hfin : (TT k).2.2.2 = false) (hn : narrow (ty0 k) (.int x) = .int x) (hfit : fits (ty0 k) (.int x) = true) (hdg : decode cc pc = .ok (.putfield index, 3)) (kk : ∀ (f1 : Nat → va_E) (H1 : Heap) (locs1 : List Loc), fld f1 a k = .int x → (∀ a', a' ≠ a → f1 a' = f a') → fr L R [(ro, k)] [ro] f f1 → tS D cy A H0 L R T f1 s H1 locs1 → W p l e R0 s m args below meth c H1 locs1 cells slots Q (F0 m (pc + 3) ls rest)) : W p l e R0 s m args below meth c H locs cells slots Q (F0 m pc ls (.int x :: .ref a :: rest)) :=
  tw_put F h ha hr hT hp ⟨x, rfl, hv1, hv2⟩ hin hty hnm hc hk hm hdg hfin hn hfit (fun f1 H1 locs1 h1 h2 h3 h4 => kk f1 H1 locs1 h1 h3 (fr.obj hr h2 h3) h4)
theorem tu_putlE (F : CallFix p m c cc nL s args wsL_law own) (h : tS D cy A H0 L R T f s H locs) {C : String} {TT : u_T} {N ci index k : Nat} {ps : List (Value → Prop)} {lo hi : Int} {x : Int64} (ha : a ∈ L) (hr : R a = ro) (hT : ∀ e, T ro e ↔ tO ci ps e) (hp : ps[k]? = some (vJ lo hi)) (hv1 : lo ≤ x.toInt) (hv2 : x.toInt ≤ hi) (hin : ∀ w ∈ u_ws C TT N, w ∈ wsL_law) {ty0 : Nat → FieldType} (hty : ∀ k, k < N → parseFieldDescriptor (TT k).2.2.1 = some (ty0 k)) (hnm : ∀ a, a < N → ∀ b, b < N → a ≠ b → (TT a).2.1 ≠ (TT b).2.1) (hc : vwCl[ci]? = some (C, TT, N)) (hk : k < N) (hm : Cond.fieldLink own index (TT k).1 (TT k).2.1 (TT k).2.2.1 ∈ wsL_law) (hfin : (TT k).2.2.2 = false) (hn : narrow (ty0 k) (.long x) = .long x) (hfit : fits (ty0 k) (.long x) = true) (hdg : decode cc pc = .ok (.putfield index, 3)) (kk : ∀ (f1 : Nat → va_E) (H1 : Heap) (locs1 : List Loc), fld f1 a k = .long x → (∀ a', a' ≠ a → f1 a' = f a') → fr L R [(ro, k)] [ro] f f1 → tS D cy A H0 L R T f1 s H1 locs1 → W p l e R0 s m args below meth c H1 locs1 cells slots Q (F0 m (pc + 3) ls rest)) : W p l e R0 s m args below meth c H locs cells slots Q (F0 m pc ls (.long x :: .ref a :: rest)) :=
  tw_put F h ha hr hT hp ⟨x, rfl, hv1, hv2⟩ hin hty hnm hc hk hm hdg hfin hn hfit (fun f1 H1 locs1 h1 h2 h3 h4 => kk f1 H1 locs1 h1 h3 (fr.obj hr h2 h3) h4)
theorem tu_putrE (F : CallFix p m c cc nL s args wsL_law own) (h : tS D cy A H0 L R T f s H locs) {C : String} {TT : u_T} {N ci index k : Nat} {ps : List (Value → Prop)} {ro2 b : Nat} (ha : a ∈ L) (hr : R a = ro) (hT : ∀ e, T ro e ↔ tO ci ps e) (hp : ps[k]? = some (vR L R ro2)) (hb : b ∈ L) (hbr : R b = ro2) (hin : ∀ w ∈ u_ws C TT N, w ∈ wsL_law) {ty0 : Nat → FieldType} (hty : ∀ k, k < N → parseFieldDescriptor (TT k).2.2.1 = some (ty0 k)) (hnm : ∀ a, a < N → ∀ b, b < N → a ≠ b → (TT a).2.1 ≠ (TT b).2.1) (hc : vwCl[ci]? = some (C, TT, N)) (hk : k < N) (hm : Cond.fieldLink own index (TT k).1 (TT k).2.1 (TT k).2.2.1 ∈ wsL_law) (hfin : (TT k).2.2.2 = false) (hn : narrow (ty0 k) (.ref b) = .ref b) (hfit : fits (ty0 k) (.ref b) = true) (hdg : decode cc pc = .ok (.putfield index, 3)) (kk : ∀ (f1 : Nat → va_E) (H1 : Heap) (locs1 : List Loc), fld f1 a k = .ref b → (∀ a', a' ≠ a → f1 a' = f a') → fr L R [(ro, k)] [ro] f f1 → tS D cy A H0 L R T f1 s H1 locs1 → W p l e R0 s m args below meth c H1 locs1 cells slots Q (F0 m (pc + 3) ls rest)) : W p l e R0 s m args below meth c H locs cells slots Q (F0 m pc ls (.ref b :: .ref a :: rest)) :=
  tw_put F h ha hr hT hp ⟨b, rfl, hb, hbr⟩ hin hty hnm hc hk hm hdg hfin hn hfit (fun f1 H1 locs1 h1 h2 h3 h4 => kk f1 H1 locs1 h1 h3 (fr.obj hr h2 h3) h4)
theorem tu_getlE (F : CallFix p m c cc nL s args wsL_law own) (h : tS D cy A H0 L R T f s H locs) {C : String} {TT : u_T} {N ci index k : Nat} {ps : List (Value → Prop)} {lo hi : Int} (ha : a ∈ L) (hr : R a = ro) (hT : ∀ e, T ro e → tO ci ps e) (hp : ps[k]? = some (vJ lo hi)) (hin : ∀ w ∈ u_ws C TT N, w ∈ wsL_law) (hc : vwCl[ci]? = some (C, TT, N)) (hk : k < N) (hm : Cond.fieldLink own index (TT k).1 (TT k).2.1 (TT k).2.2.1 ∈ wsL_law) (hdg : decode cc pc = .ok (.getfield index, 3))
    (kk : ∀ x : Int64, fld f a k = .long x → W p l e R0 s m args below meth c H locs cells slots Q (F0 m (pc + 3) ls (.long x :: rest))) : W p l e R0 s m args below meth c H locs cells slots Q (F0 m pc ls (.ref a :: rest)) :=
  tw_get F h ha hr hT hp hin hc hk hm hdg (by
    rintro v ⟨x, rfl, h1, h2⟩ hf
    exact kk x hf)
end TPE
