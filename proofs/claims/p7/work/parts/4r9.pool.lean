/-! the model's long row: classes of places, told by sums and rests -/
def rcl (t : Nat) : Nat := if t = 0 then 13 else if t = 2 then 4 else if t < 11 then 0 else if t = 11 then 5 else if (t - 12) % 12 = 0 then 12 else if (t - 12) % 12 = 1 then 6 else 7
theorem atb {j c : Nat} {v : Int} (h : atP j v) (hc : acl j = c) : clP c v := by
  unfold atP at h
  rw [hc] at h
  exact h
theorem atS {j c : Nat} {v : Int} (hc : acl j = c) (h : clP c v) : atP j v := by
  unfold atP
  rw [hc]
  exact h
theorem atP_0 {j : Nat} {v : Int} (h : v = 0) : atP j v := by
  unfold atP clP
  omega
theorem isB_s {s : Nat} (h : s ≤ 2) : isB (1650 * s) := by
  unfold isB
  omega
theorem isB_n : isB 20760 := by unfold isB; omega
theorem isB_w : isB 22410 := by unfold isB; omega
theorem isB_o : isB 24060 := by unfold isB; omega
theorem isB_e {b c : Nat} (h : isB c) (e : b = c) : isB b := by rw [e]; exact h
theorem isB_c {b : Nat} (h : b = 22410 ∨ b = 24060) : isB b := by unfold isB; omega
theorem isB_le {b : Nat} (h : isB b) : b ≤ 24060 := by unfold isB at h; omega
theorem ac_c {b j c : Nat} (q : Nat) (hB : isB b) (hq : q < 1650) (hj : j = b + q) (hc : bcl q = c) : acl j = c := by
  rw [hj, acl_B hB hq]
  exact hc
theorem ac_q {b j c : Nat} (hB : isB b) (hj : b ≤ j ∧ j < b + 1650) (hc : bcl (j - b) = c) : acl j = c := by
  have e : j = b + (j - b) := by omega
  rw [e, acl_B hB (by omega)]
  exact hc
theorem ac_r {b j c : Nat} (t : Nat) (hB : isB b) (hj : b + 52 ≤ j ∧ j < b + 1492 ∧ (j - b - 52) % 60 = t) (hc : rcl t = c) : acl j = c := by
  refine ac_q hB (by omega) ?_
  have e : j - b = 52 + 60 * ((j - b - 52) / 60) + t := by omega
  rw [e, bcl_rule (by omega) (by omega)]
  exact hc
theorem ac_i {b j : Nat} (hB : isB b) (hj : b + 52 ≤ j ∧ j < b + 1492 ∧ 3 ≤ (j - b - 52) % 60 ∧ (j - b - 52) % 60 ≤ 10) : acl j = 0 := by
  refine ac_r ((j - b - 52) % 60) hB ⟨hj.1, hj.2.1, rfl⟩ ?_
  unfold rcl
  rw [if_neg (by omega), if_neg (by omega), if_pos (by omega)]
theorem ac_k0 {b j : Nat} (hB : isB b) (hj : b + 4 ≤ j ∧ j < b + 52) : acl j = 0 := by
  refine ac_q hB (by omega) ?_
  unfold bcl
  rw [if_neg (by omega), if_neg (by omega), if_neg (by omega), if_neg (by omega), if_pos (by omega)]
theorem ac_n {b j : Nat} (hB : isB b) (hj : b + 1542 ≤ j ∧ j < b + 1567) : acl j = 8 := by
  refine ac_q hB (by omega) ?_
  unfold bcl
  rw [if_neg (by omega), if_neg (by omega), if_neg (by omega), if_neg (by omega), if_neg (by omega), if_neg (by omega), if_neg (by omega), if_neg (by omega), if_neg (by omega), if_pos (by omega)]
theorem ac_kx {b j : Nat} (hB : isB b) (hj : b + 1568 ≤ j ∧ j < b + 1646) : acl j = if (j - b - 1568) % 13 = 0 then 10 else 0 := by
  refine ac_q hB (by omega) ?_
  unfold bcl
  rw [if_neg (by omega), if_neg (by omega), if_neg (by omega), if_neg (by omega), if_neg (by omega), if_neg (by omega), if_neg (by omega), if_neg (by omega), if_neg (by omega), if_neg (by omega), if_neg (by omega), if_pos (by omega)]
theorem ac_kl {b j : Nat} (hB : isB b) (hj : b + 1568 ≤ j ∧ j < b + 1646 ∧ (j - b - 1568) % 13 = 0) : acl j = 10 := by
  rw [ac_kx hB ⟨hj.1, hj.2.1⟩, if_pos hj.2.2]
theorem ac_kw {b j : Nat} (hB : isB b) (hj : b + 1568 ≤ j ∧ j < b + 1646 ∧ (j - b - 1568) % 13 ≠ 0) : acl j = 0 := by
  rw [ac_kx hB ⟨hj.1, hj.2.1⟩, if_neg hj.2.2]
theorem at_sh {b i j : Nat} {v : Int} (hB : isB b) (hj : b + 1568 ≤ j ∧ i = j + 13 ∧ i < b + 1646) (h : atP i v) : atP j v := by
  unfold atP at h ⊢
  rw [ac_kx hB (by omega)] at h ⊢
  rw [show (j - b - 1568) % 13 = (i - b - 1568) % 13 by omega]
  exact h
theorem ac_lx {j : Nat} (hj : 4951 ≤ j ∧ j < 5159) : acl j = if (j - 4951) % 13 = 0 then 10 else 0 := by
  unfold acl
  rw [if_pos (by omega), if_neg (by omega), if_neg (by omega), if_pos (by omega), show j % 5190 = j by omega]
theorem ac_l {j : Nat} (hj : 4951 ≤ j ∧ j < 5159 ∧ (j - 4951) % 13 = 0) : acl j = 10 := by
  rw [ac_lx ⟨hj.1, hj.2.1⟩, if_pos hj.2.2]
theorem ac_lw {j : Nat} (hj : 4951 ≤ j ∧ j < 5159 ∧ (j - 4951) % 13 ≠ 0) : acl j = 0 := by
  rw [ac_lx ⟨hj.1, hj.2.1⟩, if_neg hj.2.2]
theorem ac_s1 {j : Nat} (hj : j = 4950) : acl j = 11 := by
  rw [hj]
  unfold acl
  rw [if_pos (by omega), if_neg (by omega), if_pos (by omega)]
theorem ac_s2 {j : Nat} (hj : j = 5159) : acl j = 1 := by
  rw [hj]
  unfold acl
  rw [if_pos (by omega), if_neg (by omega), if_neg (by omega), if_neg (by omega), if_pos (by omega)]
theorem ac_cp {j : Nat} (hj : 5160 ≤ j ∧ j < 5190) : acl j = 0 := by
  unfold acl
  rw [if_pos (by omega), if_neg (by omega), if_neg (by omega), if_neg (by omega), if_neg (by omega)]
/-- an answer's place, a row of answers' place -/
def AH (a : Nat) : Prop := acl a = 12 ∧ acl (a + 1) = 6 ∧ (∀ i, i < 10 → acl (a + 2 + i) = 7) ∧ a + 12 ≤ 25710
def AS (a : Nat) : Prop := acl a = 5 ∧ (∀ k, k < 4 → AH (a + 1 + 12 * k)) ∧ a + 49 ≤ 25710
theorem AH_0 {a j : Nat} (h : AH a) (hj : j = a) : acl j = 12 := by rw [hj]; exact h.1
theorem AH_1 {a j : Nat} (h : AH a) (hj : j = a + 1) : acl j = 6 := by rw [hj]; exact h.2.1
theorem AH_p {a j : Nat} (h : AH a) (hj : a + 2 ≤ j ∧ j < a + 12) : acl j = 7 := by
  have q := h.2.2.1 (j - a - 2) (by omega)
  rw [show a + 2 + (j - a - 2) = j by omega] at q
  exact q
theorem AS_0 {a j : Nat} (h : AS a) (hj : j = a) : acl j = 5 := by rw [hj]; exact h.1
theorem AS_k {a j : Nat} (h : AS a) (hj : a + 1 ≤ j ∧ j < a + 49 ∧ (j - a - 1) % 12 = 0) : AH j := by
  have q := h.2.1 ((j - a - 1) / 12) (by omega)
  rw [show a + 1 + 12 * ((j - a - 1) / 12) = j by omega] at q
  exact q
theorem AS_h {a j : Nat} (h : AS a) (hj : a + 1 ≤ j ∧ j < a + 49 ∧ (j - a - 1) % 12 = 0) : acl j = 12 := (AS_k h hj).1
theorem AS_r {b j : Nat} (hB : isB b) (hj : b + 63 ≤ j ∧ j < b + 1492 ∧ (j - b - 63) % 60 = 0) : AS j := by
  have hb := isB_le hB
  have hX : ∀ t i : Nat, i = j + t → t < 49 → acl i = rcl (11 + t) := fun t i hi ht => ac_r (11 + t) hB (by omega) rfl
  refine ⟨hX 0 j rfl (by omega), fun k hk => ⟨?_, ?_, fun i hi => ?_, by omega⟩, by omega⟩
  · rw [hX (1 + 12 * k) _ (by omega) (by omega)]
    unfold rcl
    rw [if_neg (by omega), if_neg (by omega), if_neg (by omega), if_neg (by omega), if_pos (by omega)]
  · rw [hX (2 + 12 * k) _ (by omega) (by omega)]
    unfold rcl
    rw [if_neg (by omega), if_neg (by omega), if_neg (by omega), if_neg (by omega), if_neg (by omega), if_pos (by omega)]
  · rw [hX (3 + 12 * k + i) _ (by omega) (by omega)]
    unfold rcl
    rw [if_neg (by omega), if_neg (by omega), if_neg (by omega), if_neg (by omega), if_neg (by omega), if_neg (by omega)]
theorem ac_m {b j : Nat} (hB : isB b) (hj : b + 1493 ≤ j ∧ j < b + 1541) : acl j = if (j - b - 1493) % 12 = 0 then 12 else if (j - b - 1493) % 12 = 1 then 6 else 7 := by
  refine ac_q hB (by omega) ?_
  unfold bcl
  rw [if_neg (by omega), if_neg (by omega), if_neg (by omega), if_neg (by omega), if_neg (by omega), if_neg (by omega), if_neg (by omega), if_pos (by omega), show j - b - 1493 = j - b - 1493 from rfl]
theorem AS_n {b j : Nat} (hB : isB b) (hj : j = b + 1492) : AS j := by
  have hb := isB_le hB
  refine ⟨ac_c 1492 hB (by omega) hj rfl, fun k hk => ⟨?_, ?_, fun i hi => ?_, by omega⟩, by omega⟩
  · rw [ac_m hB (by omega), if_pos (by omega)]
  · rw [ac_m hB (by omega), if_neg (by omega), if_pos (by omega)]
  · rw [ac_m hB (by omega), if_neg (by omega), if_neg (by omega)]
/-- copying: places of like class -/
def CPc (a b n : Nat) : Prop := ∀ k, k < n → acl (b + k) = acl (a + k)
theorem CPc_B {a b : Nat} (ha : isB a) (hb : isB b) : CPc a b 1650 := fun k hk => by rw [acl_B ha hk, acl_B hb hk]
theorem acl_m {m k : Nat} (hm : m ≤ 3) (hk : k < 5190) : acl (5190 * m + k) = acl k := by
  unfold acl
  rw [if_pos (show 5190 * m + k < 20760 by omega), if_pos (show k < 20760 by omega), show (5190 * m + k) % 5190 = k % 5190 by omega]
theorem CPc_m {m a : Nat} (hm : m ≤ 3) (ha : a = 5190 * m) : CPc 0 a 5190 := fun k hk => by rw [ha, acl_m hm hk, Nat.zero_add]
theorem CPc_b {m a : Nat} (hm : m ≤ 3) (ha : a = 5190 * m) : CPc a 0 5190 := fun k hk => by rw [ha, acl_m hm hk, Nat.zero_add]
theorem CPc_at {a b n i j : Nat} {v : Int} (h : CPc a b n) (hi : a ≤ i ∧ i < a + n ∧ j = b + (i - a)) (hv : atP i v) : atP j v := by
  unfold atP at hv ⊢
  have q := h (i - a) (by omega)
  rw [show a + (i - a) = i by omega] at q
  rw [hi.2.2, q]
  exact hv
/-! the row's windows: what is outside stays -/
def KW (lo hi g : Nat) (f f1 : Nat → va_E) : Prop := ∀ j, j < lo ∨ hi ≤ j → elj f1 g j = elj f g j
theorem KW.rf {lo hi g : Nat} {f : Nat → va_E} : KW lo hi g f f := fun _ _ => rfl
theorem KW.fm {L : List Nat} {R : Nat → Nat} {Mo : List (Nat × Nat)} {Mr : List Nat} {lo hi g : Nat} {f f1 f2 : Nat → va_E} (h : KW lo hi g f f1) (hf : fr L R Mo Mr f1 f2) (mg : g ∈ L) (rg : R g = 61) (d : mR Mr 61 = false) : KW lo hi g f f2 := fun j hj => (hf.eelj mg rg d j).trans (h j hj)
theorem KW.st {lo hi g i : Nat} {x : Int} {f f1 f2 : Nat → va_E} (h : KW lo hi g f f1) (e : ∀ j, elj f2 g j = if j = i then x else elj f1 g j) (hw : lo ≤ i ∧ i < hi) : KW lo hi g f f2 := fun j hj => by
  rw [e, if_neg (by omega)]
  exact h j hj
theorem KW.sub {lo hi lo1 hi1 g : Nat} {f f1 f2 : Nat → va_E} (h : KW lo hi g f f1) (h1 : KW lo1 hi1 g f1 f2) (q1 : lo ≤ lo1) (q2 : hi1 ≤ hi) : KW lo hi g f f2 := fun j hj => (h1 j (by omega)).trans (h j hj)
/-! gaps end within the line -/
def GZ (p q : Nat) (f : Nat → va_E) : Prop := ∀ g, g < 8 → eli f p g + eli f q g ≤ 12
theorem GZ.fm {L : List Nat} {R : Nat → Nat} {Mo : List (Nat × Nat)} {Mr : List Nat} {p q : Nat} {f f1 : Nat → va_E} (h : GZ p q f) (hf : fr L R Mo Mr f f1) (mp : p ∈ L) (rp : R p = 69) (mq : q ∈ L) (rq : R q = 70) (d : mR Mr 69 = false) (d2 : mR Mr 70 = false) : GZ p q f1 := fun g hg => by
  rw [hf.eeli mp rp d, hf.eeli mq rq d2]
  exact h g hg
/-! answers are there -/
def RB (g b : Nat) (f : Nat → va_E) : Prop := (∀ r : Nat, r < 24 → (r : Int) < elj f g (b + 1) → 1 ≤ elj f g (b + 63 + 60 * r)) ∧ (elj f g (b + 3) = 1 → 1 ≤ elj f g (b + 1492))
theorem RB.kw {lo hi g b : Nat} {f f1 : Nat → va_E} (h : RB g b f) (k : KW lo hi g f f1) (d : hi ≤ b ∨ b + 1493 ≤ lo) : RB g b f1 := by
  refine ⟨fun r hr q => ?_, fun q => ?_⟩
  · rw [k _ (by omega)] at q ⊢
    exact h.1 r hr q
  · rw [k _ (by omega)] at q ⊢
    exact h.2 q
theorem RB.fm {L : List Nat} {R : Nat → Nat} {Mo : List (Nat × Nat)} {Mr : List Nat} {g b : Nat} {f f1 : Nat → va_E} (h : RB g b f) (hf : fr L R Mo Mr f f1) (mg : g ∈ L) (rg : R g = 61) (d : mR Mr 61 = false) : RB g b f1 := h.kw (lo := 0) (hi := 0) (KW.fm KW.rf hf mg rg d) (Or.inl (by omega))
theorem RB.st {g b i : Nat} {x : Int} {f f1 : Nat → va_E} (h : RB g b f) (e : ∀ j, elj f1 g j = if j = i then x else elj f g j) (hi : i < b ∨ b + 1493 ≤ i) : RB g b f1 := h.kw (KW.st (lo := i) (hi := i + 1) KW.rf e (by omega)) (by omega)
theorem RB.cp {g a b : Nat} {f f1 : Nat → va_E} (h : RB g a f) (e : ∀ k, k < 1650 → elj f1 g (b + k) = elj f g (a + k)) : RB g b f1 := by
  refine ⟨fun r hr q => ?_, fun q => ?_⟩
  · have e1 := e (63 + 60 * r) (by omega)
    rw [e 1 (by omega)] at q
    rw [show b + 63 + 60 * r = b + (63 + 60 * r) by omega, e1, ← Nat.add_assoc]
    exact h.1 r hr q
  · rw [e 3 (by omega)] at q
    rw [e 1492 (by omega)]
    exact h.2 q
def RBA (g : Nat) (f : Nat → va_E) : Prop := ∀ m s : Nat, m ≤ 3 → s ≤ 2 → RB g (5190 * m + 1650 * s) f
theorem RBA.s {g s : Nat} {f : Nat → va_E} (h : RBA g f) (hs : s ≤ 2) : RB g (1650 * s) f := by
  have q := h 0 s (by omega) hs
  rw [show 5190 * 0 + 1650 * s = 1650 * s by omega] at q
  exact q
theorem RBA.fm {L : List Nat} {R : Nat → Nat} {Mo : List (Nat × Nat)} {Mr : List Nat} {g : Nat} {f f1 : Nat → va_E} (h : RBA g f) (hf : fr L R Mo Mr f f1) (mg : g ∈ L) (rg : R g = 61) (d : mR Mr 61 = false) : RBA g f1 := fun m s hm hs => by
  have k : KW 0 0 g f f1 := KW.fm KW.rf hf mg rg d
  exact (h m s hm hs).kw k (Or.inl (by omega))
def okw (lo hi : Nat) : Prop := 20760 ≤ lo ∨ (4950 ≤ lo ∧ hi ≤ 5190) ∨ ∃ s, s ≤ 2 ∧ 1650 * s + 1493 ≤ lo ∧ hi ≤ 1650 * s + 1650
theorem RBA.kw {lo hi g : Nat} {f f1 : Nat → va_E} (h : RBA g f) (k : KW lo hi g f f1) (d : okw lo hi) : RBA g f1 := fun m s hm hs => by
  refine (h m s hm hs).kw k ?_
  rcases d with d | d | ⟨z, d1, d2, d3⟩
  · omega
  · have : m = 0 ∨ m = 1 ∨ m = 2 ∨ m = 3 := by omega
    rcases this with e | e | e | e <;> subst e <;> omega
  · have : m = 0 ∨ 1 ≤ m := by omega
    have : s = 0 ∨ s = 1 ∨ s = 2 := by omega
    have : z = 0 ∨ z = 1 ∨ z = 2 := by omega
    rcases ‹m = 0 ∨ 1 ≤ m› with e1 | e1 <;> rcases ‹s = 0 ∨ s = 1 ∨ s = 2› with e2 | e2 | e2 <;> rcases ‹z = 0 ∨ z = 1 ∨ z = 2› with e3 | e3 | e3 <;> subst e2 <;> subst e3 <;> omega
theorem RBA.st {g i : Nat} {x : Int} {f f1 : Nat → va_E} (h : RBA g f) (e : ∀ j, elj f1 g j = if j = i then x else elj f g j) (d : okw i (i + 1)) : RBA g f1 := h.kw (KW.st (lo := i) (hi := i + 1) KW.rf e (by omega)) d
/-! rests and quotients -/
theorem tw_quo {x y : Int32} (hx : 0 ≤ x.toInt) (hy : 0 < y.toInt) : (x / y).toInt = x.toInt / y.toInt := by
  have hb := tb_i x
  have h1 : 0 ≤ x.toInt / y.toInt := Int.ediv_nonneg hx (by omega)
  have h2 : x.toInt / y.toInt ≤ x.toInt := Int.ediv_le_self _ hx
  rw [Int32.toInt_div, Int.tdiv_eq_ediv_of_nonneg hx, Int.bmod_eq_of_le (by omega) (by omega)]
theorem tw_rest {x y : Int32} (hx : 0 ≤ x.toInt) (hy : 0 < y.toInt) : (x - x / y * y).toInt = x.toInt % y.toInt := by
  have hb := tb_i x
  have hq := tw_quo hx hy
  have h1 := Int.emod_add_ediv_mul x.toInt y.toInt
  have h2 := Int.emod_nonneg x.toInt (show y.toInt ≠ 0 by omega)
  have h3 := Int.emod_lt_of_pos x.toInt hy
  have h4 : 0 ≤ x.toInt / y.toInt * y.toInt := Int.mul_nonneg (Int.ediv_nonneg hx (by omega)) (by omega)
  have h5 : (x / y * y).toInt = x.toInt / y.toInt * y.toInt := by
    rw [tw_mul (by rw [hq]; omega) (by rw [hq]; omega), hq]
  rw [tw_sub (by rw [h5]; omega) (by rw [h5]; omega), h5]
  omega
theorem tw_quoL {x y : Int64} (hx : 0 ≤ x.toInt) (hy : 0 < y.toInt) : (x / y).toInt = x.toInt / y.toInt := by
  have hb := tb_l x
  have h1 : 0 ≤ x.toInt / y.toInt := Int.ediv_nonneg hx (by omega)
  have h2 : x.toInt / y.toInt ≤ x.toInt := Int.ediv_le_self _ hx
  rw [Int64.toInt_div, Int.tdiv_eq_ediv_of_nonneg hx, Int.bmod_eq_of_le (by omega) (by omega)]
theorem tw_restL {x y : Int64} (hx : 0 ≤ x.toInt) (hy : 0 < y.toInt) : (x - x / y * y).toInt = x.toInt % y.toInt := by
  have hb := tb_l x
  have hq := tw_quoL hx hy
  have h1 := Int.emod_add_ediv_mul x.toInt y.toInt
  have h2 := Int.emod_nonneg x.toInt (show y.toInt ≠ 0 by omega)
  have h3 := Int.emod_lt_of_pos x.toInt hy
  have h4 : 0 ≤ x.toInt / y.toInt * y.toInt := Int.mul_nonneg (Int.ediv_nonneg hx (by omega)) (by omega)
  have h5 : (x / y * y).toInt = x.toInt / y.toInt * y.toInt := by
    rw [Int64.toInt_mul, hq]
    exact Int.bmod_eq_of_le (by omega) (by omega)
  rw [Int64.toInt_sub, h5]
  rw [Int.bmod_eq_of_le (by omega) (by omega)]
  omega
section T27
variable {p : Program} {l : Launch} {e : Env} {R0 : Room} {s : State} {m : MethodId} {args : Array Value} {below : List Frame} {meth : Method} {c : Code} {H H0 : Heap} {locs : List Loc} {cells slots : Nat} {Q : State → Prop} {cc : ByteArray} {nL : Nat} {own : String} {pc : Nat} {ls : Array Slot} {rest : List Value}
theorem tu_irem (F : CallFix p m c cc nL s args wsL_law own) {x y : Int32} (hdg : decode cc pc = .ok (.irem, 1)) (h : 0 ≤ x.toInt ∧ 0 < y.toInt) (kk : ∀ z : Int32, 0 ≤ z.toInt → z.toInt < y.toInt → W p l e R0 s m args below meth c H locs cells slots Q (F0 m (pc + 1) ls (.int z :: rest))) : W p l e R0 s m args below meth c H locs cells slots Q (F0 m pc ls (.int y :: .int x :: rest)) := lv_irem F.1 F.2.1 hdg (tw_ne0i (by omega)) (kk _ (by rw [tw_rest h.1 h.2]; exact Int.emod_nonneg _ (by omega)) (by rw [tw_rest h.1 h.2]; exact Int.emod_lt_of_pos _ h.2))
theorem tu_idiv (F : CallFix p m c cc nL s args wsL_law own) {x y : Int32} (hdg : decode cc pc = .ok (.idiv, 1)) (h : 0 ≤ x.toInt ∧ 0 < y.toInt) (kk : ∀ z : Int32, 0 ≤ z.toInt → z.toInt ≤ x.toInt → W p l e R0 s m args below meth c H locs cells slots Q (F0 m (pc + 1) ls (.int z :: rest))) : W p l e R0 s m args below meth c H locs cells slots Q (F0 m pc ls (.int y :: .int x :: rest)) := lv_idiv F.1 F.2.1 hdg (tw_ne0i (by omega)) (kk _ (by rw [tw_quo h.1 h.2]; exact Int.ediv_nonneg h.1 (by omega)) (by rw [tw_quo h.1 h.2]; exact Int.ediv_le_self _ h.1))
theorem tu_lrem (F : CallFix p m c cc nL s args wsL_law own) {x y : Int64} (hdg : decode cc pc = .ok (.lrem, 1)) (h : 0 ≤ x.toInt ∧ 0 < y.toInt) (kk : ∀ z : Int64, 0 ≤ z.toInt → z.toInt < y.toInt → W p l e R0 s m args below meth c H locs cells slots Q (F0 m (pc + 1) ls (.long z :: rest))) : W p l e R0 s m args below meth c H locs cells slots Q (F0 m pc ls (.long y :: .long x :: rest)) := lv_lrem F.1 F.2.1 hdg (tw_ne0l (by omega)) (kk _ (by rw [tw_restL h.1 h.2]; exact Int.emod_nonneg _ (by omega)) (by rw [tw_restL h.1 h.2]; exact Int.emod_lt_of_pos _ h.2))
end T27
