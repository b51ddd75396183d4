/-! the model's long row: what may stand at each place -/
/-- classes of a block's places -/
def bcl (q : Nat) : Nat :=
  if q = 0 then 1 else if q = 1 then 2 else if q = 2 then 1 else if q = 3 then 3 else if q < 52 then 0
  else if q < 1492 then
    (if (q - 52) % 60 = 0 then 13 else if (q - 52) % 60 = 2 then 4 else if (q - 52) % 60 < 11 then 0 else if (q - 52) % 60 = 11 then 5
     else if ((q - 52) % 60 - 12) % 12 = 0 then 12 else if ((q - 52) % 60 - 12) % 12 = 1 then 6 else 7)
  else if q = 1492 then 5 else if q < 1541 then (if (q - 1493) % 12 = 0 then 12 else if (q - 1493) % 12 = 1 then 6 else 7)
  else if q < 1542 then 0 else if q < 1567 then 8 else if q = 1567 then 9 else if q < 1646 then (if (q - 1568) % 13 = 0 then 10 else 0) else 0
def acl (j : Nat) : Nat :=
  if j < 20760 then
    (if j % 5190 < 4950 then bcl (j % 5190 % 1650) else if j % 5190 = 4950 then 11 else if j % 5190 < 5159 then (if (j % 5190 - 4951) % 13 = 0 then 10 else 0) else if j % 5190 = 5159 then 1 else 0)
  else bcl ((j - 20760) % 1650)
/-- what a class lets stand -/
def clP (c : Nat) (v : Int) : Prop := (c = 1 → 0 ≤ v ∧ v ≤ 12) ∧ (c = 2 → 0 ≤ v ∧ v ≤ 24) ∧ (c = 3 → 0 ≤ v ∧ v ≤ 1) ∧ (c = 4 → 0 ≤ v ∧ v ≤ 8) ∧ (c = 5 → 0 ≤ v ∧ v ≤ 4) ∧ (c = 6 → 0 ≤ v ∧ v ≤ 10) ∧ (c = 7 → -8 ≤ v) ∧ (c = 8 → 0 ≤ v ∧ v ≤ 3) ∧ (c = 9 → 0 ≤ v ∧ v ≤ 6) ∧ (c = 10 → 0 ≤ v ∧ v ≤ 12) ∧ (c = 11 → 0 ≤ v ∧ v ≤ 16)
def atP (j : Nat) (v : Int) : Prop := clP (acl j) v
def taP (j : Nat) (v : Int) : Prop := j % 13 = 0 → 0 ≤ v ∧ v ≤ 12
def isB (b : Nat) : Prop := b = 0 ∨ b = 1650 ∨ b = 3300 ∨ b = 20760 ∨ b = 22410 ∨ b = 24060
theorem acl_B {b q : Nat} (hb : isB b) (hq : q < 1650) : acl (b + q) = bcl q := by
  unfold acl
  rcases hb with h | h | h | h | h | h <;> subst h
  · rw [if_pos (by omega), if_pos (by omega), show (0 + q) % 5190 % 1650 = q by omega]
  · rw [if_pos (by omega), if_pos (by omega), show (1650 + q) % 5190 % 1650 = q by omega]
  · rw [if_pos (by omega), if_pos (by omega), show (3300 + q) % 5190 % 1650 = q by omega]
  · rw [if_neg (by omega), show (20760 + q - 20760) % 1650 = q by omega]
  · rw [if_neg (by omega), show (22410 + q - 20760) % 1650 = q by omega]
  · rw [if_neg (by omega), show (24060 + q - 20760) % 1650 = q by omega]
theorem at_B {b q j : Nat} {v : Int} (hb : isB b) (hq : q < 1650) (hj : j = b + q) : atP j v ↔ clP (bcl q) v := by
  unfold atP
  rw [hj, acl_B hb hq]
theorem bcl_rule {r t : Nat} (hr : r < 24) (ht : t < 60) : bcl (52 + 60 * r + t) = if t = 0 then 13 else if t = 2 then 4 else if t < 11 then 0 else if t = 11 then 5 else if (t - 12) % 12 = 0 then 12 else if (t - 12) % 12 = 1 then 6 else 7 := by
  unfold bcl
  rw [if_neg (by omega), if_neg (by omega), if_neg (by omega), if_neg (by omega), if_neg (by omega), if_pos (by omega), show (52 + 60 * r + t - 52) % 60 = t by omega]
theorem clP_0 {v : Int} : clP 0 v := by unfold clP; omega
theorem clP_12 {v : Int} : clP 12 v := by unfold clP; omega
theorem clP_13 {v : Int} : clP 13 v := by unfold clP; omega
theorem clP_1 {v : Int} : clP 1 v ↔ 0 ≤ v ∧ v ≤ 12 := by unfold clP; omega
theorem clP_2 {v : Int} : clP 2 v ↔ 0 ≤ v ∧ v ≤ 24 := by unfold clP; omega
theorem clP_3 {v : Int} : clP 3 v ↔ 0 ≤ v ∧ v ≤ 1 := by unfold clP; omega
theorem clP_4 {v : Int} : clP 4 v ↔ 0 ≤ v ∧ v ≤ 8 := by unfold clP; omega
theorem clP_5 {v : Int} : clP 5 v ↔ 0 ≤ v ∧ v ≤ 4 := by unfold clP; omega
theorem clP_6 {v : Int} : clP 6 v ↔ 0 ≤ v ∧ v ≤ 10 := by unfold clP; omega
theorem clP_7 {v : Int} : clP 7 v ↔ -8 ≤ v := by unfold clP; omega
theorem clP_8 {v : Int} : clP 8 v ↔ 0 ≤ v ∧ v ≤ 3 := by unfold clP; omega
theorem clP_9 {v : Int} : clP 9 v ↔ 0 ≤ v ∧ v ≤ 6 := by unfold clP; omega
theorem clP_10 {v : Int} : clP 10 v ↔ 0 ≤ v ∧ v ≤ 12 := by unfold clP; omega
theorem clP_11 {v : Int} : clP 11 v ↔ 0 ≤ v ∧ v ≤ 16 := by unfold clP; omega
