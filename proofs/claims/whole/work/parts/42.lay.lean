/-! where things lie, and what they hold, in the class -/
def bv (n : Nat) : Int32 := if n = 0 then -2 else nI (n - 1)
theorem bv_0 : bv 0 = -2 := rfl
theorem bv_s (n : Nat) : bv (n + 1) = nI n := rfl
theorem bv_pos {n : Nat} (h : n ≠ 0) : bv n = nI (n - 1) := if_neg h
theorem bv_ge {n : Nat} (h : n < 2147483648) : (0 ≤ bv n) = (n ≠ 0) := by
  cases n with
  | zero => simp [bv_0]
  | succ n => rw [bv_s, n_ge0 (by omega)]; simp
theorem bv_lt {n : Nat} (h : n < 2147483648) : (bv n < 0) = (n = 0) := by
  cases n with
  | zero => simp [bv_0]
  | succ n => rw [bv_s, n_lt0 (by omega)]; simp
theorem bv_eq {n b : Nat} (h : n < 2147483648) (hb : b < 2147483647) : (bv n = nI b) = (n = b + 1) := by
  cases n with
  | zero => rw [bv_0, n_m2ne (by omega)]; simp
  | succ n => rw [bv_s, n_eq (by omega) (by omega)]; simp
theorem bv_eq2 {n : Nat} (h : n < 2147483648) : (bv n = -2) = (n = 0) := by
  cases n with
  | zero => simp [bv_0]
  | succ n => rw [bv_s, n_m2ne' (by omega)]; simp
theorem bv_inj {n k : Nat} (h : n < 2147483648) (hk : k < 2147483648) : (bv n = bv k) = (n = k) := by
  cases k with
  | zero => rw [bv_0, bv_eq2 h]
  | succ k => rw [bv_s, bv_eq h (by omega)]
/-- the towns told -/
def LT (E : gE) (t : Nat) : Prop :=
  E.2.1 t = (13, 20) ∧ E.2.2 t 0 = some (t + 1) ∧ E.2.2 t 2 = some (t + 2) ∧ E.2.2 t 3 = some (t + 3) ∧ E.2.2 t 4 = some (t + 4) ∧ E.2.2 t 5 = some (t + 5) ∧ E.2.2 t 7 = some (t + 6) ∧ E.2.2 t 9 = some (t + 7) ∧ E.2.2 t 10 = some (t + 8) ∧ E.2.2 t 11 = some (t + 9) ∧ E.2.2 t 12 = some (t + 10) ∧ E.2.2 t 13 = some (t + 11) ∧ E.2.2 t 14 = some (t + 12) ∧ E.2.2 t 15 = some (t + 13) ∧ E.2.2 t 16 = some (t + 14) ∧ E.2.2 t 17 = some (t + 15) ∧
  E.2.1 (t + 1) = (1, 5) ∧ E.2.1 (t + 2) = (1, 6) ∧ E.2.1 (t + 3) = (1, 6) ∧ E.2.1 (t + 4) = (1, 6) ∧ E.2.1 (t + 5) = (1, 24) ∧ E.2.1 (t + 6) = (1, 12) ∧ E.2.1 (t + 7) = (1, 10) ∧ E.2.1 (t + 8) = (1, 10) ∧ E.2.1 (t + 9) = (1, 10) ∧ E.2.1 (t + 10) = (1, 10) ∧ E.2.1 (t + 11) = (1, 10) ∧ E.2.1 (t + 12) = (1, 10) ∧ E.2.1 (t + 13) = (1, 10) ∧ E.2.1 (t + 14) = (1, 60) ∧ E.2.1 (t + 15) = (1, 10)
def RT (I : Nat → Nat → Int32) (t : Nat) (T : zA) : Prop :=
  I t 1 = nI (zH T) ∧ I t 6 = nI (zB T) ∧ I t 8 = nI (zP T) ∧ I t 18 = nI (T 15 0) ∧ I t 19 = nI (T 0 3) ∧ (∀ j, j < 5 → I (t + 1) j = nI (T 1 j)) ∧ (∀ h, h < zH T → I (t + 2) h = nI (T 2 h)) ∧ (∀ h, h < zH T → I (t + 3) h = nI (T 3 h)) ∧ (∀ h, h < zH T → I (t + 4) h = nI (T 4 h)) ∧ (∀ h i, h < zH T → i < 4 → I (t + 5) (h * 4 + i) = if T 6 h = 1 then nI (T 5 (4 * h + i)) else -1) ∧
  (∀ b, b < zB T → I (t + 6) b = nI (T 7 b)) ∧ (∀ p, p < zP T → I (t + 7) p = nI (T 8 p)) ∧ (∀ p, p < zP T → I (t + 8) p = nI (T 9 p)) ∧ (∀ p, p < zP T → I (t + 9) p = nI (T 10 p)) ∧ (∀ p, p < zP T → I (t + 10) p = nI (T 11 p)) ∧ (∀ p, p < zP T → I (t + 11) p = nI (T 12 p)) ∧ (∀ p, p < zP T → I (t + 12) p = nI (mkN (zJar T p) (zP T))) ∧ (∀ p, p < zP T → I (t + 13) p = nI (mkN (zEld T p) (zP T))) ∧ (∀ p h, p < zP T → h < 6 → I (t + 14) (p * 6 + h) = nI (zWant T p h)) ∧ (∀ p, p < zP T → I (t + 15) p = nI (T 14 p))
def XT (E : gE) (I : Nat → Nat → Int32) (t : Nat) (T : zA) : Prop := LT E t ∧ RT I t T ∧ zT T
/-- how it stands -/
def LSt (E : gE) (s : Nat) : Prop :=
  E.2.1 s = (12, 8) ∧ E.2.2 s 0 = some (s + 1) ∧ E.2.2 s 1 = some (s + 2) ∧ E.2.2 s 2 = some (s + 3) ∧ E.2.2 s 3 = some (s + 4) ∧ E.2.2 s 4 = some (s + 5) ∧ E.2.1 (s + 1) = (1, 10) ∧ E.2.1 (s + 2) = (1, 10) ∧ E.2.1 (s + 3) = (1, 10) ∧ E.2.1 (s + 4) = (1, 120) ∧ E.2.1 (s + 5) = (1, 100)
def RS (I : Nat → Nat → Int32) (s : Nat) (T S : zA) : Prop :=
  (∀ p, p < zP T → I (s + 1) p = bv (S 0 p)) ∧ (∀ p, p < zP T → I (s + 2) p = nI (S 1 p)) ∧ (∀ p, p < zP T → I (s + 3) p = nI (S 2 p)) ∧ (∀ p b, p < zP T → b < 12 → I (s + 4) (p * 12 + b) = nI (S 3 (12 * p + b))) ∧ (∀ p q, p < q → q < zP T → I (s + 5) (p * 10 + q) = nI (S 4 (10 * p + q))) ∧ I s 5 = nI (mkN (fun p => S 5 p == 1) (zP T)) ∧ I s 6 = nI (S 6 0) ∧ I s 7 = nI (S 6 1)
def XS (E : gE) (I : Nat → Nat → Int32) (s : Nat) (T S : zA) : Prop := LSt E s ∧ RS I s T S ∧ zS T S
