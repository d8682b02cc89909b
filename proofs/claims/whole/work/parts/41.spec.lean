/-! THE SPECIFICATION'S WORDS. T : what was told; S : how it stands. Both by tags and places, all natural numbers.
T 0: 0 houses, 1 beds, 2 people, 3 clues; T 1: rules (vow month wide turn ill); T 2 side, T 3 beds, T 4 first of a house; T 5 keeps (4 h + i), T 6 has keeps; T 7 house of a bed;
T 8 kind, T 9 home, T 10 walk, T 11 kin, T 12 foes (bits), T 13 wants (6 p + h), T 14 shoes (bits) of a person; T 15 0 cold (bits).
S 0 bed + 1 (0: church), S 1 turns, S 2 knows (bits), S 5 ill of a person; S 3 last (12 p + b), S 4 met (10 p + q, p < q); S 6: 0 seed, 1 nights. -/
abbrev zA : Type := Nat → Nat → Nat
def anyN (c : Nat → Bool) : Nat → Bool
  | 0 => false
  | n + 1 => anyN c n || c n
def orN (f : Nat → Nat) : Nat → Nat
  | 0 => 0
  | n + 1 => orN f n ||| f n
def sumN (f : Nat → Nat) : Nat → Nat
  | 0 => 0
  | n + 1 => sumN f n + f n
/-- the bits of those for whom c holds -/
def mkN (c : Nat → Bool) (n : Nat) : Nat := orN (fun q => if c q then 2 ^ q else 0) n
/-- the first below n, from i on; n if there is none -/
def firN (c : Nat → Bool) (n i : Nat) : Nat := if h : i < n then (if c i then i else firN c n (i + 1)) else n
  termination_by n - i
def zH (T : zA) : Nat := T 0 0
def zB (T : zA) : Nat := T 0 1
def zP (T : zA) : Nat := T 0 2
def zSP (T : zA) (p : Nat) : Nat := T 2 (T 9 p)
def zSB (T : zA) (b : Nat) : Nat := T 2 (T 7 b)
def zWant (T : zA) (p h : Nat) : Nat := T 13 (6 * p + h)
/-- the house + 1 where one sleeps; 0: the church -/
def zHs (T S : zA) (p : Nat) : Nat := if S 0 p = 0 then 0 else T 7 (S 0 p - 1) + 1
def zFoe (T : zA) (p q : Nat) : Bool := (T 12 p).testBit q
def zJar (T : zA) (p q : Nat) : Bool := (T 8 p == 1 && T 8 q == 2) || (T 8 p == 2 && T 8 q == 1)
def zEld (T : zA) (p q : Nat) : Bool := !(q == p) && T 11 p == T 11 q && !(T 8 q == 3)
def zIn (T S : zA) (p h q : Nat) : Bool := !(q == p) && zHs T S q == h + 1
def zLate (T S : zA) (p b : Nat) : Bool := !(S 3 (12 * p + b) == 0) && decide (S 6 1 - S 3 (12 * p + b) < T 1 1)
/-- what is wrong with one in a bed -/
def zWrong (T S : zA) (p b : Nat) : Nat :=
  if zSB T b = zSP T p then 1
  else if anyN (fun q => S 0 q == b + 1) p then 2
  else if zLate T S p b then 3
  else if anyN (fun q => zIn T S p (T 7 b) q && zFoe T p q) (zP T) then 4
  else if anyN (fun q => zIn T S p (T 7 b) q && zJar T p q) (zP T) then 5
  else if T 8 p = 3 ∧ anyN (fun q => zIn T S p (T 7 b) q && zEld T p q) (zP T) = false then 6
  else if S 5 p = 0 then 0 else 7
def zWrong0 (T S : zA) (p : Nat) : Nat := if S 0 p = 0 then 0 else zWrong T S p (S 0 p - 1)
/-- how many below n are of a side -/
def zCnt (T : zA) (a n : Nat) : Nat := sumN (fun p => if zSP T p = a then 1 else 0) n
/-- what was told is sound -/
def zT (T : zA) : Prop :=
  zH T ≤ 6 ∧ zB T ≤ 12 ∧ zP T ≤ 10 ∧ (∀ j, j < 5 → T 1 j ≤ 100) ∧ (1 ≤ zP T → 1 ≤ T 1 2 ∧ T 1 2 ≤ 3) ∧ (∀ h, h < zH T → T 2 h < 2 ∧ 1 ≤ T 3 h ∧ T 3 h ≤ 3 ∧ T 4 h + T 3 h ≤ zB T ∧ T 6 h ≤ 1 ∧ ∀ i, i < 4 → T 5 (4 * h + i) ≤ 99) ∧ (∀ b, b < zB T → T 7 b < zH T) ∧
  (∀ p, p < zP T → T 8 p < 4 ∧ T 9 p < zH T ∧ 1 ≤ T 10 p ∧ T 10 p ≤ 9 ∧ T 11 p ≤ 9 ∧ T 12 p < 1024 ∧ T 14 p < 64 ∧ ∀ h, h < 6 → T 13 (6 * p + h) ≤ 9) ∧ T 15 0 < 4096 ∧ T 0 3 ≤ 6 ∧ (∀ p q, p < zP T → q < zP T → zFoe T p q = zFoe T q p) ∧ (∀ a, a < 2 → zCnt T a (zP T) ≤ 5)
/-- how it stands is sound -/
def zS (T S : zA) : Prop :=
  (∀ p, p < zP T → S 0 p ≤ zB T ∧ S 1 p ≤ S 6 1 ∧ S 2 p < 64 ∧ S 5 p ≤ 1 ∧ (∀ b, b < 12 → S 3 (12 * p + b) ≤ S 6 1) ∧ ∀ q, q < 10 → S 4 (10 * p + q) ≤ S 6 1) ∧ S 6 0 < 65537 ∧ S 6 1 ≤ 1000000
/-! facts -/
theorem anyN_iff {c : Nat → Bool} {n : Nat} : anyN c n = true ↔ ∃ q, q < n ∧ c q = true := by
  induction n with
  | zero => simp [anyN]
  | succ n ih =>
    simp only [anyN, Bool.or_eq_true, ih]
    constructor
    · rintro (⟨q, h1, h2⟩ | h)
      · exact ⟨q, by omega, h2⟩
      · exact ⟨n, by omega, h⟩
    · rintro ⟨q, h1, h2⟩
      by_cases hq : q = n
      · exact Or.inr (hq ▸ h2)
      · exact Or.inl ⟨q, by omega, h2⟩
theorem anyN_congr {c c' : Nat → Bool} {n : Nat} (h : ∀ q, q < n → c q = c' q) : anyN c n = anyN c' n := by
  induction n with
  | zero => rfl
  | succ n ih => simp only [anyN]; rw [ih (fun q hq => h q (by omega)), h n (by omega)]
theorem orN_congr {c c' : Nat → Nat} {n : Nat} (h : ∀ q, q < n → c q = c' q) : orN c n = orN c' n := by
  induction n with
  | zero => rfl
  | succ n ih => simp only [orN]; rw [ih (fun q hq => h q (by omega)), h n (by omega)]
theorem sumN_congr {c c' : Nat → Nat} {n : Nat} (h : ∀ q, q < n → c q = c' q) : sumN c n = sumN c' n := by
  induction n with
  | zero => rfl
  | succ n ih => simp only [sumN]; rw [ih (fun q hq => h q (by omega)), h n (by omega)]
theorem sumN_le {c : Nat → Nat} {n k : Nat} (h : ∀ q, q < n → c q ≤ k) : sumN c n ≤ n * k := by
  induction n with
  | zero => simp [sumN]
  | succ n ih =>
    have h1 := ih (fun q hq => h q (by omega))
    have h2 := h n (by omega)
    simp only [sumN, Nat.succ_mul]
    omega
theorem orN_lt {f : Nat → Nat} {n k : Nat} (h : ∀ q, q < n → f q < 2 ^ k) : orN f n < 2 ^ k := by
  induction n with
  | zero => exact Nat.two_pow_pos k
  | succ n ih => exact Nat.or_lt_two_pow (ih (fun q hq => h q (by omega))) (h n (by omega))
theorem orN_bit {f : Nat → Nat} {n i : Nat} : (orN f n).testBit i = anyN (fun q => (f q).testBit i) n := by
  induction n with
  | zero => simp [orN, anyN]
  | succ n ih => simp only [orN, anyN, Nat.testBit_or, ih]
theorem mkN_bit {c : Nat → Bool} {n i : Nat} : (mkN c n).testBit i = (decide (i < n) && c i) := by
  unfold mkN
  rw [orN_bit]
  rw [Bool.eq_iff_iff, anyN_iff]
  simp only [Bool.and_eq_true, decide_eq_true_eq]
  constructor
  · rintro ⟨q, h1, h2⟩
    by_cases hc : c q = true
    · rw [if_pos hc, Nat.testBit_two_pow] at h2
      have : q = i := by simpa using h2
      exact this ▸ ⟨h1, hc⟩
    · rw [if_neg hc] at h2
      simp at h2
  · rintro ⟨h1, h2⟩
    exact ⟨i, h1, by rw [if_pos h2, Nat.testBit_two_pow]; simp⟩
theorem mkN_lt {c : Nat → Bool} {n k : Nat} (h : n ≤ k) : mkN c n < 2 ^ k := orN_lt (fun q hq => by
  split
  · exact Nat.pow_lt_pow_right (by omega) (by omega)
  · exact Nat.two_pow_pos k)
theorem mkN_succ {c : Nat → Bool} {n : Nat} : mkN c (n + 1) = mkN c n ||| (if c n then 2 ^ n else 0) := rfl
/-- two sets of bits meet -/
theorem mk_meet {c : Nat → Bool} {n m : Nat} : (mkN c n &&& m = 0) ↔ anyN (fun q => c q && m.testBit q) n = false := by
  rw [← Bool.not_eq_true, anyN_iff]
  constructor
  · rintro h ⟨q, h1, h2⟩
    have h3 : (mkN c n &&& m).testBit q = true := by rw [Nat.testBit_and, mkN_bit]; simp [h1]; simpa using h2
    rw [h] at h3
    simp at h3
  · intro h
    apply Nat.eq_of_testBit_eq
    intro i
    rw [Nat.testBit_and, mkN_bit, Nat.zero_testBit]
    by_cases h1 : i < n
    · by_cases h2 : c i = true
      · by_cases h3 : m.testBit i = true
        · exact absurd ⟨i, h1, by simp [h2, h3]⟩ h
        · simp [h3]
      · simp [h2]
    · simp [h1]
theorem firN_lt {c : Nat → Bool} {n i : Nat} (h : i < n) : firN c n i = if c i then i else firN c n (i + 1) := by
  rw [firN, dif_pos h]
theorem firN_ge {c : Nat → Bool} {n i : Nat} (h : n ≤ i) : firN c n i = n := by
  rw [firN, dif_neg (by omega)]
theorem firN_le {c : Nat → Bool} {n i : Nat} : firN c n i ≤ n := by
  by_cases h : i ≤ n
  · refine up_ind (P := fun i => firN c n i ≤ n) (by rw [firN_ge (Nat.le_refl n)]; exact Nat.le_refl n) (fun i hi ih => ?_) i h
    rw [firN_lt hi]
    split
    · omega
    · exact ih
  · rw [firN_ge (by omega)]; exact Nat.le_refl n
theorem firN_spec {c : Nat → Bool} {n : Nat} : ∀ i, i ≤ n → (firN c n i < n → c (firN c n i) = true) ∧ i ≤ firN c n i ∧ ∀ q, i ≤ q → q < firN c n i → c q = false := by
  intro i hi
  refine up_ind (P := fun i => (firN c n i < n → c (firN c n i) = true) ∧ i ≤ firN c n i ∧ ∀ q, i ≤ q → q < firN c n i → c q = false) ?_ (fun i hi ih => ?_) i hi
  · rw [firN_ge (Nat.le_refl n)]
    exact ⟨fun h => by omega, Nat.le_refl n, fun q h1 h2 => by omega⟩
  · rw [firN_lt hi]
    by_cases hc : c i = true
    · rw [if_pos hc]
      exact ⟨fun _ => hc, Nat.le_refl i, fun q h1 h2 => by omega⟩
    · rw [if_neg hc]
      refine ⟨ih.1, by omega, fun q h1 h2 => ?_⟩
      by_cases hq : q = i
      · subst hq; simpa using hc
      · exact ih.2.2 q (by omega) h2
theorem firN_any {c : Nat → Bool} {n m : Nat} (hm : m ≤ n) : firN c n 0 < m ↔ anyN c m = true := by
  rw [anyN_iff]
  obtain ⟨h1, h2, h3⟩ := firN_spec (c := c) (n := n) 0 (Nat.zero_le n)
  constructor
  · intro h
    exact ⟨_, h, h1 (by omega)⟩
  · rintro ⟨q, h4, h5⟩
    rcases Nat.lt_or_ge (firN c n 0) m with h | h
    · exact h
    · have := h3 q (Nat.zero_le q) (by omega)
      rw [h5] at this
      cases this
