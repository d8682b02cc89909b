/-! numbers: Int32 by Nat -/
theorem n0 : (0 : Int32) = nI 0 := rfl
theorem n1 : (1 : Int32) = nI 1 := rfl
theorem n_lt {a b : Nat} (ha : a < 2147483648) (hb : b < 2147483648) : (nI a < nI b) = (a < b) := propext (nI_ltI ha hb)
theorem n_le {a b : Nat} (ha : a < 2147483648) (hb : b < 2147483648) : (nI a ≤ nI b) = (a ≤ b) := propext (nI_leI ha hb)
theorem n_eq {a b : Nat} (ha : a < 2147483648) (hb : b < 2147483648) : (nI a = nI b) = (a = b) := propext (nI_eq ha hb)
theorem n_lt0 {a : Nat} (ha : a < 2147483648) : (nI a < 0) = False := eq_false (nI_pos ha)
theorem n_ge0 {a : Nat} (ha : a < 2147483648) : (0 ≤ nI a) = True := eq_true (nI_pos' ha)
theorem n_gt0 {a : Nat} (ha : a < 2147483648) : (0 < nI a) = (0 < a) := by rw [n0, n_lt (by omega) ha]
theorem n_le0 {a : Nat} (ha : a < 2147483648) : (nI a ≤ 0) = (a = 0) := by rw [n0, n_le ha (by omega)]; exact propext Nat.le_zero
theorem n_eq0 {a : Nat} (ha : a < 2147483648) : (nI a = 0) = (a = 0) := by rw [n0, n_eq ha (by omega)]
theorem n_eq1 {a : Nat} (ha : a < 2147483648) : (nI a = 1) = (a = 1) := by rw [n1, n_eq ha (by omega)]
theorem n_cl {a : Nat} (ha : a < 2147483648) : (nI a).toNatClampNeg = a := nI_clamp ha
theorem n_in {a N : Nat} (ha : a < 2147483648) (hN : N < 2147483648) : vp_in (nI a) N = (a < N) := by
  apply propext
  rw [vp_in_iff, nI_toInt ha]
  omega
theorem n_add (a b : Nat) : nI a + nI b = nI (a + b) := nI_add a b
theorem n_mul (a b : Nat) : nI a * nI b = nI (a * b) := pk_mul a b
theorem n_sub {a b : Nat} (h : b ≤ a) : nI a - nI b = nI (a - b) := pk_sub h
theorem n_m1 {a : Nat} (h : 1 ≤ a) : nI a + (-1) = nI (a - 1) := by
  obtain ⟨b, rfl⟩ : ∃ b, a = b + 1 := ⟨a - 1, by omega⟩
  exact pk_m1 b
theorem n_and (a b : Nat) : nI a &&& nI b = nI (a &&& b) := by
  apply Int32.toBitVec_inj.mp
  show BitVec.ofNat 32 a &&& BitVec.ofNat 32 b = BitVec.ofNat 32 (a &&& b)
  apply BitVec.eq_of_toNat_eq
  simp [Nat.and_mod_two_pow]
theorem n_or (a b : Nat) : nI a ||| nI b = nI (a ||| b) := by
  apply Int32.toBitVec_inj.mp
  show BitVec.ofNat 32 a ||| BitVec.ofNat 32 b = BitVec.ofNat 32 (a ||| b)
  apply BitVec.eq_of_toNat_eq
  simp [Nat.or_mod_two_pow]
theorem n_sh5 : ∀ q, q < 32 → ((nI q &&& 31).toBitVec.smod 32).toNat = q := by decide
theorem n_shl {a q : Nat} (hq : q < 32) (h : a * 2 ^ q < 2147483648) : nI a <<< (nI q &&& 31) = nI (a * 2 ^ q) := pk_shlN _ q (n_sh5 q hq) (by omega)
theorem n_shr {a q : Nat} (hq : q < 32) (h : a < 2147483648) : nI a >>> (nI q &&& 31) = nI (a / 2 ^ q) := pk_shrN h _ q (n_sh5 q hq)
theorem n_div {a d : Nat} (ha : a < 2147483648) (h0 : 0 < d) (hd : d < 2147483648) : nI a / nI d = nI (a / d) := pk_div ha h0 hd
theorem n_rem {a d : Nat} (ha : a < 2147483648) (h0 : 0 < d) (hd : d < 2147483648) : nI a - nI a / nI d * nI d = nI (a % d) := pk_rem ha h0 hd
theorem n_bit1 (a q : Nat) : a / 2 ^ q &&& 1 = (a.testBit q).toNat := by
  rw [Nat.testBit_eq_decide_div_mod_eq, Nat.and_one_is_mod]
  rcases Nat.mod_two_eq_zero_or_one (a / 2 ^ q) with h | h <;> simp [h]
theorem n_mlt {a : Nat} (ha : a < 2147483648) : ((-2 : Int32) < nI a) = True := by
  apply eq_true
  rw [Int32.lt_iff_toInt_lt, nI_toInt ha]
  show (-2 : Int) < _
  omega
theorem n_m2ne {a : Nat} (ha : a < 2147483648) : ((-2 : Int32) = nI a) = False := by
  apply eq_false
  intro h
  have h1 := nI_toInt ha
  rw [← h] at h1
  have h2 : (-2 : Int32).toInt = -2 := rfl
  omega
theorem n_m2ne' {a : Nat} (ha : a < 2147483648) : (nI a = (-2 : Int32)) = False := eq_false (fun h => of_eq_false (n_m2ne ha) h.symm)
theorem n_m1ne {a : Nat} (ha : a < 2147483648) : ((-1 : Int32) = nI a) = False := by
  apply eq_false
  intro h
  have h1 := nI_toInt ha
  rw [← h] at h1
  have h2 : (-1 : Int32).toInt = -1 := rfl
  omega
theorem n_m1ne' {a : Nat} (ha : a < 2147483648) : (nI a = (-1 : Int32)) = False := eq_false (fun h => of_eq_false (n_m1ne ha) h.symm)
theorem n_m2lt0 : ((-2 : Int32) < 0) = True := by decide
theorem n_m2ge0 : ((0 : Int32) ≤ -2) = False := by decide
theorem n_m1lt0 : ((-1 : Int32) < 0) = True := by decide
theorem n_m1ge0 : ((0 : Int32) ≤ -1) = False := by decide
theorem n_ite {c : Prop} [Decidable c] {a b : Nat} : (if c then nI a else nI b) = nI (if c then a else b) := by split <;> rfl
/-- an arbitrary int is below 0 or a number -/
theorem n_any (x : Int32) : x < 0 ∨ ∃ a : Nat, a < 2147483648 ∧ x = nI a := by
  rcases Int32.lt_or_le x 0 with h | h
  · exact Or.inl h
  · obtain ⟨j, h1, h2⟩ := nI_of (x := x) (by rw [Int32.not_lt]; exact h)
    exact Or.inr ⟨j, h1, h2⟩
/-! loops: what holds at the end, and one step back -/
theorem up_ind {N : Nat} {P : Nat → Prop} (hN : P N) (hs : ∀ i, i < N → P (i + 1) → P i) : ∀ i, i ≤ N → P i := by
  intro i hi
  obtain ⟨k, rfl⟩ : ∃ k, N = i + k := ⟨N - i, by omega⟩
  clear hi
  induction k generalizing i with
  | zero => exact hN
  | succ k ih =>
    refine hs i (by omega) (ih (i + 1) ?_ ?_)
    · rw [show i + 1 + k = i + (k + 1) by omega]; exact hN
    · intro j hj; exact hs j (by omega)
theorem gU_same {α : Type} {I : Nat → α} {a : Nat} {f : α} : gU I a f a = f := gU_eq
theorem gU_oth {α : Type} {I : Nat → α} {a q : Nat} {f : α} (h : q ≠ a) : gU I a f q = I q := gU_ne h
theorem gU_gU {α : Type} {I : Nat → α} {a : Nat} {f g : α} : gU (gU I a f) a g = gU I a g := by
  funext q
  by_cases h : q = a <;> simp [gU, h]
theorem upd_same {f : Nat → Int32} {k : Nat} {x : Int32} : upd f k x k = x := by simp [upd]
theorem upd_oth {f : Nat → Int32} {k j : Nat} {x : Int32} (h : j ≠ k) : upd f k x j = f j := by simp [upd, h]
