/-! what a reader reads: tokens, words as numbers -/
section LEX
variable {p q h a k m n j v r i c u x pos : Nat} {f g B : Nat → Nat}
def isL (c : Nat) : Bool := decide (97 ≤ c ∧ c ≤ 122)
def isDg (c : Nat) : Bool := decide (48 ≤ c ∧ c ≤ 57)
theorem isL_iff : isL c = true ↔ 97 ≤ c ∧ c ≤ 122 := by simp [isL]
theorem isDg_iff : isDg c = true ↔ 48 ≤ c ∧ c ≤ 57 := by simp [isDg]
/-- n digits from a on, the least worth 1 less than lo + 1: letters (27, 96), digits (10, 48) -/
def cdN (bs lo : Nat) (f : Nat → Nat) (a : Nat) : Nat → Nat
  | 0 => 0
  | n + 1 => cdN bs lo f a n * bs + (f (a + n) - lo)
theorem cd_congr {bs lo : Nat} (h : ∀ k, k < n → f (a + k) = g (c + k)) : cdN bs lo f a n = cdN bs lo g c n := by
  induction n with
  | zero => rfl
  | succ n ih => simp only [cdN]; rw [ih (fun k hk => h k (by omega)), h n (by omega)]
theorem cd_inj : ∀ n m, (∀ k, k < n → isL (f (a + k)) = true) → (∀ k, k < m → isL (g (c + k)) = true) → cdN 27 96 f a n = cdN 27 96 g c m → n = m ∧ ∀ k, k < n → f (a + k) = g (c + k) := by
  intro n
  induction n with
  | zero =>
    intro m _ hg h
    cases m with
    | zero => exact ⟨rfl, fun k hk => by omega⟩
    | succ m =>
      have := isL_iff.mp (hg m (by omega))
      simp only [cdN] at h
      omega
  | succ n ih =>
    intro m hf hg h
    cases m with
    | zero =>
      have := isL_iff.mp (hf n (by omega))
      simp only [cdN] at h
      omega
    | succ m =>
      have h1 := isL_iff.mp (hf n (by omega))
      have h2 := isL_iff.mp (hg m (by omega))
      simp only [cdN] at h
      have h3 : cdN 27 96 f a n = cdN 27 96 g c m := by omega
      have h4 : f (a + n) = g (c + m) := by omega
      obtain ⟨e, h5⟩ := ih m (fun k hk => hf k (by omega)) (fun k hk => hg k (by omega)) h3
      subst e
      refine ⟨rfl, fun k hk => ?_⟩
      by_cases ek : k = n
      · subst ek; exact h4
      · exact h5 k (by omega)
theorem cd_lt27 : (∀ k, k < n → isL (f (a + k)) = true) → cdN 27 96 f a n < 27 ^ n := by
  induction n with
  | zero => intro _; exact Nat.one_pos
  | succ n ih =>
    intro h
    have h1 := isL_iff.mp (h n (by omega))
    have h2 := ih (fun k hk => h k (by omega))
    simp only [cdN, Nat.pow_succ]
    omega
theorem cd_lt10 : (∀ k, k < n → isDg (f (a + k)) = true) → cdN 10 48 f a n < 10 ^ n := by
  induction n with
  | zero => intro _; exact Nat.one_pos
  | succ n ih =>
    intro h
    have h1 := isDg_iff.mp (h n (by omega))
    have h2 := ih (fun k hk => h k (by omega))
    simp only [cdN, Nat.pow_succ]
    omega
/-! the words that are told -/
def wlN (j : Nat) : Nat := gsL.getD j 0
def wch (j k : Nat) : Nat := (gS0.2 j k).toNatClampNeg
def wcd (j : Nat) : Nat := cdN 27 96 (wch j) 0 (wlN j)
theorem w_all : ∀ j, j < 23 → (0 < wlN j ∧ wlN j ≤ 6) ∧ ∀ k, k < wlN j → isL (wch j k) = true ∧ gS0.2 j k = nI (wch j k) := by decide +kernel
theorem w_len (j : Nat) : gS0.1 j = wlN j := rfl
/-- which sort of line a word begins; 9: none -/
def lsort (c : Nat) : Nat := firN (fun j => c == wcd j) 9 0
/-! tokens: 0 the end, 1 a word, 2 a whole, 3 a semicolon, 4 none such -/
def tkA (B : Nat → Nat) (n pos : Nat) : Nat := firN (fun i => !(B i == 32)) n pos
def tkE (B : Nat → Nat) (n a : Nat) : Nat := if n ≤ a then a else if isL (B a) then firN (fun i => !isL (B i)) n a else if isDg (B a) then firN (fun i => !isDg (B i)) n a else a + 1
def tkK (B : Nat → Nat) (n a : Nat) : Nat := if n ≤ a then 0 else if isL (B a) then (if tkE B n a - a ≤ 8 then 1 else 4) else if isDg (B a) then (if tkE B n a - a ≤ 3 then 2 else 4) else if B a = 59 then 3 else 4
def tkC (B : Nat → Nat) (n a : Nat) : Nat := if n ≤ a then 0 else if isL (B a) then cdN 27 96 B a (tkE B n a - a) else if isDg (B a) then cdN 10 48 B a (tkE B n a - a) else 0
theorem tkA_sp (h : pos ≤ n) : pos ≤ tkA B n pos ∧ tkA B n pos ≤ n ∧ (∀ i, pos ≤ i → i < tkA B n pos → B i = 32) ∧ (tkA B n pos < n → B (tkA B n pos) ≠ 32) := by
  obtain ⟨h1, h2, h3⟩ := firN_spec (c := fun i => !(B i == 32)) (n := n) pos h
  refine ⟨h2, firN_le, fun i a b => ?_, fun hl => ?_⟩
  · have := h3 i a b; simpa using this
  · have := h1 hl; simpa [tkA] using this
theorem run_sp {t : Nat → Bool} (h : a ≤ n) : a ≤ firN (fun i => !t (B i)) n a ∧ firN (fun i => !t (B i)) n a ≤ n ∧ (∀ i, a ≤ i → i < firN (fun i => !t (B i)) n a → t (B i) = true) ∧ (firN (fun i => !t (B i)) n a < n → t (B (firN (fun i => !t (B i)) n a)) = false) := by
  obtain ⟨h1, h2, h3⟩ := firN_spec (c := fun i => !t (B i)) (n := n) a h
  refine ⟨h2, firN_le, fun i a b => ?_, fun hl => ?_⟩
  · have := h3 i a b; simpa using this
  · have := h1 hl; simpa using this
theorem tkE_le (h : a ≤ n) : a ≤ tkE B n a ∧ tkE B n a ≤ n ∧ (a < n → a < tkE B n a) := by
  unfold tkE
  split
  · exact ⟨Nat.le_refl _, h, fun _ => by omega⟩
  · rename_i ha
    split
    · rename_i hl
      obtain ⟨r1, r2, r3, r4⟩ := run_sp (B := B) (t := isL) h
      refine ⟨r1, r2, fun _ => ?_⟩
      rcases Nat.lt_or_ge a (firN (fun i => !isL (B i)) n a) with z | z
      · exact z
      · have e : firN (fun i => !isL (B i)) n a = a := by omega
        have := r4 (by omega)
        rw [e, hl] at this; cases this
    · split
      · rename_i hl
        obtain ⟨r1, r2, r3, r4⟩ := run_sp (B := B) (t := isDg) h
        refine ⟨r1, r2, fun _ => ?_⟩
        rcases Nat.lt_or_ge a (firN (fun i => !isDg (B i)) n a) with z | z
        · exact z
        · have e : firN (fun i => !isDg (B i)) n a = a := by omega
          have := r4 (by omega)
          rw [e, hl] at this; cases this
      · omega
/-- fault, place, where it goes on, the token's sort, its number -/
abbrev zX : Type := Nat × Nat × Nat × Nat × Nat
def lxN (B : Nat → Nat) (n : Nat) (x : zX) : zX := if x.1 = 0 then (0, tkA B n x.2.2.1, tkE B n (tkA B n x.2.2.1), tkK B n (tkA B n x.2.2.1), tkC B n (tkA B n x.2.2.1)) else (x.1, x.2.1, x.2.2.1, 4, x.2.2.2.2)
def lxF (k : Nat) (x : zX) : zX := if x.1 = 0 then (k, x.2) else x
def wfX (B : Nat → Nat) (n : Nat) (x : zX) : Prop := x.1 < 8 ∧ x.2.1 ≤ n ∧ x.2.2.1 ≤ n ∧ x.2.2.2.1 ≤ 4 ∧ (x.2.2.2.1 = 1 → x.2.1 ≤ x.2.2.1 ∧ x.2.2.1 - x.2.1 ≤ 8 ∧ (∀ k, k < x.2.2.1 - x.2.1 → isL (B (x.2.1 + k)) = true) ∧ x.2.2.2.2 = cdN 27 96 B x.2.1 (x.2.2.1 - x.2.1) ∧ x.2.2.2.2 < 27 ^ 8) ∧ (x.2.2.2.1 = 2 → x.2.2.2.2 < 1000)
theorem wf_F {x : zX} (h : wfX B n x) (hk : k < 8) : wfX B n (lxF k x) := by
  unfold lxF
  split
  · exact ⟨hk, h.2⟩
  · exact h
theorem wf_N {x : zX} (h : wfX B n x) : wfX B n (lxN B n x) := by
  unfold lxN
  split
  · obtain ⟨a1, a2, a3, a4⟩ := tkA_sp (B := B) h.2.2.1
    obtain ⟨e1, e2, e3⟩ := tkE_le (B := B) (n := n) (a := tkA B n x.2.2.1) a2
    generalize tkA B n x.2.2.1 = a at *
    refine ⟨by show 0 < 8; omega, a2, e2, ?_, fun hk => ?_, fun hk => ?_⟩
    · show tkK B n a ≤ 4
      unfold tkK
      repeat' split
      all_goals omega
    · have hk' : tkK B n a = 1 := hk
      show a ≤ tkE B n a ∧ tkE B n a - a ≤ 8 ∧ (∀ k, k < tkE B n a - a → isL (B (a + k)) = true) ∧ tkC B n a = cdN 27 96 B a (tkE B n a - a) ∧ tkC B n a < 27 ^ 8
      unfold tkK at hk'
      split at hk'
      · omega
      · rename_i hn
        split at hk'
        · rename_i hl
          have hE : tkE B n a = firN (fun i => !isL (B i)) n a := by unfold tkE; rw [if_neg hn, if_pos hl]
          have hC : tkC B n a = cdN 27 96 B a (tkE B n a - a) := by unfold tkC; rw [if_neg hn, if_pos hl]
          obtain ⟨r1, r2, r3, r4⟩ := run_sp (B := B) (t := isL) a2
          rw [← hE] at r1 r2 r3 r4
          have h8 : tkE B n a - a ≤ 8 := by split at hk' <;> omega
          have hls : ∀ k, k < tkE B n a - a → isL (B (a + k)) = true := fun k hk => r3 (a + k) (by omega) (by omega)
          refine ⟨r1, h8, hls, hC, ?_⟩
          rw [hC]
          exact Nat.lt_of_lt_of_le (cd_lt27 hls) (Nat.pow_le_pow_right (by omega) h8)
        · split at hk'
          · split at hk' <;> omega
          · split at hk' <;> omega
    · have hk' : tkK B n a = 2 := hk
      show tkC B n a < 1000
      unfold tkK at hk'
      split at hk'
      · omega
      · rename_i hn
        split at hk'
        · split at hk' <;> omega
        · rename_i hl
          split at hk'
          · rename_i hd
            have hE : tkE B n a = firN (fun i => !isDg (B i)) n a := by unfold tkE; rw [if_neg hn, if_neg hl, if_pos hd]
            have hC : tkC B n a = cdN 10 48 B a (tkE B n a - a) := by unfold tkC; rw [if_neg hn, if_neg hl, if_pos hd]
            obtain ⟨r1, r2, r3, r4⟩ := run_sp (B := B) (t := isDg) a2
            rw [← hE] at r1 r2 r3 r4
            have h8 : tkE B n a - a ≤ 3 := by split at hk' <;> omega
            rw [hC]
            exact Nat.lt_of_lt_of_le (cd_lt10 (fun k hk => r3 (a + k) (by omega) (by omega))) (show 10 ^ (tkE B n a - a) ≤ 10 ^ 3 from Nat.pow_le_pow_right (by omega) h8)
          · split at hk' <;> omega
  · exact ⟨h.1, h.2.1, h.2.2.1, Nat.le_refl 4, fun hk => absurd hk (show ¬ (4 = 1) by omega), fun hk => absurd hk (show ¬ (4 = 2) by omega)⟩
/-- the token is this word -/
def isW (j : Nat) (x : zX) : Bool := x.2.2.2.1 == 1 && x.2.2.2.2 == wcd j
theorem isW_iff {x : zX} (h : wfX B n x) (hj : j < 23) : isW j x = true ↔ x.2.2.2.1 = 1 ∧ wlN j = x.2.2.1 - x.2.1 ∧ ∀ k, k < wlN j → B (x.2.1 + k) = wch j k := by
  unfold isW
  rw [Bool.and_eq_true, beq_iff_eq, beq_iff_eq]
  refine and_congr_right (fun hk => ?_)
  obtain ⟨h1, h2, h3, h4, h5⟩ := h.2.2.2.2.1 hk
  have hw := w_all j hj
  rw [h4]
  constructor
  · intro e
    obtain ⟨e1, e2⟩ := cd_inj _ _ h3 (fun k hk => by rw [Nat.zero_add]; exact (hw.2 k hk).1) e
    refine ⟨e1.symm, fun k hk => ?_⟩
    have := e2 k (by omega)
    rwa [Nat.zero_add] at this
  · rintro ⟨e1, e2⟩
    unfold wcd
    rw [← e1]
    exact cd_congr (fun k hk => by rw [Nat.zero_add]; exact e2 k hk)
end LEX
