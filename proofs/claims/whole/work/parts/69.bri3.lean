/-! Bridge: the least minutes, as mathematics -/
section BR3
variable {p q h a k m n j v r i c u x o N R : Nat} {T S : zA} {f g b b' b'' a' : Nat → Nat}
def qSum (T : zA) (f b : Nat → Nat) (k i : Nat) : Nat := sumN (fun j => if b j = k then T 10 (f j) else 0) i
def qHas (T : zA) (f b : Nat → Nat) (k a i : Nat) : Bool := anyN (fun j => b j == k && zSP T (f j) == a) i
def qWay (T : zA) (f b : Nat → Nat) (k i : Nat) : Nat := (qHas T f b k 0 i).toNat + 2 * (qHas T f b k 1 i).toNat
def qLn (T : zA) (f b : Nat → Nat) (k i : Nat) : Nat := qSum T f b k i + if qWay T f b k i = 3 then T 1 3 else 0
def mxN (g : Nat → Nat) : Nat → Nat
  | 0 => 0
  | k + 1 => if mxN g k < g k then g k else mxN g k
def qVal (T : zA) (f b : Nat → Nat) (n : Nat) : Nat := mxN (fun k => qLn T f b k n) (T 1 2)
theorem mx_ge (h : k < n) : g k ≤ mxN g n := by
  induction n with
  | zero => omega
  | succ n ih =>
    simp only [mxN]
    by_cases e : k = n
    · subst e; split <;> omega
    · have := ih (by omega)
      split <;> omega
theorem mx_le (h : ∀ k, k < n → g k ≤ m) : mxN g n ≤ m := by
  induction n with
  | zero => exact Nat.zero_le _
  | succ n ih =>
    have h1 := ih (fun k hk => h k (by omega))
    have h2 := h n (by omega)
    simp only [mxN]
    split <;> omega
theorem mx_congr (h : ∀ k, k < n → g k = f k) : mxN g n = mxN f n := by
  induction n with
  | zero => rfl
  | succ n ih => simp only [mxN]; rw [ih (fun k hk => h k (by omega)), h n (by omega)]
theorem qWay_lt : qWay T f b k i < 4 := by
  unfold qWay
  have h1 := b2n (qHas T f b k 0 i)
  have h2 := b2n (qHas T f b k 1 i)
  omega
theorem qWay_3 : qWay T f b k i = 3 ↔ qHas T f b k 0 i = true ∧ qHas T f b k 1 i = true := by
  unfold qWay
  cases qHas T f b k 0 i <;> cases qHas T f b k 1 i <;> simp
theorem q_congr (h : ∀ j, j < i → b' j = b j) : qSum T f b' k i = qSum T f b k i ∧ (∀ a, qHas T f b' k a i = qHas T f b k a i) ∧ qWay T f b' k i = qWay T f b k i ∧ qLn T f b' k i = qLn T f b k i := by
  have h1 : qSum T f b' k i = qSum T f b k i := sumN_congr (fun j hj => by rw [h j hj])
  have h2 : ∀ a, qHas T f b' k a i = qHas T f b k a i := fun a => anyN_congr (fun j hj => by rw [h j hj])
  have h3 : qWay T f b' k i = qWay T f b k i := by unfold qWay; rw [h2, h2]
  exact ⟨h1, h2, h3, by unfold qLn; rw [h1, h3]⟩
theorem qSum_s : qSum T f b k (i + 1) = qSum T f b k i + if b i = k then T 10 (f i) else 0 := rfl
theorem qHas_s : qHas T f b k a (i + 1) = (qHas T f b k a i || (b i == k && zSP T (f i) == a)) := rfl
theorem qLn_mono (h : i ≤ n) : qLn T f b k i ≤ qLn T f b k n := by
  have key : ∀ m, qLn T f b k i ≤ qLn T f b k (i + m) := by
    intro m
    induction m with
    | zero => exact Nat.le_refl _
    | succ m ih =>
      refine Nat.le_trans ih ?_
      rw [show i + (m + 1) = i + m + 1 by omega]
      unfold qLn
      have h1 : qSum T f b k (i + m) ≤ qSum T f b k (i + m + 1) := by rw [qSum_s]; omega
      have h2 : qWay T f b k (i + m) = 3 → qWay T f b k (i + m + 1) = 3 := by
        rw [qWay_3, qWay_3, qHas_s, qHas_s]
        rintro ⟨a1, a2⟩
        rw [a1, a2]
        simp
      split
      · rename_i e; rw [if_pos (h2 e)]; omega
      · omega
  have := key (n - i)
  rwa [show i + (n - i) = n by omega] at this
theorem qVal_ge (h : ∀ j, j < i → b' j = b j) (hi : i ≤ n) (hk : k < T 1 2) : qLn T f b k i ≤ qVal T f b' n := by
  rw [← (q_congr (T := T) (f := f) (k := k) h).2.2.2]
  exact Nat.le_trans (qLn_mono hi) (mx_ge (g := fun k => qLn T f b' k n) hk)
theorem qVal_congr (h : ∀ j, j < n → b' j = b j) : qVal T f b' n = qVal T f b n := mx_congr (fun k _ => (q_congr h).2.2.2)
/-- two lanes that are alike may change their names for the rest -/
def swB (b : Nat → Nat) (i o l : Nat) : Nat → Nat := fun j => if j < i then b j else if b j = l then o else if b j = o then l else b j
theorem swB_at {l : Nat} (h : b i = l) : swB b i o l i = o := by simp [swB, h]
theorem swB_lo {l : Nat} (h : j < i) : swB b i o l j = b j := by simp [swB, h]
theorem swB_val {l : Nat} (ho : o < T 1 2) (hl : l < T 1 2) (hne : o ≠ l) (hi : i ≤ n) (hs : qSum T f b o i = qSum T f b l i) (hw : qWay T f b o i = qWay T f b l i) : qVal T f (swB b i o l) n ≤ qVal T f b n := by
  have hh : ∀ a, a < 2 → qHas T f b o a i = qHas T f b l a i := by
    intro a ha
    unfold qWay at hw
    have b0 := b2n (qHas T f b o 0 i)
    have b1 := b2n (qHas T f b l 0 i)
    have b2 := b2n (qHas T f b o 1 i)
    have b3 := b2n (qHas T f b l 1 i)
    have e0 : (qHas T f b o 0 i).toNat = (qHas T f b l 0 i).toNat := by omega
    have e1 : (qHas T f b o 1 i).toNat = (qHas T f b l 1 i).toNat := by omega
    rcases (show a = 0 ∨ a = 1 by omega) with rfl | rfl
    · revert e0; cases qHas T f b o 0 i <;> cases qHas T f b l 0 i <;> simp
    · revert e1; cases qHas T f b o 1 i <;> cases qHas T f b l 1 i <;> simp
  have key : ∀ m, (qSum T f (swB b i o l) o (i + m) = qSum T f b l (i + m) ∧ qSum T f (swB b i o l) l (i + m) = qSum T f b o (i + m) ∧ ∀ k, k ≠ o → k ≠ l → qSum T f (swB b i o l) k (i + m) = qSum T f b k (i + m)) ∧ ∀ a, a < 2 → (qHas T f (swB b i o l) o a (i + m) = qHas T f b l a (i + m) ∧ qHas T f (swB b i o l) l a (i + m) = qHas T f b o a (i + m) ∧ ∀ k, k ≠ o → k ≠ l → qHas T f (swB b i o l) k a (i + m) = qHas T f b k a (i + m)) := by
    intro m
    induction m with
    | zero =>
      have hc : ∀ k, qSum T f (swB b i o l) k i = qSum T f b k i ∧ ∀ a, qHas T f (swB b i o l) k a i = qHas T f b k a i := fun k => by
        have := q_congr (T := T) (f := f) (k := k) (b' := swB b i o l) (b := b) (i := i) (fun j hj => swB_lo hj)
        exact ⟨this.1, this.2.1⟩
      refine ⟨⟨by rw [Nat.add_zero, (hc o).1]; exact hs, by rw [Nat.add_zero, (hc l).1]; exact hs.symm, fun k _ _ => (hc k).1⟩, fun a ha => ⟨by rw [Nat.add_zero, (hc o).2 a]; exact hh a ha, by rw [Nat.add_zero, (hc l).2 a]; exact (hh a ha).symm, fun k _ _ => (hc k).2 a⟩⟩
    | succ m ih =>
      obtain ⟨⟨i1, i2, i3⟩, i4⟩ := ih
      have e : i + (m + 1) = i + m + 1 := by omega
      rw [e]
      have hv : swB b i o l (i + m) = if b (i + m) = l then o else if b (i + m) = o then l else b (i + m) := by
        unfold swB
        rw [if_neg (by omega)]
      have c1 : (swB b i o l (i + m) = o) = (b (i + m) = l) := by
        rw [hv]; apply propext; split <;> rename_i z <;> (try split) <;> omega
      have c2 : (swB b i o l (i + m) = l) = (b (i + m) = o) := by
        rw [hv]; apply propext; split <;> rename_i z <;> (try split) <;> omega
      have c3 : ∀ k, k ≠ o → k ≠ l → (swB b i o l (i + m) = k) = (b (i + m) = k) := fun k h1 h2 => by
        rw [hv]; apply propext; split <;> rename_i z <;> (try split) <;> omega
      refine ⟨⟨?_, ?_, fun k h1 h2 => ?_⟩, fun a ha => ⟨?_, ?_, fun k h1 h2 => ?_⟩⟩
      · rw [qSum_s, qSum_s, i1]; simp only [c1]
      · rw [qSum_s, qSum_s, i2]; simp only [c2]
      · rw [qSum_s, qSum_s, i3 k h1 h2]; simp only [c3 k h1 h2]
      · rw [qHas_s, qHas_s, (i4 a ha).1]
        have : (swB b i o l (i + m) == o) = (b (i + m) == l) := by rw [Bool.eq_iff_iff]; simp [c1]
        rw [this]
      · rw [qHas_s, qHas_s, (i4 a ha).2.1]
        have : (swB b i o l (i + m) == l) = (b (i + m) == o) := by rw [Bool.eq_iff_iff]; simp [c2]
        rw [this]
      · rw [qHas_s, qHas_s, (i4 a ha).2.2 k h1 h2]
        have : (swB b i o l (i + m) == k) = (b (i + m) == k) := by rw [Bool.eq_iff_iff]; simp [c3 k h1 h2]
        rw [this]
  have kn := key (n - i)
  rw [show i + (n - i) = n by omega] at kn
  obtain ⟨⟨k1, k2, k3⟩, k4⟩ := kn
  have ln : ∀ x y, qSum T f (swB b i o l) x n = qSum T f b y n → qHas T f (swB b i o l) x 0 n = qHas T f b y 0 n → qHas T f (swB b i o l) x 1 n = qHas T f b y 1 n → qLn T f (swB b i o l) x n = qLn T f b y n := by
    intro x y h1 h2 h3
    unfold qLn qWay
    rw [h1, h2, h3]
  refine mx_le (fun k hk => ?_)
  by_cases e1 : k = o
  · subst e1
    rw [ln k l k1 (k4 0 (by omega)).1 (k4 1 (by omega)).1]
    exact mx_ge (g := fun k => qLn T f b k n) hl
  · by_cases e2 : k = l
    · subst e2
      rw [ln k o k2 (k4 0 (by omega)).2.1 (k4 1 (by omega)).2.1]
      exact mx_ge (g := fun k => qLn T f b k n) ho
    · rw [ln k k (k3 k e1 e2) ((k4 0 (by omega)).2.2 k e1 e2) ((k4 1 (by omega)).2.2 k e1 e2)]
      exact mx_ge (g := fun k => qLn T f b k n) hk
/-- what all walk together; no lane has more, and one has its share -/
def qTot (T : zA) (f : Nat → Nat) (n : Nat) : Nat := sumN (fun j => T 10 (f j)) n
theorem sumN_add {g h : Nat → Nat} : sumN (fun k => g k + h k) n = sumN g n + sumN h n := by
  induction n with
  | zero => rfl
  | succ n ih => simp only [sumN, ih]; omega
theorem sumN_one (h : k < n) : sumN (fun j => if k = j then m else 0) n = m := by
  induction n with
  | zero => omega
  | succ n ih =>
    simp only [sumN]
    by_cases e : k = n
    · subst e
      rw [if_pos rfl]
      have : sumN (fun j => if k = j then m else 0) k = 0 := by
        have := sumN_congr (c := fun j => if k = j then m else 0) (c' := fun _ => 0) (n := k) (fun q hq => by rw [if_neg (by omega)])
        rw [this]
        clear this ih h
        induction k with
        | zero => rfl
        | succ k ih => simp only [sumN, ih]
      omega
    · rw [ih (by omega), if_neg e, Nat.add_zero]
theorem sumN_zero : sumN (fun _ => 0) n = 0 := by
  induction n with
  | zero => rfl
  | succ n ih => simp only [sumN, ih]
theorem q_tot (hb : ∀ j, b j < R) : sumN (fun k => qSum T f b k n) R = qTot T f n := by
  induction n with
  | zero => exact sumN_zero
  | succ n ih =>
    simp only [qSum_s]
    rw [sumN_add, ih]
    show _ = qTot T f n + T 10 (f n)
    rw [sumN_one (hb n)]
theorem qSum_tot : qSum T f b k n ≤ qTot T f n := by
  induction n with
  | zero => exact Nat.le_refl 0
  | succ n ih =>
    rw [qSum_s]
    show _ ≤ qTot T f n + T 10 (f n)
    split <;> omega
theorem qVal_le : qVal T f b n ≤ qTot T f n + T 1 3 := mx_le (fun k _ => by
  have := qSum_tot (T := T) (f := f) (b := b) (k := k) (n := n)
  show qLn T f b k n ≤ _
  unfold qLn
  split <;> omega)
theorem qVal_bd (hR : 1 ≤ T 1 2 ∧ T 1 2 ≤ 3) (hb : ∀ j, b j < T 1 2) : (qTot T f n + T 1 2 - 1) / T 1 2 ≤ qVal T f b n := by
  have h1 := q_tot (T := T) (f := f) (n := n) hb
  have h2 : ∀ k, k < T 1 2 → qSum T f b k n ≤ qVal T f b n := fun k hk => Nat.le_trans (by unfold qLn; exact Nat.le_add_right _ _) (mx_ge (g := fun k => qLn T f b k n) hk)
  have h3 := sumN_le (c := fun k => qSum T f b k n) (n := T 1 2) h2
  rw [h1] at h3
  generalize T 1 2 = R at *
  rcases (show R = 1 ∨ R = 2 ∨ R = 3 by omega) with rfl | rfl | rfl <;> omega
end BR3
