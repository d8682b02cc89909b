/-! the reference: crossed; the mathematics -/
section MPE
variable {d p q h a k m n j v r i c u s w y e t l cnt ic tn flt pl tr o o' N R : Nat} {E : gE} {I J K : Nat → Nat → Int32} {L L' : Nat → Nat → Int64} {tp f f0 g g' b b' B F : Nat → Nat} {T S V : zA} {U G : Nat → zA} {X Y Z x : Int32} {M : gM} {Q : Option Value → gM → Prop} {u1 u2 u3 : Option Int32} {z : zBs}
def dlF (f : Nat → Nat) (i : Nat) : Nat → Nat := fun j => if j < i then f j else f (j + 1)
theorem sum_del : ∀ n, i ≤ n → sumN (fun j => F (f j)) (n + 1) = sumN (fun j => F (dlF f i j)) n + F (f i) := by
  intro n
  induction n with
  | zero =>
    intro hi
    have e : i = 0 := by omega
    subst e
    show 0 + F (f 0) = 0 + F (f 0)
    rfl
  | succ n ih =>
    intro hi
    show sumN (fun j => F (f j)) (n + 1) + F (f (n + 1)) = sumN (fun j => F (dlF f i j)) n + F (dlF f i n) + F (f i)
    by_cases e : i = n + 1
    · subst e
      have e1 : ∀ m, m ≤ n + 1 → sumN (fun j => F (dlF f (n + 1) j)) m = sumN (fun j => F (f j)) m := fun m hm => sumN_congr (fun q hq => by unfold dlF; rw [if_pos (by omega)])
      have e2 := e1 (n + 1) (Nat.le_refl _)
      have e3 : sumN (fun j => F (dlF f (n + 1) j)) (n + 1) = sumN (fun j => F (dlF f (n + 1) j)) n + F (dlF f (n + 1) n) := rfl
      omega
    · have := ih (by omega)
      have e2 : dlF f i n = f (n + 1) := by unfold dlF; rw [if_neg (by omega)]
      rw [e2]
      omega
theorem isQ_inj (h : isQ T S o N n f) (hi : i < n) (hj : j < n) (e : f i = f j) : i = j := by
  rcases Nat.lt_trichotomy i j with g | g | g
  · have := h.2.2 i j g hj; rw [e] at this; exact absurd this cf_irr
  · exact g
  · have := h.2.2 j i g hi; rw [e] at this; exact absurd this cf_irr
theorem sum_q : ∀ N n f, isQ T S o N n f → sumN (fun j => F (f j)) n = sumN (fun p => if S 0 p = 0 then 0 else F p) N := by
  intro N
  induction N with
  | zero =>
    intro n f h
    cases n with
    | zero => rfl
    | succ n => exact absurd (h.1 0 (by omega)).1 (Nat.not_lt_zero _)
  | succ N ih =>
    intro n f h
    show _ = sumN (fun p => if S 0 p = 0 then 0 else F p) N + if S 0 N = 0 then 0 else F N
    by_cases e : S 0 N = 0
    · rw [if_pos e, Nat.add_zero]
      refine ih n f ⟨fun i hi => ?_, fun p hp hp2 => h.2.1 p (by omega) hp2, h.2.2⟩
      obtain ⟨h1, h2⟩ := h.1 i hi
      refine ⟨?_, h2⟩
      rcases Nat.lt_or_ge (f i) N with g | g
      · exact g
      · exact absurd (show S 0 (f i) = 0 by rw [show f i = N by omega]; exact e) h2
    · rw [if_neg e]
      obtain ⟨i, hi, ei⟩ := h.2.1 N (by omega) e
      obtain ⟨n', rfl⟩ : ∃ n', n = n' + 1 := ⟨n - 1, by omega⟩
      rw [sum_del n' (show i ≤ n' by omega), ei]
      congr 1
      refine ih n' (dlF f i) ⟨fun j hj => ?_, fun p hp hp2 => ?_, fun j j' hj hj' => ?_⟩
      · have main : ∀ k, k < n' + 1 → k ≠ i → f k < N ∧ S 0 (f k) ≠ 0 := fun k hk hne => by
          obtain ⟨h1, h2⟩ := h.1 k hk
          refine ⟨?_, h2⟩
          rcases Nat.lt_or_ge (f k) N with g | g
          · exact g
          · exact absurd (isQ_inj h hk hi (by rw [ei]; omega)) hne
        unfold dlF
        split
        · exact main j (by omega) (by omega)
        · exact main (j + 1) (by omega) (by omega)
      · obtain ⟨k, hk, ek⟩ := h.2.1 p (by omega) hp2
        have hne : k ≠ i := fun g => by rw [g, ei] at ek; omega
        by_cases g : k < i
        · exact ⟨k, by omega, by unfold dlF; rw [if_pos g]; exact ek⟩
        · exact ⟨k - 1, by omega, by unfold dlF; rw [if_neg (by omega), show k - 1 + 1 = k by omega]; exact ek⟩
      · unfold dlF
        by_cases g1 : j < i
        · rw [if_pos g1]
          by_cases g2 : j' < i
          · rw [if_pos g2]; exact h.2.2 j j' hj (by omega)
          · rw [if_neg g2]; exact h.2.2 j (j' + 1) (by omega) (by omega)
        · rw [if_neg g1, if_neg (show ¬ j' < i by omega)]; exact h.2.2 (j + 1) (j' + 1) (by omega) (by omega)
/-- a way over the bridge by people is worth the same in every queue -/
theorem qVal_q (h : isQ T S o N n f) (h' : isQ T S o' N n f0) : qVal T f (fun j => B (f j)) n = qVal T f0 (fun j => B (f0 j)) n := by
  refine mx_congr (fun k _ => ?_)
  have e1 : qSum T f (fun j => B (f j)) k n = qSum T f0 (fun j => B (f0 j)) k n := by
    have a1 := sum_q (F := fun p => if B p = k then T 10 p else 0) N n f h
    have a2 := sum_q (F := fun p => if B p = k then T 10 p else 0) N n f0 h'
    unfold qSum
    exact a1.trans a2.symm
  have main : ∀ {o o' : Nat} {f f0 : Nat → Nat} {a : Nat}, isQ T S o N n f → isQ T S o' N n f0 → qHas T f (fun j => B (f j)) k a n = true → qHas T f0 (fun j => B (f0 j)) k a n = true := by
    intro o o' f f0 a h h' hx
    unfold qHas at hx ⊢
    rw [anyN_iff] at hx ⊢
    obtain ⟨j, h1, h2⟩ := hx
    obtain ⟨j', h3, h4⟩ := h'.2.1 (f j) (h.1 j h1).1 (h.1 j h1).2
    refine ⟨j', h3, ?_⟩
    show (B (f0 j') == k && zSP T (f0 j') == a) = true
    rw [h4]
    exact h2
  have e2 : ∀ a, qHas T f (fun j => B (f j)) k a n = qHas T f0 (fun j => B (f0 j)) k a n := fun a => by
    rw [Bool.eq_iff_iff]
    exact ⟨main h h', main h' h⟩
  show qLn T f _ k n = qLn T f0 _ k n
  unfold qLn qWay
  rw [e1, e2, e2]
/-- from one queue to another one -/
theorem qVal_tr (h : isQ T S o N n f) (h' : isQ T S o' N n f0) (hb : ∀ j, b j < R) : ∃ b', (∀ j, b' j < R) ∧ qVal T f0 b' n = qVal T f b n := by
  refine ⟨fun j => b (firN (fun i => f i == f0 j) n 0), fun j => hb _, ?_⟩
  have e1 := qVal_q (B := fun p => b (firN (fun i => f i == p) n 0)) h h'
  rw [← e1]
  refine qVal_congr (fun j hj => ?_)
  show b (firN (fun i => f i == f j) n 0) = b j
  congr 1
  obtain ⟨s1, _, s3⟩ := firN_spec (c := fun i => f i == f j) (n := n) 0 (Nat.zero_le _)
  have hlt : firN (fun i => f i == f j) n 0 < n := by
    rcases Nat.lt_or_ge (firN (fun i => f i == f j) n 0) n with g | g
    · exact g
    · have := s3 j (Nat.zero_le _) (by omega)
      rw [beq_self_eq_true] at this; cases this
  exact isQ_inj h hlt hj (beq_iff_eq.mp (s1 hlt))
/-! codes -/
def dgN (R c k : Nat) : Nat := c / R ^ k % R
def kdN (R : Nat) (b : Nat → Nat) : Nat → Nat
  | 0 => 0
  | k + 1 => kdN R b k + b k * R ^ k
theorem cd_lt (hb : ∀ j, b j < R) : ∀ n, kdN R b n < R ^ n := by
  intro n
  induction n with
  | zero => simp [kdN]
  | succ n ih =>
    simp only [kdN]
    have h1 : b n * R ^ n + R ^ n ≤ R * R ^ n := by
      rw [← Nat.succ_mul]
      exact Nat.mul_le_mul_right _ (hb n)
    rw [Nat.pow_succ, Nat.mul_comm (R ^ n) R]
    omega
theorem cd_dg (hb : ∀ j, b j < R) : ∀ n, ∀ k, k < n → dgN R (kdN R b n) k = b k := by
  intro n
  induction n with
  | zero => intro k hk; omega
  | succ n ih =>
    intro k hk
    have hR : 0 < R := Nat.lt_of_le_of_lt (Nat.zero_le _) (hb 0)
    unfold dgN
    simp only [kdN]
    by_cases e : k = n
    · subst e
      rw [Nat.add_mul_div_right _ _ (Nat.pow_pos hR), Nat.div_eq_of_lt (cd_lt hb k), Nat.zero_add, Nat.mod_eq_of_lt (hb k)]
    · have h1 := ih k (by omega)
      unfold dgN at h1
      obtain ⟨m, rfl⟩ : ∃ m, n = k + 1 + m := ⟨n - k - 1, by omega⟩
      have e2 : b (k + 1 + m) * R ^ (k + 1 + m) = b (k + 1 + m) * R ^ m * R * R ^ k := by
        rw [Nat.pow_add, Nat.pow_succ]
        simp only [Nat.mul_assoc, Nat.mul_comm, Nat.mul_left_comm]
      rw [e2, Nat.add_mul_div_right _ _ (Nat.pow_pos hR), Nat.add_mul_mod_self_right]
      exact h1
theorem dg_lt (hR : 0 < R) : dgN R c k < R := Nat.mod_lt _ hR
/-- the least of the first codes -/
def mnQ (T : zA) (f : Nat → Nat) (n : Nat) : Nat → Nat
  | 0 => 1000000
  | c + 1 => if qVal T f (dgN (T 1 2) c) n < mnQ T f n c then qVal T f (dgN (T 1 2) c) n else mnQ T f n c
theorem mnQ_le : ∀ c, (∀ k, k < c → mnQ T f n c ≤ qVal T f (dgN (T 1 2) k) n) ∧ (mnQ T f n c = 1000000 ∨ ∃ k, k < c ∧ qVal T f (dgN (T 1 2) k) n = mnQ T f n c) ∧ mnQ T f n c ≤ 1000000 := by
  intro c
  induction c with
  | zero => exact ⟨fun k hk => absurd hk (Nat.not_lt_zero _), Or.inl rfl, Nat.le_refl _⟩
  | succ c ih =>
    obtain ⟨i1, i2, i3⟩ := ih
    simp only [mnQ]
    by_cases e : qVal T f (dgN (T 1 2) c) n < mnQ T f n c
    · rw [if_pos e]
      refine ⟨fun k hk => ?_, Or.inr ⟨c, by omega, rfl⟩, by omega⟩
      by_cases e2 : k = c
      · rw [e2]; exact Nat.le_refl _
      · have := i1 k (by omega); omega
    · rw [if_neg e]
      refine ⟨fun k hk => ?_, ?_, i3⟩
      · by_cases e2 : k = c
        · rw [e2]; omega
        · exact i1 k (by omega)
      · rcases i2 with g | ⟨k, g1, g2⟩
        · exact Or.inl g
        · exact Or.inr ⟨k, by omega, g2⟩
theorem mnQ_crs (hz : zT T) (hR : 1 ≤ T 1 2 ∧ T 1 2 ≤ 3) (h : isQ T S 0 (zP T) (zWn S (zP T)) f) : zCrs T S (mnQ T f (zWn S (zP T)) (T 1 2 ^ zWn S (zP T))) := by
  obtain ⟨f2, hf2⟩ := isQ_ex (T := T) (S := S) (o := 2) (zP T)
  have hn := zWn_le (S := S) (zP T)
  have z2 := hz.2.2.1
  have hr3 := hz.2.2.2.1 3 (by omega)
  obtain ⟨m1, m2, m3⟩ := mnQ_le (T := T) (f := f) (n := zWn S (zP T)) (T 1 2 ^ zWn S (zP T))
  have hpos : 0 < T 1 2 ^ zWn S (zP T) := Nat.pow_pos (by omega)
  have hv : qVal T f (dgN (T 1 2) 0) (zWn S (zP T)) ≤ 1000 := by
    have g1 := qVal_le (T := T) (f := f) (b := dgN (T 1 2) 0) (n := zWn S (zP T))
    have g2 := qTot_le hz (fun j hj => (h.1 j hj).1) (zWn S (zP T)) (Nat.le_refl _)
    omega
  refine ⟨f2, hf2, ?_, fun b hb => ?_⟩
  · rcases m2 with g | ⟨k, g1, g2⟩
    · have := m1 0 hpos
      omega
    · obtain ⟨b', h1, h2⟩ := qVal_tr (b := dgN (T 1 2) k) (R := T 1 2) h hf2 (fun j => dg_lt (by omega))
      exact ⟨b', h1, by rw [h2, g2]⟩
  · obtain ⟨b', h1, h2⟩ := qVal_tr (b := b) (R := T 1 2) hf2 h hb
    rw [← h2]
    have g := m1 (kdN (T 1 2) b' (zWn S (zP T))) (cd_lt h1 _)
    have e : qVal T f (dgN (T 1 2) (kdN (T 1 2) b' (zWn S (zP T)))) (zWn S (zP T)) = qVal T f b' (zWn S (zP T)) := qVal_congr (fun j hj => cd_dg h1 _ j hj)
    rw [e] at g
    exact g
theorem crs_uniq (h : zCrs T S m) (h' : zCrs T S n) : m = n := by
  obtain ⟨f, hf, ⟨b, hb, e1⟩, hm⟩ := h
  obtain ⟨f', hf', ⟨b', hb', e1'⟩, hm'⟩ := h'
  obtain ⟨c, hc, ec⟩ := qVal_tr hf hf' hb
  obtain ⟨c', hc', ec'⟩ := qVal_tr hf' hf hb'
  have g1 := hm' c hc
  have g2 := hm c' hc'
  omega
/-- a lane by sides -/
def lnQ (T : zA) (f b : Nat → Nat) (l a k : Nat) : Nat := sumN (fun j => if b j = l ∧ zSP T (f j) = a then T 10 (f j) else 0) k
theorem lnQ_s : lnQ T f b l a (k + 1) = lnQ T f b l a k + if b k = l ∧ zSP T (f k) = a then T 10 (f k) else 0 := rfl
theorem ls_sum (hz : zT T) (hf : ∀ j, j < n → f j < zP T) : lnQ T f b l 0 n + lnQ T f b l 1 n = qSum T f b l n := by
  unfold lnQ qSum
  rw [← sumN_ad2]
  refine sumN_congr (fun j hj => ?_)
  have := zSP_lt hz (hf j hj)
  by_cases e : b j = l
  · rcases (show zSP T (f j) = 0 ∨ zSP T (f j) = 1 by omega) with g | g
    · rw [if_pos ⟨e, g⟩, if_neg (by omega), if_pos e]; rfl
    · rw [if_neg (by omega), if_pos ⟨e, g⟩, if_pos e, Nat.zero_add]
  · rw [if_neg (fun g => e g.1), if_neg (fun g => e g.1), if_neg e]
theorem ls_has (hz : zT T) (hf : ∀ j, j < n → f j < zP T) : lnQ T f b l a n ≠ 0 ↔ qHas T f b l a n = true := by
  unfold lnQ qHas
  rw [sumN_nz, anyN_iff]
  refine exists_congr fun j => and_congr_right fun hj => ?_
  have := (hz.2.2.2.2.2.2.2.1 (f j) (hf j hj)).2.2.1
  rw [Bool.and_eq_true, beq_iff_eq, beq_iff_eq]
  by_cases e : b j = l ∧ zSP T (f j) = a
  · rw [if_pos e]; exact ⟨fun _ => e, fun _ => by omega⟩
  · rw [if_neg e]; exact ⟨fun g => absurd rfl g, fun g => absurd g e⟩
theorem ls_ln (hz : zT T) (hf : ∀ j, j < n → f j < zP T) : lnQ T f b l 0 n + lnQ T f b l 1 n + (if lnQ T f b l 0 n ≠ 0 ∧ lnQ T f b l 1 n ≠ 0 then T 1 3 else 0) = qLn T f b l n := by
  unfold qLn
  rw [ls_sum hz hf]
  congr 1
  by_cases e : qWay T f b l n = 3
  · rw [if_pos e]
    obtain ⟨g1, g2⟩ := qWay_3.mp e
    rw [if_pos ⟨(ls_has hz hf).mpr g1, (ls_has hz hf).mpr g2⟩]
  · rw [if_neg e, if_neg (fun g => e (qWay_3.mpr ⟨(ls_has hz hf).mp g.1, (ls_has hz hf).mp g.2⟩))]
theorem ls_le (hz : zT T) (hf : ∀ j, j < n → f j < zP T) (hn : n ≤ 10) : lnQ T f b l a n ≤ 90 := by
  have := sumN_le (c := fun j => if b j = l ∧ zSP T (f j) = a then T 10 (f j) else 0) (n := n) (k := 9) (fun q hq => by
    have := (hz.2.2.2.2.2.2.2.1 (f q) (hf q hq)).2.2.2.1
    split <;> omega)
  unfold lnQ
  omega
end MPE
