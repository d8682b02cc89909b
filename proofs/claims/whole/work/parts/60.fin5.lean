/-! rows of a side: who they are of, and which are right -/
section FN5
variable {d s t p q h b a k m n j v r i c f tk u : Nat} {T S S' : zA} {w om g g' l : Nat → Nat} {o : zO} {ok : (Nat → Nat) → Bool}
def zN (T : zA) (a : Nat) : Nat := zCnt T a (zP T)
/-- the i-th of a side -/
def zWh (T : zA) (a i : Nat) : Nat := firN (fun p => zSP T p == a && zCnt T a p == i) (zP T) 0
theorem zCnt_s : zCnt T a (p + 1) = zCnt T a p + if zSP T p = a then 1 else 0 := rfl
theorem zCnt_mono (h : p ≤ q) : zCnt T a p ≤ zCnt T a q := by
  obtain ⟨k, rfl⟩ : ∃ k, q = p + k := ⟨q - p, by omega⟩
  clear h
  induction k with
  | zero => exact Nat.le_refl _
  | succ k ih => rw [show p + (k + 1) = p + k + 1 by omega, zCnt_s]; omega
theorem zCnt_lt (h : p < q) (hp : zSP T p = a) : zCnt T a p < zCnt T a q := by
  have := zCnt_mono (T := T) (a := a) (show p + 1 ≤ q by omega)
  rw [zCnt_s, if_pos hp] at this
  omega
theorem zWh_at (hp : p < zP T) (ha : zSP T p = a) : zWh T a (zCnt T a p) = p := by
  unfold zWh
  obtain ⟨h1, h2, h3⟩ := firN_spec (c := fun q => zSP T q == a && zCnt T a q == zCnt T a p) (n := zP T) 0 (Nat.zero_le _)
  have hle : firN (fun q => zSP T q == a && zCnt T a q == zCnt T a p) (zP T) 0 ≤ p := by
    rcases Nat.lt_or_ge p (firN (fun q => zSP T q == a && zCnt T a q == zCnt T a p) (zP T) 0) with h | h
    · have := h3 p (Nat.zero_le _) h
      simp [ha] at this
    · exact h
  have h4 := h1 (by omega)
  simp only [Bool.and_eq_true, beq_iff_eq] at h4
  rcases Nat.lt_or_eq_of_le hle with h | h
  · have := zCnt_lt h h4.1
    omega
  · exact h
theorem zCnt_ex : ∀ m, i < zCnt T a m → ∃ p, p < m ∧ zSP T p = a ∧ zCnt T a p = i := by
  intro m
  induction m with
  | zero => intro h; simp [zCnt, sumN] at h
  | succ m ih =>
    intro h
    rw [zCnt_s] at h
    by_cases e : zSP T m = a
    · rw [if_pos e] at h
      by_cases e2 : i = zCnt T a m
      · exact ⟨m, by omega, e, e2.symm⟩
      · obtain ⟨p, h1, h2⟩ := ih (by omega)
        exact ⟨p, by omega, h2⟩
    · rw [if_neg e] at h
      obtain ⟨p, h1, h2⟩ := ih (by omega)
      exact ⟨p, by omega, h2⟩
theorem zWh_sp (hi : i < zN T a) : zWh T a i < zP T ∧ zSP T (zWh T a i) = a ∧ zCnt T a (zWh T a i) = i := by
  obtain ⟨p, h1, h2, h3⟩ := zCnt_ex (zP T) hi
  have := zWh_at h1 h2
  rw [h3] at this
  rw [this]
  exact ⟨h1, h2, h3⟩
theorem zWh_mono (hj : j < zN T a) (hij : i < j) : zWh T a i < zWh T a j := by
  obtain ⟨h1, h2, h3⟩ := zWh_sp (T := T) (a := a) (i := i) (by omega)
  obtain ⟨g1, g2, g3⟩ := zWh_sp hj
  rcases Nat.lt_or_ge (zWh T a i) (zWh T a j) with h | h
  · exact h
  · have := zCnt_mono (T := T) (a := a) h
    omega
theorem zNm_wh (hz : zT T) (ha : a < 2) : zNm T (zWh T a) (zN T a) := by
  refine ⟨hz.2.2.2.2.2.2.2.2.2.2.2 a ha, fun i hi => (zWh_sp hi).1, fun i j hi hj e => ?_⟩
  have h1 := (zWh_sp hi).2.2
  have h2 := (zWh_sp hj).2.2
  rw [e] at h1
  omega
/-- nobody but those of the side lies in a row of it -/
def zOff (T : zA) (a : Nat) (l : Nat → Nat) : Prop := ∀ q, (∀ j, j < zN T a → zWh T a j ≠ q) → l q = 0
theorem zOff_in (h : zOff T a l) (hp : l p ≠ 0) : ∃ i, i < zN T a ∧ zWh T a i = p := by
  refine Classical.byContradiction (fun hx => hp (h p (fun j hj e => hx ⟨j, hj, e⟩)))
/-- what one sees of the others only -/
def zFine (T : zA) (l : Nat → Nat) (p : Nat) : Prop := (∀ q, q < p → l q ≠ l p) ∧ (∀ q, q < zP T → q ≠ p → zSame T l p q → zConf T p q = false) ∧ (T 8 p = 3 → ∃ q, q < zP T ∧ q ≠ p ∧ zSame T l p q ∧ zEld T p q = true)
theorem conf_sym (hz : zT T) (hp : p < zP T) (hq : q < zP T) : zConf T p q = zConf T q p := by
  unfold zConf
  rw [hz.2.2.2.2.2.2.2.2.2.2.1 p q hp hq]
  congr 1
  unfold zJar
  cases (T 8 p == 1) <;> cases (T 8 p == 2) <;> cases (T 8 q == 1) <;> cases (T 8 q == 2) <;> rfl
theorem fine_iff (hz : zT T) (ha : a < 2) (hl : zOff T a l) : (∀ p, p < zP T → l p ≠ 0 → zFine T l p) ↔ (∀ i, i < zN T a → ∀ j, j < i → (l (zWh T a i) ≠ 0 → l (zWh T a j) ≠ l (zWh T a i)) ∧ (zSame T l (zWh T a i) (zWh T a j) → zConf T (zWh T a i) (zWh T a j) = false)) ∧ okK T (zWh T a) (zN T a) l := by
  constructor
  · intro h
    refine ⟨fun i hi j hj => ⟨fun h0 => ?_, fun hs => ?_⟩, fun i hi h8 h0 => ?_⟩
    · exact (h _ (zWh_sp hi).1 h0).1 _ (zWh_mono hi hj)
    · exact (h _ (zWh_sp hi).1 hs.1).2.1 _ (zWh_sp (by omega)).1 (by have := zWh_mono hi hj; omega) hs
    · obtain ⟨q, h1, h2, h3, h4⟩ := (h _ (zWh_sp hi).1 h0).2.2 h8
      obtain ⟨j, hj, rfl⟩ := zOff_in hl h3.2.1
      exact ⟨j, hj, h3, h4⟩
  · rintro ⟨h1, h2⟩ p hp h0
    obtain ⟨i, hi, rfl⟩ := zOff_in hl h0
    refine ⟨fun q hq e => ?_, fun q hq hqp hs => ?_, fun h8 => ?_⟩
    · obtain ⟨j, hj, rfl⟩ := zOff_in hl (p := q) (by rw [e]; exact h0)
      have hji : j < i := by
        rcases Nat.lt_or_ge j i with h | h
        · exact h
        · rcases Nat.lt_or_eq_of_le h with h | h
          · have := zWh_mono hj h; omega
          · subst h; omega
      exact (h1 i hi j hji).1 h0 e
    · obtain ⟨j, hj, rfl⟩ := zOff_in hl hs.2.1
      rcases Nat.lt_trichotomy j i with h | h | h
      · exact (h1 i hi j h).2 hs
      · subst h; exact absurd rfl hqp
      · rw [conf_sym hz hp hq]
        exact (h1 j hj i h).2 (zSame_sym hs)
    · obtain ⟨j, hj, hs, he⟩ := h2 i hi h8 h0
      refine ⟨_, (zWh_sp hj).1, fun e => ?_, hs, he⟩
      rw [e] at he
      simp [zEld] at he
def zR (S : zA) (l : Nat → Nat) : zA := fun k j => if k = 0 then l j else S k j
theorem zR_0 : zR S l 0 p = l p := rfl
theorem zR_k (h : k ≠ 0) : zR S l k j = S k j := by simp [zR, h]
theorem zIn_same (h0 : l p ≠ 0) : zIn T (zR S l) p (T 7 (l p - 1)) q = true ↔ q ≠ p ∧ zSame T l p q := by
  unfold zIn zHs zSame
  rw [zR_0]
  simp only [Bool.and_eq_true, Bool.not_eq_true', beq_eq_false_iff_ne, beq_iff_eq, ne_eq]
  by_cases e : l q = 0
  · rw [if_pos e]
    simp [e]
  · rw [if_neg e]
    constructor
    · rintro ⟨h1, h2⟩; exact ⟨h1, h0, e, by omega⟩
    · rintro ⟨h1, h2, h3, h4⟩; exact ⟨h1, by omega⟩
theorem wrong_iff (h0 : l p ≠ 0) : zWrong T (zR S l) p (l p - 1) = 0 ↔ zSB T (l p - 1) ≠ zSP T p ∧ zLate T S p (l p - 1) = false ∧ S 5 p = 0 ∧ zFine T l p := by
  have e2 : anyN (fun q => zR S l 0 q == l p - 1 + 1) p = false ↔ ∀ q, q < p → l q ≠ l p := by
    rw [← Bool.not_eq_true, anyN_iff]
    constructor
    · intro h q hq e
      exact h ⟨q, hq, by rw [zR_0]; simp; omega⟩
    · rintro h ⟨q, hq, e⟩
      rw [zR_0] at e
      have := beq_iff_eq.mp e
      exact h q hq (by omega)
  have e3 : zLate T (zR S l) p (l p - 1) = zLate T S p (l p - 1) := rfl
  have e4 : ∀ c : Nat → Bool, anyN (fun q => zIn T (zR S l) p (T 7 (l p - 1)) q && c q) (zP T) = false ↔ ∀ q, q < zP T → q ≠ p → zSame T l p q → c q = false := by
    intro c
    rw [← Bool.not_eq_true, anyN_iff]
    constructor
    · intro h q hq h1 h2
      rw [← Bool.not_eq_true]
      intro h3
      exact h ⟨q, hq, by rw [Bool.and_eq_true, zIn_same h0]; exact ⟨⟨h1, h2⟩, h3⟩⟩
    · rintro h ⟨q, hq, e⟩
      rw [Bool.and_eq_true, zIn_same h0] at e
      rw [h q hq e.1.1 e.1.2] at e
      cases e.2
  have e5 : zR S l 5 p = S 5 p := rfl
  unfold zWrong
  by_cases c1 : zSB T (l p - 1) = zSP T p
  · rw [if_pos c1]
    constructor
    · intro h; cases h
    · intro h; exact absurd c1 h.1
  rw [if_neg c1]
  by_cases c2 : anyN (fun q => zR S l 0 q == l p - 1 + 1) p = true
  · rw [if_pos c2]
    constructor
    · intro h; cases h
    · intro h
      have := e2.mpr h.2.2.2.1
      rw [this] at c2; cases c2
  rw [if_neg c2]
  have c2' := e2.mp (by simpa using c2)
  rw [e3]
  by_cases c3 : zLate T S p (l p - 1) = true
  · rw [if_pos c3]
    constructor
    · intro h; cases h
    · intro h
      rw [h.2.1] at c3; cases c3
  rw [if_neg c3]
  have c3' : zLate T S p (l p - 1) = false := by simpa using c3
  by_cases c4 : anyN (fun q => zIn T (zR S l) p (T 7 (l p - 1)) q && zFoe T p q) (zP T) = true
  · rw [if_pos c4]
    constructor
    · intro h; cases h
    · intro h
      have := (e4 (zFoe T p)).mpr (fun q hq h1 h2 => (Bool.or_eq_false_iff.mp (h.2.2.2.2.1 q hq h1 h2)).1)
      rw [this] at c4; cases c4
  rw [if_neg c4]
  have c4' := (e4 (zFoe T p)).mp (by simpa using c4)
  by_cases c5 : anyN (fun q => zIn T (zR S l) p (T 7 (l p - 1)) q && zJar T p q) (zP T) = true
  · rw [if_pos c5]
    constructor
    · intro h; cases h
    · intro h
      have := (e4 (zJar T p)).mpr (fun q hq h1 h2 => (Bool.or_eq_false_iff.mp (h.2.2.2.2.1 q hq h1 h2)).2)
      rw [this] at c5; cases c5
  rw [if_neg c5]
  have c5' := (e4 (zJar T p)).mp (by simpa using c5)
  have e6 : anyN (fun q => zIn T (zR S l) p (T 7 (l p - 1)) q && zEld T p q) (zP T) = false ↔ ¬ ∃ q, q < zP T ∧ q ≠ p ∧ zSame T l p q ∧ zEld T p q = true := by
    rw [e4]
    constructor
    · rintro h ⟨q, h1, h2, h3, h4⟩
      rw [h q h1 h2 h3] at h4; cases h4
    · intro h q h1 h2 h3
      rw [← Bool.not_eq_true]
      exact fun h4 => h ⟨q, h1, h2, h3, h4⟩
  by_cases c6 : T 8 p = 3 ∧ anyN (fun q => zIn T (zR S l) p (T 7 (l p - 1)) q && zEld T p q) (zP T) = false
  · rw [if_pos c6]
    constructor
    · intro h; cases h
    · intro h
      exact absurd (h.2.2.2.2.2 c6.1) (e6.mp c6.2)
  rw [if_neg c6, e5]
  by_cases c7 : S 5 p = 0
  · rw [if_pos c7]
    refine ⟨fun _ => ⟨c1, c3', c7, c2', fun q hq h1 h2 => ?_, fun h8 => ?_⟩, fun _ => rfl⟩
    · unfold zConf; rw [c4' q hq h1 h2, c5' q hq h1 h2]; rfl
    · exact Classical.byContradiction (fun hx => c6 ⟨h8, e6.mpr hx⟩)
  · rw [if_neg c7]
    constructor
    · intro h; cases h
    · intro h; exact absurd h.2.2.1 c7
/-- a right row of a night -/
def zOkR (T S : zA) (l : Nat → Nat) : Bool := firN (fun p => !(decide (l p ≤ zB T) && zWrong0 T (zR S l) p == 0)) (zP T) 0 == zP T
theorem all_iff {c : Nat → Bool} : (firN (fun p => !c p) n 0 == n) = true ↔ ∀ p, p < n → c p = true := by
  rw [beq_iff_eq]
  constructor
  · intro h p hp
    have h2 := firN_any (c := fun p => !c p) (n := n) (m := n) (Nat.le_refl n)
    rw [anyN_iff] at h2
    have h3 : ¬ ∃ q, q < n ∧ (!c q) = true := fun hx => by have := h2.mpr hx; omega
    cases hc : c p with
    | true => rfl
    | false => exact absurd ⟨p, hp, by rw [hc]; rfl⟩ h3
  · intro h
    have h1 := firN_le (c := fun p => !c p) (n := n) (i := 0)
    have h2 := firN_spec (c := fun p => !c p) (n := n) 0 (Nat.zero_le n)
    rcases Nat.lt_or_eq_of_le h1 with h3 | h3
    · have := h2.1 h3
      rw [h _ h3] at this
      cases this
    · exact h3
theorem zOkR_iff : zOkR T S l = true ↔ ∀ p, p < zP T → l p ≤ zB T ∧ (l p = 0 ∨ (zSB T (l p - 1) ≠ zSP T p ∧ zLate T S p (l p - 1) = false ∧ S 5 p = 0 ∧ zFine T l p)) := by
  unfold zOkR
  rw [all_iff]
  refine forall_congr' fun p => forall_congr' fun hp => ?_
  rw [Bool.and_eq_true, decide_eq_true_iff, beq_iff_eq]
  refine and_congr Iff.rfl ?_
  unfold zWrong0
  rw [zR_0]
  by_cases e : l p = 0
  · rw [if_pos e]; simp [e]
  · rw [if_neg e, wrong_iff e]; simp [e]
/-- the beds open to one -/
def zOpen (T S : zA) (p b : Nat) : Bool := !(zSB T b == zSP T p) && !(S 5 p == 1) && !zLate T S p b
def omR (T S : zA) (a i : Nat) : Nat := mkN (zOpen T S (zWh T a i)) (zB T) ||| 4096
theorem om_bit (hB : zB T ≤ 12) {c : Nat → Bool} (hx : v ≤ zB T) : (mkN c (zB T) ||| 4096).testBit (plc v) = (decide (v = 0) || c (v - 1)) := by
  have e : (4096 : Nat) = 2 ^ 12 := rfl
  rw [Nat.testBit_or, mkN_bit, e, Nat.testBit_two_pow]
  by_cases h : v = 0
  · subst h; simp [plc]
  · rw [plc_nz h]
    have h1 : v - 1 < zB T := by omega
    have h2 : ¬ (12 = v - 1) := by omega
    simp [h1, h2, h]
theorem okR_om (hz : zT T) (hS : zS T S) (ha : a < 2) (hl : zOff T a l) : zOkR T S l = true ↔ okA T (zWh T a) (omR T S a) l (zN T a) ∧ okK T (zWh T a) (zN T a) l := by
  have hB := hz.2.1
  rw [zOkR_iff]
  have hf := fine_iff hz ha hl
  constructor
  · intro h
    have h1 := hf.mp (fun p hp h0 => by
      rcases (h p hp).2 with h2 | h2
      · exact absurd h2 h0
      · exact h2.2.2.2)
    refine ⟨fun i hi => ⟨?_, (h _ (zWh_sp hi).1).1, h1.1 i hi⟩, h1.2⟩
    obtain ⟨h2, h3⟩ := h _ (zWh_sp hi).1
    unfold omR
    rw [om_bit hB h2]
    rcases h3 with h3 | ⟨h4, h5, h6, h7⟩
    · simp [h3]
    · rw [Bool.or_eq_true]
      right
      unfold zOpen
      rw [h5, h6]
      simpa using h4
  · rintro ⟨h1, h2⟩ p hp
    by_cases e : l p = 0
    · exact ⟨by omega, Or.inl e⟩
    · have h3 := hf.mpr ⟨fun i hi => (h1 i hi).2.2, h2⟩ p hp e
      obtain ⟨i, hi, rfl⟩ := zOff_in hl e
      obtain ⟨g1, g2, g3⟩ := h1 i hi
      unfold omR at g1
      rw [om_bit hB g2] at g1
      simp only [e, decide_false, Bool.false_or] at g1
      unfold zOpen at g1
      simp only [Bool.and_eq_true, Bool.not_eq_true', beq_eq_false_iff_ne] at g1
      have h5 := (hS.1 _ hp).2.2.2.1
      exact ⟨g2, Or.inr ⟨g1.1.1, g1.2, by omega, h3⟩⟩
/-- a child whom nobody could mind is left the church -/
def omS (T S : zA) (a i : Nat) : Nat := if T 8 (zWh T a i) = 3 ∧ anyN (fun j => !(omR T S a j == 4096) && zEld T (zWh T a i) (zWh T a j)) (zN T a) = false then 4096 else omR T S a i
theorem bit4096 (hB : zB T ≤ 12) (hx : v ≤ zB T) : Nat.testBit 4096 (plc v) = decide (v = 0) := by
  have e : (4096 : Nat) = 2 ^ 12 := rfl
  rw [e, Nat.testBit_two_pow]
  by_cases h : v = 0
  · subst h; simp [plc]
  · rw [plc_nz h]
    have h2 : ¬ (12 = v - 1) := by omega
    simp [h2, h]
theorem okS_om (hz : zT T) (hS : zS T S) (ha : a < 2) (hl : zOff T a l) : zOkR T S l = true ↔ okA T (zWh T a) (omS T S a) l (zN T a) ∧ okK T (zWh T a) (zN T a) l := by
  have hB := hz.2.1
  rw [okR_om hz hS ha hl]
  constructor
  · rintro ⟨h1, h2⟩
    refine ⟨fun i hi => ⟨?_, (h1 i hi).2⟩, h2⟩
    unfold omS
    split
    · rename_i hc
      rw [bit4096 hB (h1 i hi).2.1, decide_eq_true_iff]
      refine Classical.byContradiction (fun e => ?_)
      obtain ⟨j, hj, hs, he⟩ := h2 i hi hc.1 e
      have hc2 := hc.2
      rw [← Bool.not_eq_true, anyN_iff] at hc2
      apply hc2
      refine ⟨j, hj, ?_⟩
      rw [Bool.and_eq_true]
      refine ⟨?_, he⟩
      rw [Bool.not_eq_true', beq_eq_false_iff_ne]
      intro e2
      have := (h1 j hj).1
      rw [e2, bit4096 hB (h1 j hj).2.1, decide_eq_true_iff] at this
      exact hs.2.1 this
    · exact (h1 i hi).1
  · rintro ⟨h1, h2⟩
    refine ⟨fun i hi => ⟨?_, (h1 i hi).2⟩, h2⟩
    have h3 := (h1 i hi).1
    unfold omS at h3
    split at h3
    · rw [bit4096 hB (h1 i hi).2.1, decide_eq_true_iff] at h3
      unfold omR
      rw [om_bit hB (h1 i hi).2.1, h3]
      simp
    · exact h3
/-- a row that fits the clues -/
def zClue (T : zA) (a : Nat) (l : Nat → Nat) (p : Nat) : Bool := !(zSP T p == a) || ((T 14 p == 0 || (!(l p == 0) && T 14 p == 2 ^ T 7 (l p - 1))) && (l p == 0 || !(T 15 0).testBit (l p - 1)))
def z0 : zA := fun _ _ => 0
def zOkF (T : zA) (a : Nat) (l : Nat → Nat) : Bool := zOkR T z0 l && (firN (fun p => !zClue T a l p) (zP T) 0 == zP T)
def zFit (T : zA) (p b : Nat) : Bool := (T 14 p == 0 || T 14 p == 2 ^ T 7 b) && !(zSB T b == zSP T p) && !(T 15 0).testBit b
def omF (T : zA) (a i : Nat) : Nat := (if T 14 (zWh T a i) = 0 then 4096 else 0) ||| mkN (zFit T (zWh T a i)) (zB T)
theorem omF_bit (hB : zB T ≤ 12) (hx : v ≤ zB T) : (omF T a i).testBit (plc v) = if v = 0 then T 14 (zWh T a i) == 0 else zFit T (zWh T a i) (v - 1) := by
  unfold omF
  have e : (4096 : Nat) = 2 ^ 12 := rfl
  rw [Nat.testBit_or, mkN_bit]
  by_cases h : v = 0
  · subst h
    have : ¬ (12 < zB T) := by omega
    rw [if_pos rfl, plc_0]
    simp only [this, decide_false, Bool.false_and, Bool.or_false]
    by_cases h2 : T 14 (zWh T a i) = 0
    · rw [if_pos h2, e, Nat.testBit_two_pow, h2]; rfl
    · rw [if_neg h2, Nat.zero_testBit]; simp [h2]
  · rw [plc_nz h, if_neg h]
    have h1 : v - 1 < zB T := by omega
    have h2 : ¬ (12 = v - 1) := by omega
    have h3 : Nat.testBit (if T 14 (zWh T a i) = 0 then 4096 else 0) (v - 1) = false := by
      split
      · rw [e, Nat.testBit_two_pow]; simp [h2]
      · simp
    rw [h3]
    simp [h1]
theorem zS_0 : zS T z0 := ⟨fun p _ => ⟨Nat.zero_le _, Nat.zero_le _, by simp [z0], Nat.zero_le _, fun b _ => Nat.zero_le _, fun q _ => Nat.zero_le _⟩, by simp [z0], by simp [z0]⟩
theorem late_0 : zLate T z0 p b = false := by simp [zLate, z0]
theorem okF_om (hz : zT T) (ha : a < 2) (hl : zOff T a l) : zOkF T a l = true ↔ okA T (zWh T a) (omF T a) l (zN T a) ∧ okK T (zWh T a) (zN T a) l := by
  have hB := hz.2.1
  unfold zOkF
  rw [Bool.and_eq_true, all_iff, okR_om hz zS_0 ha hl]
  constructor
  · rintro ⟨⟨h1, h2⟩, h3⟩
    refine ⟨fun i hi => ⟨?_, (h1 i hi).2⟩, h2⟩
    have h4 := h3 _ (zWh_sp hi).1
    have h5 := (h1 i hi).1
    unfold omR at h5
    rw [om_bit hB (h1 i hi).2.1] at h5
    rw [omF_bit hB (h1 i hi).2.1]
    unfold zClue at h4
    rw [(zWh_sp hi).2.1] at h4
    by_cases e : l (zWh T a i) = 0
    · rw [if_pos e]
      rw [e] at h4
      simpa using h4
    · rw [if_neg e]
      unfold zFit
      unfold zOpen at h5
      simp [e] at h4 h5 ⊢
      exact ⟨⟨h4.1, h5.1.1⟩, h4.2⟩
  · rintro ⟨h1, h2⟩
    have h6 : ∀ i, i < zN T a → l (zWh T a i) ≠ 0 → zFit T (zWh T a i) (l (zWh T a i) - 1) = true := fun i hi e => by
      have h5 := (h1 i hi).1
      rw [omF_bit hB (h1 i hi).2.1, if_neg e] at h5
      exact h5
    refine ⟨⟨fun i hi => ⟨?_, (h1 i hi).2⟩, h2⟩, fun p hp => ?_⟩
    · unfold omR
      rw [om_bit hB (h1 i hi).2.1]
      by_cases e : l (zWh T a i) = 0
      · simp [e]
      · have := h6 i hi e
        unfold zFit at this
        unfold zOpen
        rw [late_0]
        simp [e, z0] at this ⊢
        exact this.1.2
    · unfold zClue
      by_cases e1 : zSP T p = a
      · have e2 := zWh_at hp e1
        have hi : zCnt T a p < zN T a := zCnt_lt hp e1
        rw [← e2]
        generalize zCnt T a p = i at hi
        have h5 := (h1 i hi).1
        rw [omF_bit hB (h1 i hi).2.1] at h5
        by_cases e : l (zWh T a i) = 0
        · rw [if_pos e] at h5
          rw [h5, e]
          simp
        · rw [if_neg e] at h5
          unfold zFit at h5
          simp [e] at h5 ⊢
          right
          exact ⟨h5.1.1, h5.2⟩
      · simp [e1]
end FN5
