/-! the search for rows: what is searched, and why what is cut off is not missed -/
section FND
variable {d s t o p q h b a k m n j v r i l c : Nat} {T S : zA} {w om : Nat → Nat} {g g' f f' : Nat → Nat}
def fup (g : Nat → Nat) (p x : Nat) : Nat → Nat := fun q => if q = p then x else g q
theorem fup_at {x : Nat} : fup g p x p = x := by simp [fup]
theorem fup_oth {x : Nat} (h : q ≠ p) : fup g p x q = g q := by simp [fup, h]
def zPcs (B : Nat) : List Nat := (List.range B).map (· + 1) ++ [0]
/-- all rows that go on with g, from the i-th on -/
def zLv (B : Nat) (w : Nat → Nat) : Nat → Nat → (Nat → Nat) → List (Nat → Nat)
  | 0, _, g => [g]
  | k + 1, i, g => (zPcs B).flatMap (fun x => zLv B w k (i + 1) (fup g (w i) x))
theorem zLv_mem {B : Nat} : ∀ k i g, ∀ l ∈ zLv B w k i g, ∀ q, (∀ j, i ≤ j → j < i + k → w j ≠ q) → l q = g q := by
  intro k
  induction k with
  | zero => intro i g l hl q _; simp only [zLv, List.mem_singleton] at hl; rw [hl]
  | succ k ih =>
    intro i g l hl q hq
    simp only [zLv, List.mem_flatMap] at hl
    obtain ⟨x, _, hx⟩ := hl
    rw [ih (i + 1) _ l hx q (fun j h1 h2 => hq j (by omega) (by omega)), fup_oth (fun e => hq i (Nat.le_refl i) (by omega) e.symm)]
theorem fold_skip {σ α : Type} {step : σ → α → σ} {s : σ} : ∀ {L : List α}, (∀ l ∈ L, step s l = s) → L.foldl step s = s := by
  intro L
  induction L with
  | nil => intro _; rfl
  | cons x L ih => intro h; rw [List.foldl_cons, h x List.mem_cons_self]; exact ih (fun l hl => h l (List.mem_cons_of_mem x hl))
theorem fold_lv {σ : Type} {B : Nat} {step : σ → (Nat → Nat) → σ} {s : σ} : (zLv B w (k + 1) i g).foldl step s = (zLv B w k (i + 1) (fup g (w i) 0)).foldl step ((List.range B).foldl (fun s b => (zLv B w k (i + 1) (fup g (w i) (b + 1))).foldl step s) s) := by
  rw [zLv, zPcs, List.flatMap_append, List.foldl_append, List.flatMap_singleton]
  congr 1
  rw [List.flatMap_map, List.foldl_flatMap]
theorem fold_rs {σ : Type} {F : σ → Nat → σ} {s : σ} : (List.range (b + 1)).foldl F s = F ((List.range b).foldl F s) b := by
  rw [List.range_succ, List.foldl_append]; rfl
/-- the place of a bed: the church stands behind all beds -/
def plc (x : Nat) : Nat := if x = 0 then 12 else x - 1
def zConf (T : zA) (p q : Nat) : Bool := zFoe T p q || zJar T p q
def zSame (T : zA) (g : Nat → Nat) (p q : Nat) : Prop := g p ≠ 0 ∧ g q ≠ 0 ∧ T 7 (g p - 1) = T 7 (g q - 1)
/-- the i-th lies well, as far as those ahead go -/
def okI (T : zA) (w om : Nat → Nat) (g : Nat → Nat) (i : Nat) : Prop := (om i).testBit (plc (g (w i))) = true ∧ g (w i) ≤ zB T ∧ ∀ j, j < i → (g (w i) ≠ 0 → g (w j) ≠ g (w i)) ∧ (zSame T g (w i) (w j) → zConf T (w i) (w j) = false)
def okA (T : zA) (w om : Nat → Nat) (g : Nat → Nat) (m : Nat) : Prop := ∀ i, i < m → okI T w om g i
def okK (T : zA) (w : Nat → Nat) (n : Nat) (g : Nat → Nat) : Prop := ∀ i, i < n → T 8 (w i) = 3 → g (w i) ≠ 0 → ∃ j, j < n ∧ zSame T g (w i) (w j) ∧ zEld T (w i) (w j) = true
/-- w numbers n people -/
def zNm (T : zA) (w : Nat → Nat) (n : Nat) : Prop := n ≤ 5 ∧ (∀ i, i < n → w i < zP T) ∧ ∀ i j, i < n → j < n → w i = w j → i = j
theorem okI_congr (h : ∀ j, j ≤ i → g' (w j) = g (w j)) : okI T w om g' i ↔ okI T w om g i := by
  unfold okI zSame
  rw [h i (Nat.le_refl i)]
  refine and_congr Iff.rfl (and_congr Iff.rfl (forall_congr' fun j => forall_congr' fun hj => ?_))
  rw [h j (by omega)]
theorem okA_congr (h : ∀ j, j < m → g' (w j) = g (w j)) : okA T w om g' m ↔ okA T w om g m := by
  unfold okA
  exact forall_congr' fun i => forall_congr' fun hi => okI_congr (fun j hj => h j (by omega))
theorem lv_pre (hN : zNm T w n) (hk : i + k = n) {l : Nat → Nat} (hl : l ∈ zLv b w k i g) (hj : j < i) : l (w j) = g (w j) :=
  zLv_mem k i g l hl (w j) (fun j' h1 h2 e => by have := hN.2.2 j' j (by omega) (by omega) e; omega)
/-- what the i-th does wrong stays wrong -/
theorem lv_bad (hN : zNm T w n) (hk : i + 1 + k = n) (hb : ¬ okI T w om g' i) {l : Nat → Nat} (hl : l ∈ zLv b w k (i + 1) g') : ¬ okA T w om l n := by
  intro h
  refine hb ((okI_congr (fun j hj => ?_)).mp (h i (by omega)))
  exact lv_pre hN hk hl (by omega)
theorem zSame_sym : zSame T g p q → zSame T g q p := fun h => ⟨h.2.1, h.1, h.2.2.symm⟩
/-- in a house already -/
def inB (T : zA) (w g : Nat → Nat) (i h q : Nat) : Bool := anyN (fun j => w j == q && !(g q == 0) && T 7 (g q - 1) == h) i
theorem inB_iff : inB T w g i h q = true ↔ ∃ j, j < i ∧ w j = q ∧ g q ≠ 0 ∧ T 7 (g q - 1) = h := by
  unfold inB
  rw [anyN_iff]
  simp only [Bool.and_eq_true, beq_iff_eq, Bool.not_eq_true', beq_eq_false_iff_ne, ne_eq]
  constructor
  · rintro ⟨j, h1, ⟨h2, h3⟩, h4⟩; exact ⟨j, h1, h2, h3, h4⟩
  · rintro ⟨j, h1, h2, h3, h4⟩; exact ⟨j, h1, ⟨h2, h3⟩, h4⟩
def tkB (w g : Nat → Nat) (i b : Nat) : Bool := anyN (fun j => g (w j) == b + 1) i
theorem tkB_iff : tkB w g i b = true ↔ ∃ j, j < i ∧ g (w j) = b + 1 := by
  unfold tkB
  rw [anyN_iff]
  simp
/-- nobody may mind the child -/
theorem lv_alone (hN : zNm T w n) (hk : i + 1 + k = n) (hc : T 8 (w i) = 3) (hg0 : g' (w i) ≠ 0) (ha : ∀ q, (inB T w g' i (T 7 (g' (w i) - 1)) q = true ∨ ∃ j, i < j ∧ j < n ∧ w j = q) → zEld T (w i) q = false) {l : Nat → Nat} (hl : l ∈ zLv b w k (i + 1) g') : ¬ okK T w n l := by
  intro h
  have e := lv_pre hN hk hl (j := i) (by omega)
  obtain ⟨j, h1, h2, h3⟩ := h i (by omega) hc (by rw [e]; exact hg0)
  have h4 := ha (w j)
  by_cases hij : i < j
  · rw [h4 (Or.inr ⟨j, hij, h1, rfl⟩)] at h3; cases h3
  · by_cases hji : j = i
    · subst hji; simp [zEld] at h3
    · have e2 := lv_pre hN hk hl (j := j) (by omega)
      have h5 : inB T w g' i (T 7 (g' (w i) - 1)) (w j) = true := by
        rw [inB_iff]
        refine ⟨j, by omega, rfl, ?_, ?_⟩
        · rw [← e2]; exact h2.2.1
        · rw [← e2, ← e]; exact h2.2.2.symm
      rw [h4 (Or.inl h5)] at h3; cases h3
/-! scores -/
def scC (w l : Nat → Nat) (i : Nat) : Nat := sumN (fun j => if l (w j) = 0 then 1 else 0) i
def scT (S : zA) (w l : Nat → Nat) (i : Nat) : Nat := sumN (fun j => if l (w j) = 0 then S 1 (w j) else 0) i
def scW (T : zA) (w l : Nat → Nat) (i : Nat) : Nat := sumN (fun j => if l (w j) = 0 then 0 else zWant T (w j) (T 7 (l (w j) - 1))) i
/-- one score is better than another one -/
abbrev btS (c t v c' t' v' : Nat) : Prop := c < c' ∨ (c = c' ∧ (t < t' ∨ (t = t' ∧ v' < v)))
/-- the most that one wants of the beds open -/
def zMw (T : zA) (p m : Nat) : Nat → Nat
  | 0 => 0
  | b + 1 => if m.testBit b then (if zMw T p m b < zWant T p (T 7 b) then zWant T p (T 7 b) else zMw T p m b) else zMw T p m b
theorem zMw_ge (hb : b < m) {x : Nat} (hx : x.testBit b = true) : zWant T p (T 7 b) ≤ zMw T p x m := by
  induction m with
  | zero => omega
  | succ m ih =>
    simp only [zMw]
    by_cases e : b = m
    · subst e; rw [if_pos hx]; split <;> omega
    · have := ih (by omega)
      split
      · split <;> omega
      · exact this
/-- what those from i on (k of them) add at best -/
def rsC (om : Nat → Nat) : Nat → Nat → Nat
  | 0, _ => 0
  | k + 1, i => rsC om k (i + 1) + if om i = 4096 then 1 else 0
def rsT (S : zA) (w om : Nat → Nat) : Nat → Nat → Nat
  | 0, _ => 0
  | k + 1, i => rsT S w om k (i + 1) + if om i = 4096 then S 1 (w i) else 0
def rsW (T : zA) (w om : Nat → Nat) : Nat → Nat → Nat
  | 0, _ => 0
  | k + 1, i => rsW T w om k (i + 1) + if om i = 4096 then 0 else zMw T (w i) (om i) (zB T)
theorem rs_bound {l : Nat → Nat} (hB : zB T ≤ 12) : ∀ k i, (∀ j, i ≤ j → j < i + k → (om j).testBit (plc (l (w j))) = true ∧ l (w j) ≤ zB T) →
    scC w l i + rsC om k i < scC w l (i + k) ∨ (scC w l i + rsC om k i = scC w l (i + k) ∧ scT S w l i + rsT S w om k i = scT S w l (i + k) ∧ scW T w l (i + k) ≤ scW T w l i + rsW T w om k i) := by
  intro k
  induction k with
  | zero => intro i _; right; simp [rsC, rsT, rsW]
  | succ k ih =>
    intro i h
    obtain ⟨h1, h2⟩ := h i (Nat.le_refl i) (by omega)
    have h3 := ih (i + 1) (fun j a b => h j (by omega) (by omega))
    rw [show i + 1 + k = i + (k + 1) by omega] at h3
    have e1 : scC w l (i + 1) = scC w l i + if l (w i) = 0 then 1 else 0 := rfl
    have e2 : scT S w l (i + 1) = scT S w l i + if l (w i) = 0 then S 1 (w i) else 0 := rfl
    have e3 : scW T w l (i + 1) = scW T w l i + if l (w i) = 0 then 0 else zWant T (w i) (T 7 (l (w i) - 1)) := rfl
    rw [e1, e2, e3] at h3
    simp only [rsC, rsT, rsW]
    by_cases e : om i = 4096
    · have hz : l (w i) = 0 := by
        rw [e] at h1
        unfold plc at h1
        split at h1
        · assumption
        · have : Nat.testBit (2 ^ 12) (l (w i) - 1) = true := h1
          rw [Nat.testBit_two_pow] at this
          have := of_decide_eq_true this
          omega
      rw [if_pos hz, if_pos hz, if_pos hz] at h3
      rw [if_pos e, if_pos e, if_pos e]
      omega
    · rw [if_neg e, if_neg e, if_neg e]
      by_cases hz : l (w i) = 0
      · rw [if_pos hz, if_pos hz, if_pos hz] at h3
        omega
      · rw [if_neg hz, if_neg hz, if_neg hz] at h3
        have hb : (om i).testBit (l (w i) - 1) = true := by
          unfold plc at h1
          rwa [if_neg hz] at h1
        have := zMw_ge (T := T) (p := w i) (b := l (w i) - 1) (m := zB T) (by omega) hb
        omega
theorem sc_congr (h : ∀ j, j < i → g' (w j) = g (w j)) : scC w g' i = scC w g i ∧ scT S w g' i = scT S w g i ∧ scW T w g' i = scW T w g i :=
  ⟨sumN_congr (fun j hj => by rw [h j hj]), sumN_congr (fun j hj => by rw [h j hj]), sumN_congr (fun j hj => by rw [h j hj])⟩
/-! what is gathered on the way: the best row, how many, and where they lie -/
abbrev zO : Type := Option (Nat → Nat) × Nat × (Nat → Nat → Nat)
def btO (T S : zA) (w : Nat → Nat) (n : Nat) (o : Option (Nat → Nat)) (l : Nat → Nat) : Bool := match o with
  | none => true
  | some l' => decide (btS (scC w l n) (scT S w l n) (scW T w l n) (scC w l' n) (scT S w l' n) (scW T w l' n))
def inR (w : Nat → Nat) (n p : Nat) : Bool := anyN (fun j => w j == p) n
def stp (T S : zA) (w : Nat → Nat) (n tk : Nat) (ok : (Nat → Nat) → Bool) (o : zO) (l : Nat → Nat) : zO :=
  if ok l then (if tk = 1 then (if btO T S w n o.1 l then (some l, o.2) else o) else (o.1, o.2.1 + 1, fun p x => o.2.2 p x + (inR w n p && plc (l p) == x).toNat)) else o
theorem stp_bad {tk : Nat} {ok : (Nat → Nat) → Bool} {o : zO} {l : Nat → Nat} (h : ok l = false) : stp T S w n tk ok o l = o := by simp [stp, h]
end FND
