/-! the reference: the end of a row -/
section MOO
variable {d p q h a k m n j v r i c u s w y e b t l z cnt ic tn flt pl tr : Nat} {E : gE} {I J K : Nat → Nat → Int32} {L L' : Nat → Nat → Int64} {tp R g g' : Nat → Nat} {T S V : zA} {U G : Nat → zA} {X Y Z : Int32} {M : gM} {f f' : Nat → Int32} {Q : Option Value → gM → Prop} {ok : (Nat → Nat) → Bool} {o o' : zO} {wh : Nat → Nat}
/-- what is gathered on the way, all at once -/
def stR (T S : zA) (w : Nat → Nat) (n : Nat) (ok : (Nat → Nat) → Bool) (o : zO) (l : Nat → Nat) : zO :=
  if ok l then ((if btO T S w n o.1 l then some l else o.1), o.2.1 + 1, fun p x => o.2.2 p x + (inR w n p && plc (l p) == x).toNat) else o
theorem stR_bad {l : Nat → Nat} (h : ok l = false) : stR T S wh n ok o l = o := by simp [stR, h]
theorem stR_1 : ∀ (Ls : List (Nat → Nat)) (o o' : zO), o.1 = o'.1 → (Ls.foldl (stR T S wh n ok) o).1 = (Ls.foldl (stp T S wh n 1 ok) o').1 := by
  intro Ls
  induction Ls with
  | nil => intro o o' h; exact h
  | cons x Ls ih =>
    intro o o' h
    refine ih _ _ ?_
    unfold stR stp
    by_cases h1 : ok x = true
    · rw [if_pos h1, if_pos h1, if_pos rfl, h]
      by_cases h2 : btO T S wh n o'.1 x = true
      · rw [if_pos h2, if_pos h2]
      · rw [if_neg h2, if_neg h2]
    · rw [if_neg h1, if_neg h1]; exact h
theorem stR_0 : ∀ (Ls : List (Nat → Nat)) (o o' : zO), o.2 = o'.2 → (Ls.foldl (stR T S wh n ok) o).2 = (Ls.foldl (stp T V wh n 0 ok) o').2 := by
  intro Ls
  induction Ls with
  | nil => intro o o' h; exact h
  | cons x Ls ih =>
    intro o o' h
    refine ih _ _ ?_
    unfold stR stp
    by_cases h1 : ok x = true
    · rw [if_pos h1, if_pos h1, if_neg (show ¬ (0 : Nat) = 1 by omega), h]
    · rw [if_neg h1, if_neg h1]; exact h
theorem sum_side {F : Nat → Nat} : ∀ m, m ≤ zP T → sumN (fun p => if zSP T p = a then F p else 0) m = sumN (fun j => F (zWh T a j)) (zCnt T a m) := by
  intro m
  induction m with
  | zero => intro _; rfl
  | succ m ih =>
    intro hm
    have h1 := ih (by omega)
    rw [zCnt_s]
    by_cases hs : zSP T m = a
    · rw [if_pos hs]
      show sumN _ m + (if zSP T m = a then F m else 0) = sumN _ (zCnt T a m) + F (zWh T a (zCnt T a m))
      rw [h1, if_pos hs, zWh_at (by omega) hs]
    · rw [if_neg hs]
      show sumN _ m + (if zSP T m = a then F m else 0) = sumN _ (zCnt T a m)
      rw [h1, if_neg hs, Nat.add_zero]
theorem sumN_ad2 {F H : Nat → Nat} : sumN (fun p => F p + H p) n = sumN F n + sumN H n := by
  induction n with
  | zero => rfl
  | succ n ih => simp only [sumN]; rw [ih]; omega
theorem inR_side (hp : p < zP T) : inR (zWh T a) (zN T a) p = (zSP T p == a) := by
  rw [Bool.eq_iff_iff, beq_iff_eq]
  unfold inR
  rw [anyN_iff]
  constructor
  · rintro ⟨j, h1, h2⟩
    rw [beq_iff_eq] at h2
    rw [← h2]
    exact (zWh_sp h1).2.1
  · intro h1
    exact ⟨zCnt T a p, zCnt_lt hp h1, by rw [beq_iff_eq]; exact zWh_at hp h1⟩
/-- what the reference's search holds -/
def XMo (I : Nat → Nat → Int32) (y : Nat) (T S : zA) (a : Nat) (o : zO) : Prop :=
  I y 26 = nI o.2.1 ∧ (o.1 = none → I y 27 = nI 1000000) ∧ (∀ l, o.1 = some l → (∀ q, l q ≤ zB T) ∧ I y 27 = nI (scC (zWh T a) l (zN T a)) ∧ I y 28 = nI (scT S (zWh T a) l (zN T a)) ∧ I y 29 = nI (scW T (zWh T a) l (zN T a)) ∧ ∀ p, p < 10 → I (y + 10) p = mv (l p)) ∧ (∀ p x, p < zP T → x < 13 → I (y + 11) (13 * p + x) = nI (o.2.2 p x)) ∧ ∀ b, b < 12 → I (y + 12) b = nI (zSome o.2.2 b (zP T))
def FrS (y : Nat) (I J : Nat → Nat → Int32) : Prop := (∀ c, c ≠ y → c ≠ y + 9 → c ≠ y + 10 → c ≠ y + 11 → c ≠ y + 12 → J c = I c) ∧ ∀ k, (k < 26 ∨ 29 < k) → J y k = I y k
theorem FrS_rf : FrS y I I := ⟨fun _ _ _ _ _ _ => rfl, fun _ _ => rfl⟩
theorem FrS_tr (h1 : FrS y I J) (h2 : FrS y J K) : FrS y I K := ⟨fun c a1 a2 a3 a4 a5 => by rw [h2.1 c a1 a2 a3 a4 a5, h1.1 c a1 a2 a3 a4 a5], fun k hk => by rw [h2.2 k hk, h1.2 k hk]⟩
theorem FrS_YB (h : FrS y I J) (hB : YB E I y T S) : YB E J y T S := YB_fr hB (h.1 _ (by omega) (by omega) (by omega) (by omega) (by omega)) (h.1 _ (by omega) (by omega) (by omega) (by omega) (by omega)) (h.2 14 (by omega))
theorem FrS_FM (h : FrS y I J) : FM y I J := fun c hc => h.1 c (by omega) (by omega) (by omega) (by omega) (by omega)
theorem FrS_YO (h : FrS y I J) (hY : YO E I y T S cnt ic U G tn tp flt pl tr) : YO E J y T S cnt ic U G tn tp flt pl tr := YO_fr hY (fun k hk => h.2 k (by omega)) (fun c hc => h.1 c (by omega) (by omega) (by omega) (by omega) (by omega)) ⟨by rw [h.2 11 (by omega)]; exact hY.2.2.2.2.2.2.2.2.2.2.1, hY.2.2.2.2.2.2.2.2.2.2.2⟩ id
def er1 (I : Nat → Nat → Int32) (y : Nat) : Nat → Nat → Int32 := gU I y (upd (I y) 26 (I y 26 + nI 1))
/-- the second loop's memory -/
def er2 (I J : Nat → Nat → Int32) (y : Nat) (T : zA) (a : Nat) (o : zO) (g : Nat → Nat) (i : Nat) : Prop :=
  (∀ c, c ≠ y + 11 → c ≠ y + 12 → J c = er1 I y c) ∧ (∀ p x, p < zP T → x < 13 → J (y + 11) (13 * p + x) = nI (o.2.2 p x + (decide (p < i) && zSP T p == a && plc (g p) == x).toNat)) ∧ ∀ b, b < 12 → J (y + 12) b = nI (zSome o.2.2 b (zP T) + sumN (fun p => (zSP T p == a && plc (g p) == b).toNat) i)
theorem er2_out (h : er2 I J y T a o g i) (hs : zSP T i ≠ a) : er2 I J y T a o g (i + 1) := by
  have e0 : (zSP T i == a) = false := beq_false_of_ne hs
  refine ⟨h.1, fun p x hp hx => ?_, fun b hb => ?_⟩
  · rw [h.2.1 p x hp hx]
    by_cases e : p = i
    · subst e; rw [e0]; simp
    · rw [show decide (p < i + 1) = decide (p < i) from decide_eq_decide.mpr (by omega)]
  · rw [h.2.2 b hb]
    show _ = nI (_ + (sumN _ i + (zSP T i == a && plc (g i) == b).toNat))
    rw [e0]; rfl
theorem er2_in (h : er2 I J y T a o g i) (hs : zSP T i = a) (hx : r < 13) (hr : plc (g i) = r) (hK : ∀ c, c ≠ y + 11 → c ≠ y + 12 → K c = J c) (h11 : ∀ j, K (y + 11) j = upd (J (y + 11)) (13 * i + r) (J (y + 11) (13 * i + r) + nI 1) j) (h12 : ∀ b, b < 12 → K (y + 12) b = if b = r then J (y + 12) b + nI 1 else J (y + 12) b) : er2 I K y T a o g (i + 1) := by
  have e0 : (zSP T i == a) = true := beq_iff_eq.mpr hs
  refine ⟨fun c h1 h2 => by rw [hK c h1 h2, h.1 c h1 h2], fun p x hp hx2 => ?_, fun b hb => ?_⟩
  · rw [h11]
    by_cases e : p = i
    · subst e
      rw [e0, decide_eq_true (show p < p + 1 by omega)]
      by_cases e2 : x = r
      · subst e2
        rw [upd_same, h.2.1 p x hp hx2, decide_eq_false (Nat.lt_irrefl p), n_add, hr]
        simp
      · rw [upd_oth (by omega), h.2.1 p x hp hx2, decide_eq_false (Nat.lt_irrefl p), hr, beq_false_of_ne (Ne.symm e2)]
        simp
    · rw [upd_oth (by omega), h.2.1 p x hp hx2, show decide (p < i + 1) = decide (p < i) from decide_eq_decide.mpr (by omega)]
  · rw [h12 b hb, h.2.2 b hb]
    show _ = nI (_ + (sumN _ i + (zSP T i == a && plc (g i) == b).toNat))
    rw [e0, hr]
    by_cases e : b = r
    · subst e
      rw [if_pos rfl, n_add]
      simp [Nat.add_assoc]
    · rw [if_neg e, beq_false_of_ne (Ne.symm e)]
      simp
theorem er2_0 (hO : XMo I y T S a o) : er2 I (er1 I y) y T a o g 0 := by
  refine ⟨fun _ _ _ => rfl, fun p x hp hx => ?_, fun b hb => ?_⟩
  · unfold er1
    rw [gU_oth (by omega), hO.2.2.2.1 p x hp hx, decide_eq_false (by omega)]
    simp
  · unfold er1
    rw [gU_oth (by omega), hO.2.2.2.2 b hb]
    rfl
theorem er2_end (h : er2 I J y T a o g (zP T)) : (∀ p x, p < zP T → x < 13 → J (y + 11) (13 * p + x) = nI (o.2.2 p x + (inR (zWh T a) (zN T a) p && plc (g p) == x).toNat)) ∧ ∀ b, b < 12 → J (y + 12) b = nI (zSome (fun p x => o.2.2 p x + (inR (zWh T a) (zN T a) p && plc (g p) == x).toNat) b (zP T)) := by
  refine ⟨fun p x hp hx => ?_, fun b hb => ?_⟩
  · rw [h.2.1 p x hp hx, inR_side hp, decide_eq_true hp, Bool.true_and]
  · rw [h.2.2 b hb]
    unfold zSome
    rw [sumN_ad2]
    congr 2
    exact sumN_congr (fun q hq => by rw [inR_side hq])
end MOO
