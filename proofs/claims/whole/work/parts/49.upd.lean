/-! how a store changes what stands -/
section UPD
variable {d s t o p q h b a k m n j v : Nat} {E : gE} {I J : Nat → Nat → Int32} {L : Nat → Nat → Int64} {M : gM} {T S S' : zA} {Q : Option Value → gM → Prop}
def zU (S : zA) (k j v : Nat) : zA := fun k' j' => if k' = k ∧ j' = j then v else S k' j'
theorem zU_at : zU S k j v k j = v := by simp [zU]
theorem zU_k (h : m ≠ k) : zU S k j v m n = S m n := by simp [zU, h]
theorem zU_j (h : n ≠ j) : zU S k j v m n = S m n := by simp [zU, h]
/-- outside the six cells of s nothing has changed -/
def Fr (s : Nat) (I J : Nat → Nat → Int32) : Prop := ∀ a, a < s ∨ s + 6 ≤ a → J a = I a
theorem Fr_rf : Fr s I I := fun _ _ => rfl
theorem Fr_u (hF : Fr s I J) {c : Nat} (hc : s ≤ c ∧ c < s + 6) {f : Nat → Int32} : Fr s I (gU J c f) := fun a ha => by rw [gU_oth (by omega)]; exact hF a ha
theorem XT_Fr (hT : XT E I t T) (hF : Fr s I J) (hd : t + 16 ≤ s ∨ s + 6 ≤ t) : XT E J t T := XT_frame hT (fun a h1 h2 => hF a (by omega))
/-- states that look alike -/
def Al (T S S' : zA) : Prop := (∀ p, p < zP T → S' 0 p = S 0 p ∧ S' 1 p = S 1 p ∧ S' 2 p = S 2 p ∧ S' 5 p = S 5 p ∧ (∀ b, b < 12 → S' 3 (12 * p + b) = S 3 (12 * p + b)) ∧ ∀ q, q < 10 → S' 4 (10 * p + q) = S 4 (10 * p + q)) ∧ S' 6 0 = S 6 0 ∧ S' 6 1 = S 6 1
theorem zS_al (h : Al T S S') (hz : zS T S) : zS T S' := by
  refine ⟨fun p hp => ?_, by rw [h.2.1]; exact hz.2.1, by rw [h.2.2]; exact hz.2.2⟩
  obtain ⟨a0, a1, a2, a5, a3, a4⟩ := h.1 p hp
  obtain ⟨z0, z1, z2, z3, z4, z5⟩ := hz.1 p hp
  rw [a0, a1, a2, a5, h.2.2]
  exact ⟨z0, z1, z2, z3, fun b hb => by rw [a3 b hb]; exact z4 b hb, fun q hq => by rw [a4 q hq]; exact z5 q hq⟩
theorem orN_mk_congr {c c' : Nat → Bool} {n : Nat} (h : ∀ q, q < n → c q = c' q) : mkN c n = mkN c' n := orN_congr (fun q hq => by rw [h q hq])
theorem XS_al (hn : zP T ≤ 10) (h : Al T S S') (hS : XS E I s T S) : XS E I s T S' := by
  refine ⟨hS.1, ?_, zS_al h hS.2.2⟩
  obtain ⟨r0, r1, r2, r3, r4, r5, r6, r7⟩ := hS.2.1
  refine ⟨fun p hp => ?_, fun p hp => ?_, fun p hp => ?_, fun p b hp hb => ?_, fun p q hp hq => ?_, ?_, ?_, ?_⟩
  · rw [(h.1 p hp).1]; exact r0 p hp
  · rw [(h.1 p hp).2.1]; exact r1 p hp
  · rw [(h.1 p hp).2.2.1]; exact r2 p hp
  · rw [(h.1 p hp).2.2.2.2.1 b hb]; exact r3 p b hp hb
  · rw [(h.1 p (by omega)).2.2.2.2.2 q (by omega)]; exact r4 p q hp hq
  · rw [r5]
    congr 1
    exact orN_mk_congr (fun q hq => by rw [(h.1 q hq).2.2.2.1])
  · rw [h.2.1]; exact r6
  · rw [h.2.2]; exact r7
theorem XS_u0 (hS : XS E I s T S) (hz : zS T (zU S 0 p v)) : XS E (gU I (s + 1) (upd (I (s + 1)) p (bv v))) s T (zU S 0 p v) := by
  refine ⟨hS.1, ?_, hz⟩
  obtain ⟨r0, r1, r2, r3, r4, r5, r6, r7⟩ := hS.2.1
  refine ⟨fun p' hp => ?_, fun p hp => ?_, fun p hp => ?_, fun p b hp hb => ?_, fun p q hp hq => ?_, ?_, ?_, ?_⟩
  · rw [gU_same]
    by_cases e : p' = p
    · subst e; rw [upd_same, zU_at]
    · rw [upd_oth e, zU_j e]; exact r0 p' hp
  · rw [gU_oth (by omega), zU_k (by omega)]; exact r1 p hp
  · rw [gU_oth (by omega), zU_k (by omega)]; exact r2 p hp
  · rw [gU_oth (by omega), zU_k (by omega)]; exact r3 p b hp hb
  · rw [gU_oth (by omega), zU_k (by omega)]; exact r4 p q hp hq
  · rw [gU_oth (by omega), r5]; congr 1
  · rw [gU_oth (by omega), zU_k (by omega)]; exact r6
  · rw [gU_oth (by omega), zU_k (by omega)]; exact r7
theorem XS_u1 (hS : XS E I s T S) (hz : zS T (zU S 1 p v)) : XS E (gU I (s + 2) (upd (I (s + 2)) p (nI v))) s T (zU S 1 p v) := by
  refine ⟨hS.1, ?_, hz⟩
  obtain ⟨r0, r1, r2, r3, r4, r5, r6, r7⟩ := hS.2.1
  refine ⟨fun p hp => ?_, fun p' hp => ?_, fun p hp => ?_, fun p b hp hb => ?_, fun p q hp hq => ?_, ?_, ?_, ?_⟩
  · rw [gU_oth (by omega), zU_k (by omega)]; exact r0 p hp
  · rw [gU_same]
    by_cases e : p' = p
    · subst e; rw [upd_same, zU_at]
    · rw [upd_oth e, zU_j e]; exact r1 p' hp
  · rw [gU_oth (by omega), zU_k (by omega)]; exact r2 p hp
  · rw [gU_oth (by omega), zU_k (by omega)]; exact r3 p b hp hb
  · rw [gU_oth (by omega), zU_k (by omega)]; exact r4 p q hp hq
  · rw [gU_oth (by omega), r5]; congr 1
  · rw [gU_oth (by omega), zU_k (by omega)]; exact r6
  · rw [gU_oth (by omega), zU_k (by omega)]; exact r7
theorem XS_u2 (hS : XS E I s T S) (hz : zS T (zU S 2 p v)) : XS E (gU I (s + 3) (upd (I (s + 3)) p (nI v))) s T (zU S 2 p v) := by
  refine ⟨hS.1, ?_, hz⟩
  obtain ⟨r0, r1, r2, r3, r4, r5, r6, r7⟩ := hS.2.1
  refine ⟨fun p hp => ?_, fun p hp => ?_, fun p' hp => ?_, fun p b hp hb => ?_, fun p q hp hq => ?_, ?_, ?_, ?_⟩
  · rw [gU_oth (by omega), zU_k (by omega)]; exact r0 p hp
  · rw [gU_oth (by omega), zU_k (by omega)]; exact r1 p hp
  · rw [gU_same]
    by_cases e : p' = p
    · subst e; rw [upd_same, zU_at]
    · rw [upd_oth e, zU_j e]; exact r2 p' hp
  · rw [gU_oth (by omega), zU_k (by omega)]; exact r3 p b hp hb
  · rw [gU_oth (by omega), zU_k (by omega)]; exact r4 p q hp hq
  · rw [gU_oth (by omega), r5]; congr 1
  · rw [gU_oth (by omega), zU_k (by omega)]; exact r6
  · rw [gU_oth (by omega), zU_k (by omega)]; exact r7
theorem XS_u3 (hS : XS E I s T S) (hb : b < 12) (hz : zS T (zU S 3 (12 * p + b) v)) : XS E (gU I (s + 4) (upd (I (s + 4)) (p * 12 + b) (nI v))) s T (zU S 3 (12 * p + b) v) := by
  refine ⟨hS.1, ?_, hz⟩
  obtain ⟨r0, r1, r2, r3, r4, r5, r6, r7⟩ := hS.2.1
  refine ⟨fun p hp => ?_, fun p hp => ?_, fun p hp => ?_, fun p' b' hp hb => ?_, fun p q hp hq => ?_, ?_, ?_, ?_⟩
  · rw [gU_oth (by omega), zU_k (by omega)]; exact r0 p hp
  · rw [gU_oth (by omega), zU_k (by omega)]; exact r1 p hp
  · rw [gU_oth (by omega), zU_k (by omega)]; exact r2 p hp
  · rw [gU_same]
    by_cases e : p' * 12 + b' = p * 12 + b
    · rw [e, upd_same, show 12 * p' + b' = 12 * p + b by omega, zU_at]
    · rw [upd_oth e, zU_j (by omega)]; exact r3 p' b' hp hb
  · rw [gU_oth (by omega), zU_k (by omega)]; exact r4 p q hp hq
  · rw [gU_oth (by omega), r5]; congr 1
  · rw [gU_oth (by omega), zU_k (by omega)]; exact r6
  · rw [gU_oth (by omega), zU_k (by omega)]; exact r7
theorem XS_u4 (hn : zP T ≤ 10) (hS : XS E I s T S) (hq : q < 10) (hz : zS T (zU S 4 (10 * p + q) v)) : XS E (gU I (s + 5) (upd (I (s + 5)) (p * 10 + q) (nI v))) s T (zU S 4 (10 * p + q) v) := by
  refine ⟨hS.1, ?_, hz⟩
  obtain ⟨r0, r1, r2, r3, r4, r5, r6, r7⟩ := hS.2.1
  refine ⟨fun p hp => ?_, fun p hp => ?_, fun p hp => ?_, fun p b hp hb => ?_, fun p' q' hp hq' => ?_, ?_, ?_, ?_⟩
  · rw [gU_oth (by omega), zU_k (by omega)]; exact r0 p hp
  · rw [gU_oth (by omega), zU_k (by omega)]; exact r1 p hp
  · rw [gU_oth (by omega), zU_k (by omega)]; exact r2 p hp
  · rw [gU_oth (by omega), zU_k (by omega)]; exact r3 p b hp hb
  · rw [gU_same]
    by_cases e : p' * 10 + q' = p * 10 + q
    · rw [e, upd_same, show 10 * p' + q' = 10 * p + q by omega, zU_at]
    · rw [upd_oth e, zU_j (by omega)]; exact r4 p' q' hp hq'
  · rw [gU_oth (by omega), r5]; congr 1
  · rw [gU_oth (by omega), zU_k (by omega)]; exact r6
  · rw [gU_oth (by omega), zU_k (by omega)]; exact r7
/-- a field of the object itself: 5 the ill ones, 6 the seed, 7 the nights -/
theorem XS_seed (hS : XS E I s T S) (hz : zS T (zU S 6 0 v)) : XS E (gU I s (upd (I s) 6 (nI v))) s T (zU S 6 0 v) := by
  refine ⟨hS.1, ?_, hz⟩
  obtain ⟨r0, r1, r2, r3, r4, r5, r6, r7⟩ := hS.2.1
  refine ⟨fun p hp => ?_, fun p hp => ?_, fun p hp => ?_, fun p b hp hb => ?_, fun p q hp hq => ?_, ?_, ?_, ?_⟩
  · rw [gU_oth (by omega), zU_k (by omega)]; exact r0 p hp
  · rw [gU_oth (by omega), zU_k (by omega)]; exact r1 p hp
  · rw [gU_oth (by omega), zU_k (by omega)]; exact r2 p hp
  · rw [gU_oth (by omega), zU_k (by omega)]; exact r3 p b hp hb
  · rw [gU_oth (by omega), zU_k (by omega)]; exact r4 p q hp hq
  · rw [gU_same, upd_oth (by omega), r5]; congr 1
  · rw [gU_same, upd_same, zU_at]
  · rw [gU_same, upd_oth (by omega), zU_j (by omega)]; exact r7
theorem XS_night (hS : XS E I s T S) (hz : zS T (zU S 6 1 v)) : XS E (gU I s (upd (I s) 7 (nI v))) s T (zU S 6 1 v) := by
  refine ⟨hS.1, ?_, hz⟩
  obtain ⟨r0, r1, r2, r3, r4, r5, r6, r7⟩ := hS.2.1
  refine ⟨fun p hp => ?_, fun p hp => ?_, fun p hp => ?_, fun p b hp hb => ?_, fun p q hp hq => ?_, ?_, ?_, ?_⟩
  · rw [gU_oth (by omega), zU_k (by omega)]; exact r0 p hp
  · rw [gU_oth (by omega), zU_k (by omega)]; exact r1 p hp
  · rw [gU_oth (by omega), zU_k (by omega)]; exact r2 p hp
  · rw [gU_oth (by omega), zU_k (by omega)]; exact r3 p b hp hb
  · rw [gU_oth (by omega), zU_k (by omega)]; exact r4 p q hp hq
  · rw [gU_same, upd_oth (by omega), r5]; congr 1
  · rw [gU_same, upd_oth (by omega), zU_j (by omega)]; exact r6
  · rw [gU_same, upd_same, zU_at]
/-- the ill ones are set anew, by their bits -/
theorem XS_ill (hS : XS E I s T S) {c : Nat → Bool} (hz : zS T (fun k j => if k = 5 then (c j).toNat else S k j)) : XS E (gU I s (upd (I s) 5 (nI (mkN c (zP T))))) s T (fun k j => if k = 5 then (c j).toNat else S k j) := by
  refine ⟨hS.1, ?_, hz⟩
  obtain ⟨r0, r1, r2, r3, r4, r5, r6, r7⟩ := hS.2.1
  refine ⟨fun p hp => ?_, fun p hp => ?_, fun p hp => ?_, fun p b hp hb => ?_, fun p q hp hq => ?_, ?_, ?_, ?_⟩
  · rw [gU_oth (by omega)]; exact r0 p hp
  · rw [gU_oth (by omega)]; exact r1 p hp
  · rw [gU_oth (by omega)]; exact r2 p hp
  · rw [gU_oth (by omega)]; exact r3 p b hp hb
  · rw [gU_oth (by omega)]; exact r4 p q hp hq
  · rw [gU_same, upd_same]
    congr 1
    refine orN_mk_congr (fun q _ => ?_)
    cases hc : c q <;> simp [hc]
  · rw [gU_same, upd_oth (by omega)]; exact r6
  · rw [gU_same, upd_oth (by omega)]; exact r7
end UPD
