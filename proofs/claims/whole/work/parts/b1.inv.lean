/-! the law's invariant: both objects hold the same -/
section INV
variable {d t p q h a k m n j v r i c u s w o tt dr y b cnt ic tn flt pl tr : Nat} {E : gE} {I J K : Nat → Nat → Int32} {L L' : Nat → Nat → Int64} {T S V : zA} {U G : Nat → zA} {tp : Nat → Nat} {X : Int32} {Q : Option Value → gM → Prop}
theorem XO_all (hX : XO E I o tt dr T S cnt ic U G tn tp flt pl tr) (h : ∀ a, o ≤ a → a < o + 254 → J a = I a) : XO E J o tt dr T S cnt ic U G tn tp flt pl tr := by
  obtain ⟨hL, hT, hS, ⟨top, hP⟩, hTp, hF0, hF1, hC0, hC1, ⟨fe, hFc⟩, hSf, hfl, hpl, htr⟩ := id hX
  have hd := hL.2.2.2.2.2.2.2.2.2.2.2.2.2.2.2.2.2.2.2.2.2.2.2.2.2.2.2.2.2.2
  obtain ⟨hh, pp, s1, s2, s3, s4⟩ := hSf
  exact ⟨hL, XT_frame hT (fun a g1 g2 => h a (by omega) (by omega)), XS_frame hS (fun a g1 g2 => h a (by omega) (by omega)), ⟨top, XP_frame hP (fun a g1 g2 => h a (by omega) (by omega))⟩, ⟨by rw [h o (by omega) (by omega)]; exact hTp.1, hTp.2.1, by rw [h (o + 1) (by omega) (by omega)]; exact hTp.2.2.1, hTp.2.2.2⟩, FN_frame hF0 (fun a g1 g2 => h a (by omega) (by omega)), FN_frame hF1 (fun a g1 g2 => h a (by omega) (by omega)), FT_frame hC0 (fun a g1 g2 => h a (by omega) (by omega)), FT_frame hC1 (fun a g1 g2 => h a (by omega) (by omega)), ⟨fe, XFc_frame hFc (fun a g1 g2 => h a (by omega) (by omega))⟩, ⟨hh, pp, s1, s2, by rw [h _ (by omega) (by omega)]; exact s3, by rw [h _ (by omega) (by omega)]; exact s4⟩, ⟨by rw [h _ (by omega) (by omega)]; exact hfl.1, hfl.2⟩, ⟨by rw [h _ (by omega) (by omega)]; exact hpl.1, hpl.2⟩, ⟨by rw [h o (by omega) (by omega)]; exact htr.1, htr.2⟩⟩
theorem YO_all (hY : YO E I y T S cnt ic U G tn tp flt pl tr) (h : ∀ a, y ≤ a → a < y + 18 → J a = I a) : YO E J y T S cnt ic U G tn tp flt pl tr :=
  YO_fr hY (fun k _ => by rw [h y (by omega) (by omega)]) (fun c hc => h c (by omega) (by omega)) ⟨by rw [h y (by omega) (by omega)]; exact hY.2.2.2.2.2.2.2.2.2.2.1, hY.2.2.2.2.2.2.2.2.2.2.2⟩ id
/-- nights gone by, now and in all that is kept -/
def nbP (S : zA) (cnt ic : Nat) (U G : Nat → zA) (n : Nat) : Prop := S 6 1 ≤ n ∧ (∀ k, k < cnt → U k 6 1 ≤ n) ∧ ∀ k, k < ic → G k 6 1 ≤ n
theorem nb_le (h : nbP S cnt ic U G n) (hm : n ≤ m) : nbP S cnt ic U G m := ⟨by have := h.1; omega, fun k hk => by have := h.2.1 k hk; omega, fun k hk => by have := h.2.2 k hk; omega⟩
theorem nb_act (h : nbP S cnt ic U G n) (hm : n ≤ m) (hV : V 6 1 ≤ m) : nbP V (cn1 cnt) ic (uCons S U) G m := by
  refine ⟨hV, fun k hk => ?_, fun k hk => by have := h.2.2 k hk; omega⟩
  cases k with
  | zero => have := h.1; show S 6 1 ≤ m; omega
  | succ k =>
    have hk2 : k < cnt := by
      unfold cn1 at hk
      split at hk <;> omega
    have := h.2.1 k hk2
    show U k 6 1 ≤ m
    omega
theorem nb_undo (h : nbP S cnt ic U G n) (hc : cnt ≠ 0) : nbP (U 0) (cnt - 1) ic (fun k => U (k + 1)) G n := ⟨h.2.1 0 (by omega), fun k hk => h.2.1 (k + 1) (by omega), h.2.2⟩
theorem nb_back (h : nbP S cnt ic U G n) (hk : k < ic) : nbP (G k) 0 ic U G n := ⟨h.2.2 k hk, fun j hj => absurd hj (Nat.not_lt_zero _), h.2.2⟩
theorem nb_image (h : nbP S cnt ic U G n) : nbP S cnt (ic + 1) U (fun k => if k = ic then S else G k) n := by
  refine ⟨h.1, h.2.1, fun k hk => ?_⟩
  show (if k = ic then S else G k) 6 1 ≤ n
  by_cases e : k = ic
  · rw [if_pos e]; exact h.1
  · rw [if_neg e]; exact h.2.2 k (by omega)
theorem zUn_t (h : tldB T = true) : zUn T S cnt ic := fun g => by rw [h] at g; cases g
/-- both objects, and what holds of both -/
def LIv (E : gE) (I : Nat → Nat → Int32) (o tt dr y : Nat) (T S : zA) (cnt ic : Nat) (U G : Nat → zA) (tn : Nat) (tp : Nat → Nat) (flt pl tr n : Nat) : Prop :=
  XO E I o tt dr T S cnt ic U G tn tp flt pl tr ∧ YO E I y T S cnt ic U G tn tp flt pl tr ∧ zUn T S cnt ic ∧ nbP S cnt ic U G n ∧ o + 254 ≤ y
end INV
