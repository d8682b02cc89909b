/-! a constructor's run, computed: an evaluator of the instructions that constructors use, and that it is sound -/
def budB : Nat → List Value → Bool
  | _, [] => true
  | n, v :: st => decide (v.category ≤ n) && budB (n - v.category) st
theorem budB_ok : ∀ {n : Nat} {st : List Value}, budB n st = true → g_bud n st := by
  intro n st
  induction st generalizing n with
  | nil => intro _; exact trivial
  | cons v r ih =>
    intro h
    simp only [budB, Bool.and_eq_true, decide_eq_true_eq] at h
    exact ⟨h.1, ih h.2⟩
abbrev evJ : Type := Nat → gL → List Value → gM → Nat → Nat → Option gM
def ev_l (J : evJ) (Cc : Nat → List Value → gM → Option gM) (mc ms nk : Nat) : List gX → gL → List Value → gM → Nat → Nat → Option gM
  | [], l, st, M, c, s => J nk l st M c s
  | (i, f) :: r, l, st, M, c, s => match i with
    | .iconst n => ev_l J Cc mc ms nk r l (.int (Int32.ofInt n) :: st) M c s
    | .bipush n => ev_l J Cc mc ms nk r l (.int (Int8.ofInt n).toInt32 :: st) M c s
    | .sipush n => ev_l J Cc mc ms nk r l (.int (Int16.ofInt n).toInt32 :: st) M c s
    | .lconst n => ev_l J Cc mc ms nk r l (.long (Int64.ofNat (n : Nat)) :: st) M c s
    | .aload_n k => match g_get l k with
      | some (.ref x) => ev_l J Cc mc ms nk r l (.ref x :: st) M c s
      | _ => none
    | .iload_n k => match g_get l k with
      | some (.int x) => ev_l J Cc mc ms nk r l (.int x :: st) M c s
      | _ => none
    | .istore_n k => match st with
      | .int x :: st => if (k : Nat) < l.length ∧ g_lb l k = false then ev_l J Cc mc ms nk r (l.set k (some (.int x))) st M c s else none
      | _ => none
    | .iinc k n => match g_get l k with
      | some (.int x) => if k < l.length ∧ g_lb l k = false then ev_l J Cc mc ms nk r (l.set k (some (.int (x + Int32.ofInt n)))) st M c s else none
      | _ => none
    | .dup => match st with
      | v :: st => if v.category = 1 then ev_l J Cc mc ms nk r l (v :: v :: st) M c s else none
      | _ => none
    | .if_icmp o _ => match o, f, st with
      | .gt, [t], .int y :: .int x :: st => if y < x then J t l st M c s else ev_l J Cc mc ms nk r l st M c s
      | .ge, [t], .int y :: .int x :: st => if y ≤ x then J t l st M c s else ev_l J Cc mc ms nk r l st M c s
      | _, _, _ => none
    | .goto _ => match f with
      | [t] => J t l st M c s
      | _ => none
    | .getfield _ => match f, st with
      | [ci, k, 3, _], .ref a :: st => match M.1.2.2 a k with
        | some q => if M.1.2.1 a = (ci + 6, gN ci) then ev_l J Cc mc ms nk r l (.ref q :: st) M c s else none
        | none => none
      | _, _ => none
    | .putfield _ => match f, st with
      | [ci, k, 0, _], .int x :: .ref a :: st => if M.1.2.1 a = (ci + 6, gN ci) then ev_l J Cc mc ms nk r l st (g_pi M a k x) c s else none
      | [ci, k, 1, _], .int x :: .ref a :: st => if M.1.2.1 a = (ci + 6, gN ci) ∧ (x = 0 ∨ x = 1) then ev_l J Cc mc ms nk r l st (g_pi M a k x) c s else none
      | [ci, k, 2, _], .long x :: .ref a :: st => if M.1.2.1 a = (ci + 6, gN ci) then ev_l J Cc mc ms nk r l st (g_pl M a k x) c s else none
      | [ci, k, 3, _], .ref v :: .ref a :: st => if M.1.2.1 a = (ci + 6, gN ci) then ev_l J Cc mc ms nk r l st (g_pr M a k (some v)) c s else none
      | _, _ => none
    | .aastore => match st with
      | .ref x :: .int i :: .ref a :: st => if (3 ≤ (M.1.2.1 a).1 ∧ (M.1.2.1 a).1 ≤ 5) ∧ ¬ (i < 0 ∨ (M.1.2.1 a).2 ≤ i.toNatClampNeg) ∧ M.1.2.1 x = (g_ac (M.1.2.1 a).1 + 6, gN (g_ac (M.1.2.1 a).1)) then ev_l J Cc mc ms nk r l st (g_pr M a i.toNatClampNeg (some x)) c s else none
      | _ => none
    | .newarray _ => match f, st with
      | [kd], .int n :: st => if M.1.1 + 1 ≤ 1000000 ∧ ¬ n < 0 ∧ n.toNatClampNeg ≤ 10000 ∧ c + 1 ≤ mc ∧ s + n.toNatClampNeg ≤ ms then ev_l J Cc mc ms nk r l (.ref M.1.1 :: st) (g_nw M kd n.toNatClampNeg) (c + 1) (s + n.toNatClampNeg) else none
      | _, _ => none
    | .anewarray _ => match f, st with
      | [kd, _], .int n :: st => if M.1.1 + 1 ≤ 1000000 ∧ ¬ n < 0 ∧ n.toNatClampNeg ≤ 10000 ∧ c + 1 ≤ mc ∧ s + n.toNatClampNeg ≤ ms then ev_l J Cc mc ms nk r l (.ref M.1.1 :: st) (g_nw M kd n.toNatClampNeg) (c + 1) (s + n.toNatClampNeg) else none
      | _, _ => none
    | .new _ => match f with
      | [ci, _, _, _] => if M.1.1 + 1 ≤ 1000000 ∧ c + 1 ≤ mc ∧ s + gN ci ≤ ms then ev_l J Cc mc ms nk r l (.ref M.1.1 :: st) (g_nw M (ci + 6) (gN ci)) (c + 1) (s + gN ci) else none
      | _ => none
    | .return_ => match st with
      | [] => if c = mc ∧ s = ms then some M else none
      | _ => none
    | .invokespecial _ => match f, st with
      | [2, y, 0, mcy, msy, _], .ref b :: st => if budB 8 st = true ∧ c + mcy ≤ mc ∧ s + msy ≤ ms then (match Cc y [.ref b] M with
        | some M' => ev_l J Cc mc ms nk r l st M' (c + mcy) (s + msy)
        | none => none) else none
      | [3, y, 0, mcy, msy, _], .ref b :: st => if budB 8 st = true ∧ c + mcy ≤ mc ∧ s + msy ≤ ms then (match Cc y [.ref b] M with
        | some M' => ev_l J Cc mc ms nk r l st M' (c + mcy) (s + msy)
        | none => none) else none
      | [4, _], .ref _ :: st => if budB 8 st = true then ev_l J Cc mc ms nk r l st M c s else none
      | _, _ => none
    | _ => none
theorem ev_l_ok {J : evJ} {Cc : Nat → List Value → gM → Option gM} {C : gC} {P : gP} {Q : Option Value → gM → Prop} {mc ms nk : Nat} {M' : gM} (hQ : Q none M')
    (hJ : ∀ k l st M c s, J k l st M c s = some M' → P k l st M c s) (hC : ∀ y as M M1, Cc y as M = some M1 → ∀ Q' : Option Value → gM → Prop, Q' none M1 → C y as M Q') :
    ∀ xs l st M c s, ev_l J Cc mc ms nk xs l st M c s = some M' → g_wp gS0 C true mc ms none Q P nk xs l st M c s := by
  intro xs
  induction xs with
  | nil => intro l st M c s h; exact hJ _ _ _ _ _ _ h
  | cons x r ih =>
    intro l st M c s h
    obtain ⟨i, f⟩ := x
    simp only [ev_l] at h
    split at h
    · exact ih _ _ _ _ _ h
    · exact ih _ _ _ _ _ h
    · exact ih _ _ _ _ _ h
    · exact ih _ _ _ _ _ h
    · split at h
      · next hg => simp only [g_wp, g_lr, hg]; exact ih _ _ _ _ _ h
      · cases h
    · split at h
      · next hg => simp only [g_wp, g_li, hg]; exact ih _ _ _ _ _ h
      · cases h
    · split at h
      · split at h
        · next hg => exact ⟨hg.1, hg.2, ih _ _ _ _ _ h⟩
        · cases h
      · cases h
    · split at h
      · next hg =>
        split at h
        · next hk => simp only [g_wp, g_li, hg]; exact ⟨hk.1, hk.2, ih _ _ _ _ _ h⟩
        · cases h
      · cases h
    · split at h
      · split at h
        · next hg => exact ⟨hg, ih _ _ _ _ _ h⟩
        · cases h
      · cases h
    · split at h
      · split at h
        · next hg => exact ⟨fun _ => hJ _ _ _ _ _ _ h, fun z => absurd hg z⟩
        · next hg => exact ⟨fun z => absurd z hg, fun _ => ih _ _ _ _ _ h⟩
      · split at h
        · next hg => exact ⟨fun _ => hJ _ _ _ _ _ _ h, fun z => absurd hg z⟩
        · next hg => exact ⟨fun z => absurd z hg, fun _ => ih _ _ _ _ _ h⟩
      · cases h
    · split at h
      · exact hJ _ _ _ _ _ _ h
      · cases h
    · split at h
      · split at h
        · next hg =>
          split at h
          · next hs =>
            refine ⟨hs, ?_⟩
            show g_op (M.1.2.2 _ _) _
            rw [hg]
            exact ih _ _ _ _ _ h
          · cases h
        · cases h
      · cases h
    · split at h
      · split at h
        · next hs => exact ⟨hs, ih _ _ _ _ _ h⟩
        · cases h
      · split at h
        · next hs => exact ⟨hs.1, hs.2, ih _ _ _ _ _ h⟩
        · cases h
      · split at h
        · next hs => exact ⟨hs, ih _ _ _ _ _ h⟩
        · cases h
      · split at h
        · next hs => exact ⟨hs, ih _ _ _ _ _ h⟩
        · cases h
      · cases h
    · split at h
      · split at h
        · next hs => exact ⟨hs.1, hs.2.1, hs.2.2, ih _ _ _ _ _ h⟩
        · cases h
      · cases h
    · split at h
      · split at h
        · next hs => exact ⟨rfl, hs.1, hs.2.1, hs.2.2.1, hs.2.2.2.1, hs.2.2.2.2, ih _ _ _ _ _ h⟩
        · cases h
      · cases h
    · split at h
      · split at h
        · next hs => exact ⟨rfl, hs.1, hs.2.1, hs.2.2.1, hs.2.2.2.1, hs.2.2.2.2, ih _ _ _ _ _ h⟩
        · cases h
      · cases h
    · split at h
      · split at h
        · next hs => exact ⟨rfl, hs.1, hs.2.1, hs.2.2, ih _ _ _ _ _ h⟩
        · cases h
      · cases h
    · split at h
      · split at h
        · next hs => cases h; exact ⟨rfl, hs.1, hs.2, hQ⟩
        · cases h
      · cases h
    · split at h
      · split at h
        · next hs =>
          split at h
          · next hc => exact ⟨budB_ok hs.1, hs.2.1, hs.2.2, rfl, hC _ _ _ _ hc _ ⟨rfl, ih _ _ _ _ _ h⟩⟩
          · cases h
        · cases h
      · split at h
        · next hs =>
          split at h
          · next hc => exact ⟨budB_ok hs.1, hs.2.1, hs.2.2, rfl, hC _ _ _ _ hc _ ⟨rfl, ih _ _ _ _ _ h⟩⟩
          · cases h
        · cases h
      · split at h
        · next hs => exact ⟨budB_ok hs, ih _ _ _ _ _ h⟩
        · cases h
      · cases h
    · cases h
def ev_b (Cc : Nat → List Value → gM → Option gM) (md : gD) : Nat → evJ
  | 0 => fun _ _ _ _ _ _ => none
  | n + 1 => fun k l st M c s => ev_l (ev_b Cc md n) Cc md.2.2.2.2.2.1.1 md.2.2.2.2.2.1.2 (g_blk md k).2 (g_blk md k).1 l st M c s
theorem ev_b_ok {Cc : Nat → List Value → gM → Option gM} {C : gC} {Q : Option Value → gM → Prop} {md : gD} {M' : gM} (hQ : Q none M') (hr : md.2.2.2.1 = none) (hC : ∀ y as M M1, Cc y as M = some M1 → ∀ Q' : Option Value → gM → Prop, Q' none M1 → C y as M Q') :
    ∀ n k l st M c s, ev_b Cc md n k l st M c s = some M' → g_J gS0 C true md Q k l st M c s := by
  intro n k l st M c s h P hP
  induction n generalizing k l st M c s with
  | zero => cases h
  | succ n ih =>
    refine hP _ _ _ _ _ _ ?_
    rw [hr]
    exact ev_l_ok hQ (fun k l st M c s h => ih k l st M c s h) hC _ _ _ _ _ _ h
def ev_m (m : Nat → gD) : Nat → Nat → List Value → gM → Option gM
  | 0, _, _, _ => none
  | d + 1, y, as, M => if as.length = (m y).2.2.2.2.1 ∧ as.length ≤ (m y).2.2.1 ∧ (as.all fun v => v.category == 1) = true ∧ (m y).2.2.2.1 = none then
      ev_b (ev_m m d) (m y) 20 0 (as.map some ++ List.replicate ((m y).2.2.1 - as.length) none) [] M 0 0 else none
theorem ev_m_ok {m : Nat → gD} : ∀ d y as M M', ev_m m d y as M = some M' → ∀ Q : Option Value → gM → Prop, Q none M' → g_m gS0 m true d y as M Q := by
  intro d
  induction d with
  | zero => intro y as M M' h; cases h
  | succ d ih =>
    intro y as M M' h Q hQ
    simp only [ev_m] at h
    split at h
    · next hs => exact ⟨hs.1, hs.2.1, hs.2.2.1, ev_b_ok hQ hs.2.2.2 ih _ _ _ _ _ _ _ h⟩
    · cases h
