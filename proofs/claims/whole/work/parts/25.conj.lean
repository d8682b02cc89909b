/-! two conditions at once; a condition that holds is reached -/
theorem g_li_j {l : gL} {i : Nat} {k k' k2 : Int32 → Prop} (h : ∀ x0, k x0 → k' x0 → k2 x0) : g_li l i k → g_li l i k' → g_li l i k2 := by
  unfold g_li
  split
  · exact h _
  · exact fun q _ => q
theorem g_li_x {l : gL} {i : Nat} {k : Int32 → Prop} {X : Prop} (h : ∀ x0, k x0 → X) : g_li l i k → X := by
  unfold g_li
  split
  · exact h _
  · exact fun q => q.elim
theorem g_ll_j {l : gL} {i : Nat} {k k' k2 : Int64 → Prop} (h : ∀ x0, k x0 → k' x0 → k2 x0) : g_ll l i k → g_ll l i k' → g_ll l i k2 := by
  unfold g_ll
  split
  · exact h _
  · exact fun q _ => q
theorem g_ll_x {l : gL} {i : Nat} {k : Int64 → Prop} {X : Prop} (h : ∀ x0, k x0 → X) : g_ll l i k → X := by
  unfold g_ll
  split
  · exact h _
  · exact fun q => q.elim
theorem g_lr_j {l : gL} {i : Nat} {k k' k2 : Nat → Prop} (h : ∀ x0, k x0 → k' x0 → k2 x0) : g_lr l i k → g_lr l i k' → g_lr l i k2 := by
  unfold g_lr
  split
  · exact h _
  · exact fun q _ => q
theorem g_lr_x {l : gL} {i : Nat} {k : Nat → Prop} {X : Prop} (h : ∀ x0, k x0 → X) : g_lr l i k → X := by
  unfold g_lr
  split
  · exact h _
  · exact fun q => q.elim
theorem g_i1_j {st : List Value} {k k' k2 : Int32 → List Value → Prop} (h : ∀ x0 x1, k x0 x1 → k' x0 x1 → k2 x0 x1) : g_i1 st k → g_i1 st k' → g_i1 st k2 := by
  unfold g_i1
  split
  · exact h _ _
  · exact fun q _ => q
theorem g_i1_x {st : List Value} {k : Int32 → List Value → Prop} {X : Prop} (h : ∀ x0 x1, k x0 x1 → X) : g_i1 st k → X := by
  unfold g_i1
  split
  · exact h _ _
  · exact fun q => q.elim
theorem g_i2_j {st : List Value} {k k' k2 : Int32 → Int32 → List Value → Prop} (h : ∀ x0 x1 x2, k x0 x1 x2 → k' x0 x1 x2 → k2 x0 x1 x2) : g_i2 st k → g_i2 st k' → g_i2 st k2 := by
  unfold g_i2
  split
  · exact h _ _ _
  · exact fun q _ => q
theorem g_i2_x {st : List Value} {k : Int32 → Int32 → List Value → Prop} {X : Prop} (h : ∀ x0 x1 x2, k x0 x1 x2 → X) : g_i2 st k → X := by
  unfold g_i2
  split
  · exact h _ _ _
  · exact fun q => q.elim
theorem g_l1_j {st : List Value} {k k' k2 : Int64 → List Value → Prop} (h : ∀ x0 x1, k x0 x1 → k' x0 x1 → k2 x0 x1) : g_l1 st k → g_l1 st k' → g_l1 st k2 := by
  unfold g_l1
  split
  · exact h _ _
  · exact fun q _ => q
theorem g_l1_x {st : List Value} {k : Int64 → List Value → Prop} {X : Prop} (h : ∀ x0 x1, k x0 x1 → X) : g_l1 st k → X := by
  unfold g_l1
  split
  · exact h _ _
  · exact fun q => q.elim
theorem g_l2_j {st : List Value} {k k' k2 : Int64 → Int64 → List Value → Prop} (h : ∀ x0 x1 x2, k x0 x1 x2 → k' x0 x1 x2 → k2 x0 x1 x2) : g_l2 st k → g_l2 st k' → g_l2 st k2 := by
  unfold g_l2
  split
  · exact h _ _ _
  · exact fun q _ => q
theorem g_l2_x {st : List Value} {k : Int64 → Int64 → List Value → Prop} {X : Prop} (h : ∀ x0 x1 x2, k x0 x1 x2 → X) : g_l2 st k → X := by
  unfold g_l2
  split
  · exact h _ _ _
  · exact fun q => q.elim
theorem g_r1_j {st : List Value} {k k' k2 : Nat → List Value → Prop} (h : ∀ x0 x1, k x0 x1 → k' x0 x1 → k2 x0 x1) : g_r1 st k → g_r1 st k' → g_r1 st k2 := by
  unfold g_r1
  split
  · exact h _ _
  · exact fun q _ => q
theorem g_r1_x {st : List Value} {k : Nat → List Value → Prop} {X : Prop} (h : ∀ x0 x1, k x0 x1 → X) : g_r1 st k → X := by
  unfold g_r1
  split
  · exact h _ _
  · exact fun q => q.elim
theorem g_ra_j {st : List Value} {k k' k2 : Nat → Nat → List Value → Prop} (h : ∀ x0 x1 x2, k x0 x1 x2 → k' x0 x1 x2 → k2 x0 x1 x2) : g_ra st k → g_ra st k' → g_ra st k2 := by
  unfold g_ra
  split
  · exact h _ _ _
  · exact fun q _ => q
theorem g_ra_x {st : List Value} {k : Nat → Nat → List Value → Prop} {X : Prop} (h : ∀ x0 x1 x2, k x0 x1 x2 → X) : g_ra st k → X := by
  unfold g_ra
  split
  · exact h _ _ _
  · exact fun q => q.elim
theorem g_ri_j {st : List Value} {k k' k2 : Nat → Int32 → List Value → Prop} (h : ∀ x0 x1 x2, k x0 x1 x2 → k' x0 x1 x2 → k2 x0 x1 x2) : g_ri st k → g_ri st k' → g_ri st k2 := by
  unfold g_ri
  split
  · exact h _ _ _
  · exact fun q _ => q
theorem g_ri_x {st : List Value} {k : Nat → Int32 → List Value → Prop} {X : Prop} (h : ∀ x0 x1 x2, k x0 x1 x2 → X) : g_ri st k → X := by
  unfold g_ri
  split
  · exact h _ _ _
  · exact fun q => q.elim
theorem g_rl_j {st : List Value} {k k' k2 : Nat → Int64 → List Value → Prop} (h : ∀ x0 x1 x2, k x0 x1 x2 → k' x0 x1 x2 → k2 x0 x1 x2) : g_rl st k → g_rl st k' → g_rl st k2 := by
  unfold g_rl
  split
  · exact h _ _ _
  · exact fun q _ => q
theorem g_rl_x {st : List Value} {k : Nat → Int64 → List Value → Prop} {X : Prop} (h : ∀ x0 x1 x2, k x0 x1 x2 → X) : g_rl st k → X := by
  unfold g_rl
  split
  · exact h _ _ _
  · exact fun q => q.elim
theorem g_rii_j {st : List Value} {k k' k2 : Nat → Int32 → Int32 → List Value → Prop} (h : ∀ x0 x1 x2 x3, k x0 x1 x2 x3 → k' x0 x1 x2 x3 → k2 x0 x1 x2 x3) : g_rii st k → g_rii st k' → g_rii st k2 := by
  unfold g_rii
  split
  · exact h _ _ _ _
  · exact fun q _ => q
theorem g_rii_x {st : List Value} {k : Nat → Int32 → Int32 → List Value → Prop} {X : Prop} (h : ∀ x0 x1 x2 x3, k x0 x1 x2 x3 → X) : g_rii st k → X := by
  unfold g_rii
  split
  · exact h _ _ _ _
  · exact fun q => q.elim
theorem g_ril_j {st : List Value} {k k' k2 : Nat → Int32 → Int64 → List Value → Prop} (h : ∀ x0 x1 x2 x3, k x0 x1 x2 x3 → k' x0 x1 x2 x3 → k2 x0 x1 x2 x3) : g_ril st k → g_ril st k' → g_ril st k2 := by
  unfold g_ril
  split
  · exact h _ _ _ _
  · exact fun q _ => q
theorem g_ril_x {st : List Value} {k : Nat → Int32 → Int64 → List Value → Prop} {X : Prop} (h : ∀ x0 x1 x2 x3, k x0 x1 x2 x3 → X) : g_ril st k → X := by
  unfold g_ril
  split
  · exact h _ _ _ _
  · exact fun q => q.elim
theorem g_rir_j {st : List Value} {k k' k2 : Nat → Int32 → Nat → List Value → Prop} (h : ∀ x0 x1 x2 x3, k x0 x1 x2 x3 → k' x0 x1 x2 x3 → k2 x0 x1 x2 x3) : g_rir st k → g_rir st k' → g_rir st k2 := by
  unfold g_rir
  split
  · exact h _ _ _ _
  · exact fun q _ => q
theorem g_rir_x {st : List Value} {k : Nat → Int32 → Nat → List Value → Prop} {X : Prop} (h : ∀ x0 x1 x2 x3, k x0 x1 x2 x3 → X) : g_rir st k → X := by
  unfold g_rir
  split
  · exact h _ _ _ _
  · exact fun q => q.elim
theorem g_cp_j {st : List Value} {k k' k2 : Nat → Int32 → Nat → Int32 → Int32 → List Value → Prop} (h : ∀ x0 x1 x2 x3 x4 x5, k x0 x1 x2 x3 x4 x5 → k' x0 x1 x2 x3 x4 x5 → k2 x0 x1 x2 x3 x4 x5) : g_cp st k → g_cp st k' → g_cp st k2 := by
  unfold g_cp
  split
  · exact h _ _ _ _ _ _
  · exact fun q _ => q
theorem g_cp_x {st : List Value} {k : Nat → Int32 → Nat → Int32 → Int32 → List Value → Prop} {X : Prop} (h : ∀ x0 x1 x2 x3 x4 x5, k x0 x1 x2 x3 x4 x5 → X) : g_cp st k → X := by
  unfold g_cp
  split
  · exact h _ _ _ _ _ _
  · exact fun q => q.elim
theorem g_v1_j {st : List Value} {k k' k2 : Value → List Value → Prop} (h : ∀ x0 x1, k x0 x1 → k' x0 x1 → k2 x0 x1) : g_v1 st k → g_v1 st k' → g_v1 st k2 := by
  unfold g_v1
  split
  · exact h _ _
  · exact fun q _ => q
theorem g_v1_x {st : List Value} {k : Value → List Value → Prop} {X : Prop} (h : ∀ x0 x1, k x0 x1 → X) : g_v1 st k → X := by
  unfold g_v1
  split
  · exact h _ _
  · exact fun q => q.elim
theorem g_v2_j {st : List Value} {k k' k2 : Value → Value → List Value → Prop} (h : ∀ x0 x1 x2, k x0 x1 x2 → k' x0 x1 x2 → k2 x0 x1 x2) : g_v2 st k → g_v2 st k' → g_v2 st k2 := by
  unfold g_v2
  split
  · exact h _ _ _
  · exact fun q _ => q
theorem g_v2_x {st : List Value} {k : Value → Value → List Value → Prop} {X : Prop} (h : ∀ x0 x1 x2, k x0 x1 x2 → X) : g_v2 st k → X := by
  unfold g_v2
  split
  · exact h _ _ _
  · exact fun q => q.elim
theorem g_op_j {o : Option Nat} {k k' k2 : Nat → Prop} (h : ∀ x0, k x0 → k' x0 → k2 x0) : g_op o k → g_op o k' → g_op o k2 := by
  unfold g_op
  split
  · exact h _
  · exact fun q _ => q
theorem g_op_x {o : Option Nat} {k : Nat → Prop} {X : Prop} (h : ∀ x0, k x0 → X) : g_op o k → X := by
  unfold g_op
  split
  · exact h _
  · exact fun q => q.elim
theorem g_st_j {l : gL} {i : Nat} {v : Value} {k k' k2 : gL → Prop} (h : ∀ l, k l → k' l → k2 l) : g_st l i v k → g_st l i v k' → g_st l i v k2 := fun q r => ⟨q.1, q.2.1, h _ q.2.2 r.2.2⟩
theorem g_st_x {l : gL} {i : Nat} {v : Value} {k : gL → Prop} {X : Prop} (h : ∀ l, k l → X) : g_st l i v k → X := fun q => h _ q.2.2
theorem g_st2_j {l : gL} {i : Nat} {v : Value} {k k' k2 : gL → Prop} (h : ∀ l, k l → k' l → k2 l) : g_st2 l i v k → g_st2 l i v k' → g_st2 l i v k2 := fun q r => ⟨q.1, q.2.1, h _ q.2.2 r.2.2⟩
theorem g_st2_x {l : gL} {i : Nat} {v : Value} {k : gL → Prop} {X : Prop} (h : ∀ l, k l → X) : g_st2 l i v k → X := fun q => h _ q.2.2
theorem g_wp_j {S : gS} {C : gC} {al : Bool} {mc ms : Nat} {rt : Option FieldType} {Q Q' Q2 : Option Value → gM → Prop} {P P' P2 : gP} {nk : Nat} (hC : ∀ y as M R R' R2, (∀ r M', R r M' → R' r M' → R2 r M') → C y as M R → C y as M R' → C y as M R2) (hQ : ∀ r M, Q r M → Q' r M → Q2 r M) (hP : ∀ k l st M c s, P k l st M c s → P' k l st M c s → P2 k l st M c s) :
    ∀ xs l st M c s, g_wp S C al mc ms rt Q P nk xs l st M c s → g_wp S C al mc ms rt Q' P' nk xs l st M c s → g_wp S C al mc ms rt Q2 P2 nk xs l st M c s := by
  intro xs
  induction xs with
  | nil => intro l st M c s; exact hP _ _ _ _ _ _
  | cons x r ih =>
    obtain ⟨i, f⟩ := x
    intro l st M c s
    cases i with
    | iconst n =>
      exact ih _ _ _ _ _
    | bipush n =>
      exact ih _ _ _ _ _
    | sipush n =>
      exact ih _ _ _ _ _
    | lconst n =>
      exact ih _ _ _ _ _
    | ldc j =>
      intro h h'
      simp only [g_wp] at h h' ⊢
      split at h
      · exact ih _ _ _ _ _ h h'
      · exact ih _ _ _ _ _ h h'
      · exact h.elim
    | ldc_w j =>
      intro h h'
      simp only [g_wp] at h h' ⊢
      split at h
      · exact ih _ _ _ _ _ h h'
      · exact ih _ _ _ _ _ h h'
      · exact h.elim
    | iload_n n =>
      exact g_li_j (fun _ => ih _ _ _ _ _)
    | iload n =>
      exact g_li_j (fun _ => ih _ _ _ _ _)
    | lload_n n =>
      exact g_ll_j (fun _ => ih _ _ _ _ _)
    | aload_n n =>
      exact g_lr_j (fun _ => ih _ _ _ _ _)
    | aload n =>
      exact g_lr_j (fun _ => ih _ _ _ _ _)
    | istore_n n =>
      exact g_i1_j (fun _ _ => g_st_j (fun _ => ih _ _ _ _ _))
    | istore n =>
      exact g_i1_j (fun _ _ => g_st_j (fun _ => ih _ _ _ _ _))
    | lstore_n n =>
      exact g_l1_j (fun _ _ => g_st2_j (fun _ => ih _ _ _ _ _))
    | astore_n n =>
      exact g_r1_j (fun _ _ => g_st_j (fun _ => ih _ _ _ _ _))
    | astore n =>
      exact g_r1_j (fun _ _ => g_st_j (fun _ => ih _ _ _ _ _))
    | iinc k n =>
      exact g_li_j (fun _ => g_st_j (fun _ => ih _ _ _ _ _))
    | iadd =>
      exact g_i2_j (fun _ _ _ => ih _ _ _ _ _)
    | isub =>
      exact g_i2_j (fun _ _ _ => ih _ _ _ _ _)
    | imul =>
      exact g_i2_j (fun _ _ _ => ih _ _ _ _ _)
    | iand =>
      exact g_i2_j (fun _ _ _ => ih _ _ _ _ _)
    | ior =>
      exact g_i2_j (fun _ _ _ => ih _ _ _ _ _)
    | ixor =>
      exact g_i2_j (fun _ _ _ => ih _ _ _ _ _)
    | ishl =>
      exact g_i2_j (fun _ _ _ => ih _ _ _ _ _)
    | ishr =>
      exact g_i2_j (fun _ _ _ => ih _ _ _ _ _)
    | iushr =>
      exact g_i2_j (fun _ _ _ => ih _ _ _ _ _)
    | ineg =>
      exact g_i1_j (fun _ _ => ih _ _ _ _ _)
    | i2l =>
      exact g_i1_j (fun _ _ => ih _ _ _ _ _)
    | l2i =>
      exact g_l1_j (fun _ _ => ih _ _ _ _ _)
    | ladd =>
      exact g_l2_j (fun _ _ _ => ih _ _ _ _ _)
    | lmul =>
      exact g_l2_j (fun _ _ _ => ih _ _ _ _ _)
    | lcmp =>
      exact g_l2_j (fun _ _ _ => ih _ _ _ _ _)
    | idiv =>
      exact g_i2_j (fun _ _ _ q r => ⟨q.1, ih _ _ _ _ _ q.2 r.2⟩)
    | irem =>
      exact g_i2_j (fun _ _ _ q r => ⟨q.1, ih _ _ _ _ _ q.2 r.2⟩)
    | dup =>
      exact g_v1_j (fun _ _ q r => ⟨q.1, ih _ _ _ _ _ q.2 r.2⟩)
    | pop =>
      exact g_v1_j (fun _ _ q r => ⟨q.1, ih _ _ _ _ _ q.2 r.2⟩)
    | dup2 =>
      exact g_v2_j (fun _ _ _ q r => ⟨q.1, q.2.1, ih _ _ _ _ _ q.2.2 r.2.2⟩)
    | ifCond o d =>
      intro h h'
      simp only [g_wp] at h h' ⊢
      split at h
      · exact g_i1_j (fun _ _ q r => ⟨fun z => hP _ _ _ _ _ _ (q.1 z) (r.1 z), fun z => ih _ _ _ _ _ (q.2 z) (r.2 z)⟩) h h'
      · exact h.elim
    | if_icmp o d =>
      intro h h'
      simp only [g_wp] at h h' ⊢
      split at h
      · exact g_i2_j (fun _ _ _ q r => ⟨fun z => hP _ _ _ _ _ _ (q.1 z) (r.1 z), fun z => ih _ _ _ _ _ (q.2 z) (r.2 z)⟩) h h'
      · exact h.elim
    | goto d =>
      intro h h'
      simp only [g_wp] at h h' ⊢
      split at h
      · exact hP _ _ _ _ _ _ h h'
      · exact h.elim
    | tableswitch d lo hi o =>
      intro h h'
      simp only [g_wp] at h h' ⊢
      split at h
      · refine g_i1_j (fun _ _ q r => ⟨fun z => hP _ _ _ _ _ _ (q.1 z) (r.1 z), fun z => ?_⟩) h h'
        obtain ⟨u, hu, h1⟩ := q.2 z
        obtain ⟨v, hv, h2⟩ := r.2 z
        obtain rfl : u = v := Option.some.inj (hu.symm.trans hv)
        exact ⟨u, hu, hP _ _ _ _ _ _ h1 h2⟩
      · exact h.elim
    | getfield d =>
      intro h h'
      simp only [g_wp] at h h' ⊢
      split at h
      · refine g_r1_j (fun a st q r => ⟨q.1, ?_⟩) h h'
        have q2 := q.2
        have r2 := r.2
        split at q2
        · exact ih _ _ _ _ _ q2 r2
        · exact g_op_j (fun _ => ih _ _ _ _ _) q2 r2
        · simp only [] at r2 ⊢
          exact ih _ _ _ _ _ q2 r2
      · exact h.elim
    | putfield d =>
      intro h h'
      simp only [g_wp] at h h' ⊢
      split at h
      · split at h
        · exact g_ri_j (fun _ _ _ q r => ⟨q.1, ih _ _ _ _ _ q.2 r.2⟩) h h'
        · exact g_ri_j (fun _ _ _ q r => ⟨q.1, q.2.1, ih _ _ _ _ _ q.2.2 r.2.2⟩) h h'
        · exact g_rl_j (fun _ _ _ q r => ⟨q.1, ih _ _ _ _ _ q.2 r.2⟩) h h'
        · simp only [] at h' ⊢
          exact g_ra_j (fun _ _ _ q r => ⟨q.1, ih _ _ _ _ _ q.2 r.2⟩) h h'
      · exact h.elim
    | iaload =>
      exact g_ri_j (fun _ _ _ q r => ⟨q.1, q.2.1, ih _ _ _ _ _ q.2.2 r.2.2⟩)
    | laload =>
      exact g_ri_j (fun _ _ _ q r => ⟨q.1, q.2.1, ih _ _ _ _ _ q.2.2 r.2.2⟩)
    | aaload =>
      exact g_ri_j (fun _ _ _ q r => ⟨q.1, q.2.1, g_op_j (fun _ => ih _ _ _ _ _) q.2.2 r.2.2⟩)
    | iastore =>
      exact g_rii_j (fun _ _ _ _ q r => ⟨q.1, q.2.1, ih _ _ _ _ _ q.2.2 r.2.2⟩)
    | lastore =>
      exact g_ril_j (fun _ _ _ _ q r => ⟨q.1, q.2.1, ih _ _ _ _ _ q.2.2 r.2.2⟩)
    | aastore =>
      exact g_rir_j (fun _ _ _ _ q r => ⟨q.1, q.2.1, q.2.2.1, ih _ _ _ _ _ q.2.2.2 r.2.2.2⟩)
    | arraylength =>
      exact g_r1_j (fun _ _ q r => ⟨q.1, ih _ _ _ _ _ q.2 r.2⟩)
    | newarray t =>
      intro h h'
      simp only [g_wp] at h h' ⊢
      split at h
      · exact g_i1_j (fun _ _ q r => ⟨q.1, q.2.1, q.2.2.1, q.2.2.2.1, q.2.2.2.2.1, q.2.2.2.2.2.1, ih _ _ _ _ _ q.2.2.2.2.2.2 r.2.2.2.2.2.2⟩) h h'
      · exact h.elim
    | anewarray t =>
      intro h h'
      simp only [g_wp] at h h' ⊢
      split at h
      · exact g_i1_j (fun _ _ q r => ⟨q.1, q.2.1, q.2.2.1, q.2.2.2.1, q.2.2.2.2.1, q.2.2.2.2.2.1, ih _ _ _ _ _ q.2.2.2.2.2.2 r.2.2.2.2.2.2⟩) h h'
      · exact h.elim
    | new t =>
      intro h h'
      simp only [g_wp] at h h' ⊢
      split at h
      · exact ⟨h.1, h.2.1, h.2.2.1, h.2.2.2.1, ih _ _ _ _ _ h.2.2.2.2 h'.2.2.2.2⟩
      · exact h.elim
    | ireturn =>
      intro h h'
      simp only [g_wp] at h h' ⊢
      split at h
      · exact ⟨h.1, h.2.1, h.2.2.1, hQ _ _ h.2.2.2 h'.2.2.2⟩
      · exact h.elim
    | lreturn =>
      intro h h'
      simp only [g_wp] at h h' ⊢
      split at h
      · exact ⟨h.1, h.2.1, h.2.2.1, hQ _ _ h.2.2.2 h'.2.2.2⟩
      · exact h.elim
    | areturn =>
      intro h h'
      simp only [g_wp] at h h' ⊢
      split at h
      · exact ⟨h.1, h.2.1, h.2.2.1, hQ _ _ h.2.2.2 h'.2.2.2⟩
      · exact h.elim
    | return_ =>
      intro h h'
      simp only [g_wp] at h h' ⊢
      split at h
      · exact ⟨h.1, h.2.1, h.2.2.1, hQ _ _ h.2.2.2 h'.2.2.2⟩
      · exact h.elim
    | invokevirtual t =>
      intro h h'
      simp only [g_wp] at h h' ⊢
      split at h
      · exact g_r1_j (fun _ _ q r => ⟨q.1, q.2.1, q.2.2.1, q.2.2.2.1, q.2.2.2.2.1, hC _ _ _ _ _ _ (fun _ _ => ih _ _ _ _ _) q.2.2.2.2.2 r.2.2.2.2.2⟩) h h'
      · exact g_r1_j (fun _ _ q r => ⟨q.1, q.2.1, q.2.2.1, ih _ _ _ _ _ q.2.2.2 r.2.2.2⟩) h h'
      · exact g_ri_j (fun _ _ _ q r => ⟨q.1, q.2.1, q.2.2.1, ih _ _ _ _ _ q.2.2.2 r.2.2.2⟩) h h'
      · exact h.elim
    | invokestatic t =>
      intro h h'
      simp only [g_wp] at h h' ⊢
      split at h
      · exact ⟨h.1, h.2.1, h.2.2.1, h.2.2.2.1, hC _ _ _ _ _ _ (fun _ _ => ih _ _ _ _ _) h.2.2.2.2 h'.2.2.2.2⟩
      · exact g_i2_j (fun _ _ _ q r => ⟨q.1, q.2.1, q.2.2.1, ih _ _ _ _ _ q.2.2.2 r.2.2.2⟩) h h'
      · exact g_i2_j (fun _ _ _ q r => ⟨q.1, q.2.1, q.2.2.1, ih _ _ _ _ _ q.2.2.2 r.2.2.2⟩) h h'
      · exact g_cp_j (fun _ _ _ _ _ _ q r => ⟨q.1, q.2.1, q.2.2.1, q.2.2.2.1, q.2.2.2.2.1, q.2.2.2.2.2.1, q.2.2.2.2.2.2.1, q.2.2.2.2.2.2.2.1, ih _ _ _ _ _ q.2.2.2.2.2.2.2.2 r.2.2.2.2.2.2.2.2⟩) h h'
      · exact h.elim
    | invokespecial t =>
      intro h h'
      simp only [g_wp] at h h' ⊢
      split at h
      · exact g_r1_j (fun _ _ q r => ⟨q.1, q.2.1, q.2.2.1, q.2.2.2.1, hC _ _ _ _ _ _ (fun _ _ z z' => ⟨z.1, ih _ _ _ _ _ z.2 z'.2⟩) q.2.2.2.2 r.2.2.2.2⟩) h h'
      · exact g_r1_j (fun _ _ q r => ⟨q.1, q.2.1, q.2.2.1, q.2.2.2.1, hC _ _ _ _ _ _ (fun _ _ z z' => ⟨z.1, ih _ _ _ _ _ z.2 z'.2⟩) q.2.2.2.2 r.2.2.2.2⟩) h h'
      · exact g_r1_j (fun _ _ q r => ⟨q.1, ih _ _ _ _ _ q.2 r.2⟩) h h'
      · exact h.elim
    | _ =>
      exact fun h _ => h.elim
theorem g_wp_x {S : gS} {C : gC} {al : Bool} {mc ms : Nat} {rt : Option FieldType} {Q : Option Value → gM → Prop} {P : gP} {nk : Nat} {X : Prop} (hC : ∀ y as M R, C y as M R → (∀ r M', R r M' → X) → X) (hQ : ∀ r M, Q r M → X) (hP : ∀ k l st M c s, P k l st M c s → X) :
    ∀ xs l st M c s, g_wp S C al mc ms rt Q P nk xs l st M c s → X := by
  intro xs
  induction xs with
  | nil => intro l st M c s; exact hP _ _ _ _ _ _
  | cons x r ih =>
    obtain ⟨i, f⟩ := x
    intro l st M c s
    cases i with
    | iconst n =>
      exact ih _ _ _ _ _
    | bipush n =>
      exact ih _ _ _ _ _
    | sipush n =>
      exact ih _ _ _ _ _
    | lconst n =>
      exact ih _ _ _ _ _
    | ldc j =>
      intro h
      simp only [g_wp] at h
      split at h
      · exact ih _ _ _ _ _ h
      · exact ih _ _ _ _ _ h
      · exact h.elim
    | ldc_w j =>
      intro h
      simp only [g_wp] at h
      split at h
      · exact ih _ _ _ _ _ h
      · exact ih _ _ _ _ _ h
      · exact h.elim
    | iload_n n =>
      exact g_li_x (fun _ => ih _ _ _ _ _)
    | iload n =>
      exact g_li_x (fun _ => ih _ _ _ _ _)
    | lload_n n =>
      exact g_ll_x (fun _ => ih _ _ _ _ _)
    | aload_n n =>
      exact g_lr_x (fun _ => ih _ _ _ _ _)
    | aload n =>
      exact g_lr_x (fun _ => ih _ _ _ _ _)
    | istore_n n =>
      exact g_i1_x (fun _ _ => g_st_x (fun _ => ih _ _ _ _ _))
    | istore n =>
      exact g_i1_x (fun _ _ => g_st_x (fun _ => ih _ _ _ _ _))
    | lstore_n n =>
      exact g_l1_x (fun _ _ => g_st2_x (fun _ => ih _ _ _ _ _))
    | astore_n n =>
      exact g_r1_x (fun _ _ => g_st_x (fun _ => ih _ _ _ _ _))
    | astore n =>
      exact g_r1_x (fun _ _ => g_st_x (fun _ => ih _ _ _ _ _))
    | iinc k n =>
      exact g_li_x (fun _ => g_st_x (fun _ => ih _ _ _ _ _))
    | iadd =>
      exact g_i2_x (fun _ _ _ => ih _ _ _ _ _)
    | isub =>
      exact g_i2_x (fun _ _ _ => ih _ _ _ _ _)
    | imul =>
      exact g_i2_x (fun _ _ _ => ih _ _ _ _ _)
    | iand =>
      exact g_i2_x (fun _ _ _ => ih _ _ _ _ _)
    | ior =>
      exact g_i2_x (fun _ _ _ => ih _ _ _ _ _)
    | ixor =>
      exact g_i2_x (fun _ _ _ => ih _ _ _ _ _)
    | ishl =>
      exact g_i2_x (fun _ _ _ => ih _ _ _ _ _)
    | ishr =>
      exact g_i2_x (fun _ _ _ => ih _ _ _ _ _)
    | iushr =>
      exact g_i2_x (fun _ _ _ => ih _ _ _ _ _)
    | ineg =>
      exact g_i1_x (fun _ _ => ih _ _ _ _ _)
    | i2l =>
      exact g_i1_x (fun _ _ => ih _ _ _ _ _)
    | l2i =>
      exact g_l1_x (fun _ _ => ih _ _ _ _ _)
    | ladd =>
      exact g_l2_x (fun _ _ _ => ih _ _ _ _ _)
    | lmul =>
      exact g_l2_x (fun _ _ _ => ih _ _ _ _ _)
    | lcmp =>
      exact g_l2_x (fun _ _ _ => ih _ _ _ _ _)
    | idiv =>
      exact g_i2_x (fun _ _ _ q => ih _ _ _ _ _ q.2)
    | irem =>
      exact g_i2_x (fun _ _ _ q => ih _ _ _ _ _ q.2)
    | dup =>
      exact g_v1_x (fun _ _ q => ih _ _ _ _ _ q.2)
    | pop =>
      exact g_v1_x (fun _ _ q => ih _ _ _ _ _ q.2)
    | dup2 =>
      exact g_v2_x (fun _ _ _ q => ih _ _ _ _ _ q.2.2)
    | ifCond o d =>
      intro h
      simp only [g_wp] at h
      split at h
      · exact g_i1_x (fun _ _ q => (Classical.em _).elim (fun z => hP _ _ _ _ _ _ (q.1 z)) (fun z => ih _ _ _ _ _ (q.2 z))) h
      · exact h.elim
    | if_icmp o d =>
      intro h
      simp only [g_wp] at h
      split at h
      · exact g_i2_x (fun _ _ _ q => (Classical.em _).elim (fun z => hP _ _ _ _ _ _ (q.1 z)) (fun z => ih _ _ _ _ _ (q.2 z))) h
      · exact h.elim
    | goto d =>
      intro h
      simp only [g_wp] at h
      split at h
      · exact hP _ _ _ _ _ _ h
      · exact h.elim
    | tableswitch d lo hi o =>
      intro h
      simp only [g_wp] at h
      split at h
      · exact g_i1_x (fun _ _ q => (Classical.em _).elim (fun z => hP _ _ _ _ _ _ (q.1 z)) (fun z => (q.2 z).elim (fun u hu => hP _ _ _ _ _ _ hu.2))) h
      · exact h.elim
    | getfield d =>
      intro h
      simp only [g_wp] at h
      split at h
      · refine g_r1_x (fun a st q => ?_) h
        have q2 := q.2
        split at q2
        · exact ih _ _ _ _ _ q2
        · exact g_op_x (fun _ => ih _ _ _ _ _) q2
        · exact ih _ _ _ _ _ q2
      · exact h.elim
    | putfield d =>
      intro h
      simp only [g_wp] at h
      split at h
      · split at h
        · exact g_ri_x (fun _ _ _ q => ih _ _ _ _ _ q.2) h
        · exact g_ri_x (fun _ _ _ q => ih _ _ _ _ _ q.2.2) h
        · exact g_rl_x (fun _ _ _ q => ih _ _ _ _ _ q.2) h
        · exact g_ra_x (fun _ _ _ q => ih _ _ _ _ _ q.2) h
      · exact h.elim
    | iaload =>
      exact g_ri_x (fun _ _ _ q => ih _ _ _ _ _ q.2.2)
    | laload =>
      exact g_ri_x (fun _ _ _ q => ih _ _ _ _ _ q.2.2)
    | aaload =>
      exact g_ri_x (fun _ _ _ q => g_op_x (fun _ => ih _ _ _ _ _) q.2.2)
    | iastore =>
      exact g_rii_x (fun _ _ _ _ q => ih _ _ _ _ _ q.2.2)
    | lastore =>
      exact g_ril_x (fun _ _ _ _ q => ih _ _ _ _ _ q.2.2)
    | aastore =>
      exact g_rir_x (fun _ _ _ _ q => ih _ _ _ _ _ q.2.2.2)
    | arraylength =>
      exact g_r1_x (fun _ _ q => ih _ _ _ _ _ q.2)
    | newarray t =>
      intro h
      simp only [g_wp] at h
      split at h
      · exact g_i1_x (fun _ _ q => ih _ _ _ _ _ q.2.2.2.2.2.2) h
      · exact h.elim
    | anewarray t =>
      intro h
      simp only [g_wp] at h
      split at h
      · exact g_i1_x (fun _ _ q => ih _ _ _ _ _ q.2.2.2.2.2.2) h
      · exact h.elim
    | new t =>
      intro h
      simp only [g_wp] at h
      split at h
      · exact ih _ _ _ _ _ h.2.2.2.2
      · exact h.elim
    | ireturn =>
      intro h
      simp only [g_wp] at h
      split at h
      · exact hQ _ _ h.2.2.2
      · exact h.elim
    | lreturn =>
      intro h
      simp only [g_wp] at h
      split at h
      · exact hQ _ _ h.2.2.2
      · exact h.elim
    | areturn =>
      intro h
      simp only [g_wp] at h
      split at h
      · exact hQ _ _ h.2.2.2
      · exact h.elim
    | return_ =>
      intro h
      simp only [g_wp] at h
      split at h
      · exact hQ _ _ h.2.2.2
      · exact h.elim
    | invokevirtual t =>
      intro h
      simp only [g_wp] at h
      split at h
      · exact g_r1_x (fun _ _ q => hC _ _ _ _ q.2.2.2.2.2 (fun _ _ => ih _ _ _ _ _)) h
      · exact g_r1_x (fun _ _ q => ih _ _ _ _ _ q.2.2.2) h
      · exact g_ri_x (fun _ _ _ q => ih _ _ _ _ _ q.2.2.2) h
      · exact h.elim
    | invokestatic t =>
      intro h
      simp only [g_wp] at h
      split at h
      · exact hC _ _ _ _ h.2.2.2.2 (fun _ _ => ih _ _ _ _ _)
      · exact g_i2_x (fun _ _ _ q => ih _ _ _ _ _ q.2.2.2) h
      · exact g_i2_x (fun _ _ _ q => ih _ _ _ _ _ q.2.2.2) h
      · exact g_cp_x (fun _ _ _ _ _ _ q => ih _ _ _ _ _ q.2.2.2.2.2.2.2.2) h
      · exact h.elim
    | invokespecial t =>
      intro h
      simp only [g_wp] at h
      split at h
      · exact g_r1_x (fun _ _ q => hC _ _ _ _ q.2.2.2.2 (fun _ _ z => ih _ _ _ _ _ z.2)) h
      · exact g_r1_x (fun _ _ q => hC _ _ _ _ q.2.2.2.2 (fun _ _ z => ih _ _ _ _ _ z.2)) h
      · exact g_r1_x (fun _ _ q => ih _ _ _ _ _ q.2) h
      · exact h.elim
    | _ =>
      exact fun h => h.elim
theorem g_J_eq {S : gS} {C : gC} {al : Bool} {md : gD} {Q : Option Value → gM → Prop} (hC : ∀ y as M Q Q', (∀ r M', Q r M' → Q' r M') → C y as M Q → C y as M Q') {k : Nat} {l : gL} {st : List Value} {M : gM} {c s : Nat} :
    g_J S C al md Q k l st M c s = g_wp S C al md.2.2.2.2.2.1.1 md.2.2.2.2.2.1.2 md.2.2.2.1 Q (g_J S C al md Q) (g_blk md k).2 (g_blk md k).1 l st M c s := by
  apply propext
  refine ⟨fun h => ?_, fun h => g_J_of hC h⟩
  refine h (fun k l st M c s => g_wp S C al md.2.2.2.2.2.1.1 md.2.2.2.2.2.1.2 md.2.2.2.1 Q (g_J S C al md Q) (g_blk md k).2 (g_blk md k).1 l st M c s) (fun k l st M c s q => ?_)
  exact g_wp_mono hC (fun _ _ z => z) (fun _ _ _ _ _ _ z => g_J_of hC z) _ _ _ _ _ _ q
theorem g_m_j {S : gS} {mt : Nat → gD} {al : Bool} : ∀ (d y : Nat) (as : List Value) (M : gM) (R R' R2 : Option Value → gM → Prop), (∀ r M', R r M' → R' r M' → R2 r M') → g_m S mt al d y as M R → g_m S mt al d y as M R' → g_m S mt al d y as M R2 := by
  intro d
  induction d with
  | zero => intro y as M R R' R2 _ h; exact h.elim
  | succ d ih =>
    intro y as M R R' R2 hR h h'
    refine ⟨h.1, h.2.1, h.2.2.1, ?_⟩
    have hm : ∀ y as M Q Q', (∀ r M', Q r M' → Q' r M') → g_m S mt al d y as M Q → g_m S mt al d y as M Q' := fun y as M Q Q' hq z => g_m_mono d d (Nat.le_refl d) y as M Q Q' hq z
    refine h.2.2.2 (fun k l st M c s => g_J S (g_m S mt al d) al (mt y) R' k l st M c s → g_J S (g_m S mt al d) al (mt y) R2 k l st M c s) (fun k l st M c s q q' => ?_) h'.2.2.2
    rw [g_J_eq hm] at q'
    exact g_J_of hm (g_wp_j (fun y as M R R' R2 hr z z' => ih y as M R R' R2 hr z z') hR (fun k l st M c s z z' => z z') _ _ _ _ _ _ q q')
theorem g_m_x {S : gS} {mt : Nat → gD} {al : Bool} {X : Prop} : ∀ (d y : Nat) (as : List Value) (M : gM) (R : Option Value → gM → Prop), g_m S mt al d y as M R → (∀ r M', R r M' → X) → X := by
  intro d
  induction d with
  | zero => intro y as M R h; exact h.elim
  | succ d ih =>
    intro y as M R h hR
    exact h.2.2.2 (fun _ _ _ _ _ _ => X) (fun k l st M c s q => g_wp_x (fun y as M R z hz => ih y as M R z hz) hR (fun _ _ _ _ _ _ z => z) _ _ _ _ _ _ q)
/-- a contract that names what comes back is an equation -/
theorem g_m_eq {S : gS} {mt : Nat → gD} {al : Bool} {d y : Nat} {as : List Value} {M : gM} {r0 : Option Value} {M0 : gM} (h : ∀ Q : Option Value → gM → Prop, Q r0 M0 → g_m S mt al d y as M Q) (Q : Option Value → gM → Prop) : g_m S mt al d y as M Q = Q r0 M0 := by
  apply propext
  refine ⟨fun hq => ?_, h Q⟩
  have h1 := h (fun r M' => r = r0 ∧ M' = M0) ⟨rfl, rfl⟩
  have h2 := g_m_j d y as M Q _ (fun r M' => Q r M' ∧ r = r0 ∧ M' = M0) (fun r M' a b => ⟨a, b⟩) hq h1
  refine g_m_x d y as M _ h2 (fun r M' z => ?_)
  obtain ⟨z1, rfl, rfl⟩ := z
  exact z1
