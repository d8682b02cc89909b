theorem g_li_m {l : gL} {i : Nat} {k k' : Int32 → Prop} (h : ∀ x, k x → k' x) : g_li l i k → g_li l i k' := by
  unfold g_li
  intro q
  split at q
  · first | exact h _ q | exact h _ _ q | exact h _ _ _ q | exact h _ _ _ _ q | exact h _ _ _ _ _ _ q
  · exact q.elim
theorem g_ll_m {l : gL} {i : Nat} {k k' : Int64 → Prop} (h : ∀ x, k x → k' x) : g_ll l i k → g_ll l i k' := by
  unfold g_ll
  intro q
  split at q
  · first | exact h _ q | exact h _ _ q | exact h _ _ _ q | exact h _ _ _ _ q | exact h _ _ _ _ _ _ q
  · exact q.elim
theorem g_lr_m {l : gL} {i : Nat} {k k' : Nat → Prop} (h : ∀ x, k x → k' x) : g_lr l i k → g_lr l i k' := by
  unfold g_lr
  intro q
  split at q
  · first | exact h _ q | exact h _ _ q | exact h _ _ _ q | exact h _ _ _ _ q | exact h _ _ _ _ _ _ q
  · exact q.elim
theorem g_i1_m {st : List Value} {k k' : Int32 → List Value → Prop} (h : ∀ x r, k x r → k' x r) : g_i1 st k → g_i1 st k' := by
  unfold g_i1
  intro q
  split at q
  · first | exact h _ q | exact h _ _ q | exact h _ _ _ q | exact h _ _ _ _ q | exact h _ _ _ _ _ _ q
  · exact q.elim
theorem g_i2_m {st : List Value} {k k' : Int32 → Int32 → List Value → Prop} (h : ∀ x y r, k x y r → k' x y r) : g_i2 st k → g_i2 st k' := by
  unfold g_i2
  intro q
  split at q
  · first | exact h _ q | exact h _ _ q | exact h _ _ _ q | exact h _ _ _ _ q | exact h _ _ _ _ _ _ q
  · exact q.elim
theorem g_l1_m {st : List Value} {k k' : Int64 → List Value → Prop} (h : ∀ x r, k x r → k' x r) : g_l1 st k → g_l1 st k' := by
  unfold g_l1
  intro q
  split at q
  · first | exact h _ q | exact h _ _ q | exact h _ _ _ q | exact h _ _ _ _ q | exact h _ _ _ _ _ _ q
  · exact q.elim
theorem g_l2_m {st : List Value} {k k' : Int64 → Int64 → List Value → Prop} (h : ∀ x y r, k x y r → k' x y r) : g_l2 st k → g_l2 st k' := by
  unfold g_l2
  intro q
  split at q
  · first | exact h _ q | exact h _ _ q | exact h _ _ _ q | exact h _ _ _ _ q | exact h _ _ _ _ _ _ q
  · exact q.elim
theorem g_r1_m {st : List Value} {k k' : Nat → List Value → Prop} (h : ∀ x r, k x r → k' x r) : g_r1 st k → g_r1 st k' := by
  unfold g_r1
  intro q
  split at q
  · first | exact h _ q | exact h _ _ q | exact h _ _ _ q | exact h _ _ _ _ q | exact h _ _ _ _ _ _ q
  · exact q.elim
theorem g_ra_m {st : List Value} {k k' : Nat → Nat → List Value → Prop} (h : ∀ x y r, k x y r → k' x y r) : g_ra st k → g_ra st k' := by
  unfold g_ra
  intro q
  split at q
  · first | exact h _ q | exact h _ _ q | exact h _ _ _ q | exact h _ _ _ _ q | exact h _ _ _ _ _ _ q
  · exact q.elim
theorem g_ri_m {st : List Value} {k k' : Nat → Int32 → List Value → Prop} (h : ∀ x y r, k x y r → k' x y r) : g_ri st k → g_ri st k' := by
  unfold g_ri
  intro q
  split at q
  · first | exact h _ q | exact h _ _ q | exact h _ _ _ q | exact h _ _ _ _ q | exact h _ _ _ _ _ _ q
  · exact q.elim
theorem g_rl_m {st : List Value} {k k' : Nat → Int64 → List Value → Prop} (h : ∀ x y r, k x y r → k' x y r) : g_rl st k → g_rl st k' := by
  unfold g_rl
  intro q
  split at q
  · first | exact h _ q | exact h _ _ q | exact h _ _ _ q | exact h _ _ _ _ q | exact h _ _ _ _ _ _ q
  · exact q.elim
theorem g_rii_m {st : List Value} {k k' : Nat → Int32 → Int32 → List Value → Prop} (h : ∀ x y z r, k x y z r → k' x y z r) : g_rii st k → g_rii st k' := by
  unfold g_rii
  intro q
  split at q
  · first | exact h _ q | exact h _ _ q | exact h _ _ _ q | exact h _ _ _ _ q | exact h _ _ _ _ _ _ q
  · exact q.elim
theorem g_ril_m {st : List Value} {k k' : Nat → Int32 → Int64 → List Value → Prop} (h : ∀ x y z r, k x y z r → k' x y z r) : g_ril st k → g_ril st k' := by
  unfold g_ril
  intro q
  split at q
  · first | exact h _ q | exact h _ _ q | exact h _ _ _ q | exact h _ _ _ _ q | exact h _ _ _ _ _ _ q
  · exact q.elim
theorem g_rir_m {st : List Value} {k k' : Nat → Int32 → Nat → List Value → Prop} (h : ∀ x y z r, k x y z r → k' x y z r) : g_rir st k → g_rir st k' := by
  unfold g_rir
  intro q
  split at q
  · first | exact h _ q | exact h _ _ q | exact h _ _ _ q | exact h _ _ _ _ q | exact h _ _ _ _ _ _ q
  · exact q.elim
theorem g_cp_m {st : List Value} {k k' : Nat → Int32 → Nat → Int32 → Int32 → List Value → Prop} (h : ∀ a b c d e r, k a b c d e r → k' a b c d e r) : g_cp st k → g_cp st k' := by
  unfold g_cp
  intro q
  split at q
  · first | exact h _ q | exact h _ _ q | exact h _ _ _ q | exact h _ _ _ _ q | exact h _ _ _ _ _ _ q
  · exact q.elim
theorem g_v1_m {st : List Value} {k k' : Value → List Value → Prop} (h : ∀ x r, k x r → k' x r) : g_v1 st k → g_v1 st k' := by
  unfold g_v1
  intro q
  split at q
  · first | exact h _ q | exact h _ _ q | exact h _ _ _ q | exact h _ _ _ _ q | exact h _ _ _ _ _ _ q
  · exact q.elim
theorem g_v2_m {st : List Value} {k k' : Value → Value → List Value → Prop} (h : ∀ x y r, k x y r → k' x y r) : g_v2 st k → g_v2 st k' := by
  unfold g_v2
  intro q
  split at q
  · first | exact h _ q | exact h _ _ q | exact h _ _ _ q | exact h _ _ _ _ q | exact h _ _ _ _ _ _ q
  · exact q.elim
theorem g_op_m {o : Option Nat} {k k' : Nat → Prop} (h : ∀ x, k x → k' x) : g_op o k → g_op o k' := by
  unfold g_op
  intro q
  split at q
  · first | exact h _ q | exact h _ _ q | exact h _ _ _ q | exact h _ _ _ _ q | exact h _ _ _ _ _ _ q
  · exact q.elim
theorem g_st_m {l : gL} {i : Nat} {v : Value} {k k' : gL → Prop} (h : ∀ l, k l → k' l) : g_st l i v k → g_st l i v k' := fun q => ⟨q.1, q.2.1, h _ q.2.2⟩
theorem g_st2_m {l : gL} {i : Nat} {v : Value} {k k' : gL → Prop} (h : ∀ l, k l → k' l) : g_st2 l i v k → g_st2 l i v k' := fun q => ⟨q.1, q.2.1, h _ q.2.2⟩
theorem g_wp_mono {S : gS} {C C' : gC} {al : Bool} {mc ms : Nat} {rt : Option FieldType} {Q Q' : Option Value → gM → Prop} {P P' : gP} {nk : Nat} (hC : ∀ y as M Q Q', (∀ r M', Q r M' → Q' r M') → C y as M Q → C' y as M Q') (hQ : ∀ r M, Q r M → Q' r M) (hP : ∀ k l st M c s, P k l st M c s → P' k l st M c s) :
    ∀ xs l st M c s, g_wp S C al mc ms rt Q P nk xs l st M c s → g_wp S C' al mc ms rt Q' P' nk xs l st M c s := by
  intro xs
  induction xs with
  | nil => intro l st M c s h; exact hP _ _ _ _ _ _ h
  | cons x r ih =>
    obtain ⟨i, f⟩ := x
    intro l st M c s
    cases i with
    | iconst n =>
      exact ih _ _ _ _ _
    | bipush n =>
      exact ih _ _ _ _ _
    | sipush n =>
      exact ih _ _ _ _ _
    | lconst n =>
      exact ih _ _ _ _ _
    | ldc j =>
      intro h; simp only [g_wp] at h ⊢; split at h
      · exact ih _ _ _ _ _ h
      · exact ih _ _ _ _ _ h
      · exact h.elim
    | ldc_w j =>
      intro h; simp only [g_wp] at h ⊢; split at h
      · exact ih _ _ _ _ _ h
      · exact ih _ _ _ _ _ h
      · exact h.elim
    | iload_n n =>
      exact g_li_m (fun _ => ih _ _ _ _ _)
    | iload n =>
      exact g_li_m (fun _ => ih _ _ _ _ _)
    | lload_n n =>
      exact g_ll_m (fun _ => ih _ _ _ _ _)
    | aload_n n =>
      exact g_lr_m (fun _ => ih _ _ _ _ _)
    | aload n =>
      exact g_lr_m (fun _ => ih _ _ _ _ _)
    | istore_n n =>
      exact g_i1_m (fun _ _ => g_st_m (fun _ => ih _ _ _ _ _))
    | istore n =>
      exact g_i1_m (fun _ _ => g_st_m (fun _ => ih _ _ _ _ _))
    | lstore_n n =>
      exact g_l1_m (fun _ _ => g_st2_m (fun _ => ih _ _ _ _ _))
    | astore_n n =>
      exact g_r1_m (fun _ _ => g_st_m (fun _ => ih _ _ _ _ _))
    | astore n =>
      exact g_r1_m (fun _ _ => g_st_m (fun _ => ih _ _ _ _ _))
    | iinc k n =>
      exact g_li_m (fun _ => g_st_m (fun _ => ih _ _ _ _ _))
    | iadd =>
      exact g_i2_m (fun _ _ _ => ih _ _ _ _ _)
    | isub =>
      exact g_i2_m (fun _ _ _ => ih _ _ _ _ _)
    | imul =>
      exact g_i2_m (fun _ _ _ => ih _ _ _ _ _)
    | iand =>
      exact g_i2_m (fun _ _ _ => ih _ _ _ _ _)
    | ior =>
      exact g_i2_m (fun _ _ _ => ih _ _ _ _ _)
    | ixor =>
      exact g_i2_m (fun _ _ _ => ih _ _ _ _ _)
    | ishl =>
      exact g_i2_m (fun _ _ _ => ih _ _ _ _ _)
    | ishr =>
      exact g_i2_m (fun _ _ _ => ih _ _ _ _ _)
    | iushr =>
      exact g_i2_m (fun _ _ _ => ih _ _ _ _ _)
    | idiv =>
      exact g_i2_m (fun _ _ _ q => ⟨q.1, ih _ _ _ _ _ q.2⟩)
    | irem =>
      exact g_i2_m (fun _ _ _ q => ⟨q.1, ih _ _ _ _ _ q.2⟩)
    | ineg =>
      exact g_i1_m (fun _ _ => ih _ _ _ _ _)
    | i2l =>
      exact g_i1_m (fun _ _ => ih _ _ _ _ _)
    | l2i =>
      exact g_l1_m (fun _ _ => ih _ _ _ _ _)
    | ladd =>
      exact g_l2_m (fun _ _ _ => ih _ _ _ _ _)
    | lmul =>
      exact g_l2_m (fun _ _ _ => ih _ _ _ _ _)
    | lcmp =>
      exact g_l2_m (fun _ _ _ => ih _ _ _ _ _)
    | dup =>
      exact g_v1_m (fun _ _ q => ⟨q.1, ih _ _ _ _ _ q.2⟩)
    | pop =>
      exact g_v1_m (fun _ _ q => ⟨q.1, ih _ _ _ _ _ q.2⟩)
    | dup2 =>
      exact g_v2_m (fun _ _ _ q => ⟨q.1, q.2.1, ih _ _ _ _ _ q.2.2⟩)
    | ifCond o d =>
      intro h; simp only [g_wp] at h ⊢; split at h
      · exact g_i1_m (fun _ _ q => ⟨fun z => hP _ _ _ _ _ _ (q.1 z), fun z => ih _ _ _ _ _ (q.2 z)⟩) h
      · exact h.elim
    | if_icmp o d =>
      intro h; simp only [g_wp] at h ⊢; split at h
      · exact g_i2_m (fun _ _ _ q => ⟨fun z => hP _ _ _ _ _ _ (q.1 z), fun z => ih _ _ _ _ _ (q.2 z)⟩) h
      · exact h.elim
    | goto d =>
      intro h; simp only [g_wp] at h ⊢; split at h
      · exact hP _ _ _ _ _ _ h
      · exact h.elim
    | tableswitch d lo hi o =>
      intro h; simp only [g_wp] at h ⊢; split at h
      · exact g_i1_m (fun _ _ q => ⟨fun z => hP _ _ _ _ _ _ (q.1 z), fun z => (q.2 z).elim (fun u hu => ⟨u, hu.1, hP _ _ _ _ _ _ hu.2⟩)⟩) h
      · exact h.elim
    | getfield d =>
      intro h; simp only [g_wp] at h ⊢; split at h
      · refine g_r1_m (fun a st q => ⟨q.1, ?_⟩) h
        have q2 := q.2
        split at q2
        · exact ih _ _ _ _ _ q2
        · exact g_op_m (fun _ => ih _ _ _ _ _) q2
        · exact ih _ _ _ _ _ q2
      · exact h.elim
    | putfield d =>
      intro h; simp only [g_wp] at h ⊢; split at h
      · split at h
        · exact g_ri_m (fun _ _ _ q => ⟨q.1, ih _ _ _ _ _ q.2⟩) h
        · exact g_ri_m (fun _ _ _ q => ⟨q.1, q.2.1, ih _ _ _ _ _ q.2.2⟩) h
        · exact g_rl_m (fun _ _ _ q => ⟨q.1, ih _ _ _ _ _ q.2⟩) h
        · exact g_ra_m (fun _ _ _ q => ⟨q.1, ih _ _ _ _ _ q.2⟩) h
      · exact h.elim
    | iaload =>
      exact g_ri_m (fun _ _ _ q => ⟨q.1, q.2.1, ih _ _ _ _ _ q.2.2⟩)
    | laload =>
      exact g_ri_m (fun _ _ _ q => ⟨q.1, q.2.1, ih _ _ _ _ _ q.2.2⟩)
    | aaload =>
      exact g_ri_m (fun _ _ _ q => ⟨q.1, q.2.1, g_op_m (fun _ => ih _ _ _ _ _) q.2.2⟩)
    | iastore =>
      exact g_rii_m (fun _ _ _ _ q => ⟨q.1, q.2.1, ih _ _ _ _ _ q.2.2⟩)
    | lastore =>
      exact g_ril_m (fun _ _ _ _ q => ⟨q.1, q.2.1, ih _ _ _ _ _ q.2.2⟩)
    | aastore =>
      exact g_rir_m (fun _ _ _ _ q => ⟨q.1, q.2.1, q.2.2.1, ih _ _ _ _ _ q.2.2.2⟩)
    | arraylength =>
      exact g_r1_m (fun _ _ q => ⟨q.1, ih _ _ _ _ _ q.2⟩)
    | newarray t =>
      intro h; simp only [g_wp] at h ⊢; split at h
      · exact g_i1_m (fun _ _ q => ⟨q.1, q.2.1, q.2.2.1, q.2.2.2.1, q.2.2.2.2.1, q.2.2.2.2.2.1, ih _ _ _ _ _ q.2.2.2.2.2.2⟩) h
      · exact h.elim
    | anewarray t =>
      intro h; simp only [g_wp] at h ⊢; split at h
      · exact g_i1_m (fun _ _ q => ⟨q.1, q.2.1, q.2.2.1, q.2.2.2.1, q.2.2.2.2.1, q.2.2.2.2.2.1, ih _ _ _ _ _ q.2.2.2.2.2.2⟩) h
      · exact h.elim
    | new t =>
      intro h; simp only [g_wp] at h ⊢; split at h
      · exact ⟨h.1, h.2.1, h.2.2.1, h.2.2.2.1, ih _ _ _ _ _ h.2.2.2.2⟩
      · exact h.elim
    | ireturn =>
      intro h; simp only [g_wp] at h ⊢; split at h
      · exact ⟨h.1, h.2.1, h.2.2.1, hQ _ _ h.2.2.2⟩
      · exact h.elim
    | lreturn =>
      intro h; simp only [g_wp] at h ⊢; split at h
      · exact ⟨h.1, h.2.1, h.2.2.1, hQ _ _ h.2.2.2⟩
      · exact h.elim
    | areturn =>
      intro h; simp only [g_wp] at h ⊢; split at h
      · exact ⟨h.1, h.2.1, h.2.2.1, hQ _ _ h.2.2.2⟩
      · exact h.elim
    | return_ =>
      intro h; simp only [g_wp] at h ⊢; split at h
      · exact ⟨h.1, h.2.1, h.2.2.1, hQ _ _ h.2.2.2⟩
      · exact h.elim
    | invokevirtual t =>
      intro h; simp only [g_wp] at h ⊢; split at h
      · exact g_r1_m (fun _ _ q => ⟨q.1, q.2.1, q.2.2.1, q.2.2.2.1, q.2.2.2.2.1, hC _ _ _ _ _ (fun _ _ => ih _ _ _ _ _) q.2.2.2.2.2⟩) h
      · exact g_r1_m (fun _ _ q => ⟨q.1, q.2.1, q.2.2.1, ih _ _ _ _ _ q.2.2.2⟩) h
      · exact g_ri_m (fun _ _ _ q => ⟨q.1, q.2.1, q.2.2.1, ih _ _ _ _ _ q.2.2.2⟩) h
      · exact h.elim
    | invokestatic t =>
      intro h; simp only [g_wp] at h ⊢; split at h
      · exact ⟨h.1, h.2.1, h.2.2.1, h.2.2.2.1, hC _ _ _ _ _ (fun _ _ => ih _ _ _ _ _) h.2.2.2.2⟩
      · exact g_i2_m (fun _ _ _ q => ⟨q.1, q.2.1, q.2.2.1, ih _ _ _ _ _ q.2.2.2⟩) h
      · exact g_i2_m (fun _ _ _ q => ⟨q.1, q.2.1, q.2.2.1, ih _ _ _ _ _ q.2.2.2⟩) h
      · exact g_cp_m (fun _ _ _ _ _ _ q => ⟨q.1, q.2.1, q.2.2.1, q.2.2.2.1, q.2.2.2.2.1, q.2.2.2.2.2.1, q.2.2.2.2.2.2.1, q.2.2.2.2.2.2.2.1, ih _ _ _ _ _ q.2.2.2.2.2.2.2.2⟩) h
      · exact h.elim
    | invokespecial t =>
      intro h; simp only [g_wp] at h ⊢; split at h
      · exact g_r1_m (fun _ _ q => ⟨q.1, q.2.1, q.2.2.1, q.2.2.2.1, hC _ _ _ _ _ (fun _ _ z => ⟨z.1, ih _ _ _ _ _ z.2⟩) q.2.2.2.2⟩) h
      · exact g_r1_m (fun _ _ q => ⟨q.1, q.2.1, q.2.2.1, q.2.2.2.1, hC _ _ _ _ _ (fun _ _ z => ⟨z.1, ih _ _ _ _ _ z.2⟩) q.2.2.2.2⟩) h
      · exact g_r1_m (fun _ _ q => ⟨q.1, ih _ _ _ _ _ q.2⟩) h
      · exact h.elim
    | _ =>
      exact fun h => h.elim
theorem g_J_mono {S : gS} {C C' : gC} {al : Bool} {md : gD} {Q Q' : Option Value → gM → Prop} (hC : ∀ y as M Q Q', (∀ r M', Q r M' → Q' r M') → C y as M Q → C' y as M Q') (hQ : ∀ r M, Q r M → Q' r M) {k : Nat} {l : gL} {st : List Value} {M : gM} {c s : Nat} (h : g_J S C al md Q k l st M c s) : g_J S C' al md Q' k l st M c s := by
  intro P hP
  refine h P (fun k l st M c s q => hP k l st M c s ?_)
  exact g_wp_mono hC hQ (fun _ _ _ _ _ _ z => z) _ _ _ _ _ _ q
theorem g_m_mono {S : gS} {mt : Nat → gD} {al : Bool} : ∀ (d d' : Nat), d ≤ d' → ∀ y as M Q Q', (∀ r M', Q r M' → Q' r M') → g_m S mt al d y as M Q → g_m S mt al d' y as M Q' := by
  intro d
  induction d with
  | zero => intro d' _ y as M Q Q' _ h; exact h.elim
  | succ d ih =>
    intro d' hd y as M Q Q' hQ h
    obtain ⟨e, rfl⟩ : ∃ e, d' = e + 1 := ⟨d' - 1, by omega⟩
    exact ⟨h.1, h.2.1, h.2.2.1, g_J_mono (fun y as M Q Q' hq z => ih e (by omega) y as M Q Q' hq z) hQ h.2.2.2⟩
/-- a block's begin, by its rows -/
theorem g_J_of {S : gS} {C : gC} {al : Bool} {md : gD} {Q : Option Value → gM → Prop} (hC : ∀ y as M Q Q', (∀ r M', Q r M' → Q' r M') → C y as M Q → C y as M Q') {k : Nat} {l : gL} {st : List Value} {M : gM} {c s : Nat}
    (h : g_wp S C al md.2.2.2.2.2.1.1 md.2.2.2.2.2.1.2 md.2.2.2.1 Q (g_J S C al md Q) (g_blk md k).2 (g_blk md k).1 l st M c s) : g_J S C al md Q k l st M c s := by
  intro P hP
  refine hP k l st M c s (g_wp_mono hC (fun _ _ z => z) (fun _ _ _ _ _ _ z => z P hP) _ _ _ _ _ _ h)
theorem g_J_m {S : gS} {mt : Nat → gD} {al : Bool} {d : Nat} {md : gD} {Q : Option Value → gM → Prop} {k : Nat} {l : gL} {st : List Value} {M : gM} {c s : Nat}
    (h : g_wp S (g_m S mt al d) al md.2.2.2.2.2.1.1 md.2.2.2.2.2.1.2 md.2.2.2.1 Q (g_J S (g_m S mt al d) al md Q) (g_blk md k).2 (g_blk md k).1 l st M c s) : g_J S (g_m S mt al d) al md Q k l st M c s :=
  g_J_of (fun y as M Q Q' hq z => g_m_mono d d (Nat.le_refl d) y as M Q Q' hq z) h
