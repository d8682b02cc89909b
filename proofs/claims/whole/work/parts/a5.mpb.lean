/-! the reference: the bridge, its queue -/
section MPB
variable {d p q h a k m n j v r i c u s w y e b t l z cnt ic tn flt pl tr o N : Nat} {E : gE} {I J K : Nat → Nat → Int32} {L L' : Nat → Nat → Int64} {tp R f f0 g g' : Nat → Nat} {T S V : zA} {U G : Nat → zA} {X Y Z x : Int32} {M : gM} {Q : Option Value → gM → Prop} {u1 u2 u3 : Option Int32}
def FrB (y : Nat) (I J : Nat → Nat → Int32) : Prop := (∀ c, c ≠ y → c ≠ y + 14 → c ≠ y + 15 → c ≠ y + 16 → c ≠ y + 17 → J c = I c) ∧ ∀ k, k < 38 → J y k = I y k
theorem FrB_rf : FrB y I I := ⟨fun _ _ _ _ _ _ => rfl, fun _ _ => rfl⟩
theorem FrB_tr (h1 : FrB y I J) (h2 : FrB y J K) : FrB y I K := ⟨fun c a1 a2 a3 a4 a5 => by rw [h2.1 c a1 a2 a3 a4 a5, h1.1 c a1 a2 a3 a4 a5], fun k hk => by rw [h2.2 k hk, h1.2 k hk]⟩
theorem FrB_FM (h : FrB y I J) : FM y I J := fun c hc => h.1 c (by omega) (by omega) (by omega) (by omega) (by omega)
theorem FrB_YB (h : FrB y I J) (hB : YB E I y T S) : YB E J y T S := YB_fr hB (h.1 _ (by omega) (by omega) (by omega) (by omega) (by omega)) (h.1 _ (by omega) (by omega) (by omega) (by omega) (by omega)) (h.2 14 (by omega))
theorem FrB_YO (h : FrB y I J) (hY : YO E I y T S cnt ic U G tn tp flt pl tr) : YO E J y T S cnt ic U G tn tp flt pl tr := YO_fr hY (fun k hk => h.2 k (by omega)) (fun c hc => h.1 c (by omega) (by omega) (by omega) (by omega) (by omega)) ⟨by rw [h.2 11 (by omega)]; exact hY.2.2.2.2.2.2.2.2.2.2.1, hY.2.2.2.2.2.2.2.2.2.2.2⟩ id
theorem FrB_u (hc : c = y + 14 ∨ c = y + 15 ∨ c = y + 16 ∨ c = y + 17) {f : Nat → Int32} : FrB y I (gU I c f) := ⟨fun c' a1 a2 a3 a4 a5 => gU_oth (by omega), fun k hk => by rw [gU_oth (by omega)]⟩
theorem FrB_y (hk : 38 ≤ k) : FrB y I (gU I y (upd (I y) k x)) := ⟨fun c' a1 a2 a3 a4 a5 => gU_oth a1, fun k' hk' => by rw [gU_same, upd_oth (by omega)]⟩
theorem isQ_app (h : isQ T S 0 i n f) (h0 : S 0 i ≠ 0) : isQ T S 0 (i + 1) (n + 1) (fup f n i) := by
  obtain ⟨a1, a2, a3⟩ := h
  refine ⟨fun j hj => ?_, fun p hp hp2 => ?_, fun j j' hj hj' => ?_⟩
  · by_cases e : j = n
    · rw [e, fup_at]; exact ⟨by omega, h0⟩
    · rw [fup_oth e]; have := a1 j (by omega); exact ⟨by omega, this.2⟩
  · by_cases e : p = i
    · exact ⟨n, by omega, by rw [fup_at, e]⟩
    · obtain ⟨j, c1, c2⟩ := a2 p (by omega) hp2
      exact ⟨j, by omega, by rw [fup_oth (by omega)]; exact c2⟩
  · rw [fup_oth (show j ≠ n by omega)]
    by_cases e : j' = n
    · rw [e, fup_at]
      have := (a1 j (by omega)).1
      unfold cfP; omega
    · rw [fup_oth e]; exact a3 j j' hj (by omega)
theorem isQ_ex (N : Nat) : ∃ f, isQ T S o N (zWn S N) f := by
  induction N with
  | zero => exact ⟨fun _ => 0, fun i hi => absurd hi (Nat.not_lt_zero _), fun p hp => absurd hp (Nat.not_lt_zero _), fun i j _ hj => absurd hj (Nat.not_lt_zero _)⟩
  | succ N ih =>
    obtain ⟨f, hf⟩ := ih
    rw [zWn_s]
    by_cases e : S 0 N = 0
    · rw [if_pos e]; exact ⟨f, isQ_skip hf e⟩
    · rw [if_neg e]
      have hk : ∀ n, n ≤ zWn S N → (∀ j, n ≤ j → j < zWn S N → gaP T o N (f j)) → ∃ k, k ≤ zWn S N ∧ (∀ j, k ≤ j → j < zWn S N → gaP T o N (f j)) ∧ (k = 0 ∨ ¬ gaP T o N (f (k - 1))) := by
        intro n
        induction n with
        | zero => intro h1 h2; exact ⟨0, h1, h2, Or.inl rfl⟩
        | succ n ihn =>
          intro h1 h2
          by_cases hg : gaP T o N (f n)
          · refine ihn (by omega) (fun j h3 h4 => ?_)
            by_cases e : j = n
            · rw [e]; exact hg
            · exact h2 j (by omega) h4
          · exact ⟨n + 1, h1, h2, Or.inr hg⟩
      obtain ⟨k, k1, k2, k3⟩ := hk (zWn S N) (Nat.le_refl _) (fun j h1 h2 => absurd h2 (by omega))
      exact ⟨insF f k N, isQ_ins hf e k1 k2 k3⟩
def cfB (T : zA) (o p q : Nat) : Bool := decide ((o = 1 ∧ T 10 p < T 10 q) ∨ (o = 2 ∧ T 10 q < T 10 p) ∨ ((o = 1 → T 10 p = T 10 q) ∧ (o = 2 → T 10 p = T 10 q) ∧ p < q))
theorem cfB_iff : cfB T o p q = true ↔ cfP T o p q := decide_eq_true_iff
/-- the first of those not gone -/
def selN (T : zA) (o : Nat) (w : Nat → Nat) (gn : Nat → Bool) : Nat → Nat
  | 0 => 0
  | k + 1 => if gn (w k) then selN T o w gn k else if selN T o w gn k = 0 ∨ cfB T o (w k) (selN T o w gn k - 1) = true then w k + 1 else selN T o w gn k
theorem sel_inv {gn : Nat → Bool} {w' : Nat → Nat} : ∀ k, (selN T o w' gn k = 0 → ∀ j, j < k → gn (w' j) = true) ∧ (∀ p, selN T o w' gn k = p + 1 → (∃ j, j < k ∧ w' j = p) ∧ gn p = false ∧ ∀ j, j < k → gn (w' j) = false → w' j ≠ p → cfP T o p (w' j)) := by
  intro k
  induction k with
  | zero => exact ⟨fun _ j hj => absurd hj (Nat.not_lt_zero _), (fun p h => nomatch h)⟩
  | succ k ih =>
    obtain ⟨i1, i2⟩ := ih
    simp only [selN]
    by_cases hg : gn (w' k) = true
    · rw [if_pos hg]
      refine ⟨fun h j hj => ?_, fun p h => ?_⟩
      · by_cases e : j = k
        · rw [e]; exact hg
        · exact i1 h j (by omega)
      · obtain ⟨⟨j0, h1, h2⟩, h3, h4⟩ := i2 p h
        refine ⟨⟨j0, by omega, h2⟩, h3, fun j hj hgj hne => ?_⟩
        by_cases e : j = k
        · rw [e, hg] at hgj; cases hgj
        · exact h4 j (by omega) hgj hne
    · rw [if_neg hg]
      have hg : gn (w' k) = false := by simpa using hg
      by_cases hc : selN T o w' gn k = 0 ∨ cfB T o (w' k) (selN T o w' gn k - 1) = true
      · rw [if_pos hc]
        refine ⟨fun h => absurd h (by omega), fun p h => ?_⟩
        have hp : w' k = p := by omega
        refine ⟨⟨k, by omega, hp⟩, by rw [← hp]; exact hg, fun j hj hgj hne => ?_⟩
        by_cases e : j = k
        · rw [e] at hne; exact absurd hp hne
        · rcases hc with hc | hc
          · rw [i1 hc j (by omega)] at hgj; cases hgj
          · obtain ⟨p0, e0⟩ : ∃ p0, selN T o w' gn k = p0 + 1 := by
              cases hs : selN T o w' gn k with
              | zero => rw [i1 hs j (by omega)] at hgj; cases hgj
              | succ p0 => exact ⟨p0, rfl⟩
            rw [e0, Nat.add_sub_cancel, cfB_iff, hp] at hc
            by_cases e5 : w' j = p0
            · rw [e5]; exact hc
            · exact cf_tr hc ((i2 p0 e0).2.2 j (by omega) hgj e5)
      · rw [if_neg hc]
        have h0 : selN T o w' gn k ≠ 0 := fun h => hc (Or.inl h)
        refine ⟨fun h => absurd h h0, fun p h => ?_⟩
        obtain ⟨⟨j0, h1, h2⟩, h3, h4⟩ := i2 p h
        refine ⟨⟨j0, by omega, h2⟩, h3, fun j hj hgj hne => ?_⟩
        by_cases e : j = k
        · rw [e] at hne ⊢
          have h5 : ¬ cfP T o (w' k) p := fun h6 => hc (Or.inr (by rw [h, Nat.add_sub_cancel, cfB_iff]; exact h6))
          exact (cf_tot hne).resolve_left h5
        · exact h4 j (by omega) hgj hne
theorem sel_at (hq : isQ T S o N n f) (hw : isQ T S 0 N n f0) (hi : i < n) : selN T o f0 (fun q => anyN (fun j => f j == q) i) n = f i + 1 := by
  obtain ⟨s1, s2⟩ := sel_inv (T := T) (o := o) (w' := f0) (gn := fun q => anyN (fun j => f j == q) i) n
  have hgi : anyN (fun j => f j == f i) i = false := by
    rw [← Bool.not_eq_true, anyN_iff]
    rintro ⟨j, h1, h2⟩
    have h3 := hq.2.2 j i h1 hi
    rw [beq_iff_eq.mp h2] at h3
    exact cf_irr h3
  obtain ⟨ji, hji, hji2⟩ := hw.2.1 (f i) (hq.1 i hi).1 (hq.1 i hi).2
  cases hs : selN T o f0 (fun q => anyN (fun j => f j == q) i) n with
  | zero =>
    have := s1 hs ji hji
    rw [hji2] at this
    have h2 : anyN (fun j => f j == f i) i = true := this
    rw [hgi] at h2; cases h2
  | succ p =>
    obtain ⟨⟨j0, h1, h2⟩, h3, h4⟩ := s2 p hs
    obtain ⟨i', hi', ei'⟩ := hq.2.1 p (by rw [← h2]; exact (hw.1 j0 h1).1) (by rw [← h2]; exact (hw.1 j0 h1).2)
    have hge : ¬ i' < i := fun h => by
      have : anyN (fun j => f j == p) i = true := anyN_iff.mpr ⟨i', h, beq_iff_eq.mpr ei'⟩
      have h3' : anyN (fun j => f j == p) i = false := h3
      rw [this] at h3'; cases h3'
    by_cases e : i' = i
    · rw [← ei', e]
    · exfalso
      have h5 := hq.2.2 i i' (by omega) hi'
      rw [ei'] at h5
      have h6 := h4 ji hji (by rw [hji2]; exact hgi) (by rw [hji2]; intro h7; rw [h7] at h5; exact cf_irr h5)
      rw [hji2] at h6
      exact cf_asym h5 h6
theorem mo_layWalkers (hB : YB E I y T S) (hQ : ∀ J f, isQ T S 0 (zP T) (zWn S (zP T)) f → (∀ j, j < zWn S (zP T) → J (y + 14) j = nI (f j)) → J y 38 = nI (zWn S (zP T)) → FrB y I J → Q none (E, J, L)) : gm (d + 3) 309 [.ref y] (E, I, L) Q := by
  obtain ⟨hl, hz, hD, hS, h14⟩ := id hB
  obtain ⟨lm0, lm1, lm2, lm3, lm4, lm5, lm6, lm7, lm8, lm9, lm10, lm11, lm12, lm13, lm14, lm15, lm16, lm17, lm18, lm19, lm20, lm21, lm22, lm23, lm24, lm25, lm26, lm27, lm28, lm29, lm30, lm31, lm32, lm33, lm34⟩ := id hl
  have z1 := hz.2.1
  have z2 := hz.2.2.1
  have zSS := hS.2.2.2.2.2.2.2.2
  have key : ∀ i, i ≤ zP T → ∀ J f, isQ T S 0 i (zWn S i) f → (∀ j, j < zWn S i → J (y + 14) j = nI (f j)) → J y 38 = nI (zWn S i) → FrB y I J → gj (d + 2) md_Model_layWalkers Q 1 [some (.ref y), some (.int (nI i))] [] (E, J, L) := by
    refine up_ind ?_ (fun i hi ih => ?_)
    · intro J f h1 h2 h3 h4
      have hBJ := FrB_YB h4 hB
      have y5 := hBJ.2.2.1.2.2.2.2.2.1
      rw [b_Model_layWalkers_1]
      simp (disch := omega) only [ws_nil, ws_iconst, ws_bipush, ws_sipush, ws_lconst, ws_ldc_i, ws_ldc_s, ws_ldc_w_i, ws_ldc_w_s, ws_iload_0, ws_lload_0, ws_aload_0, ws_istore_0, ws_lstore_0, ws_astore_0, ws_iload_1, ws_lload_1, ws_aload_1, ws_istore_1, ws_lstore_1, ws_astore_1, ws_iload_2, ws_lload_2, ws_aload_2, ws_istore_2, ws_lstore_2, ws_astore_2, ws_iload_3, ws_lload_3, ws_aload_3, ws_istore_3, ws_lstore_3, ws_astore_3, ws_iload, ws_aload, ws_istore, ws_astore, ws_iinc, ws_iadd, ws_isub, ws_imul, ws_iand, ws_ior, ws_ixor, ws_ishl, ws_ishr, ws_iushr, ws_idiv, ws_irem, ws_ineg, ws_i2l, ws_l2i, ws_ladd, ws_lmul, ws_lcmp, ws_dup_i, ws_pop_i, ws_dup_r, ws_pop_r, ws_dup2, ws_if_eq, ws_icmp_eq, ws_if_ne, ws_icmp_ne, ws_if_lt, ws_icmp_lt, ws_if_ge, ws_icmp_ge, ws_if_gt, ws_icmp_gt, ws_if_le, ws_icmp_le, ws_goto, ws_table, ws_get_0, ws_get_1, ws_get_2, ws_get_3, ws_put_0, ws_put_1, ws_put_2, ws_put_3, ws_iaload, ws_laload, ws_aaload, ws_iastore, ws_lastore, ws_alen, ws_ret_int, ws_ret_boolean, ws_ret_long, ws_ret_ref, ws_ret_void, ws_iv_0, ws_iv_1, ws_iv_2, ws_iv_3, ws_iv_4, ws_iv_5, ws_is_1, ws_is_2, ws_is_3, ws_is_4, ws_is_5, ws_slen, ws_schar, ws_max, ws_min, ws_copy, go_some, g_li_0, g_li_1, g_li_2, g_li_3, g_li_4, g_li_5, g_li_6, g_li_7, g_li_8, g_li_9, g_li_10, g_li_11, g_li_12, g_li_13, g_li_14, g_li_15, g_li_16, g_li_17, g_li_18, g_li_19, g_ll_0, g_ll_1, g_ll_2, g_ll_3, g_ll_4, g_ll_5, g_ll_6, g_ll_7, g_ll_8, g_ll_9, g_lr_0, g_lr_1, g_lr_2, g_lr_3, g_lr_4, g_lr_5, g_lr_6, g_lr_7, g_lr_8, g_lr_9, g_st_0, g_st_1i, g_st_1r, g_st_1n, g_st_1o, g_st_2, g_st_3, g_st_4, g_st_5, g_st_6, g_st_7, g_st_8, g_st_9, g_st_10, g_st_11, g_st_12, g_st_13, g_st_14, g_st_15, g_st_16, g_st_17, g_st_18, g_st_19, g_st2_1, gN_0, gN_1, gN_2, gN_3, gN_4, gN_5, gN_6, gN_7, gN_8, gN_9, to_some, to_none, ci_m2, ci_m1, ci_0, ci_1, ci_2, ci_3, ci_4, ci_5, cb_m2, cb_6, cb_7, cb_8, cb_9, cb_10, cb_11, cb_12, cb_13, cb_16, cb_20, cb_24, cb_27, cb_30, cb_32, cb_40, cb_41, cb_42, cb_48, cb_57, cb_59, cb_60, cb_63, cb_74, cb_75, cb_80, cb_90, cb_97, cb_99, cb_100, cb_120, cb_122, cs_130, cs_150, cs_162, cs_180, cs_190, cs_202, cs_214, cs_230, cs_255, cs_262, cs_358, cs_410, cs_786, cs_900, cs_2882, cs_3144, cs_4096, ci_m8, gb_n, gb_i1, gb_r1, gb_i2, gb_r2, gb_l2, gb_i3, gb_r3, gb_l3, gb_i4, gb_r4, gb_l4, gb_i5, gb_r5, gb_l5, gb_i6, gb_r6, gb_l6, gb_i7, gb_r7, gb_l7, gb_i8, gb_r8, gb_l8, Nat.reduceAdd, Nat.reduceSub, Nat.reduceLeDiff, List.length_nil, List.length_cons, true_and, and_true, Nat.reduceMul, Nat.reduceLT, Nat.reduceEqDiff, b_Model_layWalkers_4, lm0, lm1, lm2, lm3, lm4, lm5, lm6, lm7, lm8, lm9, lm10, lm11, lm12, lm13, lm14, lm15, lm16, lm17, lm18, lm19, lm20, lm21, lm22, lm23, lm24, lm25, lm26, lm27, lm28, lm29, lm30, lm31, lm32, lm33, lm34, y5, n_ite, n_lt, n_le, n_eq, n_lt0, n_ge0, n_gt0, n_le0, n_eq0, n_eq1, n_cl, n_in, n_add, n_mul, n_sub, n_and, n_or, n_shl, n_shr, n_m2lt0, n_m2ge0, n_m1lt0, n_m1ge0, n_mlt, n_m2ne, n_m2ne', n_m1ne, n_m1ne', not_true_eq_false, not_false_eq_true, false_implies, true_implies, and_self, true_and, and_true, Nat.not_lt, Nat.not_le, true_or, or_true, false_or, or_false, ne_eq, Nat.le_refl, Nat.lt_irrefl, implies_true, Nat.zero_add, Nat.add_zero, Classical.not_not]
      exact hQ J f h1 h2 h3 h4
    · intro J f h1 h2 h3 h4
      have hBJ := FrB_YB h4 hB
      have y5 := hBJ.2.2.1.2.2.2.2.2.1
      have hwl := zWn_le (S := S) i
      have hsb := (zSS.1 i hi).1
      rw [zWn_s] at ih
      rw [b_Model_layWalkers_1]
      by_cases e : S 0 i = 0
      · rw [if_pos e, Nat.add_zero] at ih
        have ih2 := ih J f (isQ_skip h1 e) h2 h3 h4
        have hb := fun d Q => mo_bedNow (d := d) (L := L) (Q := Q) hBJ hi
        rw [e, mv_0] at hb
        simp (disch := omega) only [ws_nil, ws_iconst, ws_bipush, ws_sipush, ws_lconst, ws_ldc_i, ws_ldc_s, ws_ldc_w_i, ws_ldc_w_s, ws_iload_0, ws_lload_0, ws_aload_0, ws_istore_0, ws_lstore_0, ws_astore_0, ws_iload_1, ws_lload_1, ws_aload_1, ws_istore_1, ws_lstore_1, ws_astore_1, ws_iload_2, ws_lload_2, ws_aload_2, ws_istore_2, ws_lstore_2, ws_astore_2, ws_iload_3, ws_lload_3, ws_aload_3, ws_istore_3, ws_lstore_3, ws_astore_3, ws_iload, ws_aload, ws_istore, ws_astore, ws_iinc, ws_iadd, ws_isub, ws_imul, ws_iand, ws_ior, ws_ixor, ws_ishl, ws_ishr, ws_iushr, ws_idiv, ws_irem, ws_ineg, ws_i2l, ws_l2i, ws_ladd, ws_lmul, ws_lcmp, ws_dup_i, ws_pop_i, ws_dup_r, ws_pop_r, ws_dup2, ws_if_eq, ws_icmp_eq, ws_if_ne, ws_icmp_ne, ws_if_lt, ws_icmp_lt, ws_if_ge, ws_icmp_ge, ws_if_gt, ws_icmp_gt, ws_if_le, ws_icmp_le, ws_goto, ws_table, ws_get_0, ws_get_1, ws_get_2, ws_get_3, ws_put_0, ws_put_1, ws_put_2, ws_put_3, ws_iaload, ws_laload, ws_aaload, ws_iastore, ws_lastore, ws_alen, ws_ret_int, ws_ret_boolean, ws_ret_long, ws_ret_ref, ws_ret_void, ws_iv_0, ws_iv_1, ws_iv_2, ws_iv_3, ws_iv_4, ws_iv_5, ws_is_1, ws_is_2, ws_is_3, ws_is_4, ws_is_5, ws_slen, ws_schar, ws_max, ws_min, ws_copy, go_some, g_li_0, g_li_1, g_li_2, g_li_3, g_li_4, g_li_5, g_li_6, g_li_7, g_li_8, g_li_9, g_li_10, g_li_11, g_li_12, g_li_13, g_li_14, g_li_15, g_li_16, g_li_17, g_li_18, g_li_19, g_ll_0, g_ll_1, g_ll_2, g_ll_3, g_ll_4, g_ll_5, g_ll_6, g_ll_7, g_ll_8, g_ll_9, g_lr_0, g_lr_1, g_lr_2, g_lr_3, g_lr_4, g_lr_5, g_lr_6, g_lr_7, g_lr_8, g_lr_9, g_st_0, g_st_1i, g_st_1r, g_st_1n, g_st_1o, g_st_2, g_st_3, g_st_4, g_st_5, g_st_6, g_st_7, g_st_8, g_st_9, g_st_10, g_st_11, g_st_12, g_st_13, g_st_14, g_st_15, g_st_16, g_st_17, g_st_18, g_st_19, g_st2_1, gN_0, gN_1, gN_2, gN_3, gN_4, gN_5, gN_6, gN_7, gN_8, gN_9, to_some, to_none, ci_m2, ci_m1, ci_0, ci_1, ci_2, ci_3, ci_4, ci_5, cb_m2, cb_6, cb_7, cb_8, cb_9, cb_10, cb_11, cb_12, cb_13, cb_16, cb_20, cb_24, cb_27, cb_30, cb_32, cb_40, cb_41, cb_42, cb_48, cb_57, cb_59, cb_60, cb_63, cb_74, cb_75, cb_80, cb_90, cb_97, cb_99, cb_100, cb_120, cb_122, cs_130, cs_150, cs_162, cs_180, cs_190, cs_202, cs_214, cs_230, cs_255, cs_262, cs_358, cs_410, cs_786, cs_900, cs_2882, cs_3144, cs_4096, ci_m8, gb_n, gb_i1, gb_r1, gb_i2, gb_r2, gb_l2, gb_i3, gb_r3, gb_l3, gb_i4, gb_r4, gb_l4, gb_i5, gb_r5, gb_l5, gb_i6, gb_r6, gb_l6, gb_i7, gb_r7, gb_l7, gb_i8, gb_r8, gb_l8, Nat.reduceAdd, Nat.reduceSub, Nat.reduceLeDiff, List.length_nil, List.length_cons, true_and, and_true, Nat.reduceMul, Nat.reduceLT, Nat.reduceEqDiff, b_Model_layWalkers_3, lm0, lm1, lm2, lm3, lm4, lm5, lm6, lm7, lm8, lm9, lm10, lm11, lm12, lm13, lm14, lm15, lm16, lm17, lm18, lm19, lm20, lm21, lm22, lm23, lm24, lm25, lm26, lm27, lm28, lm29, lm30, lm31, lm32, lm33, lm34, y5, hb, n_ite, n_lt, n_le, n_eq, n_lt0, n_ge0, n_gt0, n_le0, n_eq0, n_eq1, n_cl, n_in, n_add, n_mul, n_sub, n_and, n_or, n_shl, n_shr, n_m2lt0, n_m2ge0, n_m1lt0, n_m1ge0, n_mlt, n_m2ne, n_m2ne', n_m1ne, n_m1ne', not_true_eq_false, not_false_eq_true, false_implies, true_implies, and_self, true_and, and_true, Nat.not_lt, Nat.not_le, true_or, or_true, false_or, or_false, ne_eq, Nat.le_refl, Nat.lt_irrefl, implies_true, Nat.zero_add, Nat.add_zero, Classical.not_not]
        exact ⟨fun z => by omega, fun _ => ih2⟩
      · rw [if_neg e] at ih
        obtain ⟨k, ek⟩ : ∃ k, S 0 i = k + 1 := ⟨S 0 i - 1, by omega⟩
        have hb := fun d Q => mo_bedNow (d := d) (L := L) (Q := Q) hBJ hi
        rw [ek, mv_s] at hb
        have ih2 := ih (gU (gU J (y + 14) (upd (J (y + 14)) (zWn S i) (nI i))) y (upd (J y) 38 (nI (zWn S i + 1)))) (fup f (zWn S i) i) (isQ_app h1 e) (fun j hj => by
          rw [gU_oth (by omega), gU_same]
          by_cases e2 : j = zWn S i
          · rw [e2, upd_same, fup_at]
          · rw [upd_oth e2, fup_oth e2]; exact h2 j (by omega)) (by rw [gU_same, upd_same]) (FrB_tr h4 ⟨fun c a1 a2 a3 a4 a5 => by rw [gU_oth a1, gU_oth a2], fun k hk => by rw [gU_same, upd_oth (by omega)]⟩)
        simp (disch := omega) only [ws_nil, ws_iconst, ws_bipush, ws_sipush, ws_lconst, ws_ldc_i, ws_ldc_s, ws_ldc_w_i, ws_ldc_w_s, ws_iload_0, ws_lload_0, ws_aload_0, ws_istore_0, ws_lstore_0, ws_astore_0, ws_iload_1, ws_lload_1, ws_aload_1, ws_istore_1, ws_lstore_1, ws_astore_1, ws_iload_2, ws_lload_2, ws_aload_2, ws_istore_2, ws_lstore_2, ws_astore_2, ws_iload_3, ws_lload_3, ws_aload_3, ws_istore_3, ws_lstore_3, ws_astore_3, ws_iload, ws_aload, ws_istore, ws_astore, ws_iinc, ws_iadd, ws_isub, ws_imul, ws_iand, ws_ior, ws_ixor, ws_ishl, ws_ishr, ws_iushr, ws_idiv, ws_irem, ws_ineg, ws_i2l, ws_l2i, ws_ladd, ws_lmul, ws_lcmp, ws_dup_i, ws_pop_i, ws_dup_r, ws_pop_r, ws_dup2, ws_if_eq, ws_icmp_eq, ws_if_ne, ws_icmp_ne, ws_if_lt, ws_icmp_lt, ws_if_ge, ws_icmp_ge, ws_if_gt, ws_icmp_gt, ws_if_le, ws_icmp_le, ws_goto, ws_table, ws_get_0, ws_get_1, ws_get_2, ws_get_3, ws_put_0, ws_put_1, ws_put_2, ws_put_3, ws_iaload, ws_laload, ws_aaload, ws_iastore, ws_lastore, ws_alen, ws_ret_int, ws_ret_boolean, ws_ret_long, ws_ret_ref, ws_ret_void, ws_iv_0, ws_iv_1, ws_iv_2, ws_iv_3, ws_iv_4, ws_iv_5, ws_is_1, ws_is_2, ws_is_3, ws_is_4, ws_is_5, ws_slen, ws_schar, ws_max, ws_min, ws_copy, go_some, g_li_0, g_li_1, g_li_2, g_li_3, g_li_4, g_li_5, g_li_6, g_li_7, g_li_8, g_li_9, g_li_10, g_li_11, g_li_12, g_li_13, g_li_14, g_li_15, g_li_16, g_li_17, g_li_18, g_li_19, g_ll_0, g_ll_1, g_ll_2, g_ll_3, g_ll_4, g_ll_5, g_ll_6, g_ll_7, g_ll_8, g_ll_9, g_lr_0, g_lr_1, g_lr_2, g_lr_3, g_lr_4, g_lr_5, g_lr_6, g_lr_7, g_lr_8, g_lr_9, g_st_0, g_st_1i, g_st_1r, g_st_1n, g_st_1o, g_st_2, g_st_3, g_st_4, g_st_5, g_st_6, g_st_7, g_st_8, g_st_9, g_st_10, g_st_11, g_st_12, g_st_13, g_st_14, g_st_15, g_st_16, g_st_17, g_st_18, g_st_19, g_st2_1, gN_0, gN_1, gN_2, gN_3, gN_4, gN_5, gN_6, gN_7, gN_8, gN_9, to_some, to_none, ci_m2, ci_m1, ci_0, ci_1, ci_2, ci_3, ci_4, ci_5, cb_m2, cb_6, cb_7, cb_8, cb_9, cb_10, cb_11, cb_12, cb_13, cb_16, cb_20, cb_24, cb_27, cb_30, cb_32, cb_40, cb_41, cb_42, cb_48, cb_57, cb_59, cb_60, cb_63, cb_74, cb_75, cb_80, cb_90, cb_97, cb_99, cb_100, cb_120, cb_122, cs_130, cs_150, cs_162, cs_180, cs_190, cs_202, cs_214, cs_230, cs_255, cs_262, cs_358, cs_410, cs_786, cs_900, cs_2882, cs_3144, cs_4096, ci_m8, gb_n, gb_i1, gb_r1, gb_i2, gb_r2, gb_l2, gb_i3, gb_r3, gb_l3, gb_i4, gb_r4, gb_l4, gb_i5, gb_r5, gb_l5, gb_i6, gb_r6, gb_l6, gb_i7, gb_r7, gb_l7, gb_i8, gb_r8, gb_l8, Nat.reduceAdd, Nat.reduceSub, Nat.reduceLeDiff, List.length_nil, List.length_cons, true_and, and_true, Nat.reduceMul, Nat.reduceLT, Nat.reduceEqDiff, b_Model_layWalkers_2, b_Model_layWalkers_3, lm0, lm1, lm2, lm3, lm4, lm5, lm6, lm7, lm8, lm9, lm10, lm11, lm12, lm13, lm14, lm15, lm16, lm17, lm18, lm19, lm20, lm21, lm22, lm23, lm24, lm25, lm26, lm27, lm28, lm29, lm30, lm31, lm32, lm33, lm34, y5, hb, h3, gU_oth, n_ite, n_lt, n_le, n_eq, n_lt0, n_ge0, n_gt0, n_le0, n_eq0, n_eq1, n_cl, n_in, n_add, n_mul, n_sub, n_and, n_or, n_shl, n_shr, n_m2lt0, n_m2ge0, n_m1lt0, n_m1ge0, n_mlt, n_m2ne, n_m2ne', n_m1ne, n_m1ne', not_true_eq_false, not_false_eq_true, false_implies, true_implies, and_self, true_and, and_true, Nat.not_lt, Nat.not_le, true_or, or_true, false_or, or_false, ne_eq, Nat.le_refl, Nat.lt_irrefl, implies_true, Nat.zero_add, Nat.add_zero, Classical.not_not]
        exact ⟨fun z => by omega, fun _ => ⟨by omega, ih2⟩⟩
  have k0 := key 0 (Nat.zero_le _) (gU I y (upd (I y) 38 (nI 0))) (fun _ => 0) ⟨fun i hi => absurd hi (Nat.not_lt_zero _), fun p hp => absurd hp (Nat.not_lt_zero _), fun i j _ hj => absurd hj (Nat.not_lt_zero _)⟩ (fun j hj => absurd hj (Nat.not_lt_zero _)) (by rw [gU_same, upd_same]; rfl) (FrB_y (by omega))
  rw [en_Model_layWalkers]
  simp (disch := omega) only [ws_nil, ws_iconst, ws_bipush, ws_sipush, ws_lconst, ws_ldc_i, ws_ldc_s, ws_ldc_w_i, ws_ldc_w_s, ws_iload_0, ws_lload_0, ws_aload_0, ws_istore_0, ws_lstore_0, ws_astore_0, ws_iload_1, ws_lload_1, ws_aload_1, ws_istore_1, ws_lstore_1, ws_astore_1, ws_iload_2, ws_lload_2, ws_aload_2, ws_istore_2, ws_lstore_2, ws_astore_2, ws_iload_3, ws_lload_3, ws_aload_3, ws_istore_3, ws_lstore_3, ws_astore_3, ws_iload, ws_aload, ws_istore, ws_astore, ws_iinc, ws_iadd, ws_isub, ws_imul, ws_iand, ws_ior, ws_ixor, ws_ishl, ws_ishr, ws_iushr, ws_idiv, ws_irem, ws_ineg, ws_i2l, ws_l2i, ws_ladd, ws_lmul, ws_lcmp, ws_dup_i, ws_pop_i, ws_dup_r, ws_pop_r, ws_dup2, ws_if_eq, ws_icmp_eq, ws_if_ne, ws_icmp_ne, ws_if_lt, ws_icmp_lt, ws_if_ge, ws_icmp_ge, ws_if_gt, ws_icmp_gt, ws_if_le, ws_icmp_le, ws_goto, ws_table, ws_get_0, ws_get_1, ws_get_2, ws_get_3, ws_put_0, ws_put_1, ws_put_2, ws_put_3, ws_iaload, ws_laload, ws_aaload, ws_iastore, ws_lastore, ws_alen, ws_ret_int, ws_ret_boolean, ws_ret_long, ws_ret_ref, ws_ret_void, ws_iv_0, ws_iv_1, ws_iv_2, ws_iv_3, ws_iv_4, ws_iv_5, ws_is_1, ws_is_2, ws_is_3, ws_is_4, ws_is_5, ws_slen, ws_schar, ws_max, ws_min, ws_copy, go_some, g_li_0, g_li_1, g_li_2, g_li_3, g_li_4, g_li_5, g_li_6, g_li_7, g_li_8, g_li_9, g_li_10, g_li_11, g_li_12, g_li_13, g_li_14, g_li_15, g_li_16, g_li_17, g_li_18, g_li_19, g_ll_0, g_ll_1, g_ll_2, g_ll_3, g_ll_4, g_ll_5, g_ll_6, g_ll_7, g_ll_8, g_ll_9, g_lr_0, g_lr_1, g_lr_2, g_lr_3, g_lr_4, g_lr_5, g_lr_6, g_lr_7, g_lr_8, g_lr_9, g_st_0, g_st_1i, g_st_1r, g_st_1n, g_st_1o, g_st_2, g_st_3, g_st_4, g_st_5, g_st_6, g_st_7, g_st_8, g_st_9, g_st_10, g_st_11, g_st_12, g_st_13, g_st_14, g_st_15, g_st_16, g_st_17, g_st_18, g_st_19, g_st2_1, gN_0, gN_1, gN_2, gN_3, gN_4, gN_5, gN_6, gN_7, gN_8, gN_9, to_some, to_none, ci_m2, ci_m1, ci_0, ci_1, ci_2, ci_3, ci_4, ci_5, cb_m2, cb_6, cb_7, cb_8, cb_9, cb_10, cb_11, cb_12, cb_13, cb_16, cb_20, cb_24, cb_27, cb_30, cb_32, cb_40, cb_41, cb_42, cb_48, cb_57, cb_59, cb_60, cb_63, cb_74, cb_75, cb_80, cb_90, cb_97, cb_99, cb_100, cb_120, cb_122, cs_130, cs_150, cs_162, cs_180, cs_190, cs_202, cs_214, cs_230, cs_255, cs_262, cs_358, cs_410, cs_786, cs_900, cs_2882, cs_3144, cs_4096, ci_m8, gb_n, gb_i1, gb_r1, gb_i2, gb_r2, gb_l2, gb_i3, gb_r3, gb_l3, gb_i4, gb_r4, gb_l4, gb_i5, gb_r5, gb_l5, gb_i6, gb_r6, gb_l6, gb_i7, gb_r7, gb_l7, gb_i8, gb_r8, gb_l8, Nat.reduceAdd, Nat.reduceSub, Nat.reduceLeDiff, List.length_nil, List.length_cons, true_and, and_true, Nat.reduceMul, Nat.reduceLT, Nat.reduceEqDiff, b_Model_layWalkers_0, lm0, lm1, lm2, lm3, lm4, lm5, lm6, lm7, lm8, lm9, lm10, lm11, lm12, lm13, lm14, lm15, lm16, lm17, lm18, lm19, lm20, lm21, lm22, lm23, lm24, lm25, lm26, lm27, lm28, lm29, lm30, lm31, lm32, lm33, lm34, n_ite, n_lt, n_le, n_eq, n_lt0, n_ge0, n_gt0, n_le0, n_eq0, n_eq1, n_cl, n_in, n_add, n_mul, n_sub, n_and, n_or, n_shl, n_shr, n_m2lt0, n_m2ge0, n_m1lt0, n_m1ge0, n_mlt, n_m2ne, n_m2ne', n_m1ne, n_m1ne', not_true_eq_false, not_false_eq_true, false_implies, true_implies, and_self, true_and, and_true, Nat.not_lt, Nat.not_le, true_or, or_true, false_or, or_false, ne_eq, Nat.le_refl, Nat.lt_irrefl, implies_true, Nat.zero_add, Nat.add_zero, Classical.not_not]
  exact k0
theorem mo_comesFirst (hB : YB E I y T S) (hp : p < zP T) (hq : q < zP T) (ho : o < 3) : gm (d + 2) 313 [.ref y, .int (nI p), .int (nI q), .int (nI o)] (E, I, L) Q = Q (some (.int (nI (cfB T o p q).toNat))) (E, I, L) := by
  refine gm_eq (fun Q hQ => ?_) Q
  obtain ⟨hl, hz, hD, hS, h14⟩ := id hB
  obtain ⟨lm0, lm1, lm2, lm3, lm4, lm5, lm6, lm7, lm8, lm9, lm10, lm11, lm12, lm13, lm14, lm15, lm16, lm17, lm18, lm19, lm20, lm21, lm22, lm23, lm24, lm25, lm26, lm27, lm28, lm29, lm30, lm31, lm32, lm33, lm34⟩ := id hl
  obtain ⟨yd0, yd1, yd2, yd3, yd4, yd5, yd6, yd7, yd8, yd9, yd10, yd11, yd12, yd13, yd14, yd15, yd16, yd17, yd18, yd19, yd20, yd21, yd22, yd23, yd24, yd25, yd26⟩ := id hD
  have z2 := hz.2.2.1
  have o10 : ∀ (d : Nat) (Q : Option Value → gM → Prop) (q : Nat), q < zP T → gm (d + 1) 248 [.ref y, .int (nI q), .int (nI 2)] (E, I, L) Q = Q (some (.int (nI (T 10 q)))) (E, I, L) := fun d Q q hq => by rw [mo_manOf hl (show 30 + 5 * q + 2 < 358 by omega), yd17 q hq]
  have a1 := (hz.2.2.2.2.2.2.2.1 p hp).2.2.2.1
  have a2 := (hz.2.2.2.2.2.2.2.1 q hq).2.2.2.1
  have hT : cfP T o p q → Q (some (.int (nI 1))) (E, I, L) := fun h => by rw [cfB_iff.mpr h] at hQ; exact hQ
  have hF : ¬ cfP T o p q → Q (some (.int (nI 0))) (E, I, L) := fun h => by
    have : cfB T o p q = false := by rw [← Bool.not_eq_true, cfB_iff]; exact h
    rw [this] at hQ; exact hQ
  unfold cfP at hT hF
  rw [en_Model_comesFirst]
  rcases (show o = 0 ∨ o = 1 ∨ o = 2 by omega) with e | e | e
  · subst e
    simp (disch := omega) only [ws_nil, ws_iconst, ws_bipush, ws_sipush, ws_lconst, ws_ldc_i, ws_ldc_s, ws_ldc_w_i, ws_ldc_w_s, ws_iload_0, ws_lload_0, ws_aload_0, ws_istore_0, ws_lstore_0, ws_astore_0, ws_iload_1, ws_lload_1, ws_aload_1, ws_istore_1, ws_lstore_1, ws_astore_1, ws_iload_2, ws_lload_2, ws_aload_2, ws_istore_2, ws_lstore_2, ws_astore_2, ws_iload_3, ws_lload_3, ws_aload_3, ws_istore_3, ws_lstore_3, ws_astore_3, ws_iload, ws_aload, ws_istore, ws_astore, ws_iinc, ws_iadd, ws_isub, ws_imul, ws_iand, ws_ior, ws_ixor, ws_ishl, ws_ishr, ws_iushr, ws_idiv, ws_irem, ws_ineg, ws_i2l, ws_l2i, ws_ladd, ws_lmul, ws_lcmp, ws_dup_i, ws_pop_i, ws_dup_r, ws_pop_r, ws_dup2, ws_if_eq, ws_icmp_eq, ws_if_ne, ws_icmp_ne, ws_if_lt, ws_icmp_lt, ws_if_ge, ws_icmp_ge, ws_if_gt, ws_icmp_gt, ws_if_le, ws_icmp_le, ws_goto, ws_table, ws_get_0, ws_get_1, ws_get_2, ws_get_3, ws_put_0, ws_put_1, ws_put_2, ws_put_3, ws_iaload, ws_laload, ws_aaload, ws_iastore, ws_lastore, ws_alen, ws_ret_int, ws_ret_boolean, ws_ret_long, ws_ret_ref, ws_ret_void, ws_iv_0, ws_iv_1, ws_iv_2, ws_iv_3, ws_iv_4, ws_iv_5, ws_is_1, ws_is_2, ws_is_3, ws_is_4, ws_is_5, ws_slen, ws_schar, ws_max, ws_min, ws_copy, go_some, g_li_0, g_li_1, g_li_2, g_li_3, g_li_4, g_li_5, g_li_6, g_li_7, g_li_8, g_li_9, g_li_10, g_li_11, g_li_12, g_li_13, g_li_14, g_li_15, g_li_16, g_li_17, g_li_18, g_li_19, g_ll_0, g_ll_1, g_ll_2, g_ll_3, g_ll_4, g_ll_5, g_ll_6, g_ll_7, g_ll_8, g_ll_9, g_lr_0, g_lr_1, g_lr_2, g_lr_3, g_lr_4, g_lr_5, g_lr_6, g_lr_7, g_lr_8, g_lr_9, g_st_0, g_st_1i, g_st_1r, g_st_1n, g_st_1o, g_st_2, g_st_3, g_st_4, g_st_5, g_st_6, g_st_7, g_st_8, g_st_9, g_st_10, g_st_11, g_st_12, g_st_13, g_st_14, g_st_15, g_st_16, g_st_17, g_st_18, g_st_19, g_st2_1, gN_0, gN_1, gN_2, gN_3, gN_4, gN_5, gN_6, gN_7, gN_8, gN_9, to_some, to_none, ci_m2, ci_m1, ci_0, ci_1, ci_2, ci_3, ci_4, ci_5, cb_m2, cb_6, cb_7, cb_8, cb_9, cb_10, cb_11, cb_12, cb_13, cb_16, cb_20, cb_24, cb_27, cb_30, cb_32, cb_40, cb_41, cb_42, cb_48, cb_57, cb_59, cb_60, cb_63, cb_74, cb_75, cb_80, cb_90, cb_97, cb_99, cb_100, cb_120, cb_122, cs_130, cs_150, cs_162, cs_180, cs_190, cs_202, cs_214, cs_230, cs_255, cs_262, cs_358, cs_410, cs_786, cs_900, cs_2882, cs_3144, cs_4096, ci_m8, gb_n, gb_i1, gb_r1, gb_i2, gb_r2, gb_l2, gb_i3, gb_r3, gb_l3, gb_i4, gb_r4, gb_l4, gb_i5, gb_r5, gb_l5, gb_i6, gb_r6, gb_l6, gb_i7, gb_r7, gb_l7, gb_i8, gb_r8, gb_l8, Nat.reduceAdd, Nat.reduceSub, Nat.reduceLeDiff, List.length_nil, List.length_cons, true_and, and_true, Nat.reduceMul, Nat.reduceLT, Nat.reduceEqDiff, b_Model_comesFirst_0, b_Model_comesFirst_1, b_Model_comesFirst_2, b_Model_comesFirst_3, b_Model_comesFirst_4, b_Model_comesFirst_5, b_Model_comesFirst_6, lm0, lm1, lm2, lm3, lm4, lm5, lm6, lm7, lm8, lm9, lm10, lm11, lm12, lm13, lm14, lm15, lm16, lm17, lm18, lm19, lm20, lm21, lm22, lm23, lm24, lm25, lm26, lm27, lm28, lm29, lm30, lm31, lm32, lm33, lm34, o10 _ _ p hp, o10 _ _ q hq, n_ite, n_lt, n_le, n_eq, n_lt0, n_ge0, n_gt0, n_le0, n_eq0, n_eq1, n_cl, n_in, n_add, n_mul, n_sub, n_and, n_or, n_shl, n_shr, n_m2lt0, n_m2ge0, n_m1lt0, n_m1ge0, n_mlt, n_m2ne, n_m2ne', n_m1ne, n_m1ne', not_true_eq_false, not_false_eq_true, false_implies, true_implies, and_self, true_and, and_true, Nat.not_lt, Nat.not_le, true_or, or_true, false_or, or_false, ne_eq, Nat.le_refl, Nat.lt_irrefl, implies_true, Nat.zero_add, Nat.add_zero, Classical.not_not]
    exact ⟨fun z => hF (by omega), fun z => hT (by omega)⟩
  · subst e
    simp (disch := omega) only [ws_nil, ws_iconst, ws_bipush, ws_sipush, ws_lconst, ws_ldc_i, ws_ldc_s, ws_ldc_w_i, ws_ldc_w_s, ws_iload_0, ws_lload_0, ws_aload_0, ws_istore_0, ws_lstore_0, ws_astore_0, ws_iload_1, ws_lload_1, ws_aload_1, ws_istore_1, ws_lstore_1, ws_astore_1, ws_iload_2, ws_lload_2, ws_aload_2, ws_istore_2, ws_lstore_2, ws_astore_2, ws_iload_3, ws_lload_3, ws_aload_3, ws_istore_3, ws_lstore_3, ws_astore_3, ws_iload, ws_aload, ws_istore, ws_astore, ws_iinc, ws_iadd, ws_isub, ws_imul, ws_iand, ws_ior, ws_ixor, ws_ishl, ws_ishr, ws_iushr, ws_idiv, ws_irem, ws_ineg, ws_i2l, ws_l2i, ws_ladd, ws_lmul, ws_lcmp, ws_dup_i, ws_pop_i, ws_dup_r, ws_pop_r, ws_dup2, ws_if_eq, ws_icmp_eq, ws_if_ne, ws_icmp_ne, ws_if_lt, ws_icmp_lt, ws_if_ge, ws_icmp_ge, ws_if_gt, ws_icmp_gt, ws_if_le, ws_icmp_le, ws_goto, ws_table, ws_get_0, ws_get_1, ws_get_2, ws_get_3, ws_put_0, ws_put_1, ws_put_2, ws_put_3, ws_iaload, ws_laload, ws_aaload, ws_iastore, ws_lastore, ws_alen, ws_ret_int, ws_ret_boolean, ws_ret_long, ws_ret_ref, ws_ret_void, ws_iv_0, ws_iv_1, ws_iv_2, ws_iv_3, ws_iv_4, ws_iv_5, ws_is_1, ws_is_2, ws_is_3, ws_is_4, ws_is_5, ws_slen, ws_schar, ws_max, ws_min, ws_copy, go_some, g_li_0, g_li_1, g_li_2, g_li_3, g_li_4, g_li_5, g_li_6, g_li_7, g_li_8, g_li_9, g_li_10, g_li_11, g_li_12, g_li_13, g_li_14, g_li_15, g_li_16, g_li_17, g_li_18, g_li_19, g_ll_0, g_ll_1, g_ll_2, g_ll_3, g_ll_4, g_ll_5, g_ll_6, g_ll_7, g_ll_8, g_ll_9, g_lr_0, g_lr_1, g_lr_2, g_lr_3, g_lr_4, g_lr_5, g_lr_6, g_lr_7, g_lr_8, g_lr_9, g_st_0, g_st_1i, g_st_1r, g_st_1n, g_st_1o, g_st_2, g_st_3, g_st_4, g_st_5, g_st_6, g_st_7, g_st_8, g_st_9, g_st_10, g_st_11, g_st_12, g_st_13, g_st_14, g_st_15, g_st_16, g_st_17, g_st_18, g_st_19, g_st2_1, gN_0, gN_1, gN_2, gN_3, gN_4, gN_5, gN_6, gN_7, gN_8, gN_9, to_some, to_none, ci_m2, ci_m1, ci_0, ci_1, ci_2, ci_3, ci_4, ci_5, cb_m2, cb_6, cb_7, cb_8, cb_9, cb_10, cb_11, cb_12, cb_13, cb_16, cb_20, cb_24, cb_27, cb_30, cb_32, cb_40, cb_41, cb_42, cb_48, cb_57, cb_59, cb_60, cb_63, cb_74, cb_75, cb_80, cb_90, cb_97, cb_99, cb_100, cb_120, cb_122, cs_130, cs_150, cs_162, cs_180, cs_190, cs_202, cs_214, cs_230, cs_255, cs_262, cs_358, cs_410, cs_786, cs_900, cs_2882, cs_3144, cs_4096, ci_m8, gb_n, gb_i1, gb_r1, gb_i2, gb_r2, gb_l2, gb_i3, gb_r3, gb_l3, gb_i4, gb_r4, gb_l4, gb_i5, gb_r5, gb_l5, gb_i6, gb_r6, gb_l6, gb_i7, gb_r7, gb_l7, gb_i8, gb_r8, gb_l8, Nat.reduceAdd, Nat.reduceSub, Nat.reduceLeDiff, List.length_nil, List.length_cons, true_and, and_true, Nat.reduceMul, Nat.reduceLT, Nat.reduceEqDiff, b_Model_comesFirst_0, b_Model_comesFirst_1, b_Model_comesFirst_2, b_Model_comesFirst_3, b_Model_comesFirst_4, b_Model_comesFirst_5, b_Model_comesFirst_6, lm0, lm1, lm2, lm3, lm4, lm5, lm6, lm7, lm8, lm9, lm10, lm11, lm12, lm13, lm14, lm15, lm16, lm17, lm18, lm19, lm20, lm21, lm22, lm23, lm24, lm25, lm26, lm27, lm28, lm29, lm30, lm31, lm32, lm33, lm34, o10 _ _ p hp, o10 _ _ q hq, n_ite, n_lt, n_le, n_eq, n_lt0, n_ge0, n_gt0, n_le0, n_eq0, n_eq1, n_cl, n_in, n_add, n_mul, n_sub, n_and, n_or, n_shl, n_shr, n_m2lt0, n_m2ge0, n_m1lt0, n_m1ge0, n_mlt, n_m2ne, n_m2ne', n_m1ne, n_m1ne', not_true_eq_false, not_false_eq_true, false_implies, true_implies, and_self, true_and, and_true, Nat.not_lt, Nat.not_le, true_or, or_true, false_or, or_false, ne_eq, Nat.le_refl, Nat.lt_irrefl, implies_true, Nat.zero_add, Nat.add_zero, Classical.not_not]
    exact ⟨fun z => ⟨fun z2 => hF (by omega), fun z2 => hT (by omega)⟩, fun z => ⟨fun z2 => hF (by omega), fun z2 => hT (by omega)⟩⟩
  · subst e
    simp (disch := omega) only [ws_nil, ws_iconst, ws_bipush, ws_sipush, ws_lconst, ws_ldc_i, ws_ldc_s, ws_ldc_w_i, ws_ldc_w_s, ws_iload_0, ws_lload_0, ws_aload_0, ws_istore_0, ws_lstore_0, ws_astore_0, ws_iload_1, ws_lload_1, ws_aload_1, ws_istore_1, ws_lstore_1, ws_astore_1, ws_iload_2, ws_lload_2, ws_aload_2, ws_istore_2, ws_lstore_2, ws_astore_2, ws_iload_3, ws_lload_3, ws_aload_3, ws_istore_3, ws_lstore_3, ws_astore_3, ws_iload, ws_aload, ws_istore, ws_astore, ws_iinc, ws_iadd, ws_isub, ws_imul, ws_iand, ws_ior, ws_ixor, ws_ishl, ws_ishr, ws_iushr, ws_idiv, ws_irem, ws_ineg, ws_i2l, ws_l2i, ws_ladd, ws_lmul, ws_lcmp, ws_dup_i, ws_pop_i, ws_dup_r, ws_pop_r, ws_dup2, ws_if_eq, ws_icmp_eq, ws_if_ne, ws_icmp_ne, ws_if_lt, ws_icmp_lt, ws_if_ge, ws_icmp_ge, ws_if_gt, ws_icmp_gt, ws_if_le, ws_icmp_le, ws_goto, ws_table, ws_get_0, ws_get_1, ws_get_2, ws_get_3, ws_put_0, ws_put_1, ws_put_2, ws_put_3, ws_iaload, ws_laload, ws_aaload, ws_iastore, ws_lastore, ws_alen, ws_ret_int, ws_ret_boolean, ws_ret_long, ws_ret_ref, ws_ret_void, ws_iv_0, ws_iv_1, ws_iv_2, ws_iv_3, ws_iv_4, ws_iv_5, ws_is_1, ws_is_2, ws_is_3, ws_is_4, ws_is_5, ws_slen, ws_schar, ws_max, ws_min, ws_copy, go_some, g_li_0, g_li_1, g_li_2, g_li_3, g_li_4, g_li_5, g_li_6, g_li_7, g_li_8, g_li_9, g_li_10, g_li_11, g_li_12, g_li_13, g_li_14, g_li_15, g_li_16, g_li_17, g_li_18, g_li_19, g_ll_0, g_ll_1, g_ll_2, g_ll_3, g_ll_4, g_ll_5, g_ll_6, g_ll_7, g_ll_8, g_ll_9, g_lr_0, g_lr_1, g_lr_2, g_lr_3, g_lr_4, g_lr_5, g_lr_6, g_lr_7, g_lr_8, g_lr_9, g_st_0, g_st_1i, g_st_1r, g_st_1n, g_st_1o, g_st_2, g_st_3, g_st_4, g_st_5, g_st_6, g_st_7, g_st_8, g_st_9, g_st_10, g_st_11, g_st_12, g_st_13, g_st_14, g_st_15, g_st_16, g_st_17, g_st_18, g_st_19, g_st2_1, gN_0, gN_1, gN_2, gN_3, gN_4, gN_5, gN_6, gN_7, gN_8, gN_9, to_some, to_none, ci_m2, ci_m1, ci_0, ci_1, ci_2, ci_3, ci_4, ci_5, cb_m2, cb_6, cb_7, cb_8, cb_9, cb_10, cb_11, cb_12, cb_13, cb_16, cb_20, cb_24, cb_27, cb_30, cb_32, cb_40, cb_41, cb_42, cb_48, cb_57, cb_59, cb_60, cb_63, cb_74, cb_75, cb_80, cb_90, cb_97, cb_99, cb_100, cb_120, cb_122, cs_130, cs_150, cs_162, cs_180, cs_190, cs_202, cs_214, cs_230, cs_255, cs_262, cs_358, cs_410, cs_786, cs_900, cs_2882, cs_3144, cs_4096, ci_m8, gb_n, gb_i1, gb_r1, gb_i2, gb_r2, gb_l2, gb_i3, gb_r3, gb_l3, gb_i4, gb_r4, gb_l4, gb_i5, gb_r5, gb_l5, gb_i6, gb_r6, gb_l6, gb_i7, gb_r7, gb_l7, gb_i8, gb_r8, gb_l8, Nat.reduceAdd, Nat.reduceSub, Nat.reduceLeDiff, List.length_nil, List.length_cons, true_and, and_true, Nat.reduceMul, Nat.reduceLT, Nat.reduceEqDiff, b_Model_comesFirst_0, b_Model_comesFirst_1, b_Model_comesFirst_2, b_Model_comesFirst_3, b_Model_comesFirst_4, b_Model_comesFirst_5, b_Model_comesFirst_6, lm0, lm1, lm2, lm3, lm4, lm5, lm6, lm7, lm8, lm9, lm10, lm11, lm12, lm13, lm14, lm15, lm16, lm17, lm18, lm19, lm20, lm21, lm22, lm23, lm24, lm25, lm26, lm27, lm28, lm29, lm30, lm31, lm32, lm33, lm34, o10 _ _ p hp, o10 _ _ q hq, n_ite, n_lt, n_le, n_eq, n_lt0, n_ge0, n_gt0, n_le0, n_eq0, n_eq1, n_cl, n_in, n_add, n_mul, n_sub, n_and, n_or, n_shl, n_shr, n_m2lt0, n_m2ge0, n_m1lt0, n_m1ge0, n_mlt, n_m2ne, n_m2ne', n_m1ne, n_m1ne', not_true_eq_false, not_false_eq_true, false_implies, true_implies, and_self, true_and, and_true, Nat.not_lt, Nat.not_le, true_or, or_true, false_or, or_false, ne_eq, Nat.le_refl, Nat.lt_irrefl, implies_true, Nat.zero_add, Nat.add_zero, Classical.not_not]
    exact ⟨fun z => ⟨fun z2 => hF (by omega), fun z2 => hT (by omega)⟩, fun z => ⟨fun z2 => hF (by omega), fun z2 => hT (by omega)⟩⟩
end MPB
