/-! State: telling -/
section TEL
variable {d s t o p q h b a k m n j v r i l : Nat} {E : gE} {I J : Nat → Nat → Int32} {L : Nat → Nat → Int64} {M : gM} {T S S' : zA} {Q : Option Value → gM → Prop}
theorem zHs_0 : (zHs T S p = 0) ↔ S 0 p = 0 := by
  unfold zHs
  split
  · simp; assumption
  · simp; assumption
theorem tl_iff : tlB T S r p q = true ↔ (p = q ∨ (r = 1 ∧ T 9 p = T 9 q) ∨ (r ≠ 1 ∧ S 0 p ≠ 0 ∧ T 11 p = T 11 q ∧ zHs T S p = zHs T S q)) := by simp [tlB]
theorem tl_refl : tlB T S r p p = true := tl_iff.mpr (Or.inl rfl)
theorem tl_symm (h : tlB T S r p q = true) : tlB T S r q p = true := by
  rw [tl_iff] at h ⊢
  rcases h with h | ⟨h1, h2⟩ | ⟨h1, h2, h3, h4⟩
  · exact Or.inl h.symm
  · exact Or.inr (Or.inl ⟨h1, h2.symm⟩)
  · refine Or.inr (Or.inr ⟨h1, fun z => h2 ?_, h3.symm, h4.symm⟩)
    rw [← zHs_0 (T := T)] at z ⊢
    rw [h4]
    exact z
theorem tl_trans (h : tlB T S r p q = true) (h' : tlB T S r q m = true) : tlB T S r p m = true := by
  rw [tl_iff] at h h' ⊢
  rcases h with rfl | ⟨h1, h2⟩ | ⟨h1, h2, h3, h4⟩
  · exact h'
  · rcases h' with rfl | ⟨g1, g2⟩ | ⟨g1, g2, g3, g4⟩
    · exact Or.inr (Or.inl ⟨h1, h2⟩)
    · exact Or.inr (Or.inl ⟨h1, h2.trans g2⟩)
    · exact absurd h1 g1
  · rcases h' with rfl | ⟨g1, g2⟩ | ⟨g1, g2, g3, g4⟩
    · exact Or.inr (Or.inr ⟨h1, h2, h3, h4⟩)
    · exact absurd g1 h1
    · exact Or.inr (Or.inr ⟨h1, h2, h3.trans g3, h4.trans g4⟩)
theorem tl_same (h : tlB T S r p q = true) : tlB T S r p m = tlB T S r q m := by
  rw [Bool.eq_iff_iff]
  exact ⟨fun z => tl_trans (tl_symm h) z, fun z => tl_trans h z⟩
/-- all that those know who tell p -/
def zCls (T S : zA) (r p : Nat) : Nat := orN (fun q => if tlB T S r p q then S 2 q else 0) (zP T)
theorem zCls_same (h : tlB T S r p q = true) : zCls T S r p = zCls T S r q := orN_congr (fun m _ => by rw [tl_same h])
theorem zCls_lt (hS : zS T S) : zCls T S r p < 64 := by
  have h : orN (fun q => if tlB T S r p q then S 2 q else 0) (zP T) < 2 ^ 6 := orN_lt (fun q hq => by
    have := (hS.1 q hq).2.2.1
    split <;> omega)
  exact h
/-- those below i have told -/
def zTlP (T S : zA) (r i : Nat) : zA := fun k j => if k = 2 ∧ anyN (fun p => tlB T S r p j) i = true then zCls T S r j else S k j
def zTl (T S : zA) (r : Nat) : zA := zTlP T S r (zP T)
theorem zTlP_k (h : k ≠ 2) : zTlP T S r i k j = S k j := by simp [zTlP, h]
/-- what i hears from those between i and l -/
def zAll (T S : zA) (r i : Nat) : Nat → Nat
  | 0 => 0
  | n + 1 => zAll T S r i n ||| (if tlB T S r i (i + n) then zTlP T S r i 2 (i + n) else 0)
theorem zAll_bit {x : Nat} : (zAll T S r i n).testBit x = anyN (fun m => tlB T S r i (i + m) && (zTlP T S r i 2 (i + m)).testBit x) n := by
  induction n with
  | zero => simp [zAll, anyN]
  | succ n ih =>
    simp only [zAll, anyN, Nat.testBit_or, ih]
    congr 1
    cases tlB T S r i (i + n) <;> simp
theorem zCls_bit {x : Nat} : (zCls T S r p).testBit x = anyN (fun q => tlB T S r p q && (S 2 q).testBit x) (zP T) := by
  unfold zCls
  rw [orN_bit]
  exact anyN_congr (fun q _ => by cases tlB T S r p q <;> simp)
theorem zAll_full (hi : i < zP T) : zAll T S r i (zP T - i) = zCls T S r i := by
  apply Nat.eq_of_testBit_eq
  intro x
  rw [zAll_bit, zCls_bit, Bool.eq_iff_iff, anyN_iff, anyN_iff]
  by_cases hc : anyN (fun p => tlB T S r p i) i = true
  · have hin : ∀ m, tlB T S r i m = true → zTlP T S r i 2 m = zCls T S r i := by
      intro m hm
      obtain ⟨p, h1, h2⟩ := anyN_iff.mp hc
      unfold zTlP
      rw [if_pos ⟨rfl, anyN_iff.mpr ⟨p, h1, tl_trans h2 hm⟩⟩, zCls_same hm]
    constructor
    · rintro ⟨m, h1, h2⟩
      simp only [Bool.and_eq_true] at h2
      rw [hin _ h2.1, zCls_bit, anyN_iff] at h2
      exact h2.2
    · rintro ⟨q, h1, h2⟩
      refine ⟨0, by omega, ?_⟩
      simp only [Nat.add_zero, Bool.and_eq_true]
      refine ⟨tl_refl, ?_⟩
      rw [hin _ tl_refl, zCls_bit, anyN_iff]
      exact ⟨q, h1, h2⟩
  · have hin : ∀ m, tlB T S r i m = true → zTlP T S r i 2 m = S 2 m := by
      intro m hm
      unfold zTlP
      rw [if_neg]
      rintro ⟨_, h⟩
      obtain ⟨p, h1, h2⟩ := anyN_iff.mp h
      exact hc (anyN_iff.mpr ⟨p, h1, tl_trans h2 (tl_symm hm)⟩)
    constructor
    · rintro ⟨m, h1, h2⟩
      simp only [Bool.and_eq_true] at h2
      rw [hin _ h2.1] at h2
      exact ⟨i + m, by omega, by simp only [Bool.and_eq_true]; exact h2⟩
    · rintro ⟨q, h1, h2⟩
      simp only [Bool.and_eq_true] at h2
      have hq : i ≤ q := by
        rcases Nat.lt_or_ge q i with z | z
        · exact (hc (anyN_iff.mpr ⟨q, z, tl_symm h2.1⟩)).elim
        · exact z
      refine ⟨q - i, by omega, ?_⟩
      rw [show i + (q - i) = q by omega]
      simp only [Bool.and_eq_true]
      rw [hin _ h2.1]
      exact h2
theorem zS_tl (hS : zS T S) : zS T (zTlP T S r i) := by
  refine ⟨fun p hp => ?_, by rw [zTlP_k (by omega)]; exact hS.2.1, by rw [zTlP_k (by omega)]; exact hS.2.2⟩
  obtain ⟨z0, z1, z2, z3, z4, z5⟩ := hS.1 p hp
  have e6 : zTlP T S r i 6 1 = S 6 1 := zTlP_k (by omega)
  rw [e6]
  refine ⟨by rw [zTlP_k (by omega)]; exact z0, by rw [zTlP_k (by omega)]; exact z1, ?_, by rw [zTlP_k (by omega)]; exact z3, fun b hb => by rw [zTlP_k (by omega)]; exact z4 b hb, fun q' hq => by rw [zTlP_k (by omega)]; exact z5 q' hq⟩
  unfold zTlP
  split
  · exact zCls_lt hS
  · exact z2
theorem zHs_tl : zHs T (zTlP T S r i) p = zHs T S p := by
  unfold zHs
  rw [zTlP_k (by omega)]
theorem tl_tl : tlB T (zTlP T S r i) m p q = tlB T S m p q := by
  unfold tlB
  rw [zHs_tl, zHs_tl, zTlP_k (by omega)]
/-- at i, those between i and l have been told -/
def zTlQ (T S : zA) (r i l : Nat) : zA := fun k j => if k = 2 ∧ i ≤ j ∧ j < l ∧ tlB T S r i j = true then zCls T S r i else zTlP T S r i k j
theorem zTlQ_k (h : k ≠ 2) : zTlQ T S r i l k j = S k j := by simp [zTlQ, h, zTlP_k h]
theorem zS_tq (hS : zS T S) : zS T (zTlQ T S r i l) := by
  refine ⟨fun p hp => ?_, by rw [zTlQ_k (by omega)]; exact hS.2.1, by rw [zTlQ_k (by omega)]; exact hS.2.2⟩
  obtain ⟨z0, z1, z2, z3, z4, z5⟩ := hS.1 p hp
  have e6 : zTlQ T S r i l 6 1 = S 6 1 := zTlQ_k (by omega)
  rw [e6]
  refine ⟨by rw [zTlQ_k (by omega)]; exact z0, by rw [zTlQ_k (by omega)]; exact z1, ?_, by rw [zTlQ_k (by omega)]; exact z3, fun b hb => by rw [zTlQ_k (by omega)]; exact z4 b hb, fun q' hq => by rw [zTlQ_k (by omega)]; exact z5 q' hq⟩
  unfold zTlQ
  split
  · exact zCls_lt hS
  · exact (zS_tl (r := r) (i := i) hS).1 p hp |>.2.2.1
theorem tl_tq : tlB T (zTlQ T S r i l) m p q = tlB T S m p q := by
  unfold tlB
  have h : ∀ x, zHs T (zTlQ T S r i l) x = zHs T S x := fun x => by unfold zHs; rw [zTlQ_k (by omega)]
  rw [h, h, zTlQ_k (by omega)]
theorem zTlQ_end (hj : j < zP T) : zTlQ T S r i (zP T) 2 j = zTlP T S r (i + 1) 2 j := by
  unfold zTlQ
  by_cases h : i ≤ j ∧ tlB T S r i j = true
  · rw [if_pos ⟨rfl, h.1, hj, h.2⟩]
    unfold zTlP
    rw [if_pos ⟨rfl, by simp [anyN, h.2]⟩, zCls_same h.2]
  · rw [if_neg (by rintro ⟨_, a, _, c⟩; exact h ⟨a, c⟩)]
    unfold zTlP
    by_cases h2 : anyN (fun p => tlB T S r p j) i = true
    · rw [if_pos ⟨rfl, h2⟩, if_pos ⟨rfl, by simp [anyN, h2]⟩]
    · rw [if_neg (by rintro ⟨_, a⟩; exact h2 a), if_neg]
      rintro ⟨_, a⟩
      simp only [anyN, Bool.or_eq_true] at a
      rcases a with a | a
      · exact h2 a
      · rcases Nat.lt_or_ge j i with z | z
        · exact h2 (anyN_iff.mpr ⟨j, z, tl_refl⟩)
        · exact h ⟨z, a⟩
theorem c_tellAll (hT : XT E I t T) (hS : XS E I s T S) (hd : t + 16 ≤ s ∨ s + 6 ≤ t) (hr : r < 2) (hQ : ∀ J, XS E J s T (zTl T S r) → Fr s I J → Q none (E, J, L)) : gm (d + 3) 122 [.ref s, .ref t, .int (nI r)] (E, I, L) Q := by
  have hn : zP T ≤ 10 := hT.2.2.2.2.1
  rw [en_State_tellAll]
  simp (disch := omega) only [ws_nil, ws_iconst, ws_bipush, ws_sipush, ws_lconst, ws_ldc_i, ws_ldc_s, ws_ldc_w_i, ws_ldc_w_s, ws_iload_0, ws_lload_0, ws_aload_0, ws_istore_0, ws_lstore_0, ws_astore_0, ws_iload_1, ws_lload_1, ws_aload_1, ws_istore_1, ws_lstore_1, ws_astore_1, ws_iload_2, ws_lload_2, ws_aload_2, ws_istore_2, ws_lstore_2, ws_astore_2, ws_iload_3, ws_lload_3, ws_aload_3, ws_istore_3, ws_lstore_3, ws_astore_3, ws_iload, ws_aload, ws_istore, ws_astore, ws_iinc, ws_iadd, ws_isub, ws_imul, ws_iand, ws_ior, ws_ixor, ws_ishl, ws_ishr, ws_iushr, ws_idiv, ws_irem, ws_ineg, ws_i2l, ws_l2i, ws_ladd, ws_lmul, ws_lcmp, ws_dup_i, ws_pop_i, ws_dup_r, ws_pop_r, ws_dup2, ws_if_eq, ws_icmp_eq, ws_if_ne, ws_icmp_ne, ws_if_lt, ws_icmp_lt, ws_if_ge, ws_icmp_ge, ws_if_gt, ws_icmp_gt, ws_if_le, ws_icmp_le, ws_goto, ws_table, ws_get_0, ws_get_1, ws_get_2, ws_get_3, ws_put_0, ws_put_1, ws_put_2, ws_put_3, ws_iaload, ws_laload, ws_aaload, ws_iastore, ws_lastore, ws_alen, ws_ret_int, ws_ret_boolean, ws_ret_long, ws_ret_ref, ws_ret_void, ws_iv_0, ws_iv_1, ws_iv_2, ws_iv_3, ws_iv_4, ws_iv_5, ws_is_1, ws_is_2, ws_is_3, ws_is_4, ws_is_5, ws_slen, ws_schar, ws_max, ws_min, ws_copy, go_some, g_li_0, g_li_1, g_li_2, g_li_3, g_li_4, g_li_5, g_li_6, g_li_7, g_li_8, g_li_9, g_li_10, g_li_11, g_li_12, g_li_13, g_li_14, g_li_15, g_li_16, g_li_17, g_li_18, g_li_19, g_ll_0, g_ll_1, g_ll_2, g_ll_3, g_ll_4, g_ll_5, g_ll_6, g_ll_7, g_ll_8, g_ll_9, g_lr_0, g_lr_1, g_lr_2, g_lr_3, g_lr_4, g_lr_5, g_lr_6, g_lr_7, g_lr_8, g_lr_9, g_st_0, g_st_1i, g_st_1r, g_st_1n, g_st_1o, g_st_2, g_st_3, g_st_4, g_st_5, g_st_6, g_st_7, g_st_8, g_st_9, g_st_10, g_st_11, g_st_12, g_st_13, g_st_14, g_st_15, g_st_16, g_st_17, g_st_18, g_st_19, g_st2_1, gN_0, gN_1, gN_2, gN_3, gN_4, gN_5, gN_6, gN_7, gN_8, gN_9, to_some, to_none, ci_m2, ci_m1, ci_0, ci_1, ci_2, ci_3, ci_4, ci_5, cb_m2, cb_6, cb_7, cb_8, cb_9, cb_10, cb_11, cb_12, cb_13, cb_16, cb_20, cb_24, cb_27, cb_30, cb_32, cb_40, cb_41, cb_42, cb_48, cb_57, cb_59, cb_60, cb_63, cb_74, cb_75, cb_80, cb_90, cb_97, cb_99, cb_100, cb_120, cb_122, cs_130, cs_150, cs_162, cs_180, cs_190, cs_202, cs_214, cs_230, cs_255, cs_262, cs_358, cs_410, cs_786, cs_900, cs_2882, cs_3144, cs_4096, ci_m8, gb_n, gb_i1, gb_r1, gb_i2, gb_r2, gb_l2, gb_i3, gb_r3, gb_l3, gb_i4, gb_r4, gb_l4, gb_i5, gb_r5, gb_l5, gb_i6, gb_r6, gb_l6, gb_i7, gb_r7, gb_l7, gb_i8, gb_r8, gb_l8, Nat.reduceAdd, Nat.reduceSub, Nat.reduceLeDiff, List.length_nil, List.length_cons, true_and, and_true, Nat.reduceMul, Nat.reduceLT, Nat.reduceEqDiff, b_State_tellAll_0, n_ite, n_lt, n_le, n_eq, n_lt0, n_ge0, n_gt0, n_le0, n_eq0, n_eq1, n_cl, n_in, n_add, n_mul, n_sub, n_and, n_or, n_shl, n_shr, n_m2lt0, n_m2ge0, n_m1lt0, n_m1ge0, n_mlt, n_m2ne, n_m2ne', n_m1ne, n_m1ne', not_true_eq_false, not_false_eq_true, false_implies, true_implies, and_self, true_and, and_true, Nat.not_lt, Nat.not_le, true_or, or_true, false_or, or_false, ne_eq, Nat.le_refl, Nat.lt_irrefl, implies_true, Nat.zero_add, Nat.add_zero, Classical.not_not]
  have key : ∀ i, i ≤ zP T → ∀ J (y z : Option Int32), XS E J s T (zTlP T S r i) → Fr s I J → gj (d + 2) md_State_tellAll Q 1 [some (.ref s), some (.ref t), some (.int (nI r)), some (.int (nI i)), y.map Value.int, z.map Value.int] [] (E, J, L) := by
    refine up_ind ?_ (fun i hi ih => ?_)
    · intro J y z hJ hF
      have hT' := XT_Fr hT hF hd
      obtain ⟨hTl, hTr, hTz⟩ := id hT'
      obtain ⟨lt0, lt1, lt2, lt3, lt4, lt5, lt6, lt7, lt8, lt9, lt10, lt11, lt12, lt13, lt14, lt15, lt16, lt17, lt18, lt19, lt20, lt21, lt22, lt23, lt24, lt25, lt26, lt27, lt28, lt29, lt30⟩ := hTl
      obtain ⟨rt0, rt1, rt2, rt3, rt4, rt5, rt6, rt7, rt8, rt9, rt10, rt11, rt12, rt13, rt14, rt15, rt16, rt17, rt18, rt19⟩ := hTr
      obtain ⟨zt0, zt1, zt2, zt3, zt4, zt5, zt6, zt7, zt8, zt9, zt10, zt11⟩ := hTz
      rw [b_State_tellAll_1]
      simp (disch := omega) only [ws_nil, ws_iconst, ws_bipush, ws_sipush, ws_lconst, ws_ldc_i, ws_ldc_s, ws_ldc_w_i, ws_ldc_w_s, ws_iload_0, ws_lload_0, ws_aload_0, ws_istore_0, ws_lstore_0, ws_astore_0, ws_iload_1, ws_lload_1, ws_aload_1, ws_istore_1, ws_lstore_1, ws_astore_1, ws_iload_2, ws_lload_2, ws_aload_2, ws_istore_2, ws_lstore_2, ws_astore_2, ws_iload_3, ws_lload_3, ws_aload_3, ws_istore_3, ws_lstore_3, ws_astore_3, ws_iload, ws_aload, ws_istore, ws_astore, ws_iinc, ws_iadd, ws_isub, ws_imul, ws_iand, ws_ior, ws_ixor, ws_ishl, ws_ishr, ws_iushr, ws_idiv, ws_irem, ws_ineg, ws_i2l, ws_l2i, ws_ladd, ws_lmul, ws_lcmp, ws_dup_i, ws_pop_i, ws_dup_r, ws_pop_r, ws_dup2, ws_if_eq, ws_icmp_eq, ws_if_ne, ws_icmp_ne, ws_if_lt, ws_icmp_lt, ws_if_ge, ws_icmp_ge, ws_if_gt, ws_icmp_gt, ws_if_le, ws_icmp_le, ws_goto, ws_table, ws_get_0, ws_get_1, ws_get_2, ws_get_3, ws_put_0, ws_put_1, ws_put_2, ws_put_3, ws_iaload, ws_laload, ws_aaload, ws_iastore, ws_lastore, ws_alen, ws_ret_int, ws_ret_boolean, ws_ret_long, ws_ret_ref, ws_ret_void, ws_iv_0, ws_iv_1, ws_iv_2, ws_iv_3, ws_iv_4, ws_iv_5, ws_is_1, ws_is_2, ws_is_3, ws_is_4, ws_is_5, ws_slen, ws_schar, ws_max, ws_min, ws_copy, go_some, g_li_0, g_li_1, g_li_2, g_li_3, g_li_4, g_li_5, g_li_6, g_li_7, g_li_8, g_li_9, g_li_10, g_li_11, g_li_12, g_li_13, g_li_14, g_li_15, g_li_16, g_li_17, g_li_18, g_li_19, g_ll_0, g_ll_1, g_ll_2, g_ll_3, g_ll_4, g_ll_5, g_ll_6, g_ll_7, g_ll_8, g_ll_9, g_lr_0, g_lr_1, g_lr_2, g_lr_3, g_lr_4, g_lr_5, g_lr_6, g_lr_7, g_lr_8, g_lr_9, g_st_0, g_st_1i, g_st_1r, g_st_1n, g_st_1o, g_st_2, g_st_3, g_st_4, g_st_5, g_st_6, g_st_7, g_st_8, g_st_9, g_st_10, g_st_11, g_st_12, g_st_13, g_st_14, g_st_15, g_st_16, g_st_17, g_st_18, g_st_19, g_st2_1, gN_0, gN_1, gN_2, gN_3, gN_4, gN_5, gN_6, gN_7, gN_8, gN_9, to_some, to_none, ci_m2, ci_m1, ci_0, ci_1, ci_2, ci_3, ci_4, ci_5, cb_m2, cb_6, cb_7, cb_8, cb_9, cb_10, cb_11, cb_12, cb_13, cb_16, cb_20, cb_24, cb_27, cb_30, cb_32, cb_40, cb_41, cb_42, cb_48, cb_57, cb_59, cb_60, cb_63, cb_74, cb_75, cb_80, cb_90, cb_97, cb_99, cb_100, cb_120, cb_122, cs_130, cs_150, cs_162, cs_180, cs_190, cs_202, cs_214, cs_230, cs_255, cs_262, cs_358, cs_410, cs_786, cs_900, cs_2882, cs_3144, cs_4096, ci_m8, gb_n, gb_i1, gb_r1, gb_i2, gb_r2, gb_l2, gb_i3, gb_r3, gb_l3, gb_i4, gb_r4, gb_l4, gb_i5, gb_r5, gb_l5, gb_i6, gb_r6, gb_l6, gb_i7, gb_r7, gb_l7, gb_i8, gb_r8, gb_l8, Nat.reduceAdd, Nat.reduceSub, Nat.reduceLeDiff, List.length_nil, List.length_cons, true_and, and_true, Nat.reduceMul, Nat.reduceLT, Nat.reduceEqDiff, b_State_tellAll_10, lt0, lt1, lt2, lt3, lt4, lt5, lt6, lt7, lt8, lt9, lt10, lt11, lt12, lt13, lt14, lt15, lt16, lt17, lt18, lt19, lt20, lt21, lt22, lt23, lt24, lt25, lt26, lt27, lt28, lt29, lt30, rt0, rt1, rt2, rt3, rt4, rt5, rt6, rt7, rt8, rt9, rt10, rt11, rt12, rt13, rt14, rt15, rt16, rt17, rt18, rt19, n_ite, n_lt, n_le, n_eq, n_lt0, n_ge0, n_gt0, n_le0, n_eq0, n_eq1, n_cl, n_in, n_add, n_mul, n_sub, n_and, n_or, n_shl, n_shr, n_m2lt0, n_m2ge0, n_m1lt0, n_m1ge0, n_mlt, n_m2ne, n_m2ne', n_m1ne, n_m1ne', not_true_eq_false, not_false_eq_true, false_implies, true_implies, and_self, true_and, and_true, Nat.not_lt, Nat.not_le, true_or, or_true, false_or, or_false, ne_eq, Nat.le_refl, Nat.lt_irrefl, implies_true, Nat.zero_add, Nat.add_zero, Classical.not_not]
      exact hQ J hJ hF
    · intro J y z hJ hF
      have key3 : ∀ l, l ≤ zP T → i ≤ l → ∀ J, XS E J s T (zTlQ T S r i l) → Fr s I J → gj (d + 2) md_State_tellAll Q 6 [some (.ref s), some (.ref t), some (.int (nI r)), some (.int (nI i)), some (.int (nI (zCls T S r i))), some (.int (nI l))] [] (E, J, L) := by
        refine up_ind ?_ (fun l hl ih3 => ?_)
        · intro _ J hJ hF
          have hT' := XT_Fr hT hF hd
          obtain ⟨hTl, hTr, hTz⟩ := id hT'
          obtain ⟨lt0, lt1, lt2, lt3, lt4, lt5, lt6, lt7, lt8, lt9, lt10, lt11, lt12, lt13, lt14, lt15, lt16, lt17, lt18, lt19, lt20, lt21, lt22, lt23, lt24, lt25, lt26, lt27, lt28, lt29, lt30⟩ := hTl
          obtain ⟨rt0, rt1, rt2, rt3, rt4, rt5, rt6, rt7, rt8, rt9, rt10, rt11, rt12, rt13, rt14, rt15, rt16, rt17, rt18, rt19⟩ := hTr
          obtain ⟨zt0, zt1, zt2, zt3, zt4, zt5, zt6, zt7, zt8, zt9, zt10, zt11⟩ := hTz
          rw [b_State_tellAll_6]
          simp (disch := omega) only [ws_nil, ws_iconst, ws_bipush, ws_sipush, ws_lconst, ws_ldc_i, ws_ldc_s, ws_ldc_w_i, ws_ldc_w_s, ws_iload_0, ws_lload_0, ws_aload_0, ws_istore_0, ws_lstore_0, ws_astore_0, ws_iload_1, ws_lload_1, ws_aload_1, ws_istore_1, ws_lstore_1, ws_astore_1, ws_iload_2, ws_lload_2, ws_aload_2, ws_istore_2, ws_lstore_2, ws_astore_2, ws_iload_3, ws_lload_3, ws_aload_3, ws_istore_3, ws_lstore_3, ws_astore_3, ws_iload, ws_aload, ws_istore, ws_astore, ws_iinc, ws_iadd, ws_isub, ws_imul, ws_iand, ws_ior, ws_ixor, ws_ishl, ws_ishr, ws_iushr, ws_idiv, ws_irem, ws_ineg, ws_i2l, ws_l2i, ws_ladd, ws_lmul, ws_lcmp, ws_dup_i, ws_pop_i, ws_dup_r, ws_pop_r, ws_dup2, ws_if_eq, ws_icmp_eq, ws_if_ne, ws_icmp_ne, ws_if_lt, ws_icmp_lt, ws_if_ge, ws_icmp_ge, ws_if_gt, ws_icmp_gt, ws_if_le, ws_icmp_le, ws_goto, ws_table, ws_get_0, ws_get_1, ws_get_2, ws_get_3, ws_put_0, ws_put_1, ws_put_2, ws_put_3, ws_iaload, ws_laload, ws_aaload, ws_iastore, ws_lastore, ws_alen, ws_ret_int, ws_ret_boolean, ws_ret_long, ws_ret_ref, ws_ret_void, ws_iv_0, ws_iv_1, ws_iv_2, ws_iv_3, ws_iv_4, ws_iv_5, ws_is_1, ws_is_2, ws_is_3, ws_is_4, ws_is_5, ws_slen, ws_schar, ws_max, ws_min, ws_copy, go_some, g_li_0, g_li_1, g_li_2, g_li_3, g_li_4, g_li_5, g_li_6, g_li_7, g_li_8, g_li_9, g_li_10, g_li_11, g_li_12, g_li_13, g_li_14, g_li_15, g_li_16, g_li_17, g_li_18, g_li_19, g_ll_0, g_ll_1, g_ll_2, g_ll_3, g_ll_4, g_ll_5, g_ll_6, g_ll_7, g_ll_8, g_ll_9, g_lr_0, g_lr_1, g_lr_2, g_lr_3, g_lr_4, g_lr_5, g_lr_6, g_lr_7, g_lr_8, g_lr_9, g_st_0, g_st_1i, g_st_1r, g_st_1n, g_st_1o, g_st_2, g_st_3, g_st_4, g_st_5, g_st_6, g_st_7, g_st_8, g_st_9, g_st_10, g_st_11, g_st_12, g_st_13, g_st_14, g_st_15, g_st_16, g_st_17, g_st_18, g_st_19, g_st2_1, gN_0, gN_1, gN_2, gN_3, gN_4, gN_5, gN_6, gN_7, gN_8, gN_9, to_some, to_none, ci_m2, ci_m1, ci_0, ci_1, ci_2, ci_3, ci_4, ci_5, cb_m2, cb_6, cb_7, cb_8, cb_9, cb_10, cb_11, cb_12, cb_13, cb_16, cb_20, cb_24, cb_27, cb_30, cb_32, cb_40, cb_41, cb_42, cb_48, cb_57, cb_59, cb_60, cb_63, cb_74, cb_75, cb_80, cb_90, cb_97, cb_99, cb_100, cb_120, cb_122, cs_130, cs_150, cs_162, cs_180, cs_190, cs_202, cs_214, cs_230, cs_255, cs_262, cs_358, cs_410, cs_786, cs_900, cs_2882, cs_3144, cs_4096, ci_m8, gb_n, gb_i1, gb_r1, gb_i2, gb_r2, gb_l2, gb_i3, gb_r3, gb_l3, gb_i4, gb_r4, gb_l4, gb_i5, gb_r5, gb_l5, gb_i6, gb_r6, gb_l6, gb_i7, gb_r7, gb_l7, gb_i8, gb_r8, gb_l8, Nat.reduceAdd, Nat.reduceSub, Nat.reduceLeDiff, List.length_nil, List.length_cons, true_and, and_true, Nat.reduceMul, Nat.reduceLT, Nat.reduceEqDiff, b_State_tellAll_9, lt0, lt1, lt2, lt3, lt4, lt5, lt6, lt7, lt8, lt9, lt10, lt11, lt12, lt13, lt14, lt15, lt16, lt17, lt18, lt19, lt20, lt21, lt22, lt23, lt24, lt25, lt26, lt27, lt28, lt29, lt30, rt0, rt1, rt2, rt3, rt4, rt5, rt6, rt7, rt8, rt9, rt10, rt11, rt12, rt13, rt14, rt15, rt16, rt17, rt18, rt19, n_ite, n_lt, n_le, n_eq, n_lt0, n_ge0, n_gt0, n_le0, n_eq0, n_eq1, n_cl, n_in, n_add, n_mul, n_sub, n_and, n_or, n_shl, n_shr, n_m2lt0, n_m2ge0, n_m1lt0, n_m1ge0, n_mlt, n_m2ne, n_m2ne', n_m1ne, n_m1ne', not_true_eq_false, not_false_eq_true, false_implies, true_implies, and_self, true_and, and_true, Nat.not_lt, Nat.not_le, true_or, or_true, false_or, or_false, ne_eq, Nat.le_refl, Nat.lt_irrefl, implies_true, Nat.zero_add, Nat.add_zero, Classical.not_not]
          refine ih J (some _) (some _) (XS_al (S := zTlQ T S r i (zP T)) hn ⟨fun p hp => ?_, ?_, ?_⟩ hJ) hF
          · refine ⟨?_, ?_, (zTlQ_end hp).symm, ?_, fun b hb => ?_, fun q hq => ?_⟩
            all_goals rw [zTlQ_k (by omega), zTlP_k (by omega)]
          all_goals rw [zTlQ_k (by omega), zTlP_k (by omega)]
        · intro hil J hJ hF
          have hT' := XT_Fr hT hF hd
          obtain ⟨hTl, hTr, hTz⟩ := id hT'
          obtain ⟨lt0, lt1, lt2, lt3, lt4, lt5, lt6, lt7, lt8, lt9, lt10, lt11, lt12, lt13, lt14, lt15, lt16, lt17, lt18, lt19, lt20, lt21, lt22, lt23, lt24, lt25, lt26, lt27, lt28, lt29, lt30⟩ := hTl
          obtain ⟨rt0, rt1, rt2, rt3, rt4, rt5, rt6, rt7, rt8, rt9, rt10, rt11, rt12, rt13, rt14, rt15, rt16, rt17, rt18, rt19⟩ := hTr
          obtain ⟨zt0, zt1, zt2, zt3, zt4, zt5, zt6, zt7, zt8, zt9, zt10, zt11⟩ := hTz
          obtain ⟨hSl, hSr, hSz⟩ := id hJ
          obtain ⟨ls0, ls1, ls2, ls3, ls4, ls5, ls6, ls7, ls8, ls9, ls10⟩ := hSl
          obtain ⟨rs0, rs1, rs2, rs3, rs4, rs5, rs6, rs7⟩ := hSr
          obtain ⟨zs0, zs1, zs2⟩ := hSz
          have hcl := zCls_lt (r := r) (p := i) hS.2.2
          have hkn := (zs0 l hl).2.2.1
          have hst : ∀ v, (tlB T S r i l = true → v = zCls T S r i) → (tlB T S r i l = false → v = zTlQ T S r i l 2 l) → XS E (gU J (s + 3) (upd (J (s + 3)) l (nI v))) s T (zTlQ T S r i (l + 1)) := by
            intro v hv1 hv2
            have hal : ∀ k j, zU (zTlQ T S r i l) 2 l v k j = zTlQ T S r i (l + 1) k j := by
              intro k j
              by_cases e : k = 2 ∧ j = l
              · obtain ⟨rfl, rfl⟩ := e
                rw [zU_at]
                cases htl : tlB T S r i j with
                | true => rw [hv1 htl]; unfold zTlQ; rw [if_pos ⟨rfl, hil, by omega, htl⟩]
                | false =>
                  rw [hv2 htl]
                  unfold zTlQ
                  rw [if_neg (by rintro ⟨_, _, _, c⟩; rw [htl] at c; cases c), if_neg (by rintro ⟨_, _, _, c⟩; rw [htl] at c; cases c)]
              · by_cases e1 : k = 2
                · rw [zU_j (fun z => e ⟨e1, z⟩)]
                  unfold zTlQ
                  congr 1
                  apply propext
                  constructor
                  · rintro ⟨c0, c1, c2, c3⟩; exact ⟨c0, c1, by omega, c3⟩
                  · rintro ⟨c0, c1, c2, c3⟩
                    have : j ≠ l := fun z => e ⟨e1, z⟩
                    exact ⟨c0, c1, by omega, c3⟩
                · rw [zU_k e1, zTlQ_k e1, zTlQ_k e1]
            have heq : zU (zTlQ T S r i l) 2 l v = zTlQ T S r i (l + 1) := by funext k j; exact hal k j
            have h5 := XS_u2 (p := l) (v := v) hJ (by rw [heq]; exact zS_tq hS.2.2)
            rw [heq] at h5
            exact h5
          rw [b_State_tellAll_6]
          have hb2 := b2n (tlB T S r i l)
          simp (disch := omega) only [ws_nil, ws_iconst, ws_bipush, ws_sipush, ws_lconst, ws_ldc_i, ws_ldc_s, ws_ldc_w_i, ws_ldc_w_s, ws_iload_0, ws_lload_0, ws_aload_0, ws_istore_0, ws_lstore_0, ws_astore_0, ws_iload_1, ws_lload_1, ws_aload_1, ws_istore_1, ws_lstore_1, ws_astore_1, ws_iload_2, ws_lload_2, ws_aload_2, ws_istore_2, ws_lstore_2, ws_astore_2, ws_iload_3, ws_lload_3, ws_aload_3, ws_istore_3, ws_lstore_3, ws_astore_3, ws_iload, ws_aload, ws_istore, ws_astore, ws_iinc, ws_iadd, ws_isub, ws_imul, ws_iand, ws_ior, ws_ixor, ws_ishl, ws_ishr, ws_iushr, ws_idiv, ws_irem, ws_ineg, ws_i2l, ws_l2i, ws_ladd, ws_lmul, ws_lcmp, ws_dup_i, ws_pop_i, ws_dup_r, ws_pop_r, ws_dup2, ws_if_eq, ws_icmp_eq, ws_if_ne, ws_icmp_ne, ws_if_lt, ws_icmp_lt, ws_if_ge, ws_icmp_ge, ws_if_gt, ws_icmp_gt, ws_if_le, ws_icmp_le, ws_goto, ws_table, ws_get_0, ws_get_1, ws_get_2, ws_get_3, ws_put_0, ws_put_1, ws_put_2, ws_put_3, ws_iaload, ws_laload, ws_aaload, ws_iastore, ws_lastore, ws_alen, ws_ret_int, ws_ret_boolean, ws_ret_long, ws_ret_ref, ws_ret_void, ws_iv_0, ws_iv_1, ws_iv_2, ws_iv_3, ws_iv_4, ws_iv_5, ws_is_1, ws_is_2, ws_is_3, ws_is_4, ws_is_5, ws_slen, ws_schar, ws_max, ws_min, ws_copy, go_some, g_li_0, g_li_1, g_li_2, g_li_3, g_li_4, g_li_5, g_li_6, g_li_7, g_li_8, g_li_9, g_li_10, g_li_11, g_li_12, g_li_13, g_li_14, g_li_15, g_li_16, g_li_17, g_li_18, g_li_19, g_ll_0, g_ll_1, g_ll_2, g_ll_3, g_ll_4, g_ll_5, g_ll_6, g_ll_7, g_ll_8, g_ll_9, g_lr_0, g_lr_1, g_lr_2, g_lr_3, g_lr_4, g_lr_5, g_lr_6, g_lr_7, g_lr_8, g_lr_9, g_st_0, g_st_1i, g_st_1r, g_st_1n, g_st_1o, g_st_2, g_st_3, g_st_4, g_st_5, g_st_6, g_st_7, g_st_8, g_st_9, g_st_10, g_st_11, g_st_12, g_st_13, g_st_14, g_st_15, g_st_16, g_st_17, g_st_18, g_st_19, g_st2_1, gN_0, gN_1, gN_2, gN_3, gN_4, gN_5, gN_6, gN_7, gN_8, gN_9, to_some, to_none, ci_m2, ci_m1, ci_0, ci_1, ci_2, ci_3, ci_4, ci_5, cb_m2, cb_6, cb_7, cb_8, cb_9, cb_10, cb_11, cb_12, cb_13, cb_16, cb_20, cb_24, cb_27, cb_30, cb_32, cb_40, cb_41, cb_42, cb_48, cb_57, cb_59, cb_60, cb_63, cb_74, cb_75, cb_80, cb_90, cb_97, cb_99, cb_100, cb_120, cb_122, cs_130, cs_150, cs_162, cs_180, cs_190, cs_202, cs_214, cs_230, cs_255, cs_262, cs_358, cs_410, cs_786, cs_900, cs_2882, cs_3144, cs_4096, ci_m8, gb_n, gb_i1, gb_r1, gb_i2, gb_r2, gb_l2, gb_i3, gb_r3, gb_l3, gb_i4, gb_r4, gb_l4, gb_i5, gb_r5, gb_l5, gb_i6, gb_r6, gb_l6, gb_i7, gb_r7, gb_l7, gb_i8, gb_r8, gb_l8, Nat.reduceAdd, Nat.reduceSub, Nat.reduceLeDiff, List.length_nil, List.length_cons, true_and, and_true, Nat.reduceMul, Nat.reduceLT, Nat.reduceEqDiff, b_State_tellAll_7, b_State_tellAll_8, c_tells hT' hJ, tl_tq, b2n_0, lt0, lt1, lt2, lt3, lt4, lt5, lt6, lt7, lt8, lt9, lt10, lt11, lt12, lt13, lt14, lt15, lt16, lt17, lt18, lt19, lt20, lt21, lt22, lt23, lt24, lt25, lt26, lt27, lt28, lt29, lt30, rt0, rt1, rt2, rt3, rt4, rt5, rt6, rt7, rt8, rt9, rt10, rt11, rt12, rt13, rt14, rt15, rt16, rt17, rt18, rt19, ls0, ls1, ls2, ls3, ls4, ls5, ls6, ls7, ls8, ls9, ls10, rs0, rs1, rs2, rs3, rs4, rs5, rs6, rs7, n_ite, n_lt, n_le, n_eq, n_lt0, n_ge0, n_gt0, n_le0, n_eq0, n_eq1, n_cl, n_in, n_add, n_mul, n_sub, n_and, n_or, n_shl, n_shr, n_m2lt0, n_m2ge0, n_m1lt0, n_m1ge0, n_mlt, n_m2ne, n_m2ne', n_m1ne, n_m1ne', not_true_eq_false, not_false_eq_true, false_implies, true_implies, and_self, true_and, and_true, Nat.not_lt, Nat.not_le, true_or, or_true, false_or, or_false, ne_eq, Nat.le_refl, Nat.lt_irrefl, implies_true, Nat.zero_add, Nat.add_zero, Classical.not_not]
          refine ⟨fun q => by omega, fun _ => ⟨fun q1 => ⟨by omega, by omega, ?_⟩, fun q1 => ⟨by omega, ?_⟩⟩⟩
          · exact ih3 (by omega) _ (hst _ (fun z => by rw [q1] at z; cases z) (fun _ => rfl)) (Fr_u hF (by omega))
          · exact ih3 (by omega) _ (hst _ (fun _ => rfl) (fun z => absurd z q1)) (Fr_u hF (by omega))
      have hT' := XT_Fr hT hF hd
      obtain ⟨hTl, hTr, hTz⟩ := id hT'
      obtain ⟨lt0, lt1, lt2, lt3, lt4, lt5, lt6, lt7, lt8, lt9, lt10, lt11, lt12, lt13, lt14, lt15, lt16, lt17, lt18, lt19, lt20, lt21, lt22, lt23, lt24, lt25, lt26, lt27, lt28, lt29, lt30⟩ := hTl
      obtain ⟨rt0, rt1, rt2, rt3, rt4, rt5, rt6, rt7, rt8, rt9, rt10, rt11, rt12, rt13, rt14, rt15, rt16, rt17, rt18, rt19⟩ := hTr
      obtain ⟨zt0, zt1, zt2, zt3, zt4, zt5, zt6, zt7, zt8, zt9, zt10, zt11⟩ := hTz
      obtain ⟨hSl, hSr, hSz⟩ := id hJ
      obtain ⟨ls0, ls1, ls2, ls3, ls4, ls5, ls6, ls7, ls8, ls9, ls10⟩ := hSl
      obtain ⟨rs0, rs1, rs2, rs3, rs4, rs5, rs6, rs7⟩ := hSr
      obtain ⟨zs0, zs1, zs2⟩ := hSz
      have key2 : ∀ l, l ≤ zP T → i ≤ l → gj (d + 2) md_State_tellAll Q 2 [some (.ref s), some (.ref t), some (.int (nI r)), some (.int (nI i)), some (.int (nI (zAll T S r i (l - i)))), some (.int (nI l))] [] (E, J, L) := by
        refine up_ind ?_ (fun l hl ih2 => ?_)
        · intro _
          rw [b_State_tellAll_2]
          simp (disch := omega) only [ws_nil, ws_iconst, ws_bipush, ws_sipush, ws_lconst, ws_ldc_i, ws_ldc_s, ws_ldc_w_i, ws_ldc_w_s, ws_iload_0, ws_lload_0, ws_aload_0, ws_istore_0, ws_lstore_0, ws_astore_0, ws_iload_1, ws_lload_1, ws_aload_1, ws_istore_1, ws_lstore_1, ws_astore_1, ws_iload_2, ws_lload_2, ws_aload_2, ws_istore_2, ws_lstore_2, ws_astore_2, ws_iload_3, ws_lload_3, ws_aload_3, ws_istore_3, ws_lstore_3, ws_astore_3, ws_iload, ws_aload, ws_istore, ws_astore, ws_iinc, ws_iadd, ws_isub, ws_imul, ws_iand, ws_ior, ws_ixor, ws_ishl, ws_ishr, ws_iushr, ws_idiv, ws_irem, ws_ineg, ws_i2l, ws_l2i, ws_ladd, ws_lmul, ws_lcmp, ws_dup_i, ws_pop_i, ws_dup_r, ws_pop_r, ws_dup2, ws_if_eq, ws_icmp_eq, ws_if_ne, ws_icmp_ne, ws_if_lt, ws_icmp_lt, ws_if_ge, ws_icmp_ge, ws_if_gt, ws_icmp_gt, ws_if_le, ws_icmp_le, ws_goto, ws_table, ws_get_0, ws_get_1, ws_get_2, ws_get_3, ws_put_0, ws_put_1, ws_put_2, ws_put_3, ws_iaload, ws_laload, ws_aaload, ws_iastore, ws_lastore, ws_alen, ws_ret_int, ws_ret_boolean, ws_ret_long, ws_ret_ref, ws_ret_void, ws_iv_0, ws_iv_1, ws_iv_2, ws_iv_3, ws_iv_4, ws_iv_5, ws_is_1, ws_is_2, ws_is_3, ws_is_4, ws_is_5, ws_slen, ws_schar, ws_max, ws_min, ws_copy, go_some, g_li_0, g_li_1, g_li_2, g_li_3, g_li_4, g_li_5, g_li_6, g_li_7, g_li_8, g_li_9, g_li_10, g_li_11, g_li_12, g_li_13, g_li_14, g_li_15, g_li_16, g_li_17, g_li_18, g_li_19, g_ll_0, g_ll_1, g_ll_2, g_ll_3, g_ll_4, g_ll_5, g_ll_6, g_ll_7, g_ll_8, g_ll_9, g_lr_0, g_lr_1, g_lr_2, g_lr_3, g_lr_4, g_lr_5, g_lr_6, g_lr_7, g_lr_8, g_lr_9, g_st_0, g_st_1i, g_st_1r, g_st_1n, g_st_1o, g_st_2, g_st_3, g_st_4, g_st_5, g_st_6, g_st_7, g_st_8, g_st_9, g_st_10, g_st_11, g_st_12, g_st_13, g_st_14, g_st_15, g_st_16, g_st_17, g_st_18, g_st_19, g_st2_1, gN_0, gN_1, gN_2, gN_3, gN_4, gN_5, gN_6, gN_7, gN_8, gN_9, to_some, to_none, ci_m2, ci_m1, ci_0, ci_1, ci_2, ci_3, ci_4, ci_5, cb_m2, cb_6, cb_7, cb_8, cb_9, cb_10, cb_11, cb_12, cb_13, cb_16, cb_20, cb_24, cb_27, cb_30, cb_32, cb_40, cb_41, cb_42, cb_48, cb_57, cb_59, cb_60, cb_63, cb_74, cb_75, cb_80, cb_90, cb_97, cb_99, cb_100, cb_120, cb_122, cs_130, cs_150, cs_162, cs_180, cs_190, cs_202, cs_214, cs_230, cs_255, cs_262, cs_358, cs_410, cs_786, cs_900, cs_2882, cs_3144, cs_4096, ci_m8, gb_n, gb_i1, gb_r1, gb_i2, gb_r2, gb_l2, gb_i3, gb_r3, gb_l3, gb_i4, gb_r4, gb_l4, gb_i5, gb_r5, gb_l5, gb_i6, gb_r6, gb_l6, gb_i7, gb_r7, gb_l7, gb_i8, gb_r8, gb_l8, Nat.reduceAdd, Nat.reduceSub, Nat.reduceLeDiff, List.length_nil, List.length_cons, true_and, and_true, Nat.reduceMul, Nat.reduceLT, Nat.reduceEqDiff, b_State_tellAll_5, lt0, lt1, lt2, lt3, lt4, lt5, lt6, lt7, lt8, lt9, lt10, lt11, lt12, lt13, lt14, lt15, lt16, lt17, lt18, lt19, lt20, lt21, lt22, lt23, lt24, lt25, lt26, lt27, lt28, lt29, lt30, rt0, rt1, rt2, rt3, rt4, rt5, rt6, rt7, rt8, rt9, rt10, rt11, rt12, rt13, rt14, rt15, rt16, rt17, rt18, rt19, ls0, ls1, ls2, ls3, ls4, ls5, ls6, ls7, ls8, ls9, ls10, rs0, rs1, rs2, rs3, rs4, rs5, rs6, rs7, n_ite, n_lt, n_le, n_eq, n_lt0, n_ge0, n_gt0, n_le0, n_eq0, n_eq1, n_cl, n_in, n_add, n_mul, n_sub, n_and, n_or, n_shl, n_shr, n_m2lt0, n_m2ge0, n_m1lt0, n_m1ge0, n_mlt, n_m2ne, n_m2ne', n_m1ne, n_m1ne', not_true_eq_false, not_false_eq_true, false_implies, true_implies, and_self, true_and, and_true, Nat.not_lt, Nat.not_le, true_or, or_true, false_or, or_false, ne_eq, Nat.le_refl, Nat.lt_irrefl, implies_true, Nat.zero_add, Nat.add_zero, Classical.not_not]
          rw [zAll_full hi]
          refine key3 i (by omega) (Nat.le_refl i) J (XS_al (S := zTlP T S r i) hn ⟨fun p hp => ?_, ?_, ?_⟩ hJ) hF
          · refine ⟨?_, ?_, ?_, ?_, fun b hb => ?_, fun q hq => ?_⟩
            all_goals first | (rw [zTlQ_k (by omega), zTlP_k (by omega)]; done) | (unfold zTlQ; rw [if_neg (by omega)])
          all_goals rw [zTlQ_k (by omega), zTlP_k (by omega)]
        · intro hil
          have hkn := (zs0 l hl).2.2.1
          have hb2 := b2n (tlB T S r i l)
          have e1 : i + (l - i) = l := by omega
          have hx := ih2 (by omega)
          rw [show l + 1 - i = (l - i) + 1 by omega, zAll, e1] at hx
          rw [b_State_tellAll_2]
          simp (disch := omega) only [ws_nil, ws_iconst, ws_bipush, ws_sipush, ws_lconst, ws_ldc_i, ws_ldc_s, ws_ldc_w_i, ws_ldc_w_s, ws_iload_0, ws_lload_0, ws_aload_0, ws_istore_0, ws_lstore_0, ws_astore_0, ws_iload_1, ws_lload_1, ws_aload_1, ws_istore_1, ws_lstore_1, ws_astore_1, ws_iload_2, ws_lload_2, ws_aload_2, ws_istore_2, ws_lstore_2, ws_astore_2, ws_iload_3, ws_lload_3, ws_aload_3, ws_istore_3, ws_lstore_3, ws_astore_3, ws_iload, ws_aload, ws_istore, ws_astore, ws_iinc, ws_iadd, ws_isub, ws_imul, ws_iand, ws_ior, ws_ixor, ws_ishl, ws_ishr, ws_iushr, ws_idiv, ws_irem, ws_ineg, ws_i2l, ws_l2i, ws_ladd, ws_lmul, ws_lcmp, ws_dup_i, ws_pop_i, ws_dup_r, ws_pop_r, ws_dup2, ws_if_eq, ws_icmp_eq, ws_if_ne, ws_icmp_ne, ws_if_lt, ws_icmp_lt, ws_if_ge, ws_icmp_ge, ws_if_gt, ws_icmp_gt, ws_if_le, ws_icmp_le, ws_goto, ws_table, ws_get_0, ws_get_1, ws_get_2, ws_get_3, ws_put_0, ws_put_1, ws_put_2, ws_put_3, ws_iaload, ws_laload, ws_aaload, ws_iastore, ws_lastore, ws_alen, ws_ret_int, ws_ret_boolean, ws_ret_long, ws_ret_ref, ws_ret_void, ws_iv_0, ws_iv_1, ws_iv_2, ws_iv_3, ws_iv_4, ws_iv_5, ws_is_1, ws_is_2, ws_is_3, ws_is_4, ws_is_5, ws_slen, ws_schar, ws_max, ws_min, ws_copy, go_some, g_li_0, g_li_1, g_li_2, g_li_3, g_li_4, g_li_5, g_li_6, g_li_7, g_li_8, g_li_9, g_li_10, g_li_11, g_li_12, g_li_13, g_li_14, g_li_15, g_li_16, g_li_17, g_li_18, g_li_19, g_ll_0, g_ll_1, g_ll_2, g_ll_3, g_ll_4, g_ll_5, g_ll_6, g_ll_7, g_ll_8, g_ll_9, g_lr_0, g_lr_1, g_lr_2, g_lr_3, g_lr_4, g_lr_5, g_lr_6, g_lr_7, g_lr_8, g_lr_9, g_st_0, g_st_1i, g_st_1r, g_st_1n, g_st_1o, g_st_2, g_st_3, g_st_4, g_st_5, g_st_6, g_st_7, g_st_8, g_st_9, g_st_10, g_st_11, g_st_12, g_st_13, g_st_14, g_st_15, g_st_16, g_st_17, g_st_18, g_st_19, g_st2_1, gN_0, gN_1, gN_2, gN_3, gN_4, gN_5, gN_6, gN_7, gN_8, gN_9, to_some, to_none, ci_m2, ci_m1, ci_0, ci_1, ci_2, ci_3, ci_4, ci_5, cb_m2, cb_6, cb_7, cb_8, cb_9, cb_10, cb_11, cb_12, cb_13, cb_16, cb_20, cb_24, cb_27, cb_30, cb_32, cb_40, cb_41, cb_42, cb_48, cb_57, cb_59, cb_60, cb_63, cb_74, cb_75, cb_80, cb_90, cb_97, cb_99, cb_100, cb_120, cb_122, cs_130, cs_150, cs_162, cs_180, cs_190, cs_202, cs_214, cs_230, cs_255, cs_262, cs_358, cs_410, cs_786, cs_900, cs_2882, cs_3144, cs_4096, ci_m8, gb_n, gb_i1, gb_r1, gb_i2, gb_r2, gb_l2, gb_i3, gb_r3, gb_l3, gb_i4, gb_r4, gb_l4, gb_i5, gb_r5, gb_l5, gb_i6, gb_r6, gb_l6, gb_i7, gb_r7, gb_l7, gb_i8, gb_r8, gb_l8, Nat.reduceAdd, Nat.reduceSub, Nat.reduceLeDiff, List.length_nil, List.length_cons, true_and, and_true, Nat.reduceMul, Nat.reduceLT, Nat.reduceEqDiff, b_State_tellAll_3, b_State_tellAll_4, c_tells hT' hJ, tl_tl, b2n_0, lt0, lt1, lt2, lt3, lt4, lt5, lt6, lt7, lt8, lt9, lt10, lt11, lt12, lt13, lt14, lt15, lt16, lt17, lt18, lt19, lt20, lt21, lt22, lt23, lt24, lt25, lt26, lt27, lt28, lt29, lt30, rt0, rt1, rt2, rt3, rt4, rt5, rt6, rt7, rt8, rt9, rt10, rt11, rt12, rt13, rt14, rt15, rt16, rt17, rt18, rt19, ls0, ls1, ls2, ls3, ls4, ls5, ls6, ls7, ls8, ls9, ls10, rs0, rs1, rs2, rs3, rs4, rs5, rs6, rs7, n_ite, n_lt, n_le, n_eq, n_lt0, n_ge0, n_gt0, n_le0, n_eq0, n_eq1, n_cl, n_in, n_add, n_mul, n_sub, n_and, n_or, n_shl, n_shr, n_m2lt0, n_m2ge0, n_m1lt0, n_m1ge0, n_mlt, n_m2ne, n_m2ne', n_m1ne, n_m1ne', not_true_eq_false, not_false_eq_true, false_implies, true_implies, and_self, true_and, and_true, Nat.not_lt, Nat.not_le, true_or, or_true, false_or, or_false, ne_eq, Nat.le_refl, Nat.lt_irrefl, implies_true, Nat.zero_add, Nat.add_zero, Classical.not_not]
          refine ⟨fun q => by omega, fun _ => ⟨fun q1 => ?_, fun q1 => ⟨by omega, ?_⟩⟩⟩
          · simpa [q1] using hx
          · have q2 : tlB T S r i l = true := by simpa using q1
            simpa [q2] using hx
      rw [b_State_tellAll_1]
      simp (disch := omega) only [ws_nil, ws_iconst, ws_bipush, ws_sipush, ws_lconst, ws_ldc_i, ws_ldc_s, ws_ldc_w_i, ws_ldc_w_s, ws_iload_0, ws_lload_0, ws_aload_0, ws_istore_0, ws_lstore_0, ws_astore_0, ws_iload_1, ws_lload_1, ws_aload_1, ws_istore_1, ws_lstore_1, ws_astore_1, ws_iload_2, ws_lload_2, ws_aload_2, ws_istore_2, ws_lstore_2, ws_astore_2, ws_iload_3, ws_lload_3, ws_aload_3, ws_istore_3, ws_lstore_3, ws_astore_3, ws_iload, ws_aload, ws_istore, ws_astore, ws_iinc, ws_iadd, ws_isub, ws_imul, ws_iand, ws_ior, ws_ixor, ws_ishl, ws_ishr, ws_iushr, ws_idiv, ws_irem, ws_ineg, ws_i2l, ws_l2i, ws_ladd, ws_lmul, ws_lcmp, ws_dup_i, ws_pop_i, ws_dup_r, ws_pop_r, ws_dup2, ws_if_eq, ws_icmp_eq, ws_if_ne, ws_icmp_ne, ws_if_lt, ws_icmp_lt, ws_if_ge, ws_icmp_ge, ws_if_gt, ws_icmp_gt, ws_if_le, ws_icmp_le, ws_goto, ws_table, ws_get_0, ws_get_1, ws_get_2, ws_get_3, ws_put_0, ws_put_1, ws_put_2, ws_put_3, ws_iaload, ws_laload, ws_aaload, ws_iastore, ws_lastore, ws_alen, ws_ret_int, ws_ret_boolean, ws_ret_long, ws_ret_ref, ws_ret_void, ws_iv_0, ws_iv_1, ws_iv_2, ws_iv_3, ws_iv_4, ws_iv_5, ws_is_1, ws_is_2, ws_is_3, ws_is_4, ws_is_5, ws_slen, ws_schar, ws_max, ws_min, ws_copy, go_some, g_li_0, g_li_1, g_li_2, g_li_3, g_li_4, g_li_5, g_li_6, g_li_7, g_li_8, g_li_9, g_li_10, g_li_11, g_li_12, g_li_13, g_li_14, g_li_15, g_li_16, g_li_17, g_li_18, g_li_19, g_ll_0, g_ll_1, g_ll_2, g_ll_3, g_ll_4, g_ll_5, g_ll_6, g_ll_7, g_ll_8, g_ll_9, g_lr_0, g_lr_1, g_lr_2, g_lr_3, g_lr_4, g_lr_5, g_lr_6, g_lr_7, g_lr_8, g_lr_9, g_st_0, g_st_1i, g_st_1r, g_st_1n, g_st_1o, g_st_2, g_st_3, g_st_4, g_st_5, g_st_6, g_st_7, g_st_8, g_st_9, g_st_10, g_st_11, g_st_12, g_st_13, g_st_14, g_st_15, g_st_16, g_st_17, g_st_18, g_st_19, g_st2_1, gN_0, gN_1, gN_2, gN_3, gN_4, gN_5, gN_6, gN_7, gN_8, gN_9, to_some, to_none, ci_m2, ci_m1, ci_0, ci_1, ci_2, ci_3, ci_4, ci_5, cb_m2, cb_6, cb_7, cb_8, cb_9, cb_10, cb_11, cb_12, cb_13, cb_16, cb_20, cb_24, cb_27, cb_30, cb_32, cb_40, cb_41, cb_42, cb_48, cb_57, cb_59, cb_60, cb_63, cb_74, cb_75, cb_80, cb_90, cb_97, cb_99, cb_100, cb_120, cb_122, cs_130, cs_150, cs_162, cs_180, cs_190, cs_202, cs_214, cs_230, cs_255, cs_262, cs_358, cs_410, cs_786, cs_900, cs_2882, cs_3144, cs_4096, ci_m8, gb_n, gb_i1, gb_r1, gb_i2, gb_r2, gb_l2, gb_i3, gb_r3, gb_l3, gb_i4, gb_r4, gb_l4, gb_i5, gb_r5, gb_l5, gb_i6, gb_r6, gb_l6, gb_i7, gb_r7, gb_l7, gb_i8, gb_r8, gb_l8, Nat.reduceAdd, Nat.reduceSub, Nat.reduceLeDiff, List.length_nil, List.length_cons, true_and, and_true, Nat.reduceMul, Nat.reduceLT, Nat.reduceEqDiff, g_st_1o, lt0, lt1, lt2, lt3, lt4, lt5, lt6, lt7, lt8, lt9, lt10, lt11, lt12, lt13, lt14, lt15, lt16, lt17, lt18, lt19, lt20, lt21, lt22, lt23, lt24, lt25, lt26, lt27, lt28, lt29, lt30, rt0, rt1, rt2, rt3, rt4, rt5, rt6, rt7, rt8, rt9, rt10, rt11, rt12, rt13, rt14, rt15, rt16, rt17, rt18, rt19, ls0, ls1, ls2, ls3, ls4, ls5, ls6, ls7, ls8, ls9, ls10, rs0, rs1, rs2, rs3, rs4, rs5, rs6, rs7, n_ite, n_lt, n_le, n_eq, n_lt0, n_ge0, n_gt0, n_le0, n_eq0, n_eq1, n_cl, n_in, n_add, n_mul, n_sub, n_and, n_or, n_shl, n_shr, n_m2lt0, n_m2ge0, n_m1lt0, n_m1ge0, n_mlt, n_m2ne, n_m2ne', n_m1ne, n_m1ne', not_true_eq_false, not_false_eq_true, false_implies, true_implies, and_self, true_and, and_true, Nat.not_lt, Nat.not_le, true_or, or_true, false_or, or_false, ne_eq, Nat.le_refl, Nat.lt_irrefl, implies_true, Nat.zero_add, Nat.add_zero, Classical.not_not]
      have h0 := key2 i (by omega) (Nat.le_refl i)
      rw [Nat.sub_self] at h0
      exact ⟨fun q => by omega, fun _ => h0⟩
  refine key 0 (Nat.zero_le _) I none none (XS_al (S := S) hn ⟨fun p hp => ?_, rfl, rfl⟩ hS) Fr_rf
  refine ⟨rfl, rfl, ?_, rfl, fun b hb => rfl, fun q hq => rfl⟩
  unfold zTlP
  rw [if_neg (by simp [anyN])]
end TEL
