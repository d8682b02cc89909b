/-! Reader: a line of any sort, all lines, the begin and the end -/
section RDL
variable {d t p q h a k m n j v r i c u s w rd dr lo hi bs off e N P b tp : Nat} {E : gE} {I J K : Nat → Nat → Int32} {L L' M' : Nat → Nat → Int64} {B : Nat → Nat} {x y : zX} {D D' : zA} {Q : Option Value → gM → Prop}
def rlX (B : Nat → Nat) (n : Nat) (D : zA) (s : Nat) (x : zX) : zX := match s with
  | 0 => nx B n 12 0 9 (nx B n 11 1 3 (nx B n 10 0 30 (nx B n 9 1 6 x)))
  | 1 => hsX B n D x | 2 => mnX B n D x | 3 => foX B n D x | 4 => wnX B n D x | 5 => kpX B n D x | 6 => whX B n 0 100 x | 7 => shX B n D x | 8 => coX B n D x | _ => x
def rlD (B : Nat → Nat) (n : Nat) (D : zA) (s : Nat) (x : zX) : zA := match s with
  | 0 => dTowns D (nv B n 9 x) (nv B n 10 (nx B n 9 1 6 x)) (nv B n 11 (nx B n 10 0 30 (nx B n 9 1 6 x))) (nv B n 12 (nx B n 11 1 3 (nx B n 10 0 30 (nx B n 9 1 6 x))))
  | 1 => hsD B n D x | 2 => mnD B n D x | 3 => foD B n D x | 4 => wnD B n D x | 5 => kpD B n D x | 6 => dIll D (whV B n x) | 7 => shD B n D x | 8 => coD B n D x | _ => D
theorem lf_inv (hz : zD D) (hs : s < 9) (h : lfN D s = 0) : (s = 0 → D 16 0 = 0) ∧ (s ≠ 0 → D 16 0 = 1) ∧ (s = 1 → zH D < 6) ∧ (s = 2 → zP D < 10) ∧ (s = 3 → D 16 2 < 6) ∧ (s = 4 → D 16 3 < 12) ∧ (s = 7 ∨ s = 8 → D 0 3 < 6) ∧ (s = 6 → D 16 1 = 0) := by
  have z15 := hz.2.2.2.2.2.2.2.2.2.2.2.2.2.2.2.1
  unfold lfN at h
  rw [if_neg (by omega)] at h
  by_cases e0 : s = 0
  · rw [if_pos e0] at h
    subst e0
    refine ⟨fun _ => ?_, fun g => absurd rfl g, fun g => by omega, fun g => by omega, fun g => by omega, fun g => by omega, fun g => by omega, fun g => by omega⟩
    split at h <;> omega
  · rw [if_neg e0] at h
    by_cases e1 : D 16 0 = 0
    · rw [if_pos e1] at h; omega
    · rw [if_neg e1] at h
      by_cases e6 : s = 6
      · rw [if_pos e6] at h
        refine ⟨fun g => by omega, fun _ => by omega, fun g => by omega, fun g => by omega, fun g => by omega, fun g => by omega, fun g => by omega, fun g => ?_⟩
        split at h <;> omega
      · rw [if_neg e6] at h
        have hf : flB D s = false := by
          cases hb : flB D s with
          | false => rfl
          | true => rw [hb, if_pos rfl] at h; omega
        unfold flB at hf
        refine ⟨fun g => by omega, fun _ => by omega, fun g => ?_, fun g => ?_, fun g => ?_, fun g => ?_, fun g => ?_, fun g => by omega⟩
        · subst g; simpa using hf
        · subst g; simpa using hf
        · subst g; simpa using hf
        · subst g; simpa using hf
        · rcases g with g | g <;> subst g <;> simpa using hf
theorem c_readLine (hX : XR E I L rd dr B n x D) (hs : s ≤ 9) (hx : s ≠ 9 → x.1 = 0 ∧ lfN D s = 0) (hQ : ∀ J L', XR E J L' rd dr B n (rlX B n D s x) (rlD B n D s x) → FrD rd dr I J L L' → Q none (E, J, L')) : gm (d + 6) 69 [.ref rd, .int (nI s)] (E, I, L) Q := by
  obtain ⟨l0, l2, l3, l4, l5, l17, l18, l19⟩ := id hX.1.1
  rw [en_Reader_readLine]
  by_cases e9 : s = 9
  · subst e9
    simp (disch := omega) only [ws_nil, ws_iconst, ws_bipush, ws_sipush, ws_lconst, ws_ldc_i, ws_ldc_s, ws_ldc_w_i, ws_ldc_w_s, ws_iload_0, ws_lload_0, ws_aload_0, ws_istore_0, ws_lstore_0, ws_astore_0, ws_iload_1, ws_lload_1, ws_aload_1, ws_istore_1, ws_lstore_1, ws_astore_1, ws_iload_2, ws_lload_2, ws_aload_2, ws_istore_2, ws_lstore_2, ws_astore_2, ws_iload_3, ws_lload_3, ws_aload_3, ws_istore_3, ws_lstore_3, ws_astore_3, ws_iload, ws_aload, ws_istore, ws_astore, ws_iinc, ws_iadd, ws_isub, ws_imul, ws_iand, ws_ior, ws_ixor, ws_ishl, ws_ishr, ws_iushr, ws_idiv, ws_irem, ws_ineg, ws_i2l, ws_l2i, ws_ladd, ws_lmul, ws_lcmp, ws_dup_i, ws_pop_i, ws_dup_r, ws_pop_r, ws_dup2, ws_if_eq, ws_icmp_eq, ws_if_ne, ws_icmp_ne, ws_if_lt, ws_icmp_lt, ws_if_ge, ws_icmp_ge, ws_if_gt, ws_icmp_gt, ws_if_le, ws_icmp_le, ws_goto, ws_table, ws_get_0, ws_get_1, ws_get_2, ws_get_3, ws_put_0, ws_put_1, ws_put_2, ws_put_3, ws_iaload, ws_laload, ws_aaload, ws_iastore, ws_lastore, ws_alen, ws_ret_int, ws_ret_boolean, ws_ret_long, ws_ret_ref, ws_ret_void, ws_iv_0, ws_iv_1, ws_iv_2, ws_iv_3, ws_iv_4, ws_iv_5, ws_is_1, ws_is_2, ws_is_3, ws_is_4, ws_is_5, ws_slen, ws_schar, ws_max, ws_min, ws_copy, go_some, g_li_0, g_li_1, g_li_2, g_li_3, g_li_4, g_li_5, g_li_6, g_li_7, g_li_8, g_li_9, g_li_10, g_li_11, g_li_12, g_li_13, g_li_14, g_li_15, g_li_16, g_li_17, g_li_18, g_li_19, g_ll_0, g_ll_1, g_ll_2, g_ll_3, g_ll_4, g_ll_5, g_ll_6, g_ll_7, g_ll_8, g_ll_9, g_lr_0, g_lr_1, g_lr_2, g_lr_3, g_lr_4, g_lr_5, g_lr_6, g_lr_7, g_lr_8, g_lr_9, g_st_0, g_st_1i, g_st_1r, g_st_1n, g_st_1o, g_st_2, g_st_3, g_st_4, g_st_5, g_st_6, g_st_7, g_st_8, g_st_9, g_st_10, g_st_11, g_st_12, g_st_13, g_st_14, g_st_15, g_st_16, g_st_17, g_st_18, g_st_19, g_st2_1, gN_0, gN_1, gN_2, gN_3, gN_4, gN_5, gN_6, gN_7, gN_8, gN_9, to_some, to_none, ci_m2, ci_m1, ci_0, ci_1, ci_2, ci_3, ci_4, ci_5, cb_m2, cb_6, cb_7, cb_8, cb_9, cb_10, cb_11, cb_12, cb_13, cb_16, cb_20, cb_24, cb_27, cb_30, cb_32, cb_40, cb_41, cb_42, cb_48, cb_57, cb_59, cb_60, cb_63, cb_74, cb_75, cb_80, cb_90, cb_97, cb_99, cb_100, cb_120, cb_122, cs_130, cs_150, cs_162, cs_180, cs_190, cs_202, cs_214, cs_230, cs_255, cs_262, cs_358, cs_410, cs_786, cs_900, cs_2882, cs_3144, cs_4096, ci_m8, gb_n, gb_i1, gb_r1, gb_i2, gb_r2, gb_l2, gb_i3, gb_r3, gb_l3, gb_i4, gb_r4, gb_l4, gb_i5, gb_r5, gb_l5, gb_i6, gb_r6, gb_l6, gb_i7, gb_r7, gb_l7, gb_i8, gb_r8, gb_l8, Nat.reduceAdd, Nat.reduceSub, Nat.reduceLeDiff, List.length_nil, List.length_cons, true_and, and_true, Nat.reduceMul, Nat.reduceLT, Nat.reduceEqDiff, b_Reader_readLine_0, nI_toInt, n_ite, n_lt, n_le, n_eq, n_lt0, n_ge0, n_gt0, n_le0, n_eq0, n_eq1, n_cl, n_in, n_add, n_mul, n_sub, n_and, n_or, n_shl, n_shr, n_m2lt0, n_m2ge0, n_m1lt0, n_m1ge0, n_mlt, n_m2ne, n_m2ne', n_m1ne, n_m1ne', not_true_eq_false, not_false_eq_true, false_implies, true_implies, and_self, true_and, and_true, Nat.not_lt, Nat.not_le, true_or, or_true, false_or, or_false, ne_eq, Nat.le_refl, Nat.lt_irrefl, implies_true, Nat.zero_add, Nat.add_zero, Classical.not_not]
    simp
    simp (disch := omega) only [ws_nil, ws_iconst, ws_bipush, ws_sipush, ws_lconst, ws_ldc_i, ws_ldc_s, ws_ldc_w_i, ws_ldc_w_s, ws_iload_0, ws_lload_0, ws_aload_0, ws_istore_0, ws_lstore_0, ws_astore_0, ws_iload_1, ws_lload_1, ws_aload_1, ws_istore_1, ws_lstore_1, ws_astore_1, ws_iload_2, ws_lload_2, ws_aload_2, ws_istore_2, ws_lstore_2, ws_astore_2, ws_iload_3, ws_lload_3, ws_aload_3, ws_istore_3, ws_lstore_3, ws_astore_3, ws_iload, ws_aload, ws_istore, ws_astore, ws_iinc, ws_iadd, ws_isub, ws_imul, ws_iand, ws_ior, ws_ixor, ws_ishl, ws_ishr, ws_iushr, ws_idiv, ws_irem, ws_ineg, ws_i2l, ws_l2i, ws_ladd, ws_lmul, ws_lcmp, ws_dup_i, ws_pop_i, ws_dup_r, ws_pop_r, ws_dup2, ws_if_eq, ws_icmp_eq, ws_if_ne, ws_icmp_ne, ws_if_lt, ws_icmp_lt, ws_if_ge, ws_icmp_ge, ws_if_gt, ws_icmp_gt, ws_if_le, ws_icmp_le, ws_goto, ws_table, ws_get_0, ws_get_1, ws_get_2, ws_get_3, ws_put_0, ws_put_1, ws_put_2, ws_put_3, ws_iaload, ws_laload, ws_aaload, ws_iastore, ws_lastore, ws_alen, ws_ret_int, ws_ret_boolean, ws_ret_long, ws_ret_ref, ws_ret_void, ws_iv_0, ws_iv_1, ws_iv_2, ws_iv_3, ws_iv_4, ws_iv_5, ws_is_1, ws_is_2, ws_is_3, ws_is_4, ws_is_5, ws_slen, ws_schar, ws_max, ws_min, ws_copy, go_some, g_li_0, g_li_1, g_li_2, g_li_3, g_li_4, g_li_5, g_li_6, g_li_7, g_li_8, g_li_9, g_li_10, g_li_11, g_li_12, g_li_13, g_li_14, g_li_15, g_li_16, g_li_17, g_li_18, g_li_19, g_ll_0, g_ll_1, g_ll_2, g_ll_3, g_ll_4, g_ll_5, g_ll_6, g_ll_7, g_ll_8, g_ll_9, g_lr_0, g_lr_1, g_lr_2, g_lr_3, g_lr_4, g_lr_5, g_lr_6, g_lr_7, g_lr_8, g_lr_9, g_st_0, g_st_1i, g_st_1r, g_st_1n, g_st_1o, g_st_2, g_st_3, g_st_4, g_st_5, g_st_6, g_st_7, g_st_8, g_st_9, g_st_10, g_st_11, g_st_12, g_st_13, g_st_14, g_st_15, g_st_16, g_st_17, g_st_18, g_st_19, g_st2_1, gN_0, gN_1, gN_2, gN_3, gN_4, gN_5, gN_6, gN_7, gN_8, gN_9, to_some, to_none, ci_m2, ci_m1, ci_0, ci_1, ci_2, ci_3, ci_4, ci_5, cb_m2, cb_6, cb_7, cb_8, cb_9, cb_10, cb_11, cb_12, cb_13, cb_16, cb_20, cb_24, cb_27, cb_30, cb_32, cb_40, cb_41, cb_42, cb_48, cb_57, cb_59, cb_60, cb_63, cb_74, cb_75, cb_80, cb_90, cb_97, cb_99, cb_100, cb_120, cb_122, cs_130, cs_150, cs_162, cs_180, cs_190, cs_202, cs_214, cs_230, cs_255, cs_262, cs_358, cs_410, cs_786, cs_900, cs_2882, cs_3144, cs_4096, ci_m8, gb_n, gb_i1, gb_r1, gb_i2, gb_r2, gb_l2, gb_i3, gb_r3, gb_l3, gb_i4, gb_r4, gb_l4, gb_i5, gb_r5, gb_l5, gb_i6, gb_r6, gb_l6, gb_i7, gb_r7, gb_l7, gb_i8, gb_r8, gb_l8, Nat.reduceAdd, Nat.reduceSub, Nat.reduceLeDiff, List.length_nil, List.length_cons, true_and, and_true, Nat.reduceMul, Nat.reduceLT, Nat.reduceEqDiff, b_Reader_readLine_10, n_ite, n_lt, n_le, n_eq, n_lt0, n_ge0, n_gt0, n_le0, n_eq0, n_eq1, n_cl, n_in, n_add, n_mul, n_sub, n_and, n_or, n_shl, n_shr, n_m2lt0, n_m2ge0, n_m1lt0, n_m1ge0, n_mlt, n_m2ne, n_m2ne', n_m1ne, n_m1ne', not_true_eq_false, not_false_eq_true, false_implies, true_implies, and_self, true_and, and_true, Nat.not_lt, Nat.not_le, true_or, or_true, false_or, or_false, ne_eq, Nat.le_refl, Nat.lt_irrefl, implies_true, Nat.zero_add, Nat.add_zero, Classical.not_not]
    exact hQ I L hX FrD_rf
  · obtain ⟨hx0, hlf⟩ := hx e9
    obtain ⟨i0, i1, i2, i3, i4, i5, i6, i7⟩ := lf_inv (hX.2.2.2.2 hx0).2.2.2.2.2.2.2 (by omega) hlf
    have hcase : s = 0 ∨ s = 1 ∨ s = 2 ∨ s = 3 ∨ s = 4 ∨ s = 5 ∨ s = 6 ∨ s = 7 ∨ s = 8 := by omega
    rcases hcase with e | e | e | e | e | e | e | e | e
    all_goals subst e
    all_goals simp (disch := omega) only [ws_nil, ws_iconst, ws_bipush, ws_sipush, ws_lconst, ws_ldc_i, ws_ldc_s, ws_ldc_w_i, ws_ldc_w_s, ws_iload_0, ws_lload_0, ws_aload_0, ws_istore_0, ws_lstore_0, ws_astore_0, ws_iload_1, ws_lload_1, ws_aload_1, ws_istore_1, ws_lstore_1, ws_astore_1, ws_iload_2, ws_lload_2, ws_aload_2, ws_istore_2, ws_lstore_2, ws_astore_2, ws_iload_3, ws_lload_3, ws_aload_3, ws_istore_3, ws_lstore_3, ws_astore_3, ws_iload, ws_aload, ws_istore, ws_astore, ws_iinc, ws_iadd, ws_isub, ws_imul, ws_iand, ws_ior, ws_ixor, ws_ishl, ws_ishr, ws_iushr, ws_idiv, ws_irem, ws_ineg, ws_i2l, ws_l2i, ws_ladd, ws_lmul, ws_lcmp, ws_dup_i, ws_pop_i, ws_dup_r, ws_pop_r, ws_dup2, ws_if_eq, ws_icmp_eq, ws_if_ne, ws_icmp_ne, ws_if_lt, ws_icmp_lt, ws_if_ge, ws_icmp_ge, ws_if_gt, ws_icmp_gt, ws_if_le, ws_icmp_le, ws_goto, ws_table, ws_get_0, ws_get_1, ws_get_2, ws_get_3, ws_put_0, ws_put_1, ws_put_2, ws_put_3, ws_iaload, ws_laload, ws_aaload, ws_iastore, ws_lastore, ws_alen, ws_ret_int, ws_ret_boolean, ws_ret_long, ws_ret_ref, ws_ret_void, ws_iv_0, ws_iv_1, ws_iv_2, ws_iv_3, ws_iv_4, ws_iv_5, ws_is_1, ws_is_2, ws_is_3, ws_is_4, ws_is_5, ws_slen, ws_schar, ws_max, ws_min, ws_copy, go_some, g_li_0, g_li_1, g_li_2, g_li_3, g_li_4, g_li_5, g_li_6, g_li_7, g_li_8, g_li_9, g_li_10, g_li_11, g_li_12, g_li_13, g_li_14, g_li_15, g_li_16, g_li_17, g_li_18, g_li_19, g_ll_0, g_ll_1, g_ll_2, g_ll_3, g_ll_4, g_ll_5, g_ll_6, g_ll_7, g_ll_8, g_ll_9, g_lr_0, g_lr_1, g_lr_2, g_lr_3, g_lr_4, g_lr_5, g_lr_6, g_lr_7, g_lr_8, g_lr_9, g_st_0, g_st_1i, g_st_1r, g_st_1n, g_st_1o, g_st_2, g_st_3, g_st_4, g_st_5, g_st_6, g_st_7, g_st_8, g_st_9, g_st_10, g_st_11, g_st_12, g_st_13, g_st_14, g_st_15, g_st_16, g_st_17, g_st_18, g_st_19, g_st2_1, gN_0, gN_1, gN_2, gN_3, gN_4, gN_5, gN_6, gN_7, gN_8, gN_9, to_some, to_none, ci_m2, ci_m1, ci_0, ci_1, ci_2, ci_3, ci_4, ci_5, cb_m2, cb_6, cb_7, cb_8, cb_9, cb_10, cb_11, cb_12, cb_13, cb_16, cb_20, cb_24, cb_27, cb_30, cb_32, cb_40, cb_41, cb_42, cb_48, cb_57, cb_59, cb_60, cb_63, cb_74, cb_75, cb_80, cb_90, cb_97, cb_99, cb_100, cb_120, cb_122, cs_130, cs_150, cs_162, cs_180, cs_190, cs_202, cs_214, cs_230, cs_255, cs_262, cs_358, cs_410, cs_786, cs_900, cs_2882, cs_3144, cs_4096, ci_m8, gb_n, gb_i1, gb_r1, gb_i2, gb_r2, gb_l2, gb_i3, gb_r3, gb_l3, gb_i4, gb_r4, gb_l4, gb_i5, gb_r5, gb_l5, gb_i6, gb_r6, gb_l6, gb_i7, gb_r7, gb_l7, gb_i8, gb_r8, gb_l8, Nat.reduceAdd, Nat.reduceSub, Nat.reduceLeDiff, List.length_nil, List.length_cons, true_and, and_true, Nat.reduceMul, Nat.reduceLT, Nat.reduceEqDiff, b_Reader_readLine_0, nI_toInt, n_ite, n_lt, n_le, n_eq, n_lt0, n_ge0, n_gt0, n_le0, n_eq0, n_eq1, n_cl, n_in, n_add, n_mul, n_sub, n_and, n_or, n_shl, n_shr, n_m2lt0, n_m2ge0, n_m1lt0, n_m1ge0, n_mlt, n_m2ne, n_m2ne', n_m1ne, n_m1ne', not_true_eq_false, not_false_eq_true, false_implies, true_implies, and_self, true_and, and_true, Nat.not_lt, Nat.not_le, true_or, or_true, false_or, or_false, ne_eq, Nat.le_refl, Nat.lt_irrefl, implies_true, Nat.zero_add, Nat.add_zero, Classical.not_not]
    all_goals simp
    all_goals simp (disch := omega) only [ws_nil, ws_iconst, ws_bipush, ws_sipush, ws_lconst, ws_ldc_i, ws_ldc_s, ws_ldc_w_i, ws_ldc_w_s, ws_iload_0, ws_lload_0, ws_aload_0, ws_istore_0, ws_lstore_0, ws_astore_0, ws_iload_1, ws_lload_1, ws_aload_1, ws_istore_1, ws_lstore_1, ws_astore_1, ws_iload_2, ws_lload_2, ws_aload_2, ws_istore_2, ws_lstore_2, ws_astore_2, ws_iload_3, ws_lload_3, ws_aload_3, ws_istore_3, ws_lstore_3, ws_astore_3, ws_iload, ws_aload, ws_istore, ws_astore, ws_iinc, ws_iadd, ws_isub, ws_imul, ws_iand, ws_ior, ws_ixor, ws_ishl, ws_ishr, ws_iushr, ws_idiv, ws_irem, ws_ineg, ws_i2l, ws_l2i, ws_ladd, ws_lmul, ws_lcmp, ws_dup_i, ws_pop_i, ws_dup_r, ws_pop_r, ws_dup2, ws_if_eq, ws_icmp_eq, ws_if_ne, ws_icmp_ne, ws_if_lt, ws_icmp_lt, ws_if_ge, ws_icmp_ge, ws_if_gt, ws_icmp_gt, ws_if_le, ws_icmp_le, ws_goto, ws_table, ws_get_0, ws_get_1, ws_get_2, ws_get_3, ws_put_0, ws_put_1, ws_put_2, ws_put_3, ws_iaload, ws_laload, ws_aaload, ws_iastore, ws_lastore, ws_alen, ws_ret_int, ws_ret_boolean, ws_ret_long, ws_ret_ref, ws_ret_void, ws_iv_0, ws_iv_1, ws_iv_2, ws_iv_3, ws_iv_4, ws_iv_5, ws_is_1, ws_is_2, ws_is_3, ws_is_4, ws_is_5, ws_slen, ws_schar, ws_max, ws_min, ws_copy, go_some, g_li_0, g_li_1, g_li_2, g_li_3, g_li_4, g_li_5, g_li_6, g_li_7, g_li_8, g_li_9, g_li_10, g_li_11, g_li_12, g_li_13, g_li_14, g_li_15, g_li_16, g_li_17, g_li_18, g_li_19, g_ll_0, g_ll_1, g_ll_2, g_ll_3, g_ll_4, g_ll_5, g_ll_6, g_ll_7, g_ll_8, g_ll_9, g_lr_0, g_lr_1, g_lr_2, g_lr_3, g_lr_4, g_lr_5, g_lr_6, g_lr_7, g_lr_8, g_lr_9, g_st_0, g_st_1i, g_st_1r, g_st_1n, g_st_1o, g_st_2, g_st_3, g_st_4, g_st_5, g_st_6, g_st_7, g_st_8, g_st_9, g_st_10, g_st_11, g_st_12, g_st_13, g_st_14, g_st_15, g_st_16, g_st_17, g_st_18, g_st_19, g_st2_1, gN_0, gN_1, gN_2, gN_3, gN_4, gN_5, gN_6, gN_7, gN_8, gN_9, to_some, to_none, ci_m2, ci_m1, ci_0, ci_1, ci_2, ci_3, ci_4, ci_5, cb_m2, cb_6, cb_7, cb_8, cb_9, cb_10, cb_11, cb_12, cb_13, cb_16, cb_20, cb_24, cb_27, cb_30, cb_32, cb_40, cb_41, cb_42, cb_48, cb_57, cb_59, cb_60, cb_63, cb_74, cb_75, cb_80, cb_90, cb_97, cb_99, cb_100, cb_120, cb_122, cs_130, cs_150, cs_162, cs_180, cs_190, cs_202, cs_214, cs_230, cs_255, cs_262, cs_358, cs_410, cs_786, cs_900, cs_2882, cs_3144, cs_4096, ci_m8, gb_n, gb_i1, gb_r1, gb_i2, gb_r2, gb_l2, gb_i3, gb_r3, gb_l3, gb_i4, gb_r4, gb_l4, gb_i5, gb_r5, gb_l5, gb_i6, gb_r6, gb_l6, gb_i7, gb_r7, gb_l7, gb_i8, gb_r8, gb_l8, Nat.reduceAdd, Nat.reduceSub, Nat.reduceLeDiff, List.length_nil, List.length_cons, true_and, and_true, Nat.reduceMul, Nat.reduceLT, Nat.reduceEqDiff, b_Reader_readLine_1, b_Reader_readLine_2, b_Reader_readLine_3, b_Reader_readLine_4, b_Reader_readLine_5, b_Reader_readLine_6, b_Reader_readLine_7, b_Reader_readLine_8, b_Reader_readLine_9, l0, n_ite, n_lt, n_le, n_eq, n_lt0, n_ge0, n_gt0, n_le0, n_eq0, n_eq1, n_cl, n_in, n_add, n_mul, n_sub, n_and, n_or, n_shl, n_shr, n_m2lt0, n_m2ge0, n_m1lt0, n_m1ge0, n_mlt, n_m2ne, n_m2ne', n_m1ne, n_m1ne', not_true_eq_false, not_false_eq_true, false_implies, true_implies, and_self, true_and, and_true, Nat.not_lt, Nat.not_le, true_or, or_true, false_or, or_false, ne_eq, Nat.le_refl, Nat.lt_irrefl, implies_true, Nat.zero_add, Nat.add_zero, Classical.not_not]
    · refine c_readTowns (d := d) hX hx0 (fun J L1 hJ hF => ?_)
      simp (disch := omega) only [ws_nil, ws_iconst, ws_bipush, ws_sipush, ws_lconst, ws_ldc_i, ws_ldc_s, ws_ldc_w_i, ws_ldc_w_s, ws_iload_0, ws_lload_0, ws_aload_0, ws_istore_0, ws_lstore_0, ws_astore_0, ws_iload_1, ws_lload_1, ws_aload_1, ws_istore_1, ws_lstore_1, ws_astore_1, ws_iload_2, ws_lload_2, ws_aload_2, ws_istore_2, ws_lstore_2, ws_astore_2, ws_iload_3, ws_lload_3, ws_aload_3, ws_istore_3, ws_lstore_3, ws_astore_3, ws_iload, ws_aload, ws_istore, ws_astore, ws_iinc, ws_iadd, ws_isub, ws_imul, ws_iand, ws_ior, ws_ixor, ws_ishl, ws_ishr, ws_iushr, ws_idiv, ws_irem, ws_ineg, ws_i2l, ws_l2i, ws_ladd, ws_lmul, ws_lcmp, ws_dup_i, ws_pop_i, ws_dup_r, ws_pop_r, ws_dup2, ws_if_eq, ws_icmp_eq, ws_if_ne, ws_icmp_ne, ws_if_lt, ws_icmp_lt, ws_if_ge, ws_icmp_ge, ws_if_gt, ws_icmp_gt, ws_if_le, ws_icmp_le, ws_goto, ws_table, ws_get_0, ws_get_1, ws_get_2, ws_get_3, ws_put_0, ws_put_1, ws_put_2, ws_put_3, ws_iaload, ws_laload, ws_aaload, ws_iastore, ws_lastore, ws_alen, ws_ret_int, ws_ret_boolean, ws_ret_long, ws_ret_ref, ws_ret_void, ws_iv_0, ws_iv_1, ws_iv_2, ws_iv_3, ws_iv_4, ws_iv_5, ws_is_1, ws_is_2, ws_is_3, ws_is_4, ws_is_5, ws_slen, ws_schar, ws_max, ws_min, ws_copy, go_some, g_li_0, g_li_1, g_li_2, g_li_3, g_li_4, g_li_5, g_li_6, g_li_7, g_li_8, g_li_9, g_li_10, g_li_11, g_li_12, g_li_13, g_li_14, g_li_15, g_li_16, g_li_17, g_li_18, g_li_19, g_ll_0, g_ll_1, g_ll_2, g_ll_3, g_ll_4, g_ll_5, g_ll_6, g_ll_7, g_ll_8, g_ll_9, g_lr_0, g_lr_1, g_lr_2, g_lr_3, g_lr_4, g_lr_5, g_lr_6, g_lr_7, g_lr_8, g_lr_9, g_st_0, g_st_1i, g_st_1r, g_st_1n, g_st_1o, g_st_2, g_st_3, g_st_4, g_st_5, g_st_6, g_st_7, g_st_8, g_st_9, g_st_10, g_st_11, g_st_12, g_st_13, g_st_14, g_st_15, g_st_16, g_st_17, g_st_18, g_st_19, g_st2_1, gN_0, gN_1, gN_2, gN_3, gN_4, gN_5, gN_6, gN_7, gN_8, gN_9, to_some, to_none, ci_m2, ci_m1, ci_0, ci_1, ci_2, ci_3, ci_4, ci_5, cb_m2, cb_6, cb_7, cb_8, cb_9, cb_10, cb_11, cb_12, cb_13, cb_16, cb_20, cb_24, cb_27, cb_30, cb_32, cb_40, cb_41, cb_42, cb_48, cb_57, cb_59, cb_60, cb_63, cb_74, cb_75, cb_80, cb_90, cb_97, cb_99, cb_100, cb_120, cb_122, cs_130, cs_150, cs_162, cs_180, cs_190, cs_202, cs_214, cs_230, cs_255, cs_262, cs_358, cs_410, cs_786, cs_900, cs_2882, cs_3144, cs_4096, ci_m8, gb_n, gb_i1, gb_r1, gb_i2, gb_r2, gb_l2, gb_i3, gb_r3, gb_l3, gb_i4, gb_r4, gb_l4, gb_i5, gb_r5, gb_l5, gb_i6, gb_r6, gb_l6, gb_i7, gb_r7, gb_l7, gb_i8, gb_r8, gb_l8, Nat.reduceAdd, Nat.reduceSub, Nat.reduceLeDiff, List.length_nil, List.length_cons, true_and, and_true, Nat.reduceMul, Nat.reduceLT, Nat.reduceEqDiff, b_Reader_readLine_10, n_ite, n_lt, n_le, n_eq, n_lt0, n_ge0, n_gt0, n_le0, n_eq0, n_eq1, n_cl, n_in, n_add, n_mul, n_sub, n_and, n_or, n_shl, n_shr, n_m2lt0, n_m2ge0, n_m1lt0, n_m1ge0, n_mlt, n_m2ne, n_m2ne', n_m1ne, n_m1ne', not_true_eq_false, not_false_eq_true, false_implies, true_implies, and_self, true_and, and_true, Nat.not_lt, Nat.not_le, true_or, or_true, false_or, or_false, ne_eq, Nat.le_refl, Nat.lt_irrefl, implies_true, Nat.zero_add, Nat.add_zero, Classical.not_not]
      exact hQ J L1 hJ hF
    · refine c_readHouse (d := d) hX hx0 (i1 (by omega)) (i2 rfl) (fun J L1 hJ hF => ?_)
      simp (disch := omega) only [ws_nil, ws_iconst, ws_bipush, ws_sipush, ws_lconst, ws_ldc_i, ws_ldc_s, ws_ldc_w_i, ws_ldc_w_s, ws_iload_0, ws_lload_0, ws_aload_0, ws_istore_0, ws_lstore_0, ws_astore_0, ws_iload_1, ws_lload_1, ws_aload_1, ws_istore_1, ws_lstore_1, ws_astore_1, ws_iload_2, ws_lload_2, ws_aload_2, ws_istore_2, ws_lstore_2, ws_astore_2, ws_iload_3, ws_lload_3, ws_aload_3, ws_istore_3, ws_lstore_3, ws_astore_3, ws_iload, ws_aload, ws_istore, ws_astore, ws_iinc, ws_iadd, ws_isub, ws_imul, ws_iand, ws_ior, ws_ixor, ws_ishl, ws_ishr, ws_iushr, ws_idiv, ws_irem, ws_ineg, ws_i2l, ws_l2i, ws_ladd, ws_lmul, ws_lcmp, ws_dup_i, ws_pop_i, ws_dup_r, ws_pop_r, ws_dup2, ws_if_eq, ws_icmp_eq, ws_if_ne, ws_icmp_ne, ws_if_lt, ws_icmp_lt, ws_if_ge, ws_icmp_ge, ws_if_gt, ws_icmp_gt, ws_if_le, ws_icmp_le, ws_goto, ws_table, ws_get_0, ws_get_1, ws_get_2, ws_get_3, ws_put_0, ws_put_1, ws_put_2, ws_put_3, ws_iaload, ws_laload, ws_aaload, ws_iastore, ws_lastore, ws_alen, ws_ret_int, ws_ret_boolean, ws_ret_long, ws_ret_ref, ws_ret_void, ws_iv_0, ws_iv_1, ws_iv_2, ws_iv_3, ws_iv_4, ws_iv_5, ws_is_1, ws_is_2, ws_is_3, ws_is_4, ws_is_5, ws_slen, ws_schar, ws_max, ws_min, ws_copy, go_some, g_li_0, g_li_1, g_li_2, g_li_3, g_li_4, g_li_5, g_li_6, g_li_7, g_li_8, g_li_9, g_li_10, g_li_11, g_li_12, g_li_13, g_li_14, g_li_15, g_li_16, g_li_17, g_li_18, g_li_19, g_ll_0, g_ll_1, g_ll_2, g_ll_3, g_ll_4, g_ll_5, g_ll_6, g_ll_7, g_ll_8, g_ll_9, g_lr_0, g_lr_1, g_lr_2, g_lr_3, g_lr_4, g_lr_5, g_lr_6, g_lr_7, g_lr_8, g_lr_9, g_st_0, g_st_1i, g_st_1r, g_st_1n, g_st_1o, g_st_2, g_st_3, g_st_4, g_st_5, g_st_6, g_st_7, g_st_8, g_st_9, g_st_10, g_st_11, g_st_12, g_st_13, g_st_14, g_st_15, g_st_16, g_st_17, g_st_18, g_st_19, g_st2_1, gN_0, gN_1, gN_2, gN_3, gN_4, gN_5, gN_6, gN_7, gN_8, gN_9, to_some, to_none, ci_m2, ci_m1, ci_0, ci_1, ci_2, ci_3, ci_4, ci_5, cb_m2, cb_6, cb_7, cb_8, cb_9, cb_10, cb_11, cb_12, cb_13, cb_16, cb_20, cb_24, cb_27, cb_30, cb_32, cb_40, cb_41, cb_42, cb_48, cb_57, cb_59, cb_60, cb_63, cb_74, cb_75, cb_80, cb_90, cb_97, cb_99, cb_100, cb_120, cb_122, cs_130, cs_150, cs_162, cs_180, cs_190, cs_202, cs_214, cs_230, cs_255, cs_262, cs_358, cs_410, cs_786, cs_900, cs_2882, cs_3144, cs_4096, ci_m8, gb_n, gb_i1, gb_r1, gb_i2, gb_r2, gb_l2, gb_i3, gb_r3, gb_l3, gb_i4, gb_r4, gb_l4, gb_i5, gb_r5, gb_l5, gb_i6, gb_r6, gb_l6, gb_i7, gb_r7, gb_l7, gb_i8, gb_r8, gb_l8, Nat.reduceAdd, Nat.reduceSub, Nat.reduceLeDiff, List.length_nil, List.length_cons, true_and, and_true, Nat.reduceMul, Nat.reduceLT, Nat.reduceEqDiff, b_Reader_readLine_10, n_ite, n_lt, n_le, n_eq, n_lt0, n_ge0, n_gt0, n_le0, n_eq0, n_eq1, n_cl, n_in, n_add, n_mul, n_sub, n_and, n_or, n_shl, n_shr, n_m2lt0, n_m2ge0, n_m1lt0, n_m1ge0, n_mlt, n_m2ne, n_m2ne', n_m1ne, n_m1ne', not_true_eq_false, not_false_eq_true, false_implies, true_implies, and_self, true_and, and_true, Nat.not_lt, Nat.not_le, true_or, or_true, false_or, or_false, ne_eq, Nat.le_refl, Nat.lt_irrefl, implies_true, Nat.zero_add, Nat.add_zero, Classical.not_not]
      exact hQ J L1 hJ hF
    · refine c_readPerson (d := d) hX hx0 (i1 (by omega)) (i3 rfl) (fun J L1 hJ hF => ?_)
      simp (disch := omega) only [ws_nil, ws_iconst, ws_bipush, ws_sipush, ws_lconst, ws_ldc_i, ws_ldc_s, ws_ldc_w_i, ws_ldc_w_s, ws_iload_0, ws_lload_0, ws_aload_0, ws_istore_0, ws_lstore_0, ws_astore_0, ws_iload_1, ws_lload_1, ws_aload_1, ws_istore_1, ws_lstore_1, ws_astore_1, ws_iload_2, ws_lload_2, ws_aload_2, ws_istore_2, ws_lstore_2, ws_astore_2, ws_iload_3, ws_lload_3, ws_aload_3, ws_istore_3, ws_lstore_3, ws_astore_3, ws_iload, ws_aload, ws_istore, ws_astore, ws_iinc, ws_iadd, ws_isub, ws_imul, ws_iand, ws_ior, ws_ixor, ws_ishl, ws_ishr, ws_iushr, ws_idiv, ws_irem, ws_ineg, ws_i2l, ws_l2i, ws_ladd, ws_lmul, ws_lcmp, ws_dup_i, ws_pop_i, ws_dup_r, ws_pop_r, ws_dup2, ws_if_eq, ws_icmp_eq, ws_if_ne, ws_icmp_ne, ws_if_lt, ws_icmp_lt, ws_if_ge, ws_icmp_ge, ws_if_gt, ws_icmp_gt, ws_if_le, ws_icmp_le, ws_goto, ws_table, ws_get_0, ws_get_1, ws_get_2, ws_get_3, ws_put_0, ws_put_1, ws_put_2, ws_put_3, ws_iaload, ws_laload, ws_aaload, ws_iastore, ws_lastore, ws_alen, ws_ret_int, ws_ret_boolean, ws_ret_long, ws_ret_ref, ws_ret_void, ws_iv_0, ws_iv_1, ws_iv_2, ws_iv_3, ws_iv_4, ws_iv_5, ws_is_1, ws_is_2, ws_is_3, ws_is_4, ws_is_5, ws_slen, ws_schar, ws_max, ws_min, ws_copy, go_some, g_li_0, g_li_1, g_li_2, g_li_3, g_li_4, g_li_5, g_li_6, g_li_7, g_li_8, g_li_9, g_li_10, g_li_11, g_li_12, g_li_13, g_li_14, g_li_15, g_li_16, g_li_17, g_li_18, g_li_19, g_ll_0, g_ll_1, g_ll_2, g_ll_3, g_ll_4, g_ll_5, g_ll_6, g_ll_7, g_ll_8, g_ll_9, g_lr_0, g_lr_1, g_lr_2, g_lr_3, g_lr_4, g_lr_5, g_lr_6, g_lr_7, g_lr_8, g_lr_9, g_st_0, g_st_1i, g_st_1r, g_st_1n, g_st_1o, g_st_2, g_st_3, g_st_4, g_st_5, g_st_6, g_st_7, g_st_8, g_st_9, g_st_10, g_st_11, g_st_12, g_st_13, g_st_14, g_st_15, g_st_16, g_st_17, g_st_18, g_st_19, g_st2_1, gN_0, gN_1, gN_2, gN_3, gN_4, gN_5, gN_6, gN_7, gN_8, gN_9, to_some, to_none, ci_m2, ci_m1, ci_0, ci_1, ci_2, ci_3, ci_4, ci_5, cb_m2, cb_6, cb_7, cb_8, cb_9, cb_10, cb_11, cb_12, cb_13, cb_16, cb_20, cb_24, cb_27, cb_30, cb_32, cb_40, cb_41, cb_42, cb_48, cb_57, cb_59, cb_60, cb_63, cb_74, cb_75, cb_80, cb_90, cb_97, cb_99, cb_100, cb_120, cb_122, cs_130, cs_150, cs_162, cs_180, cs_190, cs_202, cs_214, cs_230, cs_255, cs_262, cs_358, cs_410, cs_786, cs_900, cs_2882, cs_3144, cs_4096, ci_m8, gb_n, gb_i1, gb_r1, gb_i2, gb_r2, gb_l2, gb_i3, gb_r3, gb_l3, gb_i4, gb_r4, gb_l4, gb_i5, gb_r5, gb_l5, gb_i6, gb_r6, gb_l6, gb_i7, gb_r7, gb_l7, gb_i8, gb_r8, gb_l8, Nat.reduceAdd, Nat.reduceSub, Nat.reduceLeDiff, List.length_nil, List.length_cons, true_and, and_true, Nat.reduceMul, Nat.reduceLT, Nat.reduceEqDiff, b_Reader_readLine_10, n_ite, n_lt, n_le, n_eq, n_lt0, n_ge0, n_gt0, n_le0, n_eq0, n_eq1, n_cl, n_in, n_add, n_mul, n_sub, n_and, n_or, n_shl, n_shr, n_m2lt0, n_m2ge0, n_m1lt0, n_m1ge0, n_mlt, n_m2ne, n_m2ne', n_m1ne, n_m1ne', not_true_eq_false, not_false_eq_true, false_implies, true_implies, and_self, true_and, and_true, Nat.not_lt, Nat.not_le, true_or, or_true, false_or, or_false, ne_eq, Nat.le_refl, Nat.lt_irrefl, implies_true, Nat.zero_add, Nat.add_zero, Classical.not_not]
      exact hQ J L1 hJ hF
    · refine c_readFoes (d := d) hX hx0 (i4 rfl) (fun J L1 hJ hF => ?_)
      simp (disch := omega) only [ws_nil, ws_iconst, ws_bipush, ws_sipush, ws_lconst, ws_ldc_i, ws_ldc_s, ws_ldc_w_i, ws_ldc_w_s, ws_iload_0, ws_lload_0, ws_aload_0, ws_istore_0, ws_lstore_0, ws_astore_0, ws_iload_1, ws_lload_1, ws_aload_1, ws_istore_1, ws_lstore_1, ws_astore_1, ws_iload_2, ws_lload_2, ws_aload_2, ws_istore_2, ws_lstore_2, ws_astore_2, ws_iload_3, ws_lload_3, ws_aload_3, ws_istore_3, ws_lstore_3, ws_astore_3, ws_iload, ws_aload, ws_istore, ws_astore, ws_iinc, ws_iadd, ws_isub, ws_imul, ws_iand, ws_ior, ws_ixor, ws_ishl, ws_ishr, ws_iushr, ws_idiv, ws_irem, ws_ineg, ws_i2l, ws_l2i, ws_ladd, ws_lmul, ws_lcmp, ws_dup_i, ws_pop_i, ws_dup_r, ws_pop_r, ws_dup2, ws_if_eq, ws_icmp_eq, ws_if_ne, ws_icmp_ne, ws_if_lt, ws_icmp_lt, ws_if_ge, ws_icmp_ge, ws_if_gt, ws_icmp_gt, ws_if_le, ws_icmp_le, ws_goto, ws_table, ws_get_0, ws_get_1, ws_get_2, ws_get_3, ws_put_0, ws_put_1, ws_put_2, ws_put_3, ws_iaload, ws_laload, ws_aaload, ws_iastore, ws_lastore, ws_alen, ws_ret_int, ws_ret_boolean, ws_ret_long, ws_ret_ref, ws_ret_void, ws_iv_0, ws_iv_1, ws_iv_2, ws_iv_3, ws_iv_4, ws_iv_5, ws_is_1, ws_is_2, ws_is_3, ws_is_4, ws_is_5, ws_slen, ws_schar, ws_max, ws_min, ws_copy, go_some, g_li_0, g_li_1, g_li_2, g_li_3, g_li_4, g_li_5, g_li_6, g_li_7, g_li_8, g_li_9, g_li_10, g_li_11, g_li_12, g_li_13, g_li_14, g_li_15, g_li_16, g_li_17, g_li_18, g_li_19, g_ll_0, g_ll_1, g_ll_2, g_ll_3, g_ll_4, g_ll_5, g_ll_6, g_ll_7, g_ll_8, g_ll_9, g_lr_0, g_lr_1, g_lr_2, g_lr_3, g_lr_4, g_lr_5, g_lr_6, g_lr_7, g_lr_8, g_lr_9, g_st_0, g_st_1i, g_st_1r, g_st_1n, g_st_1o, g_st_2, g_st_3, g_st_4, g_st_5, g_st_6, g_st_7, g_st_8, g_st_9, g_st_10, g_st_11, g_st_12, g_st_13, g_st_14, g_st_15, g_st_16, g_st_17, g_st_18, g_st_19, g_st2_1, gN_0, gN_1, gN_2, gN_3, gN_4, gN_5, gN_6, gN_7, gN_8, gN_9, to_some, to_none, ci_m2, ci_m1, ci_0, ci_1, ci_2, ci_3, ci_4, ci_5, cb_m2, cb_6, cb_7, cb_8, cb_9, cb_10, cb_11, cb_12, cb_13, cb_16, cb_20, cb_24, cb_27, cb_30, cb_32, cb_40, cb_41, cb_42, cb_48, cb_57, cb_59, cb_60, cb_63, cb_74, cb_75, cb_80, cb_90, cb_97, cb_99, cb_100, cb_120, cb_122, cs_130, cs_150, cs_162, cs_180, cs_190, cs_202, cs_214, cs_230, cs_255, cs_262, cs_358, cs_410, cs_786, cs_900, cs_2882, cs_3144, cs_4096, ci_m8, gb_n, gb_i1, gb_r1, gb_i2, gb_r2, gb_l2, gb_i3, gb_r3, gb_l3, gb_i4, gb_r4, gb_l4, gb_i5, gb_r5, gb_l5, gb_i6, gb_r6, gb_l6, gb_i7, gb_r7, gb_l7, gb_i8, gb_r8, gb_l8, Nat.reduceAdd, Nat.reduceSub, Nat.reduceLeDiff, List.length_nil, List.length_cons, true_and, and_true, Nat.reduceMul, Nat.reduceLT, Nat.reduceEqDiff, b_Reader_readLine_10, n_ite, n_lt, n_le, n_eq, n_lt0, n_ge0, n_gt0, n_le0, n_eq0, n_eq1, n_cl, n_in, n_add, n_mul, n_sub, n_and, n_or, n_shl, n_shr, n_m2lt0, n_m2ge0, n_m1lt0, n_m1ge0, n_mlt, n_m2ne, n_m2ne', n_m1ne, n_m1ne', not_true_eq_false, not_false_eq_true, false_implies, true_implies, and_self, true_and, and_true, Nat.not_lt, Nat.not_le, true_or, or_true, false_or, or_false, ne_eq, Nat.le_refl, Nat.lt_irrefl, implies_true, Nat.zero_add, Nat.add_zero, Classical.not_not]
      exact hQ J L1 hJ hF
    · refine c_readWants (d := d) hX hx0 (i5 rfl) (fun J L1 hJ hF => ?_)
      simp (disch := omega) only [ws_nil, ws_iconst, ws_bipush, ws_sipush, ws_lconst, ws_ldc_i, ws_ldc_s, ws_ldc_w_i, ws_ldc_w_s, ws_iload_0, ws_lload_0, ws_aload_0, ws_istore_0, ws_lstore_0, ws_astore_0, ws_iload_1, ws_lload_1, ws_aload_1, ws_istore_1, ws_lstore_1, ws_astore_1, ws_iload_2, ws_lload_2, ws_aload_2, ws_istore_2, ws_lstore_2, ws_astore_2, ws_iload_3, ws_lload_3, ws_aload_3, ws_istore_3, ws_lstore_3, ws_astore_3, ws_iload, ws_aload, ws_istore, ws_astore, ws_iinc, ws_iadd, ws_isub, ws_imul, ws_iand, ws_ior, ws_ixor, ws_ishl, ws_ishr, ws_iushr, ws_idiv, ws_irem, ws_ineg, ws_i2l, ws_l2i, ws_ladd, ws_lmul, ws_lcmp, ws_dup_i, ws_pop_i, ws_dup_r, ws_pop_r, ws_dup2, ws_if_eq, ws_icmp_eq, ws_if_ne, ws_icmp_ne, ws_if_lt, ws_icmp_lt, ws_if_ge, ws_icmp_ge, ws_if_gt, ws_icmp_gt, ws_if_le, ws_icmp_le, ws_goto, ws_table, ws_get_0, ws_get_1, ws_get_2, ws_get_3, ws_put_0, ws_put_1, ws_put_2, ws_put_3, ws_iaload, ws_laload, ws_aaload, ws_iastore, ws_lastore, ws_alen, ws_ret_int, ws_ret_boolean, ws_ret_long, ws_ret_ref, ws_ret_void, ws_iv_0, ws_iv_1, ws_iv_2, ws_iv_3, ws_iv_4, ws_iv_5, ws_is_1, ws_is_2, ws_is_3, ws_is_4, ws_is_5, ws_slen, ws_schar, ws_max, ws_min, ws_copy, go_some, g_li_0, g_li_1, g_li_2, g_li_3, g_li_4, g_li_5, g_li_6, g_li_7, g_li_8, g_li_9, g_li_10, g_li_11, g_li_12, g_li_13, g_li_14, g_li_15, g_li_16, g_li_17, g_li_18, g_li_19, g_ll_0, g_ll_1, g_ll_2, g_ll_3, g_ll_4, g_ll_5, g_ll_6, g_ll_7, g_ll_8, g_ll_9, g_lr_0, g_lr_1, g_lr_2, g_lr_3, g_lr_4, g_lr_5, g_lr_6, g_lr_7, g_lr_8, g_lr_9, g_st_0, g_st_1i, g_st_1r, g_st_1n, g_st_1o, g_st_2, g_st_3, g_st_4, g_st_5, g_st_6, g_st_7, g_st_8, g_st_9, g_st_10, g_st_11, g_st_12, g_st_13, g_st_14, g_st_15, g_st_16, g_st_17, g_st_18, g_st_19, g_st2_1, gN_0, gN_1, gN_2, gN_3, gN_4, gN_5, gN_6, gN_7, gN_8, gN_9, to_some, to_none, ci_m2, ci_m1, ci_0, ci_1, ci_2, ci_3, ci_4, ci_5, cb_m2, cb_6, cb_7, cb_8, cb_9, cb_10, cb_11, cb_12, cb_13, cb_16, cb_20, cb_24, cb_27, cb_30, cb_32, cb_40, cb_41, cb_42, cb_48, cb_57, cb_59, cb_60, cb_63, cb_74, cb_75, cb_80, cb_90, cb_97, cb_99, cb_100, cb_120, cb_122, cs_130, cs_150, cs_162, cs_180, cs_190, cs_202, cs_214, cs_230, cs_255, cs_262, cs_358, cs_410, cs_786, cs_900, cs_2882, cs_3144, cs_4096, ci_m8, gb_n, gb_i1, gb_r1, gb_i2, gb_r2, gb_l2, gb_i3, gb_r3, gb_l3, gb_i4, gb_r4, gb_l4, gb_i5, gb_r5, gb_l5, gb_i6, gb_r6, gb_l6, gb_i7, gb_r7, gb_l7, gb_i8, gb_r8, gb_l8, Nat.reduceAdd, Nat.reduceSub, Nat.reduceLeDiff, List.length_nil, List.length_cons, true_and, and_true, Nat.reduceMul, Nat.reduceLT, Nat.reduceEqDiff, b_Reader_readLine_10, n_ite, n_lt, n_le, n_eq, n_lt0, n_ge0, n_gt0, n_le0, n_eq0, n_eq1, n_cl, n_in, n_add, n_mul, n_sub, n_and, n_or, n_shl, n_shr, n_m2lt0, n_m2ge0, n_m1lt0, n_m1ge0, n_mlt, n_m2ne, n_m2ne', n_m1ne, n_m1ne', not_true_eq_false, not_false_eq_true, false_implies, true_implies, and_self, true_and, and_true, Nat.not_lt, Nat.not_le, true_or, or_true, false_or, or_false, ne_eq, Nat.le_refl, Nat.lt_irrefl, implies_true, Nat.zero_add, Nat.add_zero, Classical.not_not]
      exact hQ J L1 hJ hF
    · refine c_readKeeps (d := d) hX hx0 (fun J L1 hJ hF => ?_)
      simp (disch := omega) only [ws_nil, ws_iconst, ws_bipush, ws_sipush, ws_lconst, ws_ldc_i, ws_ldc_s, ws_ldc_w_i, ws_ldc_w_s, ws_iload_0, ws_lload_0, ws_aload_0, ws_istore_0, ws_lstore_0, ws_astore_0, ws_iload_1, ws_lload_1, ws_aload_1, ws_istore_1, ws_lstore_1, ws_astore_1, ws_iload_2, ws_lload_2, ws_aload_2, ws_istore_2, ws_lstore_2, ws_astore_2, ws_iload_3, ws_lload_3, ws_aload_3, ws_istore_3, ws_lstore_3, ws_astore_3, ws_iload, ws_aload, ws_istore, ws_astore, ws_iinc, ws_iadd, ws_isub, ws_imul, ws_iand, ws_ior, ws_ixor, ws_ishl, ws_ishr, ws_iushr, ws_idiv, ws_irem, ws_ineg, ws_i2l, ws_l2i, ws_ladd, ws_lmul, ws_lcmp, ws_dup_i, ws_pop_i, ws_dup_r, ws_pop_r, ws_dup2, ws_if_eq, ws_icmp_eq, ws_if_ne, ws_icmp_ne, ws_if_lt, ws_icmp_lt, ws_if_ge, ws_icmp_ge, ws_if_gt, ws_icmp_gt, ws_if_le, ws_icmp_le, ws_goto, ws_table, ws_get_0, ws_get_1, ws_get_2, ws_get_3, ws_put_0, ws_put_1, ws_put_2, ws_put_3, ws_iaload, ws_laload, ws_aaload, ws_iastore, ws_lastore, ws_alen, ws_ret_int, ws_ret_boolean, ws_ret_long, ws_ret_ref, ws_ret_void, ws_iv_0, ws_iv_1, ws_iv_2, ws_iv_3, ws_iv_4, ws_iv_5, ws_is_1, ws_is_2, ws_is_3, ws_is_4, ws_is_5, ws_slen, ws_schar, ws_max, ws_min, ws_copy, go_some, g_li_0, g_li_1, g_li_2, g_li_3, g_li_4, g_li_5, g_li_6, g_li_7, g_li_8, g_li_9, g_li_10, g_li_11, g_li_12, g_li_13, g_li_14, g_li_15, g_li_16, g_li_17, g_li_18, g_li_19, g_ll_0, g_ll_1, g_ll_2, g_ll_3, g_ll_4, g_ll_5, g_ll_6, g_ll_7, g_ll_8, g_ll_9, g_lr_0, g_lr_1, g_lr_2, g_lr_3, g_lr_4, g_lr_5, g_lr_6, g_lr_7, g_lr_8, g_lr_9, g_st_0, g_st_1i, g_st_1r, g_st_1n, g_st_1o, g_st_2, g_st_3, g_st_4, g_st_5, g_st_6, g_st_7, g_st_8, g_st_9, g_st_10, g_st_11, g_st_12, g_st_13, g_st_14, g_st_15, g_st_16, g_st_17, g_st_18, g_st_19, g_st2_1, gN_0, gN_1, gN_2, gN_3, gN_4, gN_5, gN_6, gN_7, gN_8, gN_9, to_some, to_none, ci_m2, ci_m1, ci_0, ci_1, ci_2, ci_3, ci_4, ci_5, cb_m2, cb_6, cb_7, cb_8, cb_9, cb_10, cb_11, cb_12, cb_13, cb_16, cb_20, cb_24, cb_27, cb_30, cb_32, cb_40, cb_41, cb_42, cb_48, cb_57, cb_59, cb_60, cb_63, cb_74, cb_75, cb_80, cb_90, cb_97, cb_99, cb_100, cb_120, cb_122, cs_130, cs_150, cs_162, cs_180, cs_190, cs_202, cs_214, cs_230, cs_255, cs_262, cs_358, cs_410, cs_786, cs_900, cs_2882, cs_3144, cs_4096, ci_m8, gb_n, gb_i1, gb_r1, gb_i2, gb_r2, gb_l2, gb_i3, gb_r3, gb_l3, gb_i4, gb_r4, gb_l4, gb_i5, gb_r5, gb_l5, gb_i6, gb_r6, gb_l6, gb_i7, gb_r7, gb_l7, gb_i8, gb_r8, gb_l8, Nat.reduceAdd, Nat.reduceSub, Nat.reduceLeDiff, List.length_nil, List.length_cons, true_and, and_true, Nat.reduceMul, Nat.reduceLT, Nat.reduceEqDiff, b_Reader_readLine_10, n_ite, n_lt, n_le, n_eq, n_lt0, n_ge0, n_gt0, n_le0, n_eq0, n_eq1, n_cl, n_in, n_add, n_mul, n_sub, n_and, n_or, n_shl, n_shr, n_m2lt0, n_m2ge0, n_m1lt0, n_m1ge0, n_mlt, n_m2ne, n_m2ne', n_m1ne, n_m1ne', not_true_eq_false, not_false_eq_true, false_implies, true_implies, and_self, true_and, and_true, Nat.not_lt, Nat.not_le, true_or, or_true, false_or, or_false, ne_eq, Nat.le_refl, Nat.lt_irrefl, implies_true, Nat.zero_add, Nat.add_zero, Classical.not_not]
      exact hQ J L1 hJ hF
    · refine c_readIll (d := d) hX hx0 (fun J L1 hJ hF => ?_)
      simp (disch := omega) only [ws_nil, ws_iconst, ws_bipush, ws_sipush, ws_lconst, ws_ldc_i, ws_ldc_s, ws_ldc_w_i, ws_ldc_w_s, ws_iload_0, ws_lload_0, ws_aload_0, ws_istore_0, ws_lstore_0, ws_astore_0, ws_iload_1, ws_lload_1, ws_aload_1, ws_istore_1, ws_lstore_1, ws_astore_1, ws_iload_2, ws_lload_2, ws_aload_2, ws_istore_2, ws_lstore_2, ws_astore_2, ws_iload_3, ws_lload_3, ws_aload_3, ws_istore_3, ws_lstore_3, ws_astore_3, ws_iload, ws_aload, ws_istore, ws_astore, ws_iinc, ws_iadd, ws_isub, ws_imul, ws_iand, ws_ior, ws_ixor, ws_ishl, ws_ishr, ws_iushr, ws_idiv, ws_irem, ws_ineg, ws_i2l, ws_l2i, ws_ladd, ws_lmul, ws_lcmp, ws_dup_i, ws_pop_i, ws_dup_r, ws_pop_r, ws_dup2, ws_if_eq, ws_icmp_eq, ws_if_ne, ws_icmp_ne, ws_if_lt, ws_icmp_lt, ws_if_ge, ws_icmp_ge, ws_if_gt, ws_icmp_gt, ws_if_le, ws_icmp_le, ws_goto, ws_table, ws_get_0, ws_get_1, ws_get_2, ws_get_3, ws_put_0, ws_put_1, ws_put_2, ws_put_3, ws_iaload, ws_laload, ws_aaload, ws_iastore, ws_lastore, ws_alen, ws_ret_int, ws_ret_boolean, ws_ret_long, ws_ret_ref, ws_ret_void, ws_iv_0, ws_iv_1, ws_iv_2, ws_iv_3, ws_iv_4, ws_iv_5, ws_is_1, ws_is_2, ws_is_3, ws_is_4, ws_is_5, ws_slen, ws_schar, ws_max, ws_min, ws_copy, go_some, g_li_0, g_li_1, g_li_2, g_li_3, g_li_4, g_li_5, g_li_6, g_li_7, g_li_8, g_li_9, g_li_10, g_li_11, g_li_12, g_li_13, g_li_14, g_li_15, g_li_16, g_li_17, g_li_18, g_li_19, g_ll_0, g_ll_1, g_ll_2, g_ll_3, g_ll_4, g_ll_5, g_ll_6, g_ll_7, g_ll_8, g_ll_9, g_lr_0, g_lr_1, g_lr_2, g_lr_3, g_lr_4, g_lr_5, g_lr_6, g_lr_7, g_lr_8, g_lr_9, g_st_0, g_st_1i, g_st_1r, g_st_1n, g_st_1o, g_st_2, g_st_3, g_st_4, g_st_5, g_st_6, g_st_7, g_st_8, g_st_9, g_st_10, g_st_11, g_st_12, g_st_13, g_st_14, g_st_15, g_st_16, g_st_17, g_st_18, g_st_19, g_st2_1, gN_0, gN_1, gN_2, gN_3, gN_4, gN_5, gN_6, gN_7, gN_8, gN_9, to_some, to_none, ci_m2, ci_m1, ci_0, ci_1, ci_2, ci_3, ci_4, ci_5, cb_m2, cb_6, cb_7, cb_8, cb_9, cb_10, cb_11, cb_12, cb_13, cb_16, cb_20, cb_24, cb_27, cb_30, cb_32, cb_40, cb_41, cb_42, cb_48, cb_57, cb_59, cb_60, cb_63, cb_74, cb_75, cb_80, cb_90, cb_97, cb_99, cb_100, cb_120, cb_122, cs_130, cs_150, cs_162, cs_180, cs_190, cs_202, cs_214, cs_230, cs_255, cs_262, cs_358, cs_410, cs_786, cs_900, cs_2882, cs_3144, cs_4096, ci_m8, gb_n, gb_i1, gb_r1, gb_i2, gb_r2, gb_l2, gb_i3, gb_r3, gb_l3, gb_i4, gb_r4, gb_l4, gb_i5, gb_r5, gb_l5, gb_i6, gb_r6, gb_l6, gb_i7, gb_r7, gb_l7, gb_i8, gb_r8, gb_l8, Nat.reduceAdd, Nat.reduceSub, Nat.reduceLeDiff, List.length_nil, List.length_cons, true_and, and_true, Nat.reduceMul, Nat.reduceLT, Nat.reduceEqDiff, b_Reader_readLine_10, n_ite, n_lt, n_le, n_eq, n_lt0, n_ge0, n_gt0, n_le0, n_eq0, n_eq1, n_cl, n_in, n_add, n_mul, n_sub, n_and, n_or, n_shl, n_shr, n_m2lt0, n_m2ge0, n_m1lt0, n_m1ge0, n_mlt, n_m2ne, n_m2ne', n_m1ne, n_m1ne', not_true_eq_false, not_false_eq_true, false_implies, true_implies, and_self, true_and, and_true, Nat.not_lt, Nat.not_le, true_or, or_true, false_or, or_false, ne_eq, Nat.le_refl, Nat.lt_irrefl, implies_true, Nat.zero_add, Nat.add_zero, Classical.not_not]
      exact hQ J L1 hJ hF
    · refine c_readShoe (d := d) hX hx0 (i6 (Or.inl rfl)) (fun J L1 hJ hF => ?_)
      simp (disch := omega) only [ws_nil, ws_iconst, ws_bipush, ws_sipush, ws_lconst, ws_ldc_i, ws_ldc_s, ws_ldc_w_i, ws_ldc_w_s, ws_iload_0, ws_lload_0, ws_aload_0, ws_istore_0, ws_lstore_0, ws_astore_0, ws_iload_1, ws_lload_1, ws_aload_1, ws_istore_1, ws_lstore_1, ws_astore_1, ws_iload_2, ws_lload_2, ws_aload_2, ws_istore_2, ws_lstore_2, ws_astore_2, ws_iload_3, ws_lload_3, ws_aload_3, ws_istore_3, ws_lstore_3, ws_astore_3, ws_iload, ws_aload, ws_istore, ws_astore, ws_iinc, ws_iadd, ws_isub, ws_imul, ws_iand, ws_ior, ws_ixor, ws_ishl, ws_ishr, ws_iushr, ws_idiv, ws_irem, ws_ineg, ws_i2l, ws_l2i, ws_ladd, ws_lmul, ws_lcmp, ws_dup_i, ws_pop_i, ws_dup_r, ws_pop_r, ws_dup2, ws_if_eq, ws_icmp_eq, ws_if_ne, ws_icmp_ne, ws_if_lt, ws_icmp_lt, ws_if_ge, ws_icmp_ge, ws_if_gt, ws_icmp_gt, ws_if_le, ws_icmp_le, ws_goto, ws_table, ws_get_0, ws_get_1, ws_get_2, ws_get_3, ws_put_0, ws_put_1, ws_put_2, ws_put_3, ws_iaload, ws_laload, ws_aaload, ws_iastore, ws_lastore, ws_alen, ws_ret_int, ws_ret_boolean, ws_ret_long, ws_ret_ref, ws_ret_void, ws_iv_0, ws_iv_1, ws_iv_2, ws_iv_3, ws_iv_4, ws_iv_5, ws_is_1, ws_is_2, ws_is_3, ws_is_4, ws_is_5, ws_slen, ws_schar, ws_max, ws_min, ws_copy, go_some, g_li_0, g_li_1, g_li_2, g_li_3, g_li_4, g_li_5, g_li_6, g_li_7, g_li_8, g_li_9, g_li_10, g_li_11, g_li_12, g_li_13, g_li_14, g_li_15, g_li_16, g_li_17, g_li_18, g_li_19, g_ll_0, g_ll_1, g_ll_2, g_ll_3, g_ll_4, g_ll_5, g_ll_6, g_ll_7, g_ll_8, g_ll_9, g_lr_0, g_lr_1, g_lr_2, g_lr_3, g_lr_4, g_lr_5, g_lr_6, g_lr_7, g_lr_8, g_lr_9, g_st_0, g_st_1i, g_st_1r, g_st_1n, g_st_1o, g_st_2, g_st_3, g_st_4, g_st_5, g_st_6, g_st_7, g_st_8, g_st_9, g_st_10, g_st_11, g_st_12, g_st_13, g_st_14, g_st_15, g_st_16, g_st_17, g_st_18, g_st_19, g_st2_1, gN_0, gN_1, gN_2, gN_3, gN_4, gN_5, gN_6, gN_7, gN_8, gN_9, to_some, to_none, ci_m2, ci_m1, ci_0, ci_1, ci_2, ci_3, ci_4, ci_5, cb_m2, cb_6, cb_7, cb_8, cb_9, cb_10, cb_11, cb_12, cb_13, cb_16, cb_20, cb_24, cb_27, cb_30, cb_32, cb_40, cb_41, cb_42, cb_48, cb_57, cb_59, cb_60, cb_63, cb_74, cb_75, cb_80, cb_90, cb_97, cb_99, cb_100, cb_120, cb_122, cs_130, cs_150, cs_162, cs_180, cs_190, cs_202, cs_214, cs_230, cs_255, cs_262, cs_358, cs_410, cs_786, cs_900, cs_2882, cs_3144, cs_4096, ci_m8, gb_n, gb_i1, gb_r1, gb_i2, gb_r2, gb_l2, gb_i3, gb_r3, gb_l3, gb_i4, gb_r4, gb_l4, gb_i5, gb_r5, gb_l5, gb_i6, gb_r6, gb_l6, gb_i7, gb_r7, gb_l7, gb_i8, gb_r8, gb_l8, Nat.reduceAdd, Nat.reduceSub, Nat.reduceLeDiff, List.length_nil, List.length_cons, true_and, and_true, Nat.reduceMul, Nat.reduceLT, Nat.reduceEqDiff, b_Reader_readLine_10, n_ite, n_lt, n_le, n_eq, n_lt0, n_ge0, n_gt0, n_le0, n_eq0, n_eq1, n_cl, n_in, n_add, n_mul, n_sub, n_and, n_or, n_shl, n_shr, n_m2lt0, n_m2ge0, n_m1lt0, n_m1ge0, n_mlt, n_m2ne, n_m2ne', n_m1ne, n_m1ne', not_true_eq_false, not_false_eq_true, false_implies, true_implies, and_self, true_and, and_true, Nat.not_lt, Nat.not_le, true_or, or_true, false_or, or_false, ne_eq, Nat.le_refl, Nat.lt_irrefl, implies_true, Nat.zero_add, Nat.add_zero, Classical.not_not]
      exact hQ J L1 hJ hF
    · refine c_readCold (d := d) hX hx0 (i6 (Or.inr rfl)) (fun J L1 hJ hF => ?_)
      simp (disch := omega) only [ws_nil, ws_iconst, ws_bipush, ws_sipush, ws_lconst, ws_ldc_i, ws_ldc_s, ws_ldc_w_i, ws_ldc_w_s, ws_iload_0, ws_lload_0, ws_aload_0, ws_istore_0, ws_lstore_0, ws_astore_0, ws_iload_1, ws_lload_1, ws_aload_1, ws_istore_1, ws_lstore_1, ws_astore_1, ws_iload_2, ws_lload_2, ws_aload_2, ws_istore_2, ws_lstore_2, ws_astore_2, ws_iload_3, ws_lload_3, ws_aload_3, ws_istore_3, ws_lstore_3, ws_astore_3, ws_iload, ws_aload, ws_istore, ws_astore, ws_iinc, ws_iadd, ws_isub, ws_imul, ws_iand, ws_ior, ws_ixor, ws_ishl, ws_ishr, ws_iushr, ws_idiv, ws_irem, ws_ineg, ws_i2l, ws_l2i, ws_ladd, ws_lmul, ws_lcmp, ws_dup_i, ws_pop_i, ws_dup_r, ws_pop_r, ws_dup2, ws_if_eq, ws_icmp_eq, ws_if_ne, ws_icmp_ne, ws_if_lt, ws_icmp_lt, ws_if_ge, ws_icmp_ge, ws_if_gt, ws_icmp_gt, ws_if_le, ws_icmp_le, ws_goto, ws_table, ws_get_0, ws_get_1, ws_get_2, ws_get_3, ws_put_0, ws_put_1, ws_put_2, ws_put_3, ws_iaload, ws_laload, ws_aaload, ws_iastore, ws_lastore, ws_alen, ws_ret_int, ws_ret_boolean, ws_ret_long, ws_ret_ref, ws_ret_void, ws_iv_0, ws_iv_1, ws_iv_2, ws_iv_3, ws_iv_4, ws_iv_5, ws_is_1, ws_is_2, ws_is_3, ws_is_4, ws_is_5, ws_slen, ws_schar, ws_max, ws_min, ws_copy, go_some, g_li_0, g_li_1, g_li_2, g_li_3, g_li_4, g_li_5, g_li_6, g_li_7, g_li_8, g_li_9, g_li_10, g_li_11, g_li_12, g_li_13, g_li_14, g_li_15, g_li_16, g_li_17, g_li_18, g_li_19, g_ll_0, g_ll_1, g_ll_2, g_ll_3, g_ll_4, g_ll_5, g_ll_6, g_ll_7, g_ll_8, g_ll_9, g_lr_0, g_lr_1, g_lr_2, g_lr_3, g_lr_4, g_lr_5, g_lr_6, g_lr_7, g_lr_8, g_lr_9, g_st_0, g_st_1i, g_st_1r, g_st_1n, g_st_1o, g_st_2, g_st_3, g_st_4, g_st_5, g_st_6, g_st_7, g_st_8, g_st_9, g_st_10, g_st_11, g_st_12, g_st_13, g_st_14, g_st_15, g_st_16, g_st_17, g_st_18, g_st_19, g_st2_1, gN_0, gN_1, gN_2, gN_3, gN_4, gN_5, gN_6, gN_7, gN_8, gN_9, to_some, to_none, ci_m2, ci_m1, ci_0, ci_1, ci_2, ci_3, ci_4, ci_5, cb_m2, cb_6, cb_7, cb_8, cb_9, cb_10, cb_11, cb_12, cb_13, cb_16, cb_20, cb_24, cb_27, cb_30, cb_32, cb_40, cb_41, cb_42, cb_48, cb_57, cb_59, cb_60, cb_63, cb_74, cb_75, cb_80, cb_90, cb_97, cb_99, cb_100, cb_120, cb_122, cs_130, cs_150, cs_162, cs_180, cs_190, cs_202, cs_214, cs_230, cs_255, cs_262, cs_358, cs_410, cs_786, cs_900, cs_2882, cs_3144, cs_4096, ci_m8, gb_n, gb_i1, gb_r1, gb_i2, gb_r2, gb_l2, gb_i3, gb_r3, gb_l3, gb_i4, gb_r4, gb_l4, gb_i5, gb_r5, gb_l5, gb_i6, gb_r6, gb_l6, gb_i7, gb_r7, gb_l7, gb_i8, gb_r8, gb_l8, Nat.reduceAdd, Nat.reduceSub, Nat.reduceLeDiff, List.length_nil, List.length_cons, true_and, and_true, Nat.reduceMul, Nat.reduceLT, Nat.reduceEqDiff, b_Reader_readLine_10, n_ite, n_lt, n_le, n_eq, n_lt0, n_ge0, n_gt0, n_le0, n_eq0, n_eq1, n_cl, n_in, n_add, n_mul, n_sub, n_and, n_or, n_shl, n_shr, n_m2lt0, n_m2ge0, n_m1lt0, n_m1ge0, n_mlt, n_m2ne, n_m2ne', n_m1ne, n_m1ne', not_true_eq_false, not_false_eq_true, false_implies, true_implies, and_self, true_and, and_true, Nat.not_lt, Nat.not_le, true_or, or_true, false_or, or_false, ne_eq, Nat.le_refl, Nat.lt_irrefl, implies_true, Nat.zero_add, Nat.add_zero, Classical.not_not]
      exact hQ J L1 hJ hF
theorem c_goesOn (hX : XK E I L rd dr B n x) : gm (d + 1) 60 [.ref rd] (E, I, L) Q = Q (some (.int (nI (decide (x.1 = 0 ∧ x.2.2.2.1 = 3)).toNat))) (E, I, L) := by
  refine gm_eq (fun Q hQ => ?_) Q
  have l0 := hX.1.1
  obtain ⟨_, _, _, _, _, h0, _, _, h8, _, hw⟩ := hX
  have w1 := hw.1
  have w2 := hw.2.2.2.1
  rw [en_Reader_goesOn]
  simp (disch := omega) only [ws_nil, ws_iconst, ws_bipush, ws_sipush, ws_lconst, ws_ldc_i, ws_ldc_s, ws_ldc_w_i, ws_ldc_w_s, ws_iload_0, ws_lload_0, ws_aload_0, ws_istore_0, ws_lstore_0, ws_astore_0, ws_iload_1, ws_lload_1, ws_aload_1, ws_istore_1, ws_lstore_1, ws_astore_1, ws_iload_2, ws_lload_2, ws_aload_2, ws_istore_2, ws_lstore_2, ws_astore_2, ws_iload_3, ws_lload_3, ws_aload_3, ws_istore_3, ws_lstore_3, ws_astore_3, ws_iload, ws_aload, ws_istore, ws_astore, ws_iinc, ws_iadd, ws_isub, ws_imul, ws_iand, ws_ior, ws_ixor, ws_ishl, ws_ishr, ws_iushr, ws_idiv, ws_irem, ws_ineg, ws_i2l, ws_l2i, ws_ladd, ws_lmul, ws_lcmp, ws_dup_i, ws_pop_i, ws_dup_r, ws_pop_r, ws_dup2, ws_if_eq, ws_icmp_eq, ws_if_ne, ws_icmp_ne, ws_if_lt, ws_icmp_lt, ws_if_ge, ws_icmp_ge, ws_if_gt, ws_icmp_gt, ws_if_le, ws_icmp_le, ws_goto, ws_table, ws_get_0, ws_get_1, ws_get_2, ws_get_3, ws_put_0, ws_put_1, ws_put_2, ws_put_3, ws_iaload, ws_laload, ws_aaload, ws_iastore, ws_lastore, ws_alen, ws_ret_int, ws_ret_boolean, ws_ret_long, ws_ret_ref, ws_ret_void, ws_iv_0, ws_iv_1, ws_iv_2, ws_iv_3, ws_iv_4, ws_iv_5, ws_is_1, ws_is_2, ws_is_3, ws_is_4, ws_is_5, ws_slen, ws_schar, ws_max, ws_min, ws_copy, go_some, g_li_0, g_li_1, g_li_2, g_li_3, g_li_4, g_li_5, g_li_6, g_li_7, g_li_8, g_li_9, g_li_10, g_li_11, g_li_12, g_li_13, g_li_14, g_li_15, g_li_16, g_li_17, g_li_18, g_li_19, g_ll_0, g_ll_1, g_ll_2, g_ll_3, g_ll_4, g_ll_5, g_ll_6, g_ll_7, g_ll_8, g_ll_9, g_lr_0, g_lr_1, g_lr_2, g_lr_3, g_lr_4, g_lr_5, g_lr_6, g_lr_7, g_lr_8, g_lr_9, g_st_0, g_st_1i, g_st_1r, g_st_1n, g_st_1o, g_st_2, g_st_3, g_st_4, g_st_5, g_st_6, g_st_7, g_st_8, g_st_9, g_st_10, g_st_11, g_st_12, g_st_13, g_st_14, g_st_15, g_st_16, g_st_17, g_st_18, g_st_19, g_st2_1, gN_0, gN_1, gN_2, gN_3, gN_4, gN_5, gN_6, gN_7, gN_8, gN_9, to_some, to_none, ci_m2, ci_m1, ci_0, ci_1, ci_2, ci_3, ci_4, ci_5, cb_m2, cb_6, cb_7, cb_8, cb_9, cb_10, cb_11, cb_12, cb_13, cb_16, cb_20, cb_24, cb_27, cb_30, cb_32, cb_40, cb_41, cb_42, cb_48, cb_57, cb_59, cb_60, cb_63, cb_74, cb_75, cb_80, cb_90, cb_97, cb_99, cb_100, cb_120, cb_122, cs_130, cs_150, cs_162, cs_180, cs_190, cs_202, cs_214, cs_230, cs_255, cs_262, cs_358, cs_410, cs_786, cs_900, cs_2882, cs_3144, cs_4096, ci_m8, gb_n, gb_i1, gb_r1, gb_i2, gb_r2, gb_l2, gb_i3, gb_r3, gb_l3, gb_i4, gb_r4, gb_l4, gb_i5, gb_r5, gb_l5, gb_i6, gb_r6, gb_l6, gb_i7, gb_r7, gb_l7, gb_i8, gb_r8, gb_l8, Nat.reduceAdd, Nat.reduceSub, Nat.reduceLeDiff, List.length_nil, List.length_cons, true_and, and_true, Nat.reduceMul, Nat.reduceLT, Nat.reduceEqDiff, b_Reader_goesOn_0, b_Reader_goesOn_1, b_Reader_goesOn_2, l0, h0, h8, n_ite, n_lt, n_le, n_eq, n_lt0, n_ge0, n_gt0, n_le0, n_eq0, n_eq1, n_cl, n_in, n_add, n_mul, n_sub, n_and, n_or, n_shl, n_shr, n_m2lt0, n_m2ge0, n_m1lt0, n_m1ge0, n_mlt, n_m2ne, n_m2ne', n_m1ne, n_m1ne', not_true_eq_false, not_false_eq_true, false_implies, true_implies, and_self, true_and, and_true, Nat.not_lt, Nat.not_le, true_or, or_true, false_or, or_false, ne_eq, Nat.le_refl, Nat.lt_irrefl, implies_true, Nat.zero_add, Nat.add_zero, Classical.not_not]
  refine ⟨fun z => ?_, fun z => ⟨fun z2 => ?_, fun z2 => ?_⟩⟩
  · rw [decide_eq_false (fun g => z g.1)] at hQ; exact hQ
  · rw [decide_eq_false (fun g => z2 g.2)] at hQ; exact hQ
  · rw [decide_eq_true ⟨z, z2⟩] at hQ; exact hQ
/-- one line more, if it goes on -/
def goB (y : zX × zA) : Bool := decide (y.1.1 = 0 ∧ y.1.2.2.2.1 = 3)
def lnY (B : Nat → Nat) (n : Nat) (y : zX × zA) : zX × zA := (clX B n (rlX B n y.2 (opS B n y.2 y.1) (opX B n y.2 y.1)), rlD B n y.2 (opS B n y.2 y.1) (opX B n y.2 y.1))
def lnI (B : Nat → Nat) (n : Nat) (y : zX × zA) : Nat → zX × zA
  | 0 => y
  | i + 1 => if goB (lnI B n y i) then lnY B n (lnI B n y i) else lnI B n y i
/-- the place where it goes on grows -/
theorem lxN_pos (hw : wfX B n x) : x.2.2.1 ≤ (lxN B n x).2.2.1 ∧ (x.1 = 0 → (lxN B n x).2.2.2.1 ≠ 0 → x.2.2.1 < (lxN B n x).2.2.1) := by
  obtain ⟨a1, a2, a3, a4⟩ := tkA_sp (B := B) hw.2.2.1
  obtain ⟨e1, e2, e3⟩ := tkE_le (B := B) (n := n) (a := tkA B n x.2.2.1) a2
  unfold lxN
  by_cases h : x.1 = 0
  · rw [if_pos h]
    refine ⟨?_, fun _ hk => ?_⟩
    · show x.2.2.1 ≤ tkE B n _
      omega
    · show x.2.2.1 < tkE B n _
      have hk' : tkK B n (tkA B n x.2.2.1) ≠ 0 := hk
      have : tkA B n x.2.2.1 < n := by
        rcases Nat.lt_or_ge (tkA B n x.2.2.1) n with z | z
        · exact z
        · exact absurd (by unfold tkK; rw [if_pos z]) hk'
      have := e3 this
      omega
  · rw [if_neg h]
    exact ⟨Nat.le_refl _, fun g => absurd g h⟩
/-- a step of the lexer: well-formed, never back -/
def stX (B : Nat → Nat) (n : Nat) (x y : zX) : Prop := wfX B n y ∧ x.2.2.1 ≤ y.2.2.1
theorem st_N (hw : wfX B n x) : stX B n x (lxN B n x) := ⟨wf_N hw, (lxN_pos hw).1⟩
theorem st_F (hw : wfX B n x) (hk : k < 8) : stX B n x (lxF k x) := by
  refine ⟨wf_F hw hk, ?_⟩
  unfold lxF
  split
  · exact Nat.le_refl _
  · exact Nat.le_refl _
theorem st_tr {z : zX} (h1 : stX B n x y) (h2 : stX B n y z) : stX B n x z := ⟨h2.1, Nat.le_trans h1.2 h2.2⟩
theorem st_NF (hw : wfX B n x) (hk : k < 8) : stX B n x (lxF k (lxN B n x)) := st_tr (st_N hw) (st_F (wf_N hw) hk)
theorem st_kw (hw : wfX B n x) : stX B n x (kwX B n j x) := by
  unfold kwX
  split
  · exact st_N hw
  · exact st_NF hw (by omega)
theorem st_wh (hw : wfX B n x) : stX B n x (whX B n lo hi x) := by
  unfold whX
  split
  · split
    · exact st_N hw
    · exact st_NF hw (by omega)
  · exact st_NF hw (by omega)
theorem st_nx (hw : wfX B n x) : stX B n x (nx B n j lo hi x) := st_tr (st_kw hw) (st_wh (st_kw hw).1)
theorem st_nm (hw : wfX B n x) : stX B n x (nmX B n x) := by
  unfold nmX
  split
  · exact st_N hw
  · exact st_NF hw (by omega)
theorem st_tl {tg : Nat} (hw : wfX B n x) : stX B n x (tlX B n tg c D x) := by
  unfold tlX
  split
  · exact st_tr (st_nm hw) (st_F (st_nm hw).1 (by omega))
  · exact st_nm hw
theorem st_nw (hw : wfX B n x) : stX B n x (nwX B n D x) := by
  unfold nwX
  split
  · exact st_tr (st_nm hw) (st_F (st_nm hw).1 (by omega))
  · exact st_nm hw
theorem st_op (hw : wfX B n x) : stX B n x (opX B n D x) := st_NF hw lfN_lt
theorem st_cl (hw : wfX B n x) : stX B n x (clX B n x) := by
  unfold clX
  split
  · exact st_N hw
  · exact st_NF hw (by omega)
theorem st_ow (hw : wfX B n x) : stX B n x (owX D p h x) := by
  unfold owX
  split
  · exact st_F hw (by omega)
  · exact ⟨hw, Nat.le_refl _⟩
theorem st_kp (hw : wfX B n x) : ∀ i, stX B n x (kpI B n x i) := by
  intro i
  induction i with
  | zero => exact ⟨hw, Nat.le_refl _⟩
  | succ i ih => exact st_tr ih (st_wh ih.1)
theorem st_rl (hw : wfX B n x) : stX B n x (rlX B n D s x) := by
  unfold rlX
  split
  · have h1 := st_nx (j := 9) (lo := 1) (hi := 6) hw
    have h2 := st_tr h1 (st_nx (j := 10) (lo := 0) (hi := 30) h1.1)
    have h3 := st_tr h2 (st_nx (j := 11) (lo := 1) (hi := 3) h2.1)
    exact st_tr h3 (st_nx h3.1)
  · have h1 := st_nw (D := D) hw
    have h2 : stX B n x (hsA B n D x) := st_tr h1 (st_N h1.1)
    have h3 : stX B n x (hsC B n D x) := by
      unfold hsC
      split
      · exact st_tr h2 (st_F h2.1 (by omega))
      · exact h2
    have h4 : stX B n x (hsE B n D x) := st_tr h3 (st_nx h3.1)
    unfold hsX
    split
    · exact st_tr h4 (st_F h4.1 (by omega))
    · exact h4
  · have h1 := st_nw (D := D) hw
    have h2 : stX B n x (mnA B n D x) := st_tr h1 (st_N h1.1)
    have h3 : stX B n x (mnC B n D x) := by
      unfold mnC
      split
      · exact st_tr h2 (st_F h2.1 (by omega))
      · exact h2
    have h4 := st_tr h3 (st_kw (j := 20) h3.1)
    have h5 : stX B n x (mnE B n D x) := st_tr h4 (st_tl h4.1)
    have h6 : stX B n x (mnF B n D x) := by
      unfold mnF
      split
      · exact st_tr h5 (st_F h5.1 (by omega))
      · exact h5
    have h7 := st_tr h6 (st_nx (j := 21) (lo := 1) (hi := 9) h6.1)
    exact st_tr h7 (st_nx h7.1)
  · have h1 : stX B n x (foA B n D x) := st_tl hw
    have h2 : stX B n x (foC B n D x) := st_tr h1 (st_tl h1.1)
    unfold foX
    split
    · exact st_tr h2 (st_F h2.1 (by omega))
    · exact h2
  · have h1 : stX B n x (foA B n D x) := st_tl hw
    have h2 : stX B n x (wnA B n D x) := st_tr h1 (st_tl h1.1)
    have h3 : stX B n x (wnC B n D x) := by
      unfold wnC
      split
      · exact h2
      · exact st_tr h2 (st_F h2.1 (by omega))
    have h4 : stX B n x (wnE B n D x) := st_tr h3 (st_ow h3.1)
    exact st_tr h4 (st_wh h4.1)
  · have h1 : stX B n x (kpA B n D x) := st_tl hw
    have h3 : stX B n x (kpC B n D x) := by
      unfold kpC
      split
      · exact st_tr h1 (st_F h1.1 (by omega))
      · exact h1
    exact st_tr h3 (st_kp h3.1 4)
  · exact st_wh hw
  · have h1 : stX B n x (foA B n D x) := st_tl hw
    have h2 : stX B n x (wnA B n D x) := st_tr h1 (st_tl h1.1)
    exact st_tr h2 (st_ow h2.1)
  · have h1 : stX B n x (kpA B n D x) := st_tl hw
    exact st_tr h1 (st_wh h1.1)
  · exact ⟨hw, Nat.le_refl _⟩
/-- a line takes a byte at least, or the reading ends -/
theorem ln_pos {y : zX × zA} (hw : wfX B n y.1) (hg : goB y = true) (hg2 : goB (lnY B n y) = true) : y.1.2.2.1 < (lnY B n y).1.2.2.1 := by
  have g1 : y.1.1 = 0 ∧ y.1.2.2.2.1 = 3 := by unfold goB at hg; simpa using hg
  have g2 : (lnY B n y).1.1 = 0 ∧ (lnY B n y).1.2.2.2.1 = 3 := by unfold goB at hg2; simpa using hg2
  have h1 := st_op (D := y.2) hw
  have h2 := st_tr h1 (st_rl (D := y.2) (s := opS B n y.2 y.1) h1.1)
  obtain ⟨h3, h4⟩ := cl_1 g2.1
  have h5 := (lxN_pos h2.1).2 h3 (by rw [← h4]; show (lnY B n y).1.2.2.2.1 ≠ 0; omega)
  show y.1.2.2.1 < (clX B n _).2.2.1
  rw [h4]
  have := h2.2
  omega
theorem lnI_wf {y : zX × zA} (hw : wfX B n y.1) : ∀ i, wfX B n (lnI B n y i).1 := by
  intro i
  induction i with
  | zero => exact hw
  | succ i ih =>
    simp only [lnI]
    split
    · have h1 := st_op (D := (lnI B n y i).2) ih
      have h2 := st_tr h1 (st_rl (D := (lnI B n y i).2) (s := opS B n (lnI B n y i).2 (lnI B n y i).1) h1.1)
      exact (st_tr h2 (st_cl h2.1)).1
    · exact ih
theorem lnI_pos {y : zX × zA} (hw : wfX B n y.1) : ∀ i, goB (lnI B n y i) = true → i ≤ (lnI B n y i).1.2.2.1 := by
  intro i
  induction i with
  | zero => intro _; exact Nat.zero_le _
  | succ i ih =>
    intro hg
    have e : lnI B n y (i + 1) = if goB (lnI B n y i) then lnY B n (lnI B n y i) else lnI B n y i := rfl
    by_cases h : goB (lnI B n y i) = true
    · rw [if_pos h] at e
      rw [e] at hg ⊢
      have h1 := ih h
      have h2 := ln_pos (lnI_wf hw i) h hg
      omega
    · rw [if_neg h] at e
      rw [e] at hg
      exact absurd hg h
/-- behind 901 lines it has ended -/
theorem lnI_end {y : zX × zA} (hw : wfX B n y.1) (hn : n ≤ 900) : goB (lnI B n y 901) = false := by
  cases h : goB (lnI B n y 901) with
  | false => rfl
  | true =>
    have h1 := lnI_pos hw 901 h
    have h2 := (lnI_wf hw 901).2.2.1
    omega
theorem lnI_stop {y : zX × zA} (h : goB (lnI B n y i) = false) : ∀ k, lnI B n y (i + k) = lnI B n y i := by
  intro k
  induction k with
  | zero => rfl
  | succ k ih =>
    show (if goB (lnI B n y (i + k)) then lnY B n (lnI B n y (i + k)) else lnI B n y (i + k)) = _
    rw [ih, if_neg (by simp [h])]
def lnX0 : zX := (0, 0, 0, 3, 0)
/-- what the reading comes to: the lexer and the draft -/
def rdY (B : Nat → Nat) (n : Nat) : zX × zA := lnI B n (lnX0, zD0) 901
/-- the last check -/
def fnX (B : Nat → Nat) (n : Nat) : zX := if zH (rdY B n).2 = 0 ∨ zP (rdY B n).2 = 0 then lxF 6 (rdY B n).1 else (rdY B n).1
theorem wf_0 : wfX B n lnX0 := ⟨by show 0 < 8; omega, Nat.zero_le _, Nat.zero_le _, by show 3 ≤ 4; omega, fun h => absurd (show 3 = 1 from h) (by omega), fun h => absurd (show 3 = 2 from h) (by omega)⟩
end RDL
