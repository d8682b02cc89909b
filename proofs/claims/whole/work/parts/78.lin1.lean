/-! Reader: the lines of towns, of a house -/
section LN1
variable {d t p q h a k m n j v r i c u s w rd dr lo hi bs off e N P b sd bd kd hm wk kn nm v0 v1 v2 v3 : Nat} {E : gE} {I J K : Nat → Nat → Int32} {L L' M' : Nat → Nat → Int64} {B : Nat → Nat} {x y : zX} {D : zA} {Q : Option Value → gM → Prop}
def FrD (rd dr : Nat) (I J : Nat → Nat → Int32) (L L' : Nat → Nat → Int64) : Prop := (∀ a, a ≠ rd → (a < dr ∨ dr + 16 ≤ a) → J a = I a) ∧ ∀ a, a ≠ rd → a ≠ rd + 18 → a ≠ rd + 19 → L' a = L a
theorem FrD_rf : FrD rd dr I I L L := ⟨fun _ _ _ => rfl, fun _ _ _ _ => rfl⟩
theorem FrD_tr {M' : Nat → Nat → Int64} (h1 : FrD rd dr I J L L') (h2 : FrD rd dr J K L' M') : FrD rd dr I K L M' := ⟨fun a g1 g2 => by rw [h2.1 a g1 g2, h1.1 a g1 g2], fun a g1 g2 g3 => by rw [h2.2 a g1 g2 g3, h1.2 a g1 g2 g3]⟩
theorem FrD_X (h1 : FrX rd I J) (h2 : FrL rd L L') : FrD rd dr I J L L' := ⟨fun a g1 _ => h1.1 a g1, fun a g1 _ _ => h2 a g1⟩
theorem FrD_w {f : Nat → Int32} (hc : a = rd ∨ (dr ≤ a ∧ a < dr + 16)) : FrD rd dr I (gU I a f) L L := ⟨fun q g1 g2 => gU_oth (by omega), fun _ _ _ _ => rfl⟩
theorem FrD_l {f : Nat → Int64} (hc : a = rd + 18 ∨ a = rd + 19) : FrD rd dr I I L (gU L a f) := ⟨fun _ _ _ => rfl, fun q g1 g2 g3 => gU_oth (by omega)⟩
theorem XK_wr {f : Nat → Int32} (hX : XK E I L rd dr B n x) (h1 : a ≠ rd) (h2 : a ≠ rd + 17) : XK E (gU I a f) L rd dr B n x := by
  obtain ⟨hl, hn, hb, hB, h6, h0, g1, h7, h8, h9, hw⟩ := hX
  have e1 : gU I a f rd = I rd := gU_oth (by omega)
  have e2 : gU I a f (rd + 17) = I (rd + 17) := gU_oth (by omega)
  unfold XK
  rw [e1, e2]
  exact ⟨hl, hn, hb, hB, h6, h0, g1, h7, h8, h9, hw⟩
theorem XK_wf {z : Int32} (hX : XK E I L rd dr B n x) (hk : 10 ≤ k) : XK E (gU I rd (upd (I rd) k z)) L rd dr B n x := by
  obtain ⟨hl, hn, hb, hB, h6, h0, g1, h7, h8, h9, hw⟩ := hX
  unfold XK
  rw [gU_same, gU_oth (by omega), upd_oth (by omega), upd_oth (by omega), upd_oth (by omega), upd_oth (by omega), upd_oth (by omega)]
  exact ⟨hl, hn, hb, hB, h6, h0, g1, h7, h8, h9, hw⟩
theorem XK_wl {f : Nat → Int64} (hX : XK E I L rd dr B n x) (h1 : a ≠ rd) : XK E I (gU L a f) rd dr B n x := by
  obtain ⟨hl, hn, hb, hB, h6, h0, g1, h7, h8, h9, hw⟩ := hX
  unfold XK
  rw [gU_oth (by omega)]
  exact ⟨hl, hn, hb, hB, h6, h0, g1, h7, h8, h9, hw⟩
/-- a word, then a whole -/
def nx (B : Nat → Nat) (n j lo hi : Nat) (x : zX) : zX := whX B n lo hi (kwX B n j x)
def nv (B : Nat → Nat) (n j : Nat) (x : zX) : Nat := whV B n (kwX B n j x)
theorem nx_1 : (nx B n j lo hi x).1 = 0 → x.1 = 0 ∧ lo ≤ nv B n j x ∧ nv B n j x ≤ hi := by
  intro g
  obtain ⟨h1, h2, h3, h4, h5, h6⟩ := wh_1 g
  exact ⟨(kw_1 h1).1, h5, h6⟩
theorem c_nW (hX : XK E I L rd dr B n x) (hj : j < 23) (hw : w = 1000000 + j) (hlo : lo < 1000) (hhi : hi < 1000) (hQ : ∀ J L', XK E J L' rd dr B n (nx B n j lo hi x) → FrX rd I J → FrL rd L L' → Q (some (.int (nI (nv B n j x)))) (E, J, L')) : gm (d + 4) 71 [.ref rd, .ref w, .int (nI lo), .int (nI hi)] (E, I, L) Q := c_namedWhole hX hj hw hlo hhi hQ
def dTowns (D : zA) (v0 v1 v2 v3 : Nat) : zA := fun k j => if k = 1 ∧ j = 0 then v0 else if k = 1 ∧ j = 1 then v1 else if k = 1 ∧ j = 2 then v2 else if k = 1 ∧ j = 3 then v3 else if k = 16 ∧ j = 0 then 1 else D k j
theorem zD_towns (hz : zD D) (h0 : 1 ≤ v0 ∧ v0 ≤ 6) (h1 : v1 ≤ 30) (h2 : 1 ≤ v2 ∧ v2 ≤ 3) (h3 : v3 ≤ 9) : zD (dTowns D v0 v1 v2 v3) := by
  obtain ⟨z0, z1, z2, z3, z4, z5, z6, z7, z8, z9, z10, z11, z12, z13, z14, z15, z16⟩ := hz
  refine ⟨z0, z1, z2, ?_, ?_, z5, z6, z7, z8, z9, z10, z11, z12, z13, z14, ?_, ?_⟩
  · intro j hj
    have := z3 j hj
    unfold dTowns
    repeat' split
    all_goals omega
  · intro _
    exact ⟨h0.1, h2.1, h2.2⟩
  · exact ⟨Nat.le_refl 1, z15.2.1, z15.2.2.1, z15.2.2.2⟩
  · intro h
    exact absurd (show 1 = 0 from h) (by omega)
theorem c_readTowns (hX : XR E I L rd dr B n x D) (hx : x.1 = 0) (hQ : ∀ J L', XR E J L' rd dr B n (nx B n 12 0 9 (nx B n 11 1 3 (nx B n 10 0 30 (nx B n 9 1 6 x)))) (dTowns D (nv B n 9 x) (nv B n 10 (nx B n 9 1 6 x)) (nv B n 11 (nx B n 10 0 30 (nx B n 9 1 6 x))) (nv B n 12 (nx B n 11 1 3 (nx B n 10 0 30 (nx B n 9 1 6 x))))) → FrD rd dr I J L L' → Q none (E, J, L')) : gm (d + 5) 70 [.ref rd] (E, I, L) Q := by
  obtain ⟨l0, l2, l3, l4, l5, l17, l18, l19⟩ := id hX.1.1
  obtain ⟨d1, d2⟩ := id hX.2.2.1
  have hl := hX.2.1
  obtain ⟨lt0, lt1, lt2, lt3, lt4, lt5, lt6, lt7, lt8, lt9, lt10, lt11, lt12, lt13, lt14, lt15, lt16, lt17, lt18, lt19, lt20, lt21, lt22, lt23, lt24, lt25, lt26, lt27, lt28, lt29, lt30⟩ := id hl
  obtain ⟨hh, pp, s1, s2, s3, s4⟩ := hX.2.2.2.1
  rw [en_Reader_readTowns]
  simp (disch := omega) only [ws_nil, ws_iconst, ws_bipush, ws_sipush, ws_lconst, ws_ldc_i, ws_ldc_s, ws_ldc_w_i, ws_ldc_w_s, ws_iload_0, ws_lload_0, ws_aload_0, ws_istore_0, ws_lstore_0, ws_astore_0, ws_iload_1, ws_lload_1, ws_aload_1, ws_istore_1, ws_lstore_1, ws_astore_1, ws_iload_2, ws_lload_2, ws_aload_2, ws_istore_2, ws_lstore_2, ws_astore_2, ws_iload_3, ws_lload_3, ws_aload_3, ws_istore_3, ws_lstore_3, ws_astore_3, ws_iload, ws_aload, ws_istore, ws_astore, ws_iinc, ws_iadd, ws_isub, ws_imul, ws_iand, ws_ior, ws_ixor, ws_ishl, ws_ishr, ws_iushr, ws_idiv, ws_irem, ws_ineg, ws_i2l, ws_l2i, ws_ladd, ws_lmul, ws_lcmp, ws_dup_i, ws_pop_i, ws_dup_r, ws_pop_r, ws_dup2, ws_if_eq, ws_icmp_eq, ws_if_ne, ws_icmp_ne, ws_if_lt, ws_icmp_lt, ws_if_ge, ws_icmp_ge, ws_if_gt, ws_icmp_gt, ws_if_le, ws_icmp_le, ws_goto, ws_table, ws_get_0, ws_get_1, ws_get_2, ws_get_3, ws_put_0, ws_put_1, ws_put_2, ws_put_3, ws_iaload, ws_laload, ws_aaload, ws_iastore, ws_lastore, ws_alen, ws_ret_int, ws_ret_boolean, ws_ret_long, ws_ret_ref, ws_ret_void, ws_iv_0, ws_iv_1, ws_iv_2, ws_iv_3, ws_iv_4, ws_iv_5, ws_is_1, ws_is_2, ws_is_3, ws_is_4, ws_is_5, ws_slen, ws_schar, ws_max, ws_min, ws_copy, go_some, g_li_0, g_li_1, g_li_2, g_li_3, g_li_4, g_li_5, g_li_6, g_li_7, g_li_8, g_li_9, g_li_10, g_li_11, g_li_12, g_li_13, g_li_14, g_li_15, g_li_16, g_li_17, g_li_18, g_li_19, g_ll_0, g_ll_1, g_ll_2, g_ll_3, g_ll_4, g_ll_5, g_ll_6, g_ll_7, g_ll_8, g_ll_9, g_lr_0, g_lr_1, g_lr_2, g_lr_3, g_lr_4, g_lr_5, g_lr_6, g_lr_7, g_lr_8, g_lr_9, g_st_0, g_st_1i, g_st_1r, g_st_1n, g_st_1o, g_st_2, g_st_3, g_st_4, g_st_5, g_st_6, g_st_7, g_st_8, g_st_9, g_st_10, g_st_11, g_st_12, g_st_13, g_st_14, g_st_15, g_st_16, g_st_17, g_st_18, g_st_19, g_st2_1, gN_0, gN_1, gN_2, gN_3, gN_4, gN_5, gN_6, gN_7, gN_8, gN_9, to_some, to_none, ci_m2, ci_m1, ci_0, ci_1, ci_2, ci_3, ci_4, ci_5, cb_m2, cb_6, cb_7, cb_8, cb_9, cb_10, cb_11, cb_12, cb_13, cb_16, cb_20, cb_24, cb_27, cb_30, cb_32, cb_40, cb_41, cb_42, cb_48, cb_57, cb_59, cb_60, cb_63, cb_74, cb_75, cb_80, cb_90, cb_97, cb_99, cb_100, cb_120, cb_122, cs_130, cs_150, cs_162, cs_180, cs_190, cs_202, cs_214, cs_230, cs_255, cs_262, cs_358, cs_410, cs_786, cs_900, cs_2882, cs_3144, cs_4096, ci_m8, gb_n, gb_i1, gb_r1, gb_i2, gb_r2, gb_l2, gb_i3, gb_r3, gb_l3, gb_i4, gb_r4, gb_l4, gb_i5, gb_r5, gb_l5, gb_i6, gb_r6, gb_l6, gb_i7, gb_r7, gb_l7, gb_i8, gb_r8, gb_l8, Nat.reduceAdd, Nat.reduceSub, Nat.reduceLeDiff, List.length_nil, List.length_cons, true_and, and_true, Nat.reduceMul, Nat.reduceLT, Nat.reduceEqDiff, b_Reader_readTowns_0, l0, l2, lt0, lt1, lt16, n_ite, n_lt, n_le, n_eq, n_lt0, n_ge0, n_gt0, n_le0, n_eq0, n_eq1, n_cl, n_in, n_add, n_mul, n_sub, n_and, n_or, n_shl, n_shr, n_m2lt0, n_m2ge0, n_m1lt0, n_m1ge0, n_mlt, n_m2ne, n_m2ne', n_m1ne, n_m1ne', not_true_eq_false, not_false_eq_true, false_implies, true_implies, and_self, true_and, and_true, Nat.not_lt, Nat.not_le, true_or, or_true, false_or, or_false, ne_eq, Nat.le_refl, Nat.lt_irrefl, implies_true, Nat.zero_add, Nat.add_zero, Classical.not_not]
  refine c_nW (d := d) (j := 9) (XK_wf hX.1 (by omega)) (by omega) rfl (by omega) (by omega) (fun J1 L1 hJ1 f1 g1 => ?_)
  simp (disch := omega) only [ws_nil, ws_iconst, ws_bipush, ws_sipush, ws_lconst, ws_ldc_i, ws_ldc_s, ws_ldc_w_i, ws_ldc_w_s, ws_iload_0, ws_lload_0, ws_aload_0, ws_istore_0, ws_lstore_0, ws_astore_0, ws_iload_1, ws_lload_1, ws_aload_1, ws_istore_1, ws_lstore_1, ws_astore_1, ws_iload_2, ws_lload_2, ws_aload_2, ws_istore_2, ws_lstore_2, ws_astore_2, ws_iload_3, ws_lload_3, ws_aload_3, ws_istore_3, ws_lstore_3, ws_astore_3, ws_iload, ws_aload, ws_istore, ws_astore, ws_iinc, ws_iadd, ws_isub, ws_imul, ws_iand, ws_ior, ws_ixor, ws_ishl, ws_ishr, ws_iushr, ws_idiv, ws_irem, ws_ineg, ws_i2l, ws_l2i, ws_ladd, ws_lmul, ws_lcmp, ws_dup_i, ws_pop_i, ws_dup_r, ws_pop_r, ws_dup2, ws_if_eq, ws_icmp_eq, ws_if_ne, ws_icmp_ne, ws_if_lt, ws_icmp_lt, ws_if_ge, ws_icmp_ge, ws_if_gt, ws_icmp_gt, ws_if_le, ws_icmp_le, ws_goto, ws_table, ws_get_0, ws_get_1, ws_get_2, ws_get_3, ws_put_0, ws_put_1, ws_put_2, ws_put_3, ws_iaload, ws_laload, ws_aaload, ws_iastore, ws_lastore, ws_alen, ws_ret_int, ws_ret_boolean, ws_ret_long, ws_ret_ref, ws_ret_void, ws_iv_0, ws_iv_1, ws_iv_2, ws_iv_3, ws_iv_4, ws_iv_5, ws_is_1, ws_is_2, ws_is_3, ws_is_4, ws_is_5, ws_slen, ws_schar, ws_max, ws_min, ws_copy, go_some, g_li_0, g_li_1, g_li_2, g_li_3, g_li_4, g_li_5, g_li_6, g_li_7, g_li_8, g_li_9, g_li_10, g_li_11, g_li_12, g_li_13, g_li_14, g_li_15, g_li_16, g_li_17, g_li_18, g_li_19, g_ll_0, g_ll_1, g_ll_2, g_ll_3, g_ll_4, g_ll_5, g_ll_6, g_ll_7, g_ll_8, g_ll_9, g_lr_0, g_lr_1, g_lr_2, g_lr_3, g_lr_4, g_lr_5, g_lr_6, g_lr_7, g_lr_8, g_lr_9, g_st_0, g_st_1i, g_st_1r, g_st_1n, g_st_1o, g_st_2, g_st_3, g_st_4, g_st_5, g_st_6, g_st_7, g_st_8, g_st_9, g_st_10, g_st_11, g_st_12, g_st_13, g_st_14, g_st_15, g_st_16, g_st_17, g_st_18, g_st_19, g_st2_1, gN_0, gN_1, gN_2, gN_3, gN_4, gN_5, gN_6, gN_7, gN_8, gN_9, to_some, to_none, ci_m2, ci_m1, ci_0, ci_1, ci_2, ci_3, ci_4, ci_5, cb_m2, cb_6, cb_7, cb_8, cb_9, cb_10, cb_11, cb_12, cb_13, cb_16, cb_20, cb_24, cb_27, cb_30, cb_32, cb_40, cb_41, cb_42, cb_48, cb_57, cb_59, cb_60, cb_63, cb_74, cb_75, cb_80, cb_90, cb_97, cb_99, cb_100, cb_120, cb_122, cs_130, cs_150, cs_162, cs_180, cs_190, cs_202, cs_214, cs_230, cs_255, cs_262, cs_358, cs_410, cs_786, cs_900, cs_2882, cs_3144, cs_4096, ci_m8, gb_n, gb_i1, gb_r1, gb_i2, gb_r2, gb_l2, gb_i3, gb_r3, gb_l3, gb_i4, gb_r4, gb_l4, gb_i5, gb_r5, gb_l5, gb_i6, gb_r6, gb_l6, gb_i7, gb_r7, gb_l7, gb_i8, gb_r8, gb_l8, Nat.reduceAdd, Nat.reduceSub, Nat.reduceLeDiff, List.length_nil, List.length_cons, true_and, and_true, Nat.reduceMul, Nat.reduceLT, Nat.reduceEqDiff, l0, l2, lt0, lt1, lt16, n_ite, n_lt, n_le, n_eq, n_lt0, n_ge0, n_gt0, n_le0, n_eq0, n_eq1, n_cl, n_in, n_add, n_mul, n_sub, n_and, n_or, n_shl, n_shr, n_m2lt0, n_m2ge0, n_m1lt0, n_m1ge0, n_mlt, n_m2ne, n_m2ne', n_m1ne, n_m1ne', not_true_eq_false, not_false_eq_true, false_implies, true_implies, and_self, true_and, and_true, Nat.not_lt, Nat.not_le, true_or, or_true, false_or, or_false, ne_eq, Nat.le_refl, Nat.lt_irrefl, implies_true, Nat.zero_add, Nat.add_zero, Classical.not_not]
  refine c_nW (d := d) (j := 10) (XK_wr hJ1 (by omega) (by omega)) (by omega) rfl (by omega) (by omega) (fun J2 L2 hJ2 f2 g2 => ?_)
  simp (disch := omega) only [ws_nil, ws_iconst, ws_bipush, ws_sipush, ws_lconst, ws_ldc_i, ws_ldc_s, ws_ldc_w_i, ws_ldc_w_s, ws_iload_0, ws_lload_0, ws_aload_0, ws_istore_0, ws_lstore_0, ws_astore_0, ws_iload_1, ws_lload_1, ws_aload_1, ws_istore_1, ws_lstore_1, ws_astore_1, ws_iload_2, ws_lload_2, ws_aload_2, ws_istore_2, ws_lstore_2, ws_astore_2, ws_iload_3, ws_lload_3, ws_aload_3, ws_istore_3, ws_lstore_3, ws_astore_3, ws_iload, ws_aload, ws_istore, ws_astore, ws_iinc, ws_iadd, ws_isub, ws_imul, ws_iand, ws_ior, ws_ixor, ws_ishl, ws_ishr, ws_iushr, ws_idiv, ws_irem, ws_ineg, ws_i2l, ws_l2i, ws_ladd, ws_lmul, ws_lcmp, ws_dup_i, ws_pop_i, ws_dup_r, ws_pop_r, ws_dup2, ws_if_eq, ws_icmp_eq, ws_if_ne, ws_icmp_ne, ws_if_lt, ws_icmp_lt, ws_if_ge, ws_icmp_ge, ws_if_gt, ws_icmp_gt, ws_if_le, ws_icmp_le, ws_goto, ws_table, ws_get_0, ws_get_1, ws_get_2, ws_get_3, ws_put_0, ws_put_1, ws_put_2, ws_put_3, ws_iaload, ws_laload, ws_aaload, ws_iastore, ws_lastore, ws_alen, ws_ret_int, ws_ret_boolean, ws_ret_long, ws_ret_ref, ws_ret_void, ws_iv_0, ws_iv_1, ws_iv_2, ws_iv_3, ws_iv_4, ws_iv_5, ws_is_1, ws_is_2, ws_is_3, ws_is_4, ws_is_5, ws_slen, ws_schar, ws_max, ws_min, ws_copy, go_some, g_li_0, g_li_1, g_li_2, g_li_3, g_li_4, g_li_5, g_li_6, g_li_7, g_li_8, g_li_9, g_li_10, g_li_11, g_li_12, g_li_13, g_li_14, g_li_15, g_li_16, g_li_17, g_li_18, g_li_19, g_ll_0, g_ll_1, g_ll_2, g_ll_3, g_ll_4, g_ll_5, g_ll_6, g_ll_7, g_ll_8, g_ll_9, g_lr_0, g_lr_1, g_lr_2, g_lr_3, g_lr_4, g_lr_5, g_lr_6, g_lr_7, g_lr_8, g_lr_9, g_st_0, g_st_1i, g_st_1r, g_st_1n, g_st_1o, g_st_2, g_st_3, g_st_4, g_st_5, g_st_6, g_st_7, g_st_8, g_st_9, g_st_10, g_st_11, g_st_12, g_st_13, g_st_14, g_st_15, g_st_16, g_st_17, g_st_18, g_st_19, g_st2_1, gN_0, gN_1, gN_2, gN_3, gN_4, gN_5, gN_6, gN_7, gN_8, gN_9, to_some, to_none, ci_m2, ci_m1, ci_0, ci_1, ci_2, ci_3, ci_4, ci_5, cb_m2, cb_6, cb_7, cb_8, cb_9, cb_10, cb_11, cb_12, cb_13, cb_16, cb_20, cb_24, cb_27, cb_30, cb_32, cb_40, cb_41, cb_42, cb_48, cb_57, cb_59, cb_60, cb_63, cb_74, cb_75, cb_80, cb_90, cb_97, cb_99, cb_100, cb_120, cb_122, cs_130, cs_150, cs_162, cs_180, cs_190, cs_202, cs_214, cs_230, cs_255, cs_262, cs_358, cs_410, cs_786, cs_900, cs_2882, cs_3144, cs_4096, ci_m8, gb_n, gb_i1, gb_r1, gb_i2, gb_r2, gb_l2, gb_i3, gb_r3, gb_l3, gb_i4, gb_r4, gb_l4, gb_i5, gb_r5, gb_l5, gb_i6, gb_r6, gb_l6, gb_i7, gb_r7, gb_l7, gb_i8, gb_r8, gb_l8, Nat.reduceAdd, Nat.reduceSub, Nat.reduceLeDiff, List.length_nil, List.length_cons, true_and, and_true, Nat.reduceMul, Nat.reduceLT, Nat.reduceEqDiff, l0, l2, lt0, lt1, lt16, n_ite, n_lt, n_le, n_eq, n_lt0, n_ge0, n_gt0, n_le0, n_eq0, n_eq1, n_cl, n_in, n_add, n_mul, n_sub, n_and, n_or, n_shl, n_shr, n_m2lt0, n_m2ge0, n_m1lt0, n_m1ge0, n_mlt, n_m2ne, n_m2ne', n_m1ne, n_m1ne', not_true_eq_false, not_false_eq_true, false_implies, true_implies, and_self, true_and, and_true, Nat.not_lt, Nat.not_le, true_or, or_true, false_or, or_false, ne_eq, Nat.le_refl, Nat.lt_irrefl, implies_true, Nat.zero_add, Nat.add_zero, Classical.not_not]
  refine c_nW (d := d) (j := 11) (XK_wr hJ2 (by omega) (by omega)) (by omega) rfl (by omega) (by omega) (fun J3 L3 hJ3 f3 g3 => ?_)
  simp (disch := omega) only [ws_nil, ws_iconst, ws_bipush, ws_sipush, ws_lconst, ws_ldc_i, ws_ldc_s, ws_ldc_w_i, ws_ldc_w_s, ws_iload_0, ws_lload_0, ws_aload_0, ws_istore_0, ws_lstore_0, ws_astore_0, ws_iload_1, ws_lload_1, ws_aload_1, ws_istore_1, ws_lstore_1, ws_astore_1, ws_iload_2, ws_lload_2, ws_aload_2, ws_istore_2, ws_lstore_2, ws_astore_2, ws_iload_3, ws_lload_3, ws_aload_3, ws_istore_3, ws_lstore_3, ws_astore_3, ws_iload, ws_aload, ws_istore, ws_astore, ws_iinc, ws_iadd, ws_isub, ws_imul, ws_iand, ws_ior, ws_ixor, ws_ishl, ws_ishr, ws_iushr, ws_idiv, ws_irem, ws_ineg, ws_i2l, ws_l2i, ws_ladd, ws_lmul, ws_lcmp, ws_dup_i, ws_pop_i, ws_dup_r, ws_pop_r, ws_dup2, ws_if_eq, ws_icmp_eq, ws_if_ne, ws_icmp_ne, ws_if_lt, ws_icmp_lt, ws_if_ge, ws_icmp_ge, ws_if_gt, ws_icmp_gt, ws_if_le, ws_icmp_le, ws_goto, ws_table, ws_get_0, ws_get_1, ws_get_2, ws_get_3, ws_put_0, ws_put_1, ws_put_2, ws_put_3, ws_iaload, ws_laload, ws_aaload, ws_iastore, ws_lastore, ws_alen, ws_ret_int, ws_ret_boolean, ws_ret_long, ws_ret_ref, ws_ret_void, ws_iv_0, ws_iv_1, ws_iv_2, ws_iv_3, ws_iv_4, ws_iv_5, ws_is_1, ws_is_2, ws_is_3, ws_is_4, ws_is_5, ws_slen, ws_schar, ws_max, ws_min, ws_copy, go_some, g_li_0, g_li_1, g_li_2, g_li_3, g_li_4, g_li_5, g_li_6, g_li_7, g_li_8, g_li_9, g_li_10, g_li_11, g_li_12, g_li_13, g_li_14, g_li_15, g_li_16, g_li_17, g_li_18, g_li_19, g_ll_0, g_ll_1, g_ll_2, g_ll_3, g_ll_4, g_ll_5, g_ll_6, g_ll_7, g_ll_8, g_ll_9, g_lr_0, g_lr_1, g_lr_2, g_lr_3, g_lr_4, g_lr_5, g_lr_6, g_lr_7, g_lr_8, g_lr_9, g_st_0, g_st_1i, g_st_1r, g_st_1n, g_st_1o, g_st_2, g_st_3, g_st_4, g_st_5, g_st_6, g_st_7, g_st_8, g_st_9, g_st_10, g_st_11, g_st_12, g_st_13, g_st_14, g_st_15, g_st_16, g_st_17, g_st_18, g_st_19, g_st2_1, gN_0, gN_1, gN_2, gN_3, gN_4, gN_5, gN_6, gN_7, gN_8, gN_9, to_some, to_none, ci_m2, ci_m1, ci_0, ci_1, ci_2, ci_3, ci_4, ci_5, cb_m2, cb_6, cb_7, cb_8, cb_9, cb_10, cb_11, cb_12, cb_13, cb_16, cb_20, cb_24, cb_27, cb_30, cb_32, cb_40, cb_41, cb_42, cb_48, cb_57, cb_59, cb_60, cb_63, cb_74, cb_75, cb_80, cb_90, cb_97, cb_99, cb_100, cb_120, cb_122, cs_130, cs_150, cs_162, cs_180, cs_190, cs_202, cs_214, cs_230, cs_255, cs_262, cs_358, cs_410, cs_786, cs_900, cs_2882, cs_3144, cs_4096, ci_m8, gb_n, gb_i1, gb_r1, gb_i2, gb_r2, gb_l2, gb_i3, gb_r3, gb_l3, gb_i4, gb_r4, gb_l4, gb_i5, gb_r5, gb_l5, gb_i6, gb_r6, gb_l6, gb_i7, gb_r7, gb_l7, gb_i8, gb_r8, gb_l8, Nat.reduceAdd, Nat.reduceSub, Nat.reduceLeDiff, List.length_nil, List.length_cons, true_and, and_true, Nat.reduceMul, Nat.reduceLT, Nat.reduceEqDiff, l0, l2, lt0, lt1, lt16, n_ite, n_lt, n_le, n_eq, n_lt0, n_ge0, n_gt0, n_le0, n_eq0, n_eq1, n_cl, n_in, n_add, n_mul, n_sub, n_and, n_or, n_shl, n_shr, n_m2lt0, n_m2ge0, n_m1lt0, n_m1ge0, n_mlt, n_m2ne, n_m2ne', n_m1ne, n_m1ne', not_true_eq_false, not_false_eq_true, false_implies, true_implies, and_self, true_and, and_true, Nat.not_lt, Nat.not_le, true_or, or_true, false_or, or_false, ne_eq, Nat.le_refl, Nat.lt_irrefl, implies_true, Nat.zero_add, Nat.add_zero, Classical.not_not]
  refine c_nW (d := d) (j := 12) (XK_wr hJ3 (by omega) (by omega)) (by omega) rfl (by omega) (by omega) (fun J4 L4 hJ4 f4 g4 => ?_)
  simp (disch := omega) only [ws_nil, ws_iconst, ws_bipush, ws_sipush, ws_lconst, ws_ldc_i, ws_ldc_s, ws_ldc_w_i, ws_ldc_w_s, ws_iload_0, ws_lload_0, ws_aload_0, ws_istore_0, ws_lstore_0, ws_astore_0, ws_iload_1, ws_lload_1, ws_aload_1, ws_istore_1, ws_lstore_1, ws_astore_1, ws_iload_2, ws_lload_2, ws_aload_2, ws_istore_2, ws_lstore_2, ws_astore_2, ws_iload_3, ws_lload_3, ws_aload_3, ws_istore_3, ws_lstore_3, ws_astore_3, ws_iload, ws_aload, ws_istore, ws_astore, ws_iinc, ws_iadd, ws_isub, ws_imul, ws_iand, ws_ior, ws_ixor, ws_ishl, ws_ishr, ws_iushr, ws_idiv, ws_irem, ws_ineg, ws_i2l, ws_l2i, ws_ladd, ws_lmul, ws_lcmp, ws_dup_i, ws_pop_i, ws_dup_r, ws_pop_r, ws_dup2, ws_if_eq, ws_icmp_eq, ws_if_ne, ws_icmp_ne, ws_if_lt, ws_icmp_lt, ws_if_ge, ws_icmp_ge, ws_if_gt, ws_icmp_gt, ws_if_le, ws_icmp_le, ws_goto, ws_table, ws_get_0, ws_get_1, ws_get_2, ws_get_3, ws_put_0, ws_put_1, ws_put_2, ws_put_3, ws_iaload, ws_laload, ws_aaload, ws_iastore, ws_lastore, ws_alen, ws_ret_int, ws_ret_boolean, ws_ret_long, ws_ret_ref, ws_ret_void, ws_iv_0, ws_iv_1, ws_iv_2, ws_iv_3, ws_iv_4, ws_iv_5, ws_is_1, ws_is_2, ws_is_3, ws_is_4, ws_is_5, ws_slen, ws_schar, ws_max, ws_min, ws_copy, go_some, g_li_0, g_li_1, g_li_2, g_li_3, g_li_4, g_li_5, g_li_6, g_li_7, g_li_8, g_li_9, g_li_10, g_li_11, g_li_12, g_li_13, g_li_14, g_li_15, g_li_16, g_li_17, g_li_18, g_li_19, g_ll_0, g_ll_1, g_ll_2, g_ll_3, g_ll_4, g_ll_5, g_ll_6, g_ll_7, g_ll_8, g_ll_9, g_lr_0, g_lr_1, g_lr_2, g_lr_3, g_lr_4, g_lr_5, g_lr_6, g_lr_7, g_lr_8, g_lr_9, g_st_0, g_st_1i, g_st_1r, g_st_1n, g_st_1o, g_st_2, g_st_3, g_st_4, g_st_5, g_st_6, g_st_7, g_st_8, g_st_9, g_st_10, g_st_11, g_st_12, g_st_13, g_st_14, g_st_15, g_st_16, g_st_17, g_st_18, g_st_19, g_st2_1, gN_0, gN_1, gN_2, gN_3, gN_4, gN_5, gN_6, gN_7, gN_8, gN_9, to_some, to_none, ci_m2, ci_m1, ci_0, ci_1, ci_2, ci_3, ci_4, ci_5, cb_m2, cb_6, cb_7, cb_8, cb_9, cb_10, cb_11, cb_12, cb_13, cb_16, cb_20, cb_24, cb_27, cb_30, cb_32, cb_40, cb_41, cb_42, cb_48, cb_57, cb_59, cb_60, cb_63, cb_74, cb_75, cb_80, cb_90, cb_97, cb_99, cb_100, cb_120, cb_122, cs_130, cs_150, cs_162, cs_180, cs_190, cs_202, cs_214, cs_230, cs_255, cs_262, cs_358, cs_410, cs_786, cs_900, cs_2882, cs_3144, cs_4096, ci_m8, gb_n, gb_i1, gb_r1, gb_i2, gb_r2, gb_l2, gb_i3, gb_r3, gb_l3, gb_i4, gb_r4, gb_l4, gb_i5, gb_r5, gb_l5, gb_i6, gb_r6, gb_l6, gb_i7, gb_r7, gb_l7, gb_i8, gb_r8, gb_l8, Nat.reduceAdd, Nat.reduceSub, Nat.reduceLeDiff, List.length_nil, List.length_cons, true_and, and_true, Nat.reduceMul, Nat.reduceLT, Nat.reduceEqDiff, l0, l2, lt0, lt1, lt16, n_ite, n_lt, n_le, n_eq, n_lt0, n_ge0, n_gt0, n_le0, n_eq0, n_eq1, n_cl, n_in, n_add, n_mul, n_sub, n_and, n_or, n_shl, n_shr, n_m2lt0, n_m2ge0, n_m1lt0, n_m1ge0, n_mlt, n_m2ne, n_m2ne', n_m1ne, n_m1ne', not_true_eq_false, not_false_eq_true, false_implies, true_implies, and_self, true_and, and_true, Nat.not_lt, Nat.not_le, true_or, or_true, false_or, or_false, ne_eq, Nat.le_refl, Nat.lt_irrefl, implies_true, Nat.zero_add, Nat.add_zero, Classical.not_not]
  obtain ⟨w0, hw0⟩ : ∃ w0, w0 = nv B n 9 x := ⟨_, rfl⟩
  obtain ⟨w1, hw1⟩ : ∃ w1, w1 = nv B n 10 (nx B n 9 1 6 x) := ⟨_, rfl⟩
  obtain ⟨w2, hw2⟩ : ∃ w2, w2 = nv B n 11 (nx B n 10 0 30 (nx B n 9 1 6 x)) := ⟨_, rfl⟩
  obtain ⟨w3, hw3⟩ : ∃ w3, w3 = nv B n 12 (nx B n 11 1 3 (nx B n 10 0 30 (nx B n 9 1 6 x))) := ⟨_, rfl⟩
  have hv : (nx B n 12 0 9 (nx B n 11 1 3 (nx B n 10 0 30 (nx B n 9 1 6 x)))).1 = 0 → (1 ≤ w0 ∧ w0 ≤ 6) ∧ w1 ≤ 30 ∧ (1 ≤ w2 ∧ w2 ≤ 3) ∧ w3 ≤ 9 := by
    intro g
    obtain ⟨g1, g2, g3⟩ := nx_1 g
    obtain ⟨g4, g5, g6⟩ := nx_1 g1
    obtain ⟨g7, g8, g9⟩ := nx_1 g4
    obtain ⟨ga, gb, gc⟩ := nx_1 g7
    rw [hw0, hw1, hw2, hw3]
    exact ⟨⟨gb, gc⟩, g9, ⟨g5, g6⟩, g3⟩
  rw [← hw0, ← hw1, ← hw2, ← hw3] at hQ
  rw [← hw0] at f2
  rw [← hw1] at f3
  rw [← hw2] at f4
  rw [← hw3]
  clear hw0 hw1 hw2 hw3
  generalize nx B n 12 0 9 (nx B n 11 1 3 (nx B n 10 0 30 (nx B n 9 1 6 x))) = x4 at *
  obtain ⟨K, hK⟩ : ∃ K, K = gU J4 (dr + 1) (upd (J4 (dr + 1)) 3 (nI w3)) := ⟨_, rfl⟩
  rw [← hK]
  have hKX : XK E K L4 rd dr B n x4 := by rw [hK]; exact XK_wr hJ4 (by omega) (by omega)
  have ho : ∀ a, a ≠ rd → a ≠ dr + 1 → K a = I a := by
    intro a g1 g2
    rw [hK, gU_oth g2, f4.1 a g1, gU_oth g2, f3.1 a g1, gU_oth g2, f2.1 a g1, gU_oth g2, f1.1 a g1, gU_oth g1]
  have hL : FrL rd L L4 := FrL_tr (FrL_tr (FrL_tr g1 g2) g3) g4
  have hrd : ∀ k, 10 ≤ k → k ≠ 10 → K rd k = I rd k := by
    intro k hk h10
    rw [hK, gU_oth (by omega), f4.2 k (by omega) (by omega) (by omega) (by omega), gU_oth (by omega), f3.2 k (by omega) (by omega) (by omega) (by omega), gU_oth (by omega), f2.2 k (by omega) (by omega) (by omega) (by omega), gU_oth (by omega), f1.2 k (by omega) (by omega) (by omega) (by omega), gU_same, upd_oth h10]
  have hrd10 : K rd 10 = nI 1 := by
    rw [hK, gU_oth (by omega), f4.2 10 (by omega) (by omega) (by omega) (by omega), gU_oth (by omega), f3.2 10 (by omega) (by omega) (by omega) (by omega), gU_oth (by omega), f2.2 10 (by omega) (by omega) (by omega) (by omega), gU_oth (by omega), f1.2 10 (by omega) (by omega) (by omega) (by omega), gU_same, upd_same]
  have hru : K (dr + 1) = upd (upd (upd (upd (I (dr + 1)) 0 (nI w0)) 1 (nI w1)) 2 (nI w2)) 3 (nI w3) := by
    rw [hK, gU_same, f4.1 _ (by omega), gU_same, f3.1 _ (by omega), gU_same, f2.1 _ (by omega), gU_same, f1.1 _ (by omega), gU_oth (by omega)]
  clear hK hJ1 hJ2 hJ3 hJ4 f1 f2 f3 f4 g1 g2 g3 g4
  refine hQ K L4 ⟨hKX, hl, hX.2.2.1, ⟨hh, pp, s1, s2, by rw [ho _ (by omega) (by omega)]; exact s3, by rw [ho _ (by omega) (by omega)]; exact s4⟩, fun g => ?_⟩ ⟨fun a k1 k2 => ho a k1 (by omega), fun a k1 k2 k3 => hL a k1⟩
  obtain ⟨r1, r2, r3, r4, r5, r6, r7, r8⟩ := hX.2.2.2.2 hx
  have ho : ∀ a, ¬ (a = rd ∨ a = dr + 1) → K a = I a := fun a ha => ho a (fun z => ha (Or.inl z)) (fun z => ha (Or.inr z))
  obtain ⟨u0, u1, u2, u3⟩ := hv g
  refine ⟨?_, ?_, ?_, ?_, ?_, ?_, ?_, zD_towns r8 u0 u1 u2 u3⟩
  · obtain ⟨rt0, rt1, rt2, rt3, rt4, rt5, rt6, rt7, rt8, rt9, rt10, rt11, rt12, rt13, rt14, rt15, rt16, rt17, rt18, rt19⟩ := r1
    refine ⟨by rw [ho _ (by omega)]; exact rt0, by rw [ho _ (by omega)]; exact rt1, by rw [ho _ (by omega)]; exact rt2, by rw [ho _ (by omega)]; exact rt3, by rw [ho _ (by omega)]; exact rt4, ?_, by rw [ho _ (by omega)]; exact rt6, by rw [ho _ (by omega)]; exact rt7, by rw [ho _ (by omega)]; exact rt8, by rw [ho _ (by omega)]; exact rt9, by rw [ho _ (by omega)]; exact rt10, by rw [ho _ (by omega)]; exact rt11, by rw [ho _ (by omega)]; exact rt12, by rw [ho _ (by omega)]; exact rt13, by rw [ho _ (by omega)]; exact rt14, by rw [ho _ (by omega)]; exact rt15, by rw [ho _ (by omega)]; exact rt16, by rw [ho _ (by omega)]; exact rt17, by rw [ho _ (by omega)]; exact rt18, by rw [ho _ (by omega)]; exact rt19⟩
    intro j hj
    rw [hru]
    have hj' : j = 0 ∨ j = 1 ∨ j = 2 ∨ j = 3 ∨ j = 4 := by omega
    rcases hj' with e | e | e | e | e <;> subst e
    · simp (disch := omega) only [gU_same, gU_oth, upd_same, upd_oth]; rfl
    · simp (disch := omega) only [gU_same, gU_oth, upd_same, upd_oth]; rfl
    · simp (disch := omega) only [gU_same, gU_oth, upd_same, upd_oth]; rfl
    · simp (disch := omega) only [gU_same, gU_oth, upd_same, upd_oth]; rfl
    · simp (disch := omega) only [gU_same, gU_oth, upd_same, upd_oth]; exact rt5 4 (by omega)
  · rw [hrd10]; rfl
  · rw [hrd _ (by omega) (by omega)]; exact r3
  · rw [hrd _ (by omega) (by omega)]; exact r4
  · rw [hrd _ (by omega) (by omega)]; exact r5
  · rw [hL _ (by omega)]; exact r6
  · rw [hL _ (by omega)]; exact r7
/-! a house -/
def dHouse (D : zA) (sd bd nm : Nat) : zA := fun k j => if k = 0 ∧ j = 0 then zH D + 1 else if k = 0 ∧ j = 1 then zB D + bd else if k = 2 ∧ j = zH D then sd else if k = 3 ∧ j = zH D then bd else if k = 4 ∧ j = zH D then zB D else if k = 7 ∧ zB D ≤ j ∧ j < zB D + bd then zH D else if k = 17 ∧ j = zH D then nm else D k j
theorem dH_2 (h : j ≠ zH D) : dHouse D sd bd nm 2 j = D 2 j := by simp [dHouse, h]
theorem dH_3 (h : j ≠ zH D) : dHouse D sd bd nm 3 j = D 3 j := by simp [dHouse, h]
theorem dH_4 (h : j ≠ zH D) : dHouse D sd bd nm 4 j = D 4 j := by simp [dHouse, h]
theorem dH_7 (h : ¬ (zB D ≤ j ∧ j < zB D + bd)) : dHouse D sd bd nm 7 j = D 7 j := by simp [dHouse, h]
theorem dH_17 (h : j ≠ zH D) : dHouse D sd bd nm 17 j = D 17 j := by simp [dHouse, h]
theorem dH_e : dHouse D sd bd nm 2 (zH D) = sd ∧ dHouse D sd bd nm 3 (zH D) = bd ∧ dHouse D sd bd nm 4 (zH D) = zB D ∧ dHouse D sd bd nm 17 (zH D) = nm := by simp [dHouse]
theorem dH_7e (h : zB D ≤ j ∧ j < zB D + bd) : dHouse D sd bd nm 7 j = zH D := by simp [dHouse, h]
theorem dH_H : zH (dHouse D sd bd nm) = zH D + 1 := rfl
theorem dH_B : zB (dHouse D sd bd nm) = zB D + bd := rfl
theorem dH_P : zP (dHouse D sd bd nm) = zP D := rfl
theorem dH_on : zBedsOn (dHouse D sd bd nm) a (zH (dHouse D sd bd nm)) = zBedsOn D a (zH D) + if sd = a then bd else 0 := by
  rw [dH_H]
  unfold zBedsOn
  show sumN _ (zH D) + (if dHouse D sd bd nm 2 (zH D) = a then dHouse D sd bd nm 3 (zH D) else 0) = _
  rw [dH_e.1, dH_e.2.1, sumN_congr (c' := fun h => if D 2 h = a then D 3 h else 0)]
  intro q hq
  show (if dHouse D sd bd nm 2 q = a then dHouse D sd bd nm 3 q else 0) = _
  rw [dH_2 (by omega), dH_3 (by omega)]
theorem zD_house (hz : zD D) (hb : D 16 0 = 1) (hs : sd < 2) (h1 : 1 ≤ bd ∧ bd ≤ 3) (h2 : zBedsOn D sd (zH D) + bd ≤ 6) (h3 : zH D < 6) (h4 : nm < 27 ^ 8) : zD (dHouse D sd bd nm) := by
  have hB := zD_12 hz
  obtain ⟨z0, z1, z2, z3, z4, z5, z6, z7, z8, z9, z10, z11, z12, z13, z14, z15, z16⟩ := hz
  refine ⟨?_, ?_, z2, z3, z4, ?_, ?_, ?_, z8, z9, z10, ?_, ?_, z13, z14, z15, ?_⟩
  · rw [dH_H]; omega
  · rw [dH_on, dH_on, dH_B]
    have : sd = 0 ∨ sd = 1 := by omega
    rcases this with e | e <;> subst e <;> simp <;> omega
  · intro h hh
    rw [dH_H] at hh
    by_cases e : h = zH D
    · subst e
      rw [dH_e.1, dH_e.2.1, dH_e.2.2.1, dH_e.2.2.2, dH_B]
      exact ⟨hs, h1.1, h1.2, Nat.le_refl _, h4⟩
    · obtain ⟨a1, a2, a3, a4, a5⟩ := z5 h (by omega)
      rw [dH_2 e, dH_3 e, dH_4 e, dH_17 e, dH_B]
      exact ⟨a1, a2, a3, by omega, a5⟩
  · intro b hb2
    rw [dH_B] at hb2
    rw [dH_H]
    by_cases e : zB D ≤ b ∧ b < zB D + bd
    · rw [dH_7e e]; omega
    · rw [dH_7 e]; have := z6 b (by omega); omega
  · intro p hp
    obtain ⟨a1, a2, a3, a4, a5, a6⟩ := z7 p hp
    exact ⟨a1, Nat.lt_succ_of_lt a2, a3, a4, a5, a6⟩
  · intro a ha
    have h5 := z11 a ha
    unfold zCnt at h5 ⊢
    rw [dH_P]
    rw [sumN_congr (c' := fun p => if zSP D p = a then 1 else 0)]
    · exact h5
    · intro q hq
      have h6 : zSP (dHouse D sd bd nm) q = zSP D q := by
        have h7 : dHouse D sd bd nm 9 q = D 9 q := rfl
        unfold zSP
        rw [h7, dH_2 (by have := (z7 q hq).2.1; omega)]
      rw [h6]
  · intro a ha
    rw [dH_on]
    have := z12 a ha
    split
    · rename_i e; subst e; omega
    · omega
  · intro h
    exact absurd (show D 16 0 = 0 from h) (by omega)
/-- the side that is told -/
def hsS (x : zX) : Nat := if isW 13 x then 0 else if isW 14 x then 1 else 2
def hsA (B : Nat → Nat) (n : Nat) (D : zA) (x : zX) : zX := lxN B n (nwX B n D x)
def hsC (B : Nat → Nat) (n : Nat) (D : zA) (x : zX) : zX := if hsS (hsA B n D x) = 2 then lxF 1 (hsA B n D x) else hsA B n D x
def hsE (B : Nat → Nat) (n : Nat) (D : zA) (x : zX) : zX := nx B n 15 1 3 (hsC B n D x)
def hsV (B : Nat → Nat) (n : Nat) (D : zA) (x : zX) : Nat := nv B n 15 (hsC B n D x)
def hsX (B : Nat → Nat) (n : Nat) (D : zA) (x : zX) : zX := if (hsE B n D x).1 = 0 ∧ 6 < zBedsOn D (hsS (hsA B n D x)) (zH D) + hsV B n D x then lxF 5 (hsE B n D x) else hsE B n D x
def hsD (B : Nat → Nat) (n : Nat) (D : zA) (x : zX) : zA := dHouse D (hsS (hsA B n D x)) (hsV B n D x) (nmX B n x).2.2.2.2
theorem hs_1 : (hsE B n D x).1 = 0 → (nwX B n D x).1 = 0 ∧ hsS (hsA B n D x) < 2 ∧ (hsC B n D x).1 = 0 ∧ hsC B n D x = hsA B n D x ∧ 1 ≤ hsV B n D x ∧ hsV B n D x ≤ 3 := by
  intro g
  obtain ⟨g1, g2, g3⟩ := nx_1 g
  have g4 := g1
  unfold hsC at g4
  split at g4
  · exact absurd g4 (lxF_ne (by omega))
  · rename_i h
    have h5 : (nwX B n D x).1 = 0 := by unfold hsA at g4; rw [lxN_1] at g4; exact g4
    refine ⟨h5, ?_, g1, ?_, g2, g3⟩
    · unfold hsS at h ⊢
      repeat' split
      all_goals first | omega | (rename_i a b; simp [a, b] at h)
    · unfold hsC; rw [if_neg h]
theorem hsX_1 : (hsX B n D x).1 = 0 → (hsE B n D x).1 = 0 ∧ hsX B n D x = hsE B n D x ∧ zBedsOn D (hsS (hsA B n D x)) (zH D) + hsV B n D x ≤ 6 := by
  intro g
  have g0 := g
  unfold hsX at g
  split at g
  · exact absurd g (lxF_ne (by omega))
  · rename_i h
    refine ⟨g, ?_, ?_⟩
    · unfold hsX; rw [if_neg h]
    · rcases Nat.lt_or_ge 6 (zBedsOn D (hsS (hsA B n D x)) (zH D) + hsV B n D x) with z | z
      · exact absurd ⟨g, z⟩ h
      · exact z
/-- a house was added -/
theorem RD_house (hr : RD I L rd dr D) (hd : Dis rd dr) (hb : D 16 0 = 1) (hs : sd < 2) (h1 : 1 ≤ bd ∧ bd ≤ 3) (h2 : zBedsOn D sd (zH D) + bd ≤ 6) (h3 : zH D < 6) (h4 : nm < 27 ^ 8)
    (k0 : ∀ a, a ≠ dr → a ≠ dr + 2 → a ≠ dr + 3 → a ≠ dr + 4 → a ≠ dr + 6 → J a = I a) (k2 : J (dr + 2) = upd (I (dr + 2)) (zH D) (nI sd)) (k3 : J (dr + 3) = upd (I (dr + 3)) (zH D) (nI bd)) (k4 : J (dr + 4) = upd (I (dr + 4)) (zH D) (nI (zB D))) (k6 : J (dr + 6) = hsF (I (dr + 6)) (zB D) (zB D + bd) (zH D)) (kt : J dr = upd (upd (I dr) 6 (nI (zB D + bd))) 1 (nI (zH D + 1))) (kl : L' = gU L (rd + 18) (vp_updL (L (rd + 18)) (zH D) (lN nm))) : RD J L' rd dr (dHouse D sd bd nm) := by
  obtain ⟨r1, r2, r3, r4, r5, r6, r7, r8⟩ := hr
  obtain ⟨d1, d2⟩ := id hd
  have hz := r8
  obtain ⟨z0, z1, z2, z3, z4, z5, z6, z7, z8, z9, z10, z11, z12, z13, z14, z15, z16⟩ := hz
  have ho : ∀ a, ¬ (a = dr ∨ a = dr + 2 ∨ a = dr + 3 ∨ a = dr + 4 ∨ a = dr + 6) → J a = I a := fun a ha => k0 a (by omega) (by omega) (by omega) (by omega) (by omega)
  refine ⟨?_, ?_, ?_, ?_, ?_, ?_, ?_, zD_house r8 hb hs h1 h2 h3 h4⟩
  · obtain ⟨rt0, rt1, rt2, rt3, rt4, rt5, rt6, rt7, rt8, rt9, rt10, rt11, rt12, rt13, rt14, rt15, rt16, rt17, rt18, rt19⟩ := r1
    refine ⟨?_, ?_, ?_, ?_, ?_, by rw [ho _ (by omega)]; exact rt5, ?_, ?_, ?_, by rw [ho _ (by omega)]; exact rt9, ?_, by rw [ho _ (by omega)]; exact rt11, by rw [ho _ (by omega)]; exact rt12, by rw [ho _ (by omega)]; exact rt13, by rw [ho _ (by omega)]; exact rt14, by rw [ho _ (by omega)]; exact rt15, by rw [ho _ (by omega)]; exact rt16, by rw [ho _ (by omega)]; exact rt17, by rw [ho _ (by omega)]; exact rt18, by rw [ho _ (by omega)]; exact rt19⟩
    · rw [kt, upd_same]; rfl
    · rw [kt, upd_oth (by omega), upd_same]; rfl
    · rw [kt, upd_oth (by omega), upd_oth (by omega)]; exact rt2
    · rw [kt, upd_oth (by omega), upd_oth (by omega)]; exact rt3
    · rw [kt, upd_oth (by omega), upd_oth (by omega)]; exact rt4
    · intro h hh
      rw [dH_H] at hh
      rw [k2]
      by_cases e : h = zH D
      · subst e; rw [upd_same, dH_e.1]
      · rw [upd_oth e, dH_2 e]; exact rt6 h (by omega)
    · intro h hh
      rw [dH_H] at hh
      rw [k3]
      by_cases e : h = zH D
      · subst e; rw [upd_same, dH_e.2.1]
      · rw [upd_oth e, dH_3 e]; exact rt7 h (by omega)
    · intro h hh
      rw [dH_H] at hh
      rw [k4]
      by_cases e : h = zH D
      · subst e; rw [upd_same, dH_e.2.2.1]
      · rw [upd_oth e, dH_4 e]; exact rt8 h (by omega)
    · intro b hb
      rw [dH_B] at hb
      rw [k6]
      unfold hsF
      by_cases e : zB D ≤ b ∧ b < zB D + bd
      · rw [if_pos e, dH_7e e]
      · rw [if_neg e, dH_7 e]; exact rt10 b (by omega)
  · rw [ho _ (by omega)]; exact r2
  · rw [ho _ (by omega)]; exact r3
  · rw [ho _ (by omega)]; exact r4
  · rw [ho _ (by omega)]; exact r5
  · intro h hh
    rw [dH_H] at hh
    rw [kl, gU_same]
    by_cases e : h = zH D
    · subst e; rw [pk_uLs, dH_e.2.2.2]
    · rw [pk_uLn e, dH_17 e]; exact r6 h (by omega)
  · rw [kl, gU_oth (by omega)]; exact r7
end LN1
