/-! the reference: how it stands, loosely -/
section MOV
variable {d p q h a k m n j v r i c u s w y e b t l z cnt ic tn flt pl tr : Nat} {E : gE} {I J K : Nat → Nat → Int32} {L L' : Nat → Nat → Int64} {tp R g g' : Nat → Nat} {T S V : zA} {U G : Nat → zA} {X Y Z x : Int32} {M : gM} {f f' : Nat → Int32} {Q : Option Value → gM → Prop} {H H' : Nat → Nat → Nat}
def YSb (f : Nat → Int32) (T S : zA) (H : Nat → Nat → Nat) : Prop :=
  f 0 = nI (S 6 1) ∧ f 1 = nI (S 6 0) ∧ (∀ p, p < zP T → f (2 + 4 * p) = nI (S 0 p)) ∧ (∀ p, p < zP T → f (2 + 4 * p + 1) = nI (S 1 p)) ∧ (∀ p, p < zP T → f (2 + 4 * p + 2) = nI (S 2 p)) ∧ (∀ p, p < zP T → f (2 + 4 * p + 3) = nI (S 5 p)) ∧ (∀ p b, p < zP T → b < 12 → f (42 + 12 * p + b) = nI (S 3 (12 * p + b))) ∧ ∀ p q, p < zP T → q < zP T → p ≠ q → f (162 + 10 * p + q) = nI (H p q)
/-- together, either way round -/
def syB (S : zA) (p q : Nat) : Nat := S 4 (if p < q then 10 * p + q else 10 * q + p)
theorem YSb_of (h : YSt f T S) : YSb f T S (syB S) := ⟨h.1, h.2.1, h.2.2.1, h.2.2.2.1, h.2.2.2.2.1, h.2.2.2.2.2.1, h.2.2.2.2.2.2.1, h.2.2.2.2.2.2.2.1⟩
theorem YSt_of (h : YSb f T S H) (hz : zS T S) (hH : ∀ p q, p < zP T → q < zP T → p ≠ q → H p q = syB S p q) : YSt f T S := ⟨h.1, h.2.1, h.2.2.1, h.2.2.2.1, h.2.2.2.2.1, h.2.2.2.2.2.1, h.2.2.2.2.2.2.1, fun p q hp hq hn => by rw [h.2.2.2.2.2.2.2 p q hp hq hn, hH p q hp hq hn]; rfl, hz⟩
theorem YSb_cg (h : YSb f T S H) (h1 : V 6 1 = S 6 1) (h2 : V 6 0 = S 6 0) (h3 : ∀ p, p < zP T → V 0 p = S 0 p) (h4 : ∀ p, p < zP T → V 1 p = S 1 p) (h5 : ∀ p, p < zP T → V 2 p = S 2 p) (h6 : ∀ p, p < zP T → V 5 p = S 5 p) (h7 : ∀ p b, p < zP T → b < 12 → V 3 (12 * p + b) = S 3 (12 * p + b)) (h8 : ∀ p q, p < zP T → q < zP T → p ≠ q → H' p q = H p q) : YSb f T V H' := by
  obtain ⟨s1, s2, s3, s4, s5, s6, s7, s8⟩ := h
  exact ⟨by rw [h1]; exact s1, by rw [h2]; exact s2, fun p hp => by rw [h3 p hp]; exact s3 p hp, fun p hp => by rw [h4 p hp]; exact s4 p hp, fun p hp => by rw [h5 p hp]; exact s5 p hp, fun p hp => by rw [h6 p hp]; exact s6 p hp, fun p b hp hb => by rw [h7 p b hp hb]; exact s7 p b hp hb, fun p q hp hq hn => by rw [h8 p q hp hq hn]; exact s8 p q hp hq hn⟩
theorem YSb_nt (hn : zP T ≤ 10) (h : YSb f T S H) : YSb (upd f (0) (nI v)) T (zU S 6 1 v) H := by
  obtain ⟨s1, s2, s3, s4, s5, s6, s7, s8⟩ := h
  refine ⟨?_, ?_, fun a ha => ?_, fun a ha => ?_, fun a ha => ?_, fun a ha => ?_, fun a b' ha hb' => ?_, fun a b' ha hb' hab => ?_⟩
  · rw [upd_same, zU_at]
  · rw [upd_oth (by omega), zU_j (by omega)]; exact s2
  · rw [upd_oth (by omega), zU_k (by omega)]; exact s3 a ha
  · rw [upd_oth (by omega), zU_k (by omega)]; exact s4 a ha
  · rw [upd_oth (by omega), zU_k (by omega)]; exact s5 a ha
  · rw [upd_oth (by omega), zU_k (by omega)]; exact s6 a ha
  · rw [upd_oth (by omega), zU_k (by omega)]; exact s7 a b' ha hb'
  · rw [upd_oth (by omega)]; exact s8 a b' ha hb' hab
theorem YSb_sd (hn : zP T ≤ 10) (h : YSb f T S H) : YSb (upd f (1) (nI v)) T (zU S 6 0 v) H := by
  obtain ⟨s1, s2, s3, s4, s5, s6, s7, s8⟩ := h
  refine ⟨?_, ?_, fun a ha => ?_, fun a ha => ?_, fun a ha => ?_, fun a ha => ?_, fun a b' ha hb' => ?_, fun a b' ha hb' hab => ?_⟩
  · rw [upd_oth (by omega), zU_j (by omega)]; exact s1
  · rw [upd_same, zU_at]
  · rw [upd_oth (by omega), zU_k (by omega)]; exact s3 a ha
  · rw [upd_oth (by omega), zU_k (by omega)]; exact s4 a ha
  · rw [upd_oth (by omega), zU_k (by omega)]; exact s5 a ha
  · rw [upd_oth (by omega), zU_k (by omega)]; exact s6 a ha
  · rw [upd_oth (by omega), zU_k (by omega)]; exact s7 a b' ha hb'
  · rw [upd_oth (by omega)]; exact s8 a b' ha hb' hab
theorem YSb_u0 (hn : zP T ≤ 10) (h : YSb f T S H) (hp : p < zP T) : YSb (upd f (2 + 4 * p) (nI v)) T (zU S 0 p v) H := by
  obtain ⟨s1, s2, s3, s4, s5, s6, s7, s8⟩ := h
  refine ⟨?_, ?_, fun a ha => ?_, fun a ha => ?_, fun a ha => ?_, fun a ha => ?_, fun a b' ha hb' => ?_, fun a b' ha hb' hab => ?_⟩
  · rw [upd_oth (by omega), zU_k (by omega)]; exact s1
  · rw [upd_oth (by omega), zU_k (by omega)]; exact s2
  · by_cases e : a = p
    · subst e; rw [upd_same, zU_at]
    · rw [upd_oth (by omega), zU_j e]; exact s3 a ha
  · rw [upd_oth (by omega), zU_k (by omega)]; exact s4 a ha
  · rw [upd_oth (by omega), zU_k (by omega)]; exact s5 a ha
  · rw [upd_oth (by omega), zU_k (by omega)]; exact s6 a ha
  · rw [upd_oth (by omega), zU_k (by omega)]; exact s7 a b' ha hb'
  · rw [upd_oth (by omega)]; exact s8 a b' ha hb' hab
theorem YSb_u1 (hn : zP T ≤ 10) (h : YSb f T S H) (hp : p < zP T) : YSb (upd f (2 + 4 * p + 1) (nI v)) T (zU S 1 p v) H := by
  obtain ⟨s1, s2, s3, s4, s5, s6, s7, s8⟩ := h
  refine ⟨?_, ?_, fun a ha => ?_, fun a ha => ?_, fun a ha => ?_, fun a ha => ?_, fun a b' ha hb' => ?_, fun a b' ha hb' hab => ?_⟩
  · rw [upd_oth (by omega), zU_k (by omega)]; exact s1
  · rw [upd_oth (by omega), zU_k (by omega)]; exact s2
  · rw [upd_oth (by omega), zU_k (by omega)]; exact s3 a ha
  · by_cases e : a = p
    · subst e; rw [upd_same, zU_at]
    · rw [upd_oth (by omega), zU_j e]; exact s4 a ha
  · rw [upd_oth (by omega), zU_k (by omega)]; exact s5 a ha
  · rw [upd_oth (by omega), zU_k (by omega)]; exact s6 a ha
  · rw [upd_oth (by omega), zU_k (by omega)]; exact s7 a b' ha hb'
  · rw [upd_oth (by omega)]; exact s8 a b' ha hb' hab
theorem YSb_u2 (hn : zP T ≤ 10) (h : YSb f T S H) (hp : p < zP T) : YSb (upd f (2 + 4 * p + 2) (nI v)) T (zU S 2 p v) H := by
  obtain ⟨s1, s2, s3, s4, s5, s6, s7, s8⟩ := h
  refine ⟨?_, ?_, fun a ha => ?_, fun a ha => ?_, fun a ha => ?_, fun a ha => ?_, fun a b' ha hb' => ?_, fun a b' ha hb' hab => ?_⟩
  · rw [upd_oth (by omega), zU_k (by omega)]; exact s1
  · rw [upd_oth (by omega), zU_k (by omega)]; exact s2
  · rw [upd_oth (by omega), zU_k (by omega)]; exact s3 a ha
  · rw [upd_oth (by omega), zU_k (by omega)]; exact s4 a ha
  · by_cases e : a = p
    · subst e; rw [upd_same, zU_at]
    · rw [upd_oth (by omega), zU_j e]; exact s5 a ha
  · rw [upd_oth (by omega), zU_k (by omega)]; exact s6 a ha
  · rw [upd_oth (by omega), zU_k (by omega)]; exact s7 a b' ha hb'
  · rw [upd_oth (by omega)]; exact s8 a b' ha hb' hab
theorem YSb_u5 (hn : zP T ≤ 10) (h : YSb f T S H) (hp : p < zP T) : YSb (upd f (2 + 4 * p + 3) (nI v)) T (zU S 5 p v) H := by
  obtain ⟨s1, s2, s3, s4, s5, s6, s7, s8⟩ := h
  refine ⟨?_, ?_, fun a ha => ?_, fun a ha => ?_, fun a ha => ?_, fun a ha => ?_, fun a b' ha hb' => ?_, fun a b' ha hb' hab => ?_⟩
  · rw [upd_oth (by omega), zU_k (by omega)]; exact s1
  · rw [upd_oth (by omega), zU_k (by omega)]; exact s2
  · rw [upd_oth (by omega), zU_k (by omega)]; exact s3 a ha
  · rw [upd_oth (by omega), zU_k (by omega)]; exact s4 a ha
  · rw [upd_oth (by omega), zU_k (by omega)]; exact s5 a ha
  · by_cases e : a = p
    · subst e; rw [upd_same, zU_at]
    · rw [upd_oth (by omega), zU_j e]; exact s6 a ha
  · rw [upd_oth (by omega), zU_k (by omega)]; exact s7 a b' ha hb'
  · rw [upd_oth (by omega)]; exact s8 a b' ha hb' hab
theorem YSb_u3 (hn : zP T ≤ 10) (h : YSb f T S H) (hp : p < zP T) (hb : b < 12) : YSb (upd f (42 + 12 * p + b) (nI v)) T (zU S 3 (12 * p + b) v) H := by
  obtain ⟨s1, s2, s3, s4, s5, s6, s7, s8⟩ := h
  refine ⟨?_, ?_, fun a ha => ?_, fun a ha => ?_, fun a ha => ?_, fun a ha => ?_, fun a b' ha hb' => ?_, fun a b' ha hb' hab => ?_⟩
  · rw [upd_oth (by omega), zU_k (by omega)]; exact s1
  · rw [upd_oth (by omega), zU_k (by omega)]; exact s2
  · rw [upd_oth (by omega), zU_k (by omega)]; exact s3 a ha
  · rw [upd_oth (by omega), zU_k (by omega)]; exact s4 a ha
  · rw [upd_oth (by omega), zU_k (by omega)]; exact s5 a ha
  · rw [upd_oth (by omega), zU_k (by omega)]; exact s6 a ha
  · by_cases e : a = p ∧ b' = b
    · obtain ⟨rfl, rfl⟩ := e; rw [upd_same, zU_at]
    · rw [upd_oth (by omega), zU_j (by omega)]; exact s7 a b' ha hb'
  · rw [upd_oth (by omega)]; exact s8 a b' ha hb' hab
theorem YSb_u4 (hn : zP T ≤ 10) (h : YSb f T S H) (hp : p < zP T) (hq : q < zP T) : YSb (upd f (162 + 10 * p + q) (nI v)) T S (fun a b => if a = p ∧ b = q then v else H a b) := by
  obtain ⟨s1, s2, s3, s4, s5, s6, s7, s8⟩ := h
  refine ⟨?_, ?_, fun a ha => ?_, fun a ha => ?_, fun a ha => ?_, fun a ha => ?_, fun a b' ha hb' => ?_, fun a b' ha hb' hab => ?_⟩
  · rw [upd_oth (by omega)]; exact s1
  · rw [upd_oth (by omega)]; exact s2
  · rw [upd_oth (by omega)]; exact s3 a ha
  · rw [upd_oth (by omega)]; exact s4 a ha
  · rw [upd_oth (by omega)]; exact s5 a ha
  · rw [upd_oth (by omega)]; exact s6 a ha
  · rw [upd_oth (by omega)]; exact s7 a b' ha hb'
  · show _ = nI (if a = p ∧ b' = q then v else H a b')
    by_cases e : a = p ∧ b' = q
    · rw [if_pos e]; obtain ⟨rfl, rfl⟩ := e; rw [upd_same]
    · rw [upd_oth (by omega), if_neg e]; exact s8 a b' ha hb' hab
theorem mo_bedNow2 (hl : LM E y) (hp : p < 10) (h : I (y + 5) (2 + 4 * p) = nI v) : gm (d + 2) 260 [.ref y, .int (nI p)] (E, I, L) Q = Q (some (.int (mv v))) (E, I, L) := by
  refine gm_eq (fun Q hQ => ?_) Q
  have l0 := hl.1
  rw [en_Model_bedNow]
  simp (disch := omega) only [ws_nil, ws_iconst, ws_bipush, ws_sipush, ws_lconst, ws_ldc_i, ws_ldc_s, ws_ldc_w_i, ws_ldc_w_s, ws_iload_0, ws_lload_0, ws_aload_0, ws_istore_0, ws_lstore_0, ws_astore_0, ws_iload_1, ws_lload_1, ws_aload_1, ws_istore_1, ws_lstore_1, ws_astore_1, ws_iload_2, ws_lload_2, ws_aload_2, ws_istore_2, ws_lstore_2, ws_astore_2, ws_iload_3, ws_lload_3, ws_aload_3, ws_istore_3, ws_lstore_3, ws_astore_3, ws_iload, ws_aload, ws_istore, ws_astore, ws_iinc, ws_iadd, ws_isub, ws_imul, ws_iand, ws_ior, ws_ixor, ws_ishl, ws_ishr, ws_iushr, ws_idiv, ws_irem, ws_ineg, ws_i2l, ws_l2i, ws_ladd, ws_lmul, ws_lcmp, ws_dup_i, ws_pop_i, ws_dup_r, ws_pop_r, ws_dup2, ws_if_eq, ws_icmp_eq, ws_if_ne, ws_icmp_ne, ws_if_lt, ws_icmp_lt, ws_if_ge, ws_icmp_ge, ws_if_gt, ws_icmp_gt, ws_if_le, ws_icmp_le, ws_goto, ws_table, ws_get_0, ws_get_1, ws_get_2, ws_get_3, ws_put_0, ws_put_1, ws_put_2, ws_put_3, ws_iaload, ws_laload, ws_aaload, ws_iastore, ws_lastore, ws_alen, ws_ret_int, ws_ret_boolean, ws_ret_long, ws_ret_ref, ws_ret_void, ws_iv_0, ws_iv_1, ws_iv_2, ws_iv_3, ws_iv_4, ws_iv_5, ws_is_1, ws_is_2, ws_is_3, ws_is_4, ws_is_5, ws_slen, ws_schar, ws_max, ws_min, ws_copy, go_some, g_li_0, g_li_1, g_li_2, g_li_3, g_li_4, g_li_5, g_li_6, g_li_7, g_li_8, g_li_9, g_li_10, g_li_11, g_li_12, g_li_13, g_li_14, g_li_15, g_li_16, g_li_17, g_li_18, g_li_19, g_ll_0, g_ll_1, g_ll_2, g_ll_3, g_ll_4, g_ll_5, g_ll_6, g_ll_7, g_ll_8, g_ll_9, g_lr_0, g_lr_1, g_lr_2, g_lr_3, g_lr_4, g_lr_5, g_lr_6, g_lr_7, g_lr_8, g_lr_9, g_st_0, g_st_1i, g_st_1r, g_st_1n, g_st_1o, g_st_2, g_st_3, g_st_4, g_st_5, g_st_6, g_st_7, g_st_8, g_st_9, g_st_10, g_st_11, g_st_12, g_st_13, g_st_14, g_st_15, g_st_16, g_st_17, g_st_18, g_st_19, g_st2_1, gN_0, gN_1, gN_2, gN_3, gN_4, gN_5, gN_6, gN_7, gN_8, gN_9, to_some, to_none, ci_m2, ci_m1, ci_0, ci_1, ci_2, ci_3, ci_4, ci_5, cb_m2, cb_6, cb_7, cb_8, cb_9, cb_10, cb_11, cb_12, cb_13, cb_16, cb_20, cb_24, cb_27, cb_30, cb_32, cb_40, cb_41, cb_42, cb_48, cb_57, cb_59, cb_60, cb_63, cb_74, cb_75, cb_80, cb_90, cb_97, cb_99, cb_100, cb_120, cb_122, cs_130, cs_150, cs_162, cs_180, cs_190, cs_202, cs_214, cs_230, cs_255, cs_262, cs_358, cs_410, cs_786, cs_900, cs_2882, cs_3144, cs_4096, ci_m8, gb_n, gb_i1, gb_r1, gb_i2, gb_r2, gb_l2, gb_i3, gb_r3, gb_l3, gb_i4, gb_r4, gb_l4, gb_i5, gb_r5, gb_l5, gb_i6, gb_r6, gb_l6, gb_i7, gb_r7, gb_l7, gb_i8, gb_r8, gb_l8, Nat.reduceAdd, Nat.reduceSub, Nat.reduceLeDiff, List.length_nil, List.length_cons, true_and, and_true, Nat.reduceMul, Nat.reduceLT, Nat.reduceEqDiff, b_Model_bedNow_0, l0, mo_its hl (show 2 + 4 * p + 0 < 262 by omega), Nat.add_zero, h, mv_m1, n_ite, n_lt, n_le, n_eq, n_lt0, n_ge0, n_gt0, n_le0, n_eq0, n_eq1, n_cl, n_in, n_add, n_mul, n_sub, n_and, n_or, n_shl, n_shr, n_m2lt0, n_m2ge0, n_m1lt0, n_m1ge0, n_mlt, n_m2ne, n_m2ne', n_m1ne, n_m1ne', not_true_eq_false, not_false_eq_true, false_implies, true_implies, and_self, true_and, and_true, Nat.not_lt, Nat.not_le, true_or, or_true, false_or, or_false, ne_eq, Nat.le_refl, Nat.lt_irrefl, implies_true, Nat.zero_add, Nat.add_zero, Classical.not_not]
  exact hQ
/-- the draws on the way -/
def zDq (T S : zA) (i : Nat) : zA := fun k j => if k = 5 ∧ j < i then (decide (sdN (S 6 0) (j + 1) % 100 < T 1 4)).toNat else if k = 6 ∧ j = 0 then sdN (S 6 0) i else S k j
theorem zDq_0 : zDq T S 0 = S := by
  funext k j
  unfold zDq
  rw [if_neg (by omega)]
  split
  · rename_i h; obtain ⟨rfl, rfl⟩ := h; rfl
  · rfl
theorem zDq_s : zU (zU (zDq T S i) 6 0 (sdN (S 6 0) (i + 1))) 5 i (decide (sdN (S 6 0) (i + 1) % 100 < T 1 4)).toNat = zDq T S (i + 1) := by
  funext k j
  unfold zU
  by_cases h1 : k = 5 ∧ j = i
  · obtain ⟨rfl, rfl⟩ := h1
    rw [if_pos ⟨rfl, rfl⟩]
    unfold zDq
    rw [if_pos ⟨rfl, by omega⟩]
  · rw [if_neg h1]
    by_cases h2 : k = 6 ∧ j = 0
    · rw [if_pos h2]
      unfold zDq
      rw [if_neg (by omega), if_pos h2]
    · rw [if_neg h2]
      unfold zDq
      by_cases h3 : k = 5 ∧ j < i
      · rw [if_pos h3, if_pos ⟨h3.1, by omega⟩]
      · rw [if_neg h3, if_neg h2, if_neg (by omega), if_neg h2]
theorem YSb_dr (hn : zP T ≤ 10) (h : YSb f T (zDq T V (zP T)) H) : YSb f T (zDr T V) H := by
  refine YSb_cg h ?_ ?_ (fun p hp => ?_) (fun p hp => ?_) (fun p hp => ?_) (fun p hp => ?_) (fun p b hp hb => ?_) (fun _ _ _ _ _ => rfl)
  all_goals unfold zDr zDrP zDq zDrC
  · simp
  · simp
  · simp
  · simp
  · simp
  · simp [hp]
  · simp
end MOV
