/-! the reference: could, surely, ask; the mathematics of counts -/
section MOT
variable {d p q h a k m n j v r i c u s w y e b t l z cnt ic tn flt pl tr : Nat} {E : gE} {I J K : Nat → Nat → Int32} {L L' : Nat → Nat → Int64} {tp R g g' : Nat → Nat} {T S V : zA} {U G : Nat → zA} {X Y Z x : Int32} {M : gM} {f f' : Nat → Int32} {Q : Option Value → gM → Prop} {ok : (Nat → Nat) → Bool} {o o' : zO} {wh : Nat → Nat} {F : Nat → Nat → Nat} {N : Nat}
theorem sum_eqb : ∀ n, sumN (fun b => (c == b).toNat) n = if c < n then 1 else 0 := by
  intro n
  induction n with
  | zero => rfl
  | succ n ih =>
    show sumN _ n + (c == n).toNat = _
    rw [ih]
    by_cases e : c = n
    · subst e; rw [if_neg (Nat.lt_irrefl c), if_pos (Nat.lt_succ_self c)]; simp
    · rw [beq_false_of_ne e]
      by_cases e2 : c < n
      · rw [if_pos e2, if_pos (by omega)]; rfl
      · rw [if_neg e2, if_neg (by omega)]; rfl
theorem cnt_fold (hp : inR wh n p = true) (hok : ∀ l, ok l = true → l p ≤ m) (hm : m ≤ 12) : ∀ (Ls : List (Nat → Nat)) (o : zO), sumN (fun b => o.2.2 p b) m + o.2.2 p 12 = o.2.1 → sumN (fun b => (Ls.foldl (stp T S wh n 0 ok) o).2.2 p b) m + (Ls.foldl (stp T S wh n 0 ok) o).2.2 p 12 = (Ls.foldl (stp T S wh n 0 ok) o).2.1 := by
  intro Ls
  induction Ls with
  | nil => intro o h; exact h
  | cons x Ls ih =>
    intro o h
    refine ih _ ?_
    unfold stp
    by_cases h1 : ok x = true
    · rw [if_pos h1, if_neg (show ¬ (0 : Nat) = 1 by omega)]
      have hx := hok x h1
      have h' : sumN (o.2.2 p) m + o.2.2 p 12 = o.2.1 := h
      show sumN (fun b => o.2.2 p b + (inR wh n p && plc (x p) == b).toNat) m + (o.2.2 p 12 + (inR wh n p && plc (x p) == 12).toNat) = o.2.1 + 1
      rw [hp, sumN_ad2]
      simp only [Bool.true_and]
      rw [sum_eqb]
      by_cases e : x p = 0
      · rw [e, plc_0, if_neg (by omega)]
        have : ((12 : Nat) == 12).toNat = 1 := rfl
        omega
      · rw [plc_nz e, if_pos (by omega), beq_false_of_ne (by omega), Bool.toNat_false]
        omega
    · rw [if_neg h1]; exact h
theorem cnt_sum (hz : zT T) (hp : p < zP T) (hs : zSP T p = a) : sumN (fun b => zTa T V a (zOkF T a) p b) (zB T) + zTa T V a (zOkF T a) p 12 = zCt T V a (zOkF T a) := by
  have h := cnt_fold (T := T) (S := V) (wh := zWh T a) (n := zN T a) (p := p) (ok := zOkF T a) (m := zB T) (by rw [inR_side hp]; exact beq_iff_eq.mpr hs) (fun l hl => by
    unfold zOkF at hl
    rw [Bool.and_eq_true] at hl
    exact (zOkR_iff.mp hl.1 p hp).1) hz.2.1 (zLv (zB T) (zWh T a) (zN T a) 0 (fun _ => 0)) zO0 (by
    have := sumN_le (c := fun b => zO0.2.2 p b) (n := zB T) (k := 0) (fun q _ => Nat.le_refl _)
    show sumN (fun b => zO0.2.2 p b) (zB T) + 0 = 0
    omega)
  exact h
/-- how many rows have one in a house -/
def zFi (T : zA) (F : Nat → Nat → Nat) (p h n : Nat) : Nat := sumN (fun b => if T 7 b = h then F p b else 0) n
theorem zFi_s : zFi T F p h (b + 1) = zFi T F p h b + if T 7 b = h then F p b else 0 := rfl
theorem sumN_nz {c : Nat → Nat} : sumN c n ≠ 0 ↔ ∃ q, q < n ∧ c q ≠ 0 := by
  induction n with
  | zero => simp [sumN]
  | succ n ih =>
    simp only [sumN]
    constructor
    · intro h
      by_cases e : c n = 0
      · obtain ⟨q, h1, h2⟩ := ih.mp (by omega)
        exact ⟨q, by omega, h2⟩
      · exact ⟨n, by omega, e⟩
    · rintro ⟨q, h1, h2⟩
      by_cases e : q = n
      · subst e; omega
      · have := ih.mpr ⟨q, by omega, h2⟩
        omega
theorem zFi_nz : zFi T F p h n ≠ 0 ↔ ∃ b, b < n ∧ T 7 b = h ∧ F p b ≠ 0 := by
  unfold zFi
  rw [sumN_nz]
  refine exists_congr fun b => and_congr Iff.rfl ?_
  by_cases e : T 7 b = h
  · rw [if_pos e]; exact ⟨fun x => ⟨e, x⟩, fun x => x.2⟩
  · rw [if_neg e]; exact ⟨fun x => absurd rfl x, fun x => absurd x.1 e⟩
theorem zFi_le (hF : ∀ p x, F p x ≤ 371293) : zFi T F p h n ≤ n * 371293 := sumN_le (fun q _ => by
  show (if T 7 q = h then F p q else 0) ≤ _
  split
  · exact hF p q
  · omega)
theorem his_bit : (zHis T F p n).testBit h = true ↔ zFi T F p h n ≠ 0 := by
  unfold zHis
  rw [orN_bit, anyN_iff, zFi_nz]
  refine exists_congr fun b => and_congr Iff.rfl ?_
  by_cases e : F p b = 0
  · rw [if_pos e, Nat.zero_testBit]; exact ⟨(fun x => nomatch x), fun x => absurd e x.2⟩
  · rw [if_neg e, Nat.testBit_two_pow, decide_eq_true_eq]; exact ⟨fun x => ⟨x, e⟩, fun x => x.1⟩
theorem could_eq (hz : zT T) : mkN (fun h => !(zFi T F p h (zB T) == 0)) (zH T) = zHis T F p (zB T) := by
  apply Nat.eq_of_testBit_eq
  intro h
  rw [Bool.eq_iff_iff, his_bit, mkN_bit, Bool.and_eq_true, decide_eq_true_eq, Bool.not_eq_true', beq_eq_false_iff_ne]
  refine ⟨fun x => x.2, fun x => ⟨?_, x⟩⟩
  obtain ⟨b, h1, h2, _⟩ := zFi_nz.mp x
  rw [← h2]
  exact hz.2.2.2.2.2.2.1 b h1
theorem sumN_eq0 {c : Nat → Nat} (h : sumN c n = 0) (hq : q < n) : c q = 0 := by
  by_cases e : c q = 0
  · exact e
  · exact absurd h (sumN_nz.mpr ⟨q, hq, e⟩)
theorem fi_split : zFi T F p h n + sumN (fun b => if T 7 b = h then 0 else F p b) n = sumN (fun b => F p b) n := by
  unfold zFi
  rw [← sumN_ad2]
  refine sumN_congr (fun b _ => ?_)
  by_cases e : T 7 b = h
  · rw [if_pos e, if_pos e]; rfl
  · rw [if_neg e, if_neg e, Nat.zero_add]
theorem sure_iff (hN : 0 < N) (hs : sumN (fun b => F p b) (zB T) + F p 12 = N) : zFi T F p h (zB T) = N ↔ F p 12 = 0 ∧ zHis T F p (zB T) = 2 ^ h := by
  have h1 := fi_split (T := T) (F := F) (p := p) (h := h) (n := zB T)
  constructor
  · intro h2
    have h3 : sumN (fun b => if T 7 b = h then 0 else F p b) (zB T) = 0 := by omega
    refine ⟨by omega, ?_⟩
    apply Nat.eq_of_testBit_eq
    intro k
    rw [Bool.eq_iff_iff, his_bit, Nat.testBit_two_pow, decide_eq_true_eq]
    constructor
    · intro h4
      obtain ⟨b, h5, h6, h7⟩ := zFi_nz.mp h4
      have h8 : (if T 7 b = h then 0 else F p b) = 0 := sumN_eq0 (c := fun b => if T 7 b = h then 0 else F p b) h3 h5
      by_cases e : T 7 b = h
      · rw [← e, h6]
      · rw [if_neg e] at h8; exact absurd h8 h7
    · intro e; subst e; omega
  · rintro ⟨h2, h3⟩
    have h4 : sumN (fun b => if T 7 b = h then 0 else F p b) (zB T) = 0 := by
      by_cases e : sumN (fun b => if T 7 b = h then 0 else F p b) (zB T) = 0
      · exact e
      · exfalso
        obtain ⟨b, h5, h6⟩ := sumN_nz.mp e
        by_cases e2 : T 7 b = h
        · rw [if_pos e2] at h6; exact h6 rfl
        · rw [if_neg e2] at h6
          have h7 := his_bit.mpr (zFi_nz (T := T).mpr ⟨b, h5, rfl, h6⟩)
          rw [h3, Nat.testBit_two_pow, decide_eq_true_eq] at h7
          exact e2 h7.symm
    omega
theorem fir_cg {c c' : Nat → Bool} (h : ∀ q, q < n → c q = c' q) : firN c n 0 = firN c' n 0 := by
  have : ∀ i, i ≤ n → firN c n i = firN c' n i := by
    refine up_ind ?_ (fun i hi ih => ?_)
    · rw [firN_ge (Nat.le_refl _), firN_ge (Nat.le_refl _)]
    · rw [firN_lt hi, firN_lt hi, ih, h i hi]
  exact this 0 (Nat.zero_le _)
theorem fir_none {c : Nat → Bool} (h : ∀ q, q < n → c q = false) : firN c n 0 = n := by
  have : ∀ i, i ≤ n → firN c n i = n := by
    refine up_ind (firN_ge (Nat.le_refl _)) (fun i hi ih => ?_)
    rw [firN_lt hi, ih, h i hi]; rfl
  exact this 0 (Nat.zero_le _)
theorem surely_eq (hs : sumN (fun b => F p b) (zB T) + F p 12 = N) : firN (fun h => !(N == 0) && zFi T F p h (zB T) == N) (zH T) 0 = zHia T F p := by
  unfold zHia
  by_cases hN : N = 0
  · have h0 : ∀ h, zFi T F p h (zB T) = 0 := fun h => by
      have h1 := fi_split (T := T) (F := F) (p := p) (h := h) (n := zB T)
      omega
    rw [if_pos (by omega), fir_none (fun q _ => by rw [hN]; rfl), fir_none]
    intro q _
    rw [← Bool.not_eq_true, beq_iff_eq]
    intro e
    have : (zHis T F p (zB T)).testBit q = true := by rw [e, Nat.testBit_two_pow]; simp
    exact his_bit.mp this (h0 q)
  · by_cases h1 : F p 12 = 0
    · rw [if_pos h1]
      refine fir_cg (fun q _ => ?_)
      rw [beq_false_of_ne hN, Bool.not_false, Bool.true_and, Bool.eq_iff_iff, beq_iff_eq, beq_iff_eq, sure_iff (by omega) hs]
      exact ⟨fun x => x.2, fun x => ⟨h1, x⟩⟩
    · rw [if_neg h1]
      refine fir_none (fun q _ => ?_)
      rw [beq_false_of_ne hN, Bool.not_false, Bool.true_and, ← Bool.not_eq_true, beq_iff_eq, sure_iff (by omega) hs]
      exact fun x => h1 x.1
theorem mo_fitsIn (hB : YB E I y T S) (hp : p < zP T) (hF : ∀ x, x < 13 → I (y + 11) (13 * p + x) = nI (F p x)) (hh : h < 6) : gm (d + 1) 325 [.ref y, .int (nI p), .int (nI h)] (E, I, L) Q = Q (some (.int (nI (zFi T F p h (zB T))))) (E, I, L) := by
  refine gm_eq (fun Q hQ => ?_) Q
  obtain ⟨hl, hz, hD, hS, h14⟩ := id hB
  obtain ⟨lm0, lm1, lm2, lm3, lm4, lm5, lm6, lm7, lm8, lm9, lm10, lm11, lm12, lm13, lm14, lm15, lm16, lm17, lm18, lm19, lm20, lm21, lm22, lm23, lm24, lm25, lm26, lm27, lm28, lm29, lm30, lm31, lm32, lm33, lm34⟩ := id hl
  obtain ⟨yd0, yd1, yd2, yd3, yd4, yd5, yd6, yd7, yd8, yd9, yd10, yd11, yd12, yd13, yd14, yd15, yd16, yd17, yd18, yd19, yd20, yd21, yd22, yd23, yd24, yd25, yd26⟩ := id hD
  have z0' := hz.1
  have z1 := hz.2.1
  have z2 := hz.2.2.1
  have key : ∀ b, b ≤ zB T → gj d md_Model_fitsIn Q 1 [some (.ref y), some (.int (nI p)), some (.int (nI h)), some (.int (nI (zFi T F p h b))), some (.int (nI b))] [] (E, I, L) := by
    refine up_ind ?_ (fun b hb ih => ?_)
    · rw [b_Model_fitsIn_1]
      simp (disch := omega) only [ws_nil, ws_iconst, ws_bipush, ws_sipush, ws_lconst, ws_ldc_i, ws_ldc_s, ws_ldc_w_i, ws_ldc_w_s, ws_iload_0, ws_lload_0, ws_aload_0, ws_istore_0, ws_lstore_0, ws_astore_0, ws_iload_1, ws_lload_1, ws_aload_1, ws_istore_1, ws_lstore_1, ws_astore_1, ws_iload_2, ws_lload_2, ws_aload_2, ws_istore_2, ws_lstore_2, ws_astore_2, ws_iload_3, ws_lload_3, ws_aload_3, ws_istore_3, ws_lstore_3, ws_astore_3, ws_iload, ws_aload, ws_istore, ws_astore, ws_iinc, ws_iadd, ws_isub, ws_imul, ws_iand, ws_ior, ws_ixor, ws_ishl, ws_ishr, ws_iushr, ws_idiv, ws_irem, ws_ineg, ws_i2l, ws_l2i, ws_ladd, ws_lmul, ws_lcmp, ws_dup_i, ws_pop_i, ws_dup_r, ws_pop_r, ws_dup2, ws_if_eq, ws_icmp_eq, ws_if_ne, ws_icmp_ne, ws_if_lt, ws_icmp_lt, ws_if_ge, ws_icmp_ge, ws_if_gt, ws_icmp_gt, ws_if_le, ws_icmp_le, ws_goto, ws_table, ws_get_0, ws_get_1, ws_get_2, ws_get_3, ws_put_0, ws_put_1, ws_put_2, ws_put_3, ws_iaload, ws_laload, ws_aaload, ws_iastore, ws_lastore, ws_alen, ws_ret_int, ws_ret_boolean, ws_ret_long, ws_ret_ref, ws_ret_void, ws_iv_0, ws_iv_1, ws_iv_2, ws_iv_3, ws_iv_4, ws_iv_5, ws_is_1, ws_is_2, ws_is_3, ws_is_4, ws_is_5, ws_slen, ws_schar, ws_max, ws_min, ws_copy, go_some, g_li_0, g_li_1, g_li_2, g_li_3, g_li_4, g_li_5, g_li_6, g_li_7, g_li_8, g_li_9, g_li_10, g_li_11, g_li_12, g_li_13, g_li_14, g_li_15, g_li_16, g_li_17, g_li_18, g_li_19, g_ll_0, g_ll_1, g_ll_2, g_ll_3, g_ll_4, g_ll_5, g_ll_6, g_ll_7, g_ll_8, g_ll_9, g_lr_0, g_lr_1, g_lr_2, g_lr_3, g_lr_4, g_lr_5, g_lr_6, g_lr_7, g_lr_8, g_lr_9, g_st_0, g_st_1i, g_st_1r, g_st_1n, g_st_1o, g_st_2, g_st_3, g_st_4, g_st_5, g_st_6, g_st_7, g_st_8, g_st_9, g_st_10, g_st_11, g_st_12, g_st_13, g_st_14, g_st_15, g_st_16, g_st_17, g_st_18, g_st_19, g_st2_1, gN_0, gN_1, gN_2, gN_3, gN_4, gN_5, gN_6, gN_7, gN_8, gN_9, to_some, to_none, ci_m2, ci_m1, ci_0, ci_1, ci_2, ci_3, ci_4, ci_5, cb_m2, cb_6, cb_7, cb_8, cb_9, cb_10, cb_11, cb_12, cb_13, cb_16, cb_20, cb_24, cb_27, cb_30, cb_32, cb_40, cb_41, cb_42, cb_48, cb_57, cb_59, cb_60, cb_63, cb_74, cb_75, cb_80, cb_90, cb_97, cb_99, cb_100, cb_120, cb_122, cs_130, cs_150, cs_162, cs_180, cs_190, cs_202, cs_214, cs_230, cs_255, cs_262, cs_358, cs_410, cs_786, cs_900, cs_2882, cs_3144, cs_4096, ci_m8, gb_n, gb_i1, gb_r1, gb_i2, gb_r2, gb_l2, gb_i3, gb_r3, gb_l3, gb_i4, gb_r4, gb_l4, gb_i5, gb_r5, gb_l5, gb_i6, gb_r6, gb_l6, gb_i7, gb_r7, gb_l7, gb_i8, gb_r8, gb_l8, Nat.reduceAdd, Nat.reduceSub, Nat.reduceLeDiff, List.length_nil, List.length_cons, true_and, and_true, Nat.reduceMul, Nat.reduceLT, Nat.reduceEqDiff, b_Model_fitsIn_4, lm0, lm1, lm2, lm3, lm4, lm5, lm6, lm7, lm8, lm9, lm10, lm11, lm12, lm13, lm14, lm15, lm16, lm17, lm18, lm19, lm20, lm21, lm22, lm23, lm24, lm25, lm26, lm27, lm28, lm29, lm30, lm31, lm32, lm33, lm34, yd11, n_ite, n_lt, n_le, n_eq, n_lt0, n_ge0, n_gt0, n_le0, n_eq0, n_eq1, n_cl, n_in, n_add, n_mul, n_sub, n_and, n_or, n_shl, n_shr, n_m2lt0, n_m2ge0, n_m1lt0, n_m1ge0, n_mlt, n_m2ne, n_m2ne', n_m1ne, n_m1ne', not_true_eq_false, not_false_eq_true, false_implies, true_implies, and_self, true_and, and_true, Nat.not_lt, Nat.not_le, true_or, or_true, false_or, or_false, ne_eq, Nat.le_refl, Nat.lt_irrefl, implies_true, Nat.zero_add, Nat.add_zero, Classical.not_not]
      exact hQ
    · have v26 := yd26 b hb
      have hbh := hz.2.2.2.2.2.2.1 b hb
      have hF := hF b (by omega)
      rw [zFi_s] at ih
      rw [b_Model_fitsIn_1]
      by_cases e : T 7 b = h
      · rw [if_pos e] at ih
        simp (disch := omega) only [ws_nil, ws_iconst, ws_bipush, ws_sipush, ws_lconst, ws_ldc_i, ws_ldc_s, ws_ldc_w_i, ws_ldc_w_s, ws_iload_0, ws_lload_0, ws_aload_0, ws_istore_0, ws_lstore_0, ws_astore_0, ws_iload_1, ws_lload_1, ws_aload_1, ws_istore_1, ws_lstore_1, ws_astore_1, ws_iload_2, ws_lload_2, ws_aload_2, ws_istore_2, ws_lstore_2, ws_astore_2, ws_iload_3, ws_lload_3, ws_aload_3, ws_istore_3, ws_lstore_3, ws_astore_3, ws_iload, ws_aload, ws_istore, ws_astore, ws_iinc, ws_iadd, ws_isub, ws_imul, ws_iand, ws_ior, ws_ixor, ws_ishl, ws_ishr, ws_iushr, ws_idiv, ws_irem, ws_ineg, ws_i2l, ws_l2i, ws_ladd, ws_lmul, ws_lcmp, ws_dup_i, ws_pop_i, ws_dup_r, ws_pop_r, ws_dup2, ws_if_eq, ws_icmp_eq, ws_if_ne, ws_icmp_ne, ws_if_lt, ws_icmp_lt, ws_if_ge, ws_icmp_ge, ws_if_gt, ws_icmp_gt, ws_if_le, ws_icmp_le, ws_goto, ws_table, ws_get_0, ws_get_1, ws_get_2, ws_get_3, ws_put_0, ws_put_1, ws_put_2, ws_put_3, ws_iaload, ws_laload, ws_aaload, ws_iastore, ws_lastore, ws_alen, ws_ret_int, ws_ret_boolean, ws_ret_long, ws_ret_ref, ws_ret_void, ws_iv_0, ws_iv_1, ws_iv_2, ws_iv_3, ws_iv_4, ws_iv_5, ws_is_1, ws_is_2, ws_is_3, ws_is_4, ws_is_5, ws_slen, ws_schar, ws_max, ws_min, ws_copy, go_some, g_li_0, g_li_1, g_li_2, g_li_3, g_li_4, g_li_5, g_li_6, g_li_7, g_li_8, g_li_9, g_li_10, g_li_11, g_li_12, g_li_13, g_li_14, g_li_15, g_li_16, g_li_17, g_li_18, g_li_19, g_ll_0, g_ll_1, g_ll_2, g_ll_3, g_ll_4, g_ll_5, g_ll_6, g_ll_7, g_ll_8, g_ll_9, g_lr_0, g_lr_1, g_lr_2, g_lr_3, g_lr_4, g_lr_5, g_lr_6, g_lr_7, g_lr_8, g_lr_9, g_st_0, g_st_1i, g_st_1r, g_st_1n, g_st_1o, g_st_2, g_st_3, g_st_4, g_st_5, g_st_6, g_st_7, g_st_8, g_st_9, g_st_10, g_st_11, g_st_12, g_st_13, g_st_14, g_st_15, g_st_16, g_st_17, g_st_18, g_st_19, g_st2_1, gN_0, gN_1, gN_2, gN_3, gN_4, gN_5, gN_6, gN_7, gN_8, gN_9, to_some, to_none, ci_m2, ci_m1, ci_0, ci_1, ci_2, ci_3, ci_4, ci_5, cb_m2, cb_6, cb_7, cb_8, cb_9, cb_10, cb_11, cb_12, cb_13, cb_16, cb_20, cb_24, cb_27, cb_30, cb_32, cb_40, cb_41, cb_42, cb_48, cb_57, cb_59, cb_60, cb_63, cb_74, cb_75, cb_80, cb_90, cb_97, cb_99, cb_100, cb_120, cb_122, cs_130, cs_150, cs_162, cs_180, cs_190, cs_202, cs_214, cs_230, cs_255, cs_262, cs_358, cs_410, cs_786, cs_900, cs_2882, cs_3144, cs_4096, ci_m8, gb_n, gb_i1, gb_r1, gb_i2, gb_r2, gb_l2, gb_i3, gb_r3, gb_l3, gb_i4, gb_r4, gb_l4, gb_i5, gb_r5, gb_l5, gb_i6, gb_r6, gb_l6, gb_i7, gb_r7, gb_l7, gb_i8, gb_r8, gb_l8, Nat.reduceAdd, Nat.reduceSub, Nat.reduceLeDiff, List.length_nil, List.length_cons, true_and, and_true, Nat.reduceMul, Nat.reduceLT, Nat.reduceEqDiff, b_Model_fitsIn_3, lm0, lm1, lm2, lm3, lm4, lm5, lm6, lm7, lm8, lm9, lm10, lm11, lm12, lm13, lm14, lm15, lm16, lm17, lm18, lm19, lm20, lm21, lm22, lm23, lm24, lm25, lm26, lm27, lm28, lm29, lm30, lm31, lm32, lm33, lm34, yd11, v26, hF, e, n_ite, n_lt, n_le, n_eq, n_lt0, n_ge0, n_gt0, n_le0, n_eq0, n_eq1, n_cl, n_in, n_add, n_mul, n_sub, n_and, n_or, n_shl, n_shr, n_m2lt0, n_m2ge0, n_m1lt0, n_m1ge0, n_mlt, n_m2ne, n_m2ne', n_m1ne, n_m1ne', not_true_eq_false, not_false_eq_true, false_implies, true_implies, and_self, true_and, and_true, Nat.not_lt, Nat.not_le, true_or, or_true, false_or, or_false, ne_eq, Nat.le_refl, Nat.lt_irrefl, implies_true, Nat.zero_add, Nat.add_zero, Classical.not_not]
        exact ⟨fun z => by omega, fun _ => ⟨by omega, by omega, ih⟩⟩
      · rw [if_neg e] at ih
        have b2 : gj d md_Model_fitsIn Q 2 [some (.ref y), some (.int (nI p)), some (.int (nI h)), some (.int (nI (zFi T F p h b))), some (.int (nI b))] [.int (nI (zFi T F p h b))] (E, I, L) := by
          simp (disch := omega) only [ws_nil, ws_iconst, ws_bipush, ws_sipush, ws_lconst, ws_ldc_i, ws_ldc_s, ws_ldc_w_i, ws_ldc_w_s, ws_iload_0, ws_lload_0, ws_aload_0, ws_istore_0, ws_lstore_0, ws_astore_0, ws_iload_1, ws_lload_1, ws_aload_1, ws_istore_1, ws_lstore_1, ws_astore_1, ws_iload_2, ws_lload_2, ws_aload_2, ws_istore_2, ws_lstore_2, ws_astore_2, ws_iload_3, ws_lload_3, ws_aload_3, ws_istore_3, ws_lstore_3, ws_astore_3, ws_iload, ws_aload, ws_istore, ws_astore, ws_iinc, ws_iadd, ws_isub, ws_imul, ws_iand, ws_ior, ws_ixor, ws_ishl, ws_ishr, ws_iushr, ws_idiv, ws_irem, ws_ineg, ws_i2l, ws_l2i, ws_ladd, ws_lmul, ws_lcmp, ws_dup_i, ws_pop_i, ws_dup_r, ws_pop_r, ws_dup2, ws_if_eq, ws_icmp_eq, ws_if_ne, ws_icmp_ne, ws_if_lt, ws_icmp_lt, ws_if_ge, ws_icmp_ge, ws_if_gt, ws_icmp_gt, ws_if_le, ws_icmp_le, ws_goto, ws_table, ws_get_0, ws_get_1, ws_get_2, ws_get_3, ws_put_0, ws_put_1, ws_put_2, ws_put_3, ws_iaload, ws_laload, ws_aaload, ws_iastore, ws_lastore, ws_alen, ws_ret_int, ws_ret_boolean, ws_ret_long, ws_ret_ref, ws_ret_void, ws_iv_0, ws_iv_1, ws_iv_2, ws_iv_3, ws_iv_4, ws_iv_5, ws_is_1, ws_is_2, ws_is_3, ws_is_4, ws_is_5, ws_slen, ws_schar, ws_max, ws_min, ws_copy, go_some, g_li_0, g_li_1, g_li_2, g_li_3, g_li_4, g_li_5, g_li_6, g_li_7, g_li_8, g_li_9, g_li_10, g_li_11, g_li_12, g_li_13, g_li_14, g_li_15, g_li_16, g_li_17, g_li_18, g_li_19, g_ll_0, g_ll_1, g_ll_2, g_ll_3, g_ll_4, g_ll_5, g_ll_6, g_ll_7, g_ll_8, g_ll_9, g_lr_0, g_lr_1, g_lr_2, g_lr_3, g_lr_4, g_lr_5, g_lr_6, g_lr_7, g_lr_8, g_lr_9, g_st_0, g_st_1i, g_st_1r, g_st_1n, g_st_1o, g_st_2, g_st_3, g_st_4, g_st_5, g_st_6, g_st_7, g_st_8, g_st_9, g_st_10, g_st_11, g_st_12, g_st_13, g_st_14, g_st_15, g_st_16, g_st_17, g_st_18, g_st_19, g_st2_1, gN_0, gN_1, gN_2, gN_3, gN_4, gN_5, gN_6, gN_7, gN_8, gN_9, to_some, to_none, ci_m2, ci_m1, ci_0, ci_1, ci_2, ci_3, ci_4, ci_5, cb_m2, cb_6, cb_7, cb_8, cb_9, cb_10, cb_11, cb_12, cb_13, cb_16, cb_20, cb_24, cb_27, cb_30, cb_32, cb_40, cb_41, cb_42, cb_48, cb_57, cb_59, cb_60, cb_63, cb_74, cb_75, cb_80, cb_90, cb_97, cb_99, cb_100, cb_120, cb_122, cs_130, cs_150, cs_162, cs_180, cs_190, cs_202, cs_214, cs_230, cs_255, cs_262, cs_358, cs_410, cs_786, cs_900, cs_2882, cs_3144, cs_4096, ci_m8, gb_n, gb_i1, gb_r1, gb_i2, gb_r2, gb_l2, gb_i3, gb_r3, gb_l3, gb_i4, gb_r4, gb_l4, gb_i5, gb_r5, gb_l5, gb_i6, gb_r6, gb_l6, gb_i7, gb_r7, gb_l7, gb_i8, gb_r8, gb_l8, Nat.reduceAdd, Nat.reduceSub, Nat.reduceLeDiff, List.length_nil, List.length_cons, true_and, and_true, Nat.reduceMul, Nat.reduceLT, Nat.reduceEqDiff, b_Model_fitsIn_2, b_Model_fitsIn_3, n_ite, n_lt, n_le, n_eq, n_lt0, n_ge0, n_gt0, n_le0, n_eq0, n_eq1, n_cl, n_in, n_add, n_mul, n_sub, n_and, n_or, n_shl, n_shr, n_m2lt0, n_m2ge0, n_m1lt0, n_m1ge0, n_mlt, n_m2ne, n_m2ne', n_m1ne, n_m1ne', not_true_eq_false, not_false_eq_true, false_implies, true_implies, and_self, true_and, and_true, Nat.not_lt, Nat.not_le, true_or, or_true, false_or, or_false, ne_eq, Nat.le_refl, Nat.lt_irrefl, implies_true, Nat.zero_add, Nat.add_zero, Classical.not_not]
          exact ih
        simp (disch := omega) only [ws_nil, ws_iconst, ws_bipush, ws_sipush, ws_lconst, ws_ldc_i, ws_ldc_s, ws_ldc_w_i, ws_ldc_w_s, ws_iload_0, ws_lload_0, ws_aload_0, ws_istore_0, ws_lstore_0, ws_astore_0, ws_iload_1, ws_lload_1, ws_aload_1, ws_istore_1, ws_lstore_1, ws_astore_1, ws_iload_2, ws_lload_2, ws_aload_2, ws_istore_2, ws_lstore_2, ws_astore_2, ws_iload_3, ws_lload_3, ws_aload_3, ws_istore_3, ws_lstore_3, ws_astore_3, ws_iload, ws_aload, ws_istore, ws_astore, ws_iinc, ws_iadd, ws_isub, ws_imul, ws_iand, ws_ior, ws_ixor, ws_ishl, ws_ishr, ws_iushr, ws_idiv, ws_irem, ws_ineg, ws_i2l, ws_l2i, ws_ladd, ws_lmul, ws_lcmp, ws_dup_i, ws_pop_i, ws_dup_r, ws_pop_r, ws_dup2, ws_if_eq, ws_icmp_eq, ws_if_ne, ws_icmp_ne, ws_if_lt, ws_icmp_lt, ws_if_ge, ws_icmp_ge, ws_if_gt, ws_icmp_gt, ws_if_le, ws_icmp_le, ws_goto, ws_table, ws_get_0, ws_get_1, ws_get_2, ws_get_3, ws_put_0, ws_put_1, ws_put_2, ws_put_3, ws_iaload, ws_laload, ws_aaload, ws_iastore, ws_lastore, ws_alen, ws_ret_int, ws_ret_boolean, ws_ret_long, ws_ret_ref, ws_ret_void, ws_iv_0, ws_iv_1, ws_iv_2, ws_iv_3, ws_iv_4, ws_iv_5, ws_is_1, ws_is_2, ws_is_3, ws_is_4, ws_is_5, ws_slen, ws_schar, ws_max, ws_min, ws_copy, go_some, g_li_0, g_li_1, g_li_2, g_li_3, g_li_4, g_li_5, g_li_6, g_li_7, g_li_8, g_li_9, g_li_10, g_li_11, g_li_12, g_li_13, g_li_14, g_li_15, g_li_16, g_li_17, g_li_18, g_li_19, g_ll_0, g_ll_1, g_ll_2, g_ll_3, g_ll_4, g_ll_5, g_ll_6, g_ll_7, g_ll_8, g_ll_9, g_lr_0, g_lr_1, g_lr_2, g_lr_3, g_lr_4, g_lr_5, g_lr_6, g_lr_7, g_lr_8, g_lr_9, g_st_0, g_st_1i, g_st_1r, g_st_1n, g_st_1o, g_st_2, g_st_3, g_st_4, g_st_5, g_st_6, g_st_7, g_st_8, g_st_9, g_st_10, g_st_11, g_st_12, g_st_13, g_st_14, g_st_15, g_st_16, g_st_17, g_st_18, g_st_19, g_st2_1, gN_0, gN_1, gN_2, gN_3, gN_4, gN_5, gN_6, gN_7, gN_8, gN_9, to_some, to_none, ci_m2, ci_m1, ci_0, ci_1, ci_2, ci_3, ci_4, ci_5, cb_m2, cb_6, cb_7, cb_8, cb_9, cb_10, cb_11, cb_12, cb_13, cb_16, cb_20, cb_24, cb_27, cb_30, cb_32, cb_40, cb_41, cb_42, cb_48, cb_57, cb_59, cb_60, cb_63, cb_74, cb_75, cb_80, cb_90, cb_97, cb_99, cb_100, cb_120, cb_122, cs_130, cs_150, cs_162, cs_180, cs_190, cs_202, cs_214, cs_230, cs_255, cs_262, cs_358, cs_410, cs_786, cs_900, cs_2882, cs_3144, cs_4096, ci_m8, gb_n, gb_i1, gb_r1, gb_i2, gb_r2, gb_l2, gb_i3, gb_r3, gb_l3, gb_i4, gb_r4, gb_l4, gb_i5, gb_r5, gb_l5, gb_i6, gb_r6, gb_l6, gb_i7, gb_r7, gb_l7, gb_i8, gb_r8, gb_l8, Nat.reduceAdd, Nat.reduceSub, Nat.reduceLeDiff, List.length_nil, List.length_cons, true_and, and_true, Nat.reduceMul, Nat.reduceLT, Nat.reduceEqDiff, lm0, lm1, lm2, lm3, lm4, lm5, lm6, lm7, lm8, lm9, lm10, lm11, lm12, lm13, lm14, lm15, lm16, lm17, lm18, lm19, lm20, lm21, lm22, lm23, lm24, lm25, lm26, lm27, lm28, lm29, lm30, lm31, lm32, lm33, lm34, yd11, v26, n_ite, n_lt, n_le, n_eq, n_lt0, n_ge0, n_gt0, n_le0, n_eq0, n_eq1, n_cl, n_in, n_add, n_mul, n_sub, n_and, n_or, n_shl, n_shr, n_m2lt0, n_m2ge0, n_m1lt0, n_m1ge0, n_mlt, n_m2ne, n_m2ne', n_m1ne, n_m1ne', not_true_eq_false, not_false_eq_true, false_implies, true_implies, and_self, true_and, and_true, Nat.not_lt, Nat.not_le, true_or, or_true, false_or, or_false, ne_eq, Nat.le_refl, Nat.lt_irrefl, implies_true, Nat.zero_add, Nat.add_zero, Classical.not_not]
        refine ⟨fun z => by omega, fun _ => ⟨by omega, ?_⟩⟩
        exact ⟨fun _ => b2, fun z => absurd z e⟩
  rw [en_Model_fitsIn]
  simp (disch := omega) only [ws_nil, ws_iconst, ws_bipush, ws_sipush, ws_lconst, ws_ldc_i, ws_ldc_s, ws_ldc_w_i, ws_ldc_w_s, ws_iload_0, ws_lload_0, ws_aload_0, ws_istore_0, ws_lstore_0, ws_astore_0, ws_iload_1, ws_lload_1, ws_aload_1, ws_istore_1, ws_lstore_1, ws_astore_1, ws_iload_2, ws_lload_2, ws_aload_2, ws_istore_2, ws_lstore_2, ws_astore_2, ws_iload_3, ws_lload_3, ws_aload_3, ws_istore_3, ws_lstore_3, ws_astore_3, ws_iload, ws_aload, ws_istore, ws_astore, ws_iinc, ws_iadd, ws_isub, ws_imul, ws_iand, ws_ior, ws_ixor, ws_ishl, ws_ishr, ws_iushr, ws_idiv, ws_irem, ws_ineg, ws_i2l, ws_l2i, ws_ladd, ws_lmul, ws_lcmp, ws_dup_i, ws_pop_i, ws_dup_r, ws_pop_r, ws_dup2, ws_if_eq, ws_icmp_eq, ws_if_ne, ws_icmp_ne, ws_if_lt, ws_icmp_lt, ws_if_ge, ws_icmp_ge, ws_if_gt, ws_icmp_gt, ws_if_le, ws_icmp_le, ws_goto, ws_table, ws_get_0, ws_get_1, ws_get_2, ws_get_3, ws_put_0, ws_put_1, ws_put_2, ws_put_3, ws_iaload, ws_laload, ws_aaload, ws_iastore, ws_lastore, ws_alen, ws_ret_int, ws_ret_boolean, ws_ret_long, ws_ret_ref, ws_ret_void, ws_iv_0, ws_iv_1, ws_iv_2, ws_iv_3, ws_iv_4, ws_iv_5, ws_is_1, ws_is_2, ws_is_3, ws_is_4, ws_is_5, ws_slen, ws_schar, ws_max, ws_min, ws_copy, go_some, g_li_0, g_li_1, g_li_2, g_li_3, g_li_4, g_li_5, g_li_6, g_li_7, g_li_8, g_li_9, g_li_10, g_li_11, g_li_12, g_li_13, g_li_14, g_li_15, g_li_16, g_li_17, g_li_18, g_li_19, g_ll_0, g_ll_1, g_ll_2, g_ll_3, g_ll_4, g_ll_5, g_ll_6, g_ll_7, g_ll_8, g_ll_9, g_lr_0, g_lr_1, g_lr_2, g_lr_3, g_lr_4, g_lr_5, g_lr_6, g_lr_7, g_lr_8, g_lr_9, g_st_0, g_st_1i, g_st_1r, g_st_1n, g_st_1o, g_st_2, g_st_3, g_st_4, g_st_5, g_st_6, g_st_7, g_st_8, g_st_9, g_st_10, g_st_11, g_st_12, g_st_13, g_st_14, g_st_15, g_st_16, g_st_17, g_st_18, g_st_19, g_st2_1, gN_0, gN_1, gN_2, gN_3, gN_4, gN_5, gN_6, gN_7, gN_8, gN_9, to_some, to_none, ci_m2, ci_m1, ci_0, ci_1, ci_2, ci_3, ci_4, ci_5, cb_m2, cb_6, cb_7, cb_8, cb_9, cb_10, cb_11, cb_12, cb_13, cb_16, cb_20, cb_24, cb_27, cb_30, cb_32, cb_40, cb_41, cb_42, cb_48, cb_57, cb_59, cb_60, cb_63, cb_74, cb_75, cb_80, cb_90, cb_97, cb_99, cb_100, cb_120, cb_122, cs_130, cs_150, cs_162, cs_180, cs_190, cs_202, cs_214, cs_230, cs_255, cs_262, cs_358, cs_410, cs_786, cs_900, cs_2882, cs_3144, cs_4096, ci_m8, gb_n, gb_i1, gb_r1, gb_i2, gb_r2, gb_l2, gb_i3, gb_r3, gb_l3, gb_i4, gb_r4, gb_l4, gb_i5, gb_r5, gb_l5, gb_i6, gb_r6, gb_l6, gb_i7, gb_r7, gb_l7, gb_i8, gb_r8, gb_l8, Nat.reduceAdd, Nat.reduceSub, Nat.reduceLeDiff, List.length_nil, List.length_cons, true_and, and_true, Nat.reduceMul, Nat.reduceLT, Nat.reduceEqDiff, b_Model_fitsIn_0, n_ite, n_lt, n_le, n_eq, n_lt0, n_ge0, n_gt0, n_le0, n_eq0, n_eq1, n_cl, n_in, n_add, n_mul, n_sub, n_and, n_or, n_shl, n_shr, n_m2lt0, n_m2ge0, n_m1lt0, n_m1ge0, n_mlt, n_m2ne, n_m2ne', n_m1ne, n_m1ne', not_true_eq_false, not_false_eq_true, false_implies, true_implies, and_self, true_and, and_true, Nat.not_lt, Nat.not_le, true_or, or_true, false_or, or_false, ne_eq, Nat.le_refl, Nat.lt_irrefl, implies_true, Nat.zero_add, Nat.add_zero, Classical.not_not]
  exact key 0 (Nat.zero_le _)
end MOT
