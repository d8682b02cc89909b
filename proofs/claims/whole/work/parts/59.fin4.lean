/-! Finder: the search, its whole -/
section FN4
variable {d s t p q h b a k m n j v r i l c f tk u : Nat} {E : gE} {I J K : Nat → Nat → Int32} {L : Nat → Nat → Int64} {M : gM} {T S S' : zA} {w om g g' : Nat → Nat} {o : zO} {ok : (Nat → Nat) → Bool} {Q : Option Value → gM → Prop}
theorem scC_le : scC w g i ≤ i := by
  have := sumN_le (c := fun j => if g (w j) = 0 then 1 else 0) (n := i) (k := 1) (fun q _ => by split <;> omega)
  unfold scC
  omega
theorem scT_le (h : ∀ j, j < i → S 1 (w j) ≤ 1000000) : scT S w g i ≤ i * 1000000 :=
  sumN_le (fun q hq => by have := h q hq; split <;> omega)
theorem scW_le (hz : zT T) (h : ∀ j, j < i → w j < zP T) (hg : ∀ j, j < i → g (w j) ≤ zB T) : scW T w g i ≤ i * 9 :=
  sumN_le (fun q hq => by
    split
    · omega
    · have h1 := hg q hq
      have h2 := hz.2.2.2.2.2.2.1 (g (w q) - 1) (by omega)
      have h3 := hz.1
      exact (hz.2.2.2.2.2.2.2.1 (w q) (h q hq)).2.2.2.2.2.2.2 _ (by omega))
theorem zMw_le (hz : zT T) (hp : p < zP T) (hm : m ≤ zB T) : zMw T p v m ≤ 9 := by
  induction m with
  | zero => simp [zMw]
  | succ m ih =>
    have h2 := hz.2.2.2.2.2.2.1 m (by omega)
    have h3 := hz.1
    have h4 : zWant T p (T 7 m) ≤ 9 := (hz.2.2.2.2.2.2.2.1 p hp).2.2.2.2.2.2.2 (T 7 m) (by omega)
    have := ih (by omega)
    simp only [zMw]
    by_cases e1 : v.testBit m = true
    · rw [if_pos e1]
      by_cases e2 : zMw T p v m < zWant T p (T 7 m)
      · rw [if_pos e2]; exact h4
      · rw [if_neg e2]; exact this
    · rw [if_neg e1]; exact this
theorem rsC_le : ∀ k i, rsC om k i ≤ k := by
  intro k
  induction k with
  | zero => intro i; simp [rsC]
  | succ k ih => intro i; have := ih (i + 1); simp only [rsC]; split <;> omega
theorem rsT_le (h : ∀ j, j < n → S 1 (w j) ≤ 1000000) : ∀ k i, i + k ≤ n → rsT S w om k i ≤ k * 1000000 := by
  intro k
  induction k with
  | zero => intro i _; simp [rsT]
  | succ k ih => intro i hi; have := ih (i + 1) (by omega); have := h i (by omega); rw [Nat.succ_mul]; simp only [rsT]; (by_cases e : om i = 4096); (rw [if_pos e]; exact Nat.add_le_add (ih (i + 1) (by omega)) (h i (by omega))); (rw [if_neg e]; exact Nat.add_le_add (ih (i + 1) (by omega)) (Nat.zero_le _))
theorem rsW_le (hz : zT T) (h : ∀ j, j < n → w j < zP T) : ∀ k i, i + k ≤ n → rsW T w om k i ≤ k * 9 := by
  intro k
  induction k with
  | zero => intro i _; simp [rsW]
  | succ k ih => intro i hi; have := ih (i + 1) (by omega); have := zMw_le (v := om i) hz (h i (by omega)) (Nat.le_refl _); simp only [rsW]; split <;> omega
theorem btO_eq (hN : zNm T w n) {x : Nat → Nat} : btO T S w n o.1 x = decide (btS (scC w x n) (scT S w x n) (scW T w x n) (toC w n o) (toT S w n o) (toW T w n o)) := by
  have h1 := hN.1
  have h2 := scC_le (w := w) (g := x) (i := n)
  unfold btO toC toT toW
  cases o.1 with
  | none => simp only; rw [decide_eq_true]; left; omega
  | some l => rfl
theorem boO_stp (hN : zNm T w n) (hz : zT T) (hs : ∀ j, j < n → S 1 (w j) ≤ 1000000) (hok : ∀ l, (∀ q, (∀ j, j < n → w j ≠ q) → l q = 0) → (ok l = true ↔ okA T w om l n ∧ okK T w n l)) {x : Nat → Nat} (hx : ∀ q, (∀ j, j < n → w j ≠ q) → x q = 0) (ho : boO T S w n o) : boO T S w n (stp T S w n tk ok o x) := by
  unfold stp
  split
  · rename_i h1
    split
    · split
      · have h2 := ((hok x hx).mp h1).1
        have h3 := hN.1
        have h4 := scC_le (w := w) (g := x) (i := n)
        have h5 := scT_le (S := S) (w := w) (g := x) (i := n) hs
        have h6 := scW_le (w := w) (g := x) (i := n) hz hN.2.1 (fun j hj => (h2 j hj).2.1)
        unfold boO toC toT toW
        exact ⟨by simp only; omega, by simp only; omega, by simp only; omega⟩
      · exact ho
    · exact ho
  · exact ho
theorem boO_fold (hN : zNm T w n) (hz : zT T) (hs : ∀ j, j < n → S 1 (w j) ≤ 1000000) (hok : ∀ l, (∀ q, (∀ j, j < n → w j ≠ q) → l q = 0) → (ok l = true ↔ okA T w om l n ∧ okK T w n l)) : ∀ (Ls : List (Nat → Nat)) (o : zO), (∀ x ∈ Ls, ∀ q, (∀ j, j < n → w j ≠ q) → x q = 0) → boO T S w n o → boO T S w n (Ls.foldl (stp T S w n tk ok) o) := by
  intro Ls
  induction Ls with
  | nil => intro o _ h; exact h
  | cons x Ls ih => intro o h1 h2; exact ih _ (fun y hy => h1 y (List.mem_cons_of_mem x hy)) (boO_stp hN hz hs hok (h1 x List.mem_cons_self) h2)
/-- what is cut off could not have been better -/
theorem cut_ok (hN : zNm T w n) (hz : zT T) (hk : i + k = n) (hg0 : ∀ q, (∀ j, j < i → w j ≠ q) → g q = 0) (hok : ∀ l, (∀ q, (∀ j, j < n → w j ≠ q) → l q = 0) → (ok l = true ↔ okA T w om l n ∧ okK T w n l))
    (hc : ¬ btS (scC w g i + rsC om k i) (scT S w g i + rsT S w om k i) (scW T w g i + rsW T w om k i) (toC w n o) (toT S w n o) (toW T w n o)) : (zLv (zB T) w k i g).foldl (stp T S w n 1 ok) o = o := by
  refine fold_skip (fun x hx => ?_)
  cases ho : ok x with
  | false => exact stp_bad ho
  | true =>
    have h1 := ((hok x (lv_zero hk hg0 hx)).mp ho).1
    have h2 := rs_bound (T := T) (S := S) (w := w) (om := om) (l := x) hz.2.1 k i (fun j a b => ⟨(h1 j (by omega)).1, (h1 j (by omega)).2.1⟩)
    obtain ⟨e1, e2, e3⟩ := sc_congr (T := T) (S := S) (w := w) (g := g) (g' := x) (i := i) (fun j hj => lv_pre hN hk hx hj)
    rw [hk, e1, e2, e3] at h2
    have h3 : btO T S w n o.1 x = false := by
      rw [btO_eq hN, decide_eq_false]
      intro h4
      apply hc
      unfold btS at h4 ⊢
      omega
    simp [stp, ho, h3]
theorem okI_church (ho : (om i).testBit 12 = true) (h : g (w i) = 0) : okI T w om g i := by
  refine ⟨by rw [h]; exact ho, by omega, fun j hj => ⟨fun h1 => absurd h h1, fun h1 => absurd h h1.1⟩⟩
theorem c_search (hN : zNm T w n) (hd : t + 16 ≤ f ∨ f + 17 ≤ t) (htk : tk < 2) (hs : ∀ j, j < n → S 1 (w j) ≤ 1000000) (hom : ∀ i, i < n → om i < 8192)
    (hok : ∀ l, (∀ q, (∀ j, j < n → w j ≠ q) → l q = 0) → (ok l = true ↔ okA T w om l n ∧ okK T w n l)) : ∀ k d, fillP E L t f T S w om n tk ok (d + 2 * k + 4) k := by
  intro k
  induction k with
  | zero =>
    intro d i g o I Q hk hT hF hD hO hA hg0 hbo hQ
    have hn5 := hN.1
    have hin : i = n := by omega
    subst hin
    obtain ⟨hTl, hTr, hTz⟩ := id hT
    obtain ⟨lt0, lt1, lt2, lt3, lt4, lt5, lt6, lt7, lt8, lt9, lt10, lt11, lt12, lt13, lt14, lt15, lt16, lt17, lt18, lt19, lt20, lt21, lt22, lt23, lt24, lt25, lt26, lt27, lt28, lt29, lt30⟩ := hTl
    obtain ⟨rt0, rt1, rt2, rt3, rt4, rt5, rt6, rt7, rt8, rt9, rt10, rt11, rt12, rt13, rt14, rt15, rt16, rt17, rt18, rt19⟩ := hTr
    obtain ⟨zt0, zt1, zt2, zt3, zt4, zt5, zt6, zt7, zt8, zt9, zt10, zt11⟩ := hTz
    obtain ⟨⟨fl0, fl4, fl5, fl6, fl8, fl9, fl10, fl11, fl12, fl14, fl17, fk1, fk2, fk3, fk4, fk5, fk6, fk7, fk8, fk9, fk10, fk11, fk12⟩, ff0, ff3, ff1, ff2, ff8, ff11⟩ := id hF
    have h15 : (5 < i) = False := eq_false (by omega)
    have hgA : ∀ j, j < i → g (w j) ≤ zB T := fun j hj => (hA j hj).2.1
    have hok' : ok g = true ↔ okK T w i g := by
      rw [hok g (fun q hq => hg0 q hq)]
      exact ⟨fun h => h.2, fun h => ⟨hA, h⟩⟩
    have blk1 : (tk = 1 → btO T S w i o.1 g = true) → gj (d + 3) md_Finder_fill Q 1 [some (.ref f), some (.ref t), some (.int (nI i)), none, none] [] (E, I, L) := by
      intro hbt
      simp (disch := omega) only [ws_nil, ws_iconst, ws_bipush, ws_sipush, ws_lconst, ws_ldc_i, ws_ldc_s, ws_ldc_w_i, ws_ldc_w_s, ws_iload_0, ws_lload_0, ws_aload_0, ws_istore_0, ws_lstore_0, ws_astore_0, ws_iload_1, ws_lload_1, ws_aload_1, ws_istore_1, ws_lstore_1, ws_astore_1, ws_iload_2, ws_lload_2, ws_aload_2, ws_istore_2, ws_lstore_2, ws_astore_2, ws_iload_3, ws_lload_3, ws_aload_3, ws_istore_3, ws_lstore_3, ws_astore_3, ws_iload, ws_aload, ws_istore, ws_astore, ws_iinc, ws_iadd, ws_isub, ws_imul, ws_iand, ws_ior, ws_ixor, ws_ishl, ws_ishr, ws_iushr, ws_idiv, ws_irem, ws_ineg, ws_i2l, ws_l2i, ws_ladd, ws_lmul, ws_lcmp, ws_dup_i, ws_pop_i, ws_dup_r, ws_pop_r, ws_dup2, ws_if_eq, ws_icmp_eq, ws_if_ne, ws_icmp_ne, ws_if_lt, ws_icmp_lt, ws_if_ge, ws_icmp_ge, ws_if_gt, ws_icmp_gt, ws_if_le, ws_icmp_le, ws_goto, ws_table, ws_get_0, ws_get_1, ws_get_2, ws_get_3, ws_put_0, ws_put_1, ws_put_2, ws_put_3, ws_iaload, ws_laload, ws_aaload, ws_iastore, ws_lastore, ws_alen, ws_ret_int, ws_ret_boolean, ws_ret_long, ws_ret_ref, ws_ret_void, ws_iv_0, ws_iv_1, ws_iv_2, ws_iv_3, ws_iv_4, ws_iv_5, ws_is_1, ws_is_2, ws_is_3, ws_is_4, ws_is_5, ws_slen, ws_schar, ws_max, ws_min, ws_copy, go_some, g_li_0, g_li_1, g_li_2, g_li_3, g_li_4, g_li_5, g_li_6, g_li_7, g_li_8, g_li_9, g_li_10, g_li_11, g_li_12, g_li_13, g_li_14, g_li_15, g_li_16, g_li_17, g_li_18, g_li_19, g_ll_0, g_ll_1, g_ll_2, g_ll_3, g_ll_4, g_ll_5, g_ll_6, g_ll_7, g_ll_8, g_ll_9, g_lr_0, g_lr_1, g_lr_2, g_lr_3, g_lr_4, g_lr_5, g_lr_6, g_lr_7, g_lr_8, g_lr_9, g_st_0, g_st_1i, g_st_1r, g_st_1n, g_st_1o, g_st_2, g_st_3, g_st_4, g_st_5, g_st_6, g_st_7, g_st_8, g_st_9, g_st_10, g_st_11, g_st_12, g_st_13, g_st_14, g_st_15, g_st_16, g_st_17, g_st_18, g_st_19, g_st2_1, gN_0, gN_1, gN_2, gN_3, gN_4, gN_5, gN_6, gN_7, gN_8, gN_9, to_some, to_none, ci_m2, ci_m1, ci_0, ci_1, ci_2, ci_3, ci_4, ci_5, cb_m2, cb_6, cb_7, cb_8, cb_9, cb_10, cb_11, cb_12, cb_13, cb_16, cb_20, cb_24, cb_27, cb_30, cb_32, cb_40, cb_41, cb_42, cb_48, cb_57, cb_59, cb_60, cb_63, cb_74, cb_75, cb_80, cb_90, cb_97, cb_99, cb_100, cb_120, cb_122, cs_130, cs_150, cs_162, cs_180, cs_190, cs_202, cs_214, cs_230, cs_255, cs_262, cs_358, cs_410, cs_786, cs_900, cs_2882, cs_3144, cs_4096, ci_m8, Nat.reduceAdd, Nat.reduceSub, Nat.reduceLeDiff, List.length_nil, List.length_cons, true_and, and_true, Nat.reduceMul, Nat.reduceLT, Nat.reduceEqDiff, b_Finder_fill_1, b_Finder_fill_2, fl0, fl4, fl5, fl6, fl8, fl9, fl10, fl11, fl12, fl14, fl17, fk1, fk2, fk3, fk4, fk5, fk6, fk7, fk8, fk9, fk10, fk11, fk12, ff3, n_ite, n_lt, n_le, n_eq, n_lt0, n_ge0, n_gt0, n_le0, n_eq0, n_eq1, n_cl, n_in, n_add, n_mul, n_sub, n_and, n_or, n_shl, n_shr, n_m2lt0, n_m2ge0, n_m1lt0, n_m1ge0, n_mlt, n_m2ne, n_m2ne', n_m1ne, n_m1ne', not_true_eq_false, not_false_eq_true, false_implies, true_implies, and_self, true_and, and_true, Nat.not_lt, Nat.not_le, true_or, or_true, false_or, or_false, ne_eq, Nat.le_refl, Nat.lt_irrefl, implies_true, Nat.zero_add, Nat.add_zero, Classical.not_not]
      refine c_take (d := d) hT hF hD hO hN htk hd hgA hok' hbt (fun J a1 a2 a3 a4 => ?_)
      simp (disch := omega) only [ws_nil, ws_iconst, ws_bipush, ws_sipush, ws_lconst, ws_ldc_i, ws_ldc_s, ws_ldc_w_i, ws_ldc_w_s, ws_iload_0, ws_lload_0, ws_aload_0, ws_istore_0, ws_lstore_0, ws_astore_0, ws_iload_1, ws_lload_1, ws_aload_1, ws_istore_1, ws_lstore_1, ws_astore_1, ws_iload_2, ws_lload_2, ws_aload_2, ws_istore_2, ws_lstore_2, ws_astore_2, ws_iload_3, ws_lload_3, ws_aload_3, ws_istore_3, ws_lstore_3, ws_astore_3, ws_iload, ws_aload, ws_istore, ws_astore, ws_iinc, ws_iadd, ws_isub, ws_imul, ws_iand, ws_ior, ws_ixor, ws_ishl, ws_ishr, ws_iushr, ws_idiv, ws_irem, ws_ineg, ws_i2l, ws_l2i, ws_ladd, ws_lmul, ws_lcmp, ws_dup_i, ws_pop_i, ws_dup_r, ws_pop_r, ws_dup2, ws_if_eq, ws_icmp_eq, ws_if_ne, ws_icmp_ne, ws_if_lt, ws_icmp_lt, ws_if_ge, ws_icmp_ge, ws_if_gt, ws_icmp_gt, ws_if_le, ws_icmp_le, ws_goto, ws_table, ws_get_0, ws_get_1, ws_get_2, ws_get_3, ws_put_0, ws_put_1, ws_put_2, ws_put_3, ws_iaload, ws_laload, ws_aaload, ws_iastore, ws_lastore, ws_alen, ws_ret_int, ws_ret_boolean, ws_ret_long, ws_ret_ref, ws_ret_void, ws_iv_0, ws_iv_1, ws_iv_2, ws_iv_3, ws_iv_4, ws_iv_5, ws_is_1, ws_is_2, ws_is_3, ws_is_4, ws_is_5, ws_slen, ws_schar, ws_max, ws_min, ws_copy, go_some, g_li_0, g_li_1, g_li_2, g_li_3, g_li_4, g_li_5, g_li_6, g_li_7, g_li_8, g_li_9, g_li_10, g_li_11, g_li_12, g_li_13, g_li_14, g_li_15, g_li_16, g_li_17, g_li_18, g_li_19, g_ll_0, g_ll_1, g_ll_2, g_ll_3, g_ll_4, g_ll_5, g_ll_6, g_ll_7, g_ll_8, g_ll_9, g_lr_0, g_lr_1, g_lr_2, g_lr_3, g_lr_4, g_lr_5, g_lr_6, g_lr_7, g_lr_8, g_lr_9, g_st_0, g_st_1i, g_st_1r, g_st_1n, g_st_1o, g_st_2, g_st_3, g_st_4, g_st_5, g_st_6, g_st_7, g_st_8, g_st_9, g_st_10, g_st_11, g_st_12, g_st_13, g_st_14, g_st_15, g_st_16, g_st_17, g_st_18, g_st_19, g_st2_1, gN_0, gN_1, gN_2, gN_3, gN_4, gN_5, gN_6, gN_7, gN_8, gN_9, to_some, to_none, ci_m2, ci_m1, ci_0, ci_1, ci_2, ci_3, ci_4, ci_5, cb_m2, cb_6, cb_7, cb_8, cb_9, cb_10, cb_11, cb_12, cb_13, cb_16, cb_20, cb_24, cb_27, cb_30, cb_32, cb_40, cb_41, cb_42, cb_48, cb_57, cb_59, cb_60, cb_63, cb_74, cb_75, cb_80, cb_90, cb_97, cb_99, cb_100, cb_120, cb_122, cs_130, cs_150, cs_162, cs_180, cs_190, cs_202, cs_214, cs_230, cs_255, cs_262, cs_358, cs_410, cs_786, cs_900, cs_2882, cs_3144, cs_4096, ci_m8, Nat.reduceAdd, Nat.reduceSub, Nat.reduceLeDiff, List.length_nil, List.length_cons, true_and, and_true, Nat.reduceMul, Nat.reduceLT, Nat.reduceEqDiff, b_Finder_fill_1, b_Finder_fill_2, fl0, fl4, fl5, fl6, fl8, fl9, fl10, fl11, fl12, fl14, fl17, fk1, fk2, fk3, fk4, fk5, fk6, fk7, fk8, fk9, fk10, fk11, fk12, ff3, n_ite, n_lt, n_le, n_eq, n_lt0, n_ge0, n_gt0, n_le0, n_eq0, n_eq1, n_cl, n_in, n_add, n_mul, n_sub, n_and, n_or, n_shl, n_shr, n_m2lt0, n_m2ge0, n_m1lt0, n_m1ge0, n_mlt, n_m2ne, n_m2ne', n_m1ne, n_m1ne', not_true_eq_false, not_false_eq_true, false_implies, true_implies, and_self, true_and, and_true, Nat.not_lt, Nat.not_le, true_or, or_true, false_or, or_false, ne_eq, Nat.le_refl, Nat.lt_irrefl, implies_true, Nat.zero_add, Nat.add_zero, Classical.not_not]
      exact hQ J a1 a2 a3 a4
    rw [en_Finder_fill]
    by_cases h1 : tk = 1
    · subst h1
      obtain ⟨o0, o1, o2, o3⟩ := hO.1 rfl
      obtain ⟨q0, q1, q2⟩ := hD.2.2.2 rfl
      obtain ⟨r0, r1, r2⟩ := ff11 rfl i (Nat.le_refl _)
      rw [Nat.sub_self] at r0 r1 r2
      have b0 := scC_le (w := w) (g := g) (i := i)
      have b1 := scT_le (S := S) (w := w) (g := g) (i := i) hs
      have b2 := scW_le (w := w) (g := g) (i := i) hT.2.2 hN.2.1 hgA
      obtain ⟨b3, b4, b5⟩ := hbo
      have hbw := fun Q => c_beatsWith (d := d + 2) (L := L) (Q := Q) fk5 (fk12 i (by omega)) fk6 q0 q1 q2 r0 r1 r2 o0 o1 o2 (by simp only [rsC]; omega) (by simp only [rsT]; omega) (by simp only [rsW]; omega) (by omega) (by omega) (by omega)
      have hdec : decide (btS (scC w g i + rsC om 0 i) (scT S w g i + rsT S w om 0 i) (scW T w g i + rsW T w om 0 i) (toC w i o) (toT S w i o) (toW T w i o)) = btO T S w i o.1 g := by rw [btO_eq hN]; rfl
      rw [hdec] at hbw
      cases hb : btO T S w i o.1 g with
      | true =>
        rw [hb] at hbw
        simp (disch := omega) only [ws_nil, ws_iconst, ws_bipush, ws_sipush, ws_lconst, ws_ldc_i, ws_ldc_s, ws_ldc_w_i, ws_ldc_w_s, ws_iload_0, ws_lload_0, ws_aload_0, ws_istore_0, ws_lstore_0, ws_astore_0, ws_iload_1, ws_lload_1, ws_aload_1, ws_istore_1, ws_lstore_1, ws_astore_1, ws_iload_2, ws_lload_2, ws_aload_2, ws_istore_2, ws_lstore_2, ws_astore_2, ws_iload_3, ws_lload_3, ws_aload_3, ws_istore_3, ws_lstore_3, ws_astore_3, ws_iload, ws_aload, ws_istore, ws_astore, ws_iinc, ws_iadd, ws_isub, ws_imul, ws_iand, ws_ior, ws_ixor, ws_ishl, ws_ishr, ws_iushr, ws_idiv, ws_irem, ws_ineg, ws_i2l, ws_l2i, ws_ladd, ws_lmul, ws_lcmp, ws_dup_i, ws_pop_i, ws_dup_r, ws_pop_r, ws_dup2, ws_if_eq, ws_icmp_eq, ws_if_ne, ws_icmp_ne, ws_if_lt, ws_icmp_lt, ws_if_ge, ws_icmp_ge, ws_if_gt, ws_icmp_gt, ws_if_le, ws_icmp_le, ws_goto, ws_table, ws_get_0, ws_get_1, ws_get_2, ws_get_3, ws_put_0, ws_put_1, ws_put_2, ws_put_3, ws_iaload, ws_laload, ws_aaload, ws_iastore, ws_lastore, ws_alen, ws_ret_int, ws_ret_boolean, ws_ret_long, ws_ret_ref, ws_ret_void, ws_iv_0, ws_iv_1, ws_iv_2, ws_iv_3, ws_iv_4, ws_iv_5, ws_is_1, ws_is_2, ws_is_3, ws_is_4, ws_is_5, ws_slen, ws_schar, ws_max, ws_min, ws_copy, go_some, g_li_0, g_li_1, g_li_2, g_li_3, g_li_4, g_li_5, g_li_6, g_li_7, g_li_8, g_li_9, g_li_10, g_li_11, g_li_12, g_li_13, g_li_14, g_li_15, g_li_16, g_li_17, g_li_18, g_li_19, g_ll_0, g_ll_1, g_ll_2, g_ll_3, g_ll_4, g_ll_5, g_ll_6, g_ll_7, g_ll_8, g_ll_9, g_lr_0, g_lr_1, g_lr_2, g_lr_3, g_lr_4, g_lr_5, g_lr_6, g_lr_7, g_lr_8, g_lr_9, g_st_0, g_st_1i, g_st_1r, g_st_1n, g_st_1o, g_st_2, g_st_3, g_st_4, g_st_5, g_st_6, g_st_7, g_st_8, g_st_9, g_st_10, g_st_11, g_st_12, g_st_13, g_st_14, g_st_15, g_st_16, g_st_17, g_st_18, g_st_19, g_st2_1, gN_0, gN_1, gN_2, gN_3, gN_4, gN_5, gN_6, gN_7, gN_8, gN_9, to_some, to_none, ci_m2, ci_m1, ci_0, ci_1, ci_2, ci_3, ci_4, ci_5, cb_m2, cb_6, cb_7, cb_8, cb_9, cb_10, cb_11, cb_12, cb_13, cb_16, cb_20, cb_24, cb_27, cb_30, cb_32, cb_40, cb_41, cb_42, cb_48, cb_57, cb_59, cb_60, cb_63, cb_74, cb_75, cb_80, cb_90, cb_97, cb_99, cb_100, cb_120, cb_122, cs_130, cs_150, cs_162, cs_180, cs_190, cs_202, cs_214, cs_230, cs_255, cs_262, cs_358, cs_410, cs_786, cs_900, cs_2882, cs_3144, cs_4096, ci_m8, Nat.reduceAdd, Nat.reduceSub, Nat.reduceLeDiff, List.length_nil, List.length_cons, true_and, and_true, Nat.reduceMul, Nat.reduceLT, Nat.reduceEqDiff, b_Finder_fill_0, fl0, fl4, fl5, fl6, fl8, fl9, fl10, fl11, fl12, fl14, fl17, fk1, fk2, fk3, fk4, fk5, fk6, fk7, fk8, fk9, fk10, fk11, fk12, ff0, h15, if_false, hbw, Bool.toNat_true, n_ite, n_lt, n_le, n_eq, n_lt0, n_ge0, n_gt0, n_le0, n_eq0, n_eq1, n_cl, n_in, n_add, n_mul, n_sub, n_and, n_or, n_shl, n_shr, n_m2lt0, n_m2ge0, n_m1lt0, n_m1ge0, n_mlt, n_m2ne, n_m2ne', n_m1ne, n_m1ne', not_true_eq_false, not_false_eq_true, false_implies, true_implies, and_self, true_and, and_true, Nat.not_lt, Nat.not_le, true_or, or_true, false_or, or_false, ne_eq, Nat.le_refl, Nat.lt_irrefl, implies_true, Nat.zero_add, Nat.add_zero, Classical.not_not]
        exact ⟨by omega, blk1 (fun _ => hb)⟩
      | false =>
        rw [hb] at hbw
        simp (disch := omega) only [ws_nil, ws_iconst, ws_bipush, ws_sipush, ws_lconst, ws_ldc_i, ws_ldc_s, ws_ldc_w_i, ws_ldc_w_s, ws_iload_0, ws_lload_0, ws_aload_0, ws_istore_0, ws_lstore_0, ws_astore_0, ws_iload_1, ws_lload_1, ws_aload_1, ws_istore_1, ws_lstore_1, ws_astore_1, ws_iload_2, ws_lload_2, ws_aload_2, ws_istore_2, ws_lstore_2, ws_astore_2, ws_iload_3, ws_lload_3, ws_aload_3, ws_istore_3, ws_lstore_3, ws_astore_3, ws_iload, ws_aload, ws_istore, ws_astore, ws_iinc, ws_iadd, ws_isub, ws_imul, ws_iand, ws_ior, ws_ixor, ws_ishl, ws_ishr, ws_iushr, ws_idiv, ws_irem, ws_ineg, ws_i2l, ws_l2i, ws_ladd, ws_lmul, ws_lcmp, ws_dup_i, ws_pop_i, ws_dup_r, ws_pop_r, ws_dup2, ws_if_eq, ws_icmp_eq, ws_if_ne, ws_icmp_ne, ws_if_lt, ws_icmp_lt, ws_if_ge, ws_icmp_ge, ws_if_gt, ws_icmp_gt, ws_if_le, ws_icmp_le, ws_goto, ws_table, ws_get_0, ws_get_1, ws_get_2, ws_get_3, ws_put_0, ws_put_1, ws_put_2, ws_put_3, ws_iaload, ws_laload, ws_aaload, ws_iastore, ws_lastore, ws_alen, ws_ret_int, ws_ret_boolean, ws_ret_long, ws_ret_ref, ws_ret_void, ws_iv_0, ws_iv_1, ws_iv_2, ws_iv_3, ws_iv_4, ws_iv_5, ws_is_1, ws_is_2, ws_is_3, ws_is_4, ws_is_5, ws_slen, ws_schar, ws_max, ws_min, ws_copy, go_some, g_li_0, g_li_1, g_li_2, g_li_3, g_li_4, g_li_5, g_li_6, g_li_7, g_li_8, g_li_9, g_li_10, g_li_11, g_li_12, g_li_13, g_li_14, g_li_15, g_li_16, g_li_17, g_li_18, g_li_19, g_ll_0, g_ll_1, g_ll_2, g_ll_3, g_ll_4, g_ll_5, g_ll_6, g_ll_7, g_ll_8, g_ll_9, g_lr_0, g_lr_1, g_lr_2, g_lr_3, g_lr_4, g_lr_5, g_lr_6, g_lr_7, g_lr_8, g_lr_9, g_st_0, g_st_1i, g_st_1r, g_st_1n, g_st_1o, g_st_2, g_st_3, g_st_4, g_st_5, g_st_6, g_st_7, g_st_8, g_st_9, g_st_10, g_st_11, g_st_12, g_st_13, g_st_14, g_st_15, g_st_16, g_st_17, g_st_18, g_st_19, g_st2_1, gN_0, gN_1, gN_2, gN_3, gN_4, gN_5, gN_6, gN_7, gN_8, gN_9, to_some, to_none, ci_m2, ci_m1, ci_0, ci_1, ci_2, ci_3, ci_4, ci_5, cb_m2, cb_6, cb_7, cb_8, cb_9, cb_10, cb_11, cb_12, cb_13, cb_16, cb_20, cb_24, cb_27, cb_30, cb_32, cb_40, cb_41, cb_42, cb_48, cb_57, cb_59, cb_60, cb_63, cb_74, cb_75, cb_80, cb_90, cb_97, cb_99, cb_100, cb_120, cb_122, cs_130, cs_150, cs_162, cs_180, cs_190, cs_202, cs_214, cs_230, cs_255, cs_262, cs_358, cs_410, cs_786, cs_900, cs_2882, cs_3144, cs_4096, ci_m8, Nat.reduceAdd, Nat.reduceSub, Nat.reduceLeDiff, List.length_nil, List.length_cons, true_and, and_true, Nat.reduceMul, Nat.reduceLT, Nat.reduceEqDiff, b_Finder_fill_0, fl0, fl4, fl5, fl6, fl8, fl9, fl10, fl11, fl12, fl14, fl17, fk1, fk2, fk3, fk4, fk5, fk6, fk7, fk8, fk9, fk10, fk11, fk12, ff0, h15, if_false, hbw, Bool.toNat_false, n_ite, n_lt, n_le, n_eq, n_lt0, n_ge0, n_gt0, n_le0, n_eq0, n_eq1, n_cl, n_in, n_add, n_mul, n_sub, n_and, n_or, n_shl, n_shr, n_m2lt0, n_m2ge0, n_m1lt0, n_m1ge0, n_mlt, n_m2ne, n_m2ne', n_m1ne, n_m1ne', not_true_eq_false, not_false_eq_true, false_implies, true_implies, and_self, true_and, and_true, Nat.not_lt, Nat.not_le, true_or, or_true, false_or, or_false, ne_eq, Nat.le_refl, Nat.lt_irrefl, implies_true, Nat.zero_add, Nat.add_zero, Classical.not_not]
        refine ⟨by omega, hQ I hF hD ?_ FrF_rf⟩
        have : stp T S w i 1 ok o g = o := by simp [stp, hb]
        simp only [zLv, List.foldl_cons, List.foldl_nil]
        rw [this]
        exact hO
    · have h0 : tk = 0 := by omega
      subst h0
      simp (disch := omega) only [ws_nil, ws_iconst, ws_bipush, ws_sipush, ws_lconst, ws_ldc_i, ws_ldc_s, ws_ldc_w_i, ws_ldc_w_s, ws_iload_0, ws_lload_0, ws_aload_0, ws_istore_0, ws_lstore_0, ws_astore_0, ws_iload_1, ws_lload_1, ws_aload_1, ws_istore_1, ws_lstore_1, ws_astore_1, ws_iload_2, ws_lload_2, ws_aload_2, ws_istore_2, ws_lstore_2, ws_astore_2, ws_iload_3, ws_lload_3, ws_aload_3, ws_istore_3, ws_lstore_3, ws_astore_3, ws_iload, ws_aload, ws_istore, ws_astore, ws_iinc, ws_iadd, ws_isub, ws_imul, ws_iand, ws_ior, ws_ixor, ws_ishl, ws_ishr, ws_iushr, ws_idiv, ws_irem, ws_ineg, ws_i2l, ws_l2i, ws_ladd, ws_lmul, ws_lcmp, ws_dup_i, ws_pop_i, ws_dup_r, ws_pop_r, ws_dup2, ws_if_eq, ws_icmp_eq, ws_if_ne, ws_icmp_ne, ws_if_lt, ws_icmp_lt, ws_if_ge, ws_icmp_ge, ws_if_gt, ws_icmp_gt, ws_if_le, ws_icmp_le, ws_goto, ws_table, ws_get_0, ws_get_1, ws_get_2, ws_get_3, ws_put_0, ws_put_1, ws_put_2, ws_put_3, ws_iaload, ws_laload, ws_aaload, ws_iastore, ws_lastore, ws_alen, ws_ret_int, ws_ret_boolean, ws_ret_long, ws_ret_ref, ws_ret_void, ws_iv_0, ws_iv_1, ws_iv_2, ws_iv_3, ws_iv_4, ws_iv_5, ws_is_1, ws_is_2, ws_is_3, ws_is_4, ws_is_5, ws_slen, ws_schar, ws_max, ws_min, ws_copy, go_some, g_li_0, g_li_1, g_li_2, g_li_3, g_li_4, g_li_5, g_li_6, g_li_7, g_li_8, g_li_9, g_li_10, g_li_11, g_li_12, g_li_13, g_li_14, g_li_15, g_li_16, g_li_17, g_li_18, g_li_19, g_ll_0, g_ll_1, g_ll_2, g_ll_3, g_ll_4, g_ll_5, g_ll_6, g_ll_7, g_ll_8, g_ll_9, g_lr_0, g_lr_1, g_lr_2, g_lr_3, g_lr_4, g_lr_5, g_lr_6, g_lr_7, g_lr_8, g_lr_9, g_st_0, g_st_1i, g_st_1r, g_st_1n, g_st_1o, g_st_2, g_st_3, g_st_4, g_st_5, g_st_6, g_st_7, g_st_8, g_st_9, g_st_10, g_st_11, g_st_12, g_st_13, g_st_14, g_st_15, g_st_16, g_st_17, g_st_18, g_st_19, g_st2_1, gN_0, gN_1, gN_2, gN_3, gN_4, gN_5, gN_6, gN_7, gN_8, gN_9, to_some, to_none, ci_m2, ci_m1, ci_0, ci_1, ci_2, ci_3, ci_4, ci_5, cb_m2, cb_6, cb_7, cb_8, cb_9, cb_10, cb_11, cb_12, cb_13, cb_16, cb_20, cb_24, cb_27, cb_30, cb_32, cb_40, cb_41, cb_42, cb_48, cb_57, cb_59, cb_60, cb_63, cb_74, cb_75, cb_80, cb_90, cb_97, cb_99, cb_100, cb_120, cb_122, cs_130, cs_150, cs_162, cs_180, cs_190, cs_202, cs_214, cs_230, cs_255, cs_262, cs_358, cs_410, cs_786, cs_900, cs_2882, cs_3144, cs_4096, ci_m8, Nat.reduceAdd, Nat.reduceSub, Nat.reduceLeDiff, List.length_nil, List.length_cons, true_and, and_true, Nat.reduceMul, Nat.reduceLT, Nat.reduceEqDiff, b_Finder_fill_0, fl0, fl4, fl5, fl6, fl8, fl9, fl10, fl11, fl12, fl14, fl17, fk1, fk2, fk3, fk4, fk5, fk6, fk7, fk8, fk9, fk10, fk11, fk12, ff0, n_ite, n_lt, n_le, n_eq, n_lt0, n_ge0, n_gt0, n_le0, n_eq0, n_eq1, n_cl, n_in, n_add, n_mul, n_sub, n_and, n_or, n_shl, n_shr, n_m2lt0, n_m2ge0, n_m1lt0, n_m1ge0, n_mlt, n_m2ne, n_m2ne', n_m1ne, n_m1ne', not_true_eq_false, not_false_eq_true, false_implies, true_implies, and_self, true_and, and_true, Nat.not_lt, Nat.not_le, true_or, or_true, false_or, or_false, ne_eq, Nat.le_refl, Nat.lt_irrefl, implies_true, Nat.zero_add, Nat.add_zero, Classical.not_not]
      exact blk1 (fun h => absurd h h1)
  | succ k ih =>
    intro d i g o I Q hk hT hF hD hO hA hg0 hbo hQ
    have ih1 : fillP E L t f T S w om n tk ok (d + 2 * k + 5) k := by
      have := ih (d + 1)
      rwa [show d + 1 + 2 * k + 4 = d + 2 * k + 5 by omega] at this
    have hn5 := hN.1
    have hi : i < n := by omega
    have hw := hN.2.1 i hi
    have hoi := hom i hi
    obtain ⟨hTl, hTr, hTz⟩ := id hT
    obtain ⟨lt0, lt1, lt2, lt3, lt4, lt5, lt6, lt7, lt8, lt9, lt10, lt11, lt12, lt13, lt14, lt15, lt16, lt17, lt18, lt19, lt20, lt21, lt22, lt23, lt24, lt25, lt26, lt27, lt28, lt29, lt30⟩ := hTl
    obtain ⟨rt0, rt1, rt2, rt3, rt4, rt5, rt6, rt7, rt8, rt9, rt10, rt11, rt12, rt13, rt14, rt15, rt16, rt17, rt18, rt19⟩ := hTr
    obtain ⟨zt0, zt1, zt2, zt3, zt4, zt5, zt6, zt7, zt8, zt9, zt10, zt11⟩ := hTz
    obtain ⟨⟨fl0, fl4, fl5, fl6, fl8, fl9, fl10, fl11, fl12, fl14, fl17, fk1, fk2, fk3, fk4, fk5, fk6, fk7, fk8, fk9, fk10, fk11, fk12⟩, ff0, ff3, ff1, ff2, ff8, ff11⟩ := id hF
    have h15 : (5 < i) = False := eq_false (by omega)
    have hgA : ∀ j, j < i → g (w j) ≤ zB T := fun j hj => (hA j hj).2.1
    have hwj : ∀ j, j < i → w j ≠ w i := fun j hj e => by have := hN.2.2 j i (by omega) hi e; omega
    have htkl := tk_lt (w := w) (g := g) (i := i)
    have hfr : om i ^^^ (om i &&& mkN (tkB w g i) 12) < 2 ^ 13 := Nat.xor_lt_two_pow hoi (Nat.and_lt_two_pow (n := 13) _ (by omega))
    have hfb : ∀ b, (om i ^^^ (om i &&& mkN (tkB w g i) 12)).testBit b = ((om i).testBit b && !(mkN (tkB w g i) 12).testBit b) := fun b => diff_bit
    generalize hfre : om i ^^^ (om i &&& mkN (tkB w g i) 12) = fr at hfr hfb
    have hskip : ∀ v, ¬ okI T w om (fup g (w i) v) i → ∀ o, (zLv (zB T) w k (i + 1) (fup g (w i) v)).foldl (stp T S w n tk ok) o = o := fun v hv o => fold_skip (fun x hx => stp_bad (by
      rw [← Bool.not_eq_true]
      intro he
      exact lv_bad hN (by omega) hv hx ((hok x (lv_zero (by omega) (g0_step hg0) hx)).mp he).1))
    have hlz : ∀ v, ∀ x ∈ zLv (zB T) w k (i + 1) (fup g (w i) v), ∀ q, (∀ j, j < n → w j ≠ q) → x q = 0 := fun v x hx => lv_zero (by omega) (g0_step hg0) hx
    let F : zO → Nat → zO := fun s b => (zLv (zB T) w k (i + 1) (fup g (w i) (b + 1))).foldl (stp T S w n tk ok) s
    have hboF : ∀ b, boO T S w n ((List.range b).foldl F o) := by
      intro b
      induction b with
      | zero => exact hbo
      | succ b ihb => rw [fold_rs]; exact boO_fold hN hT.2.2 hs hok _ _ (hlz (b + 1)) ihb
    have key : ∀ b, b ≤ zB T → ∀ J, XT E J t T → XFs E J f T S w om n tk → XFd J f T S w tk i g → XFo J f T S w n tk ((List.range b).foldl F o) → FrF f tk I J → gj (d + 2 * k + 5) md_Finder_fill Q 4 [some (.ref f), some (.ref t), some (.int (nI i)), some (.int (nI fr)), some (.int (nI b))] [] (E, J, L) := by
      refine up_ind ?_ (fun b hb ihb => ?_)
      · intro J hTJ hFJ hDJ hOJ hRJ
        have hQ' : ∀ K, XFs E K f T S w om n tk → XFd K f T S w tk i g → XFo K f T S w n tk ((zLv (zB T) w k (i + 1) (fup g (w i) 0)).foldl (stp T S w n tk ok) ((List.range (zB T)).foldl F o)) → FrF f tk J K → Q none (E, K, L) := fun K a1 a2 a3 a4 => hQ K a1 a2 (by rw [fold_lv]; exact a3) (FrF_tr hRJ a4)
        have hx := hfb 12
        rw [mkN_bit] at hx
        simp only [Nat.lt_irrefl, decide_false, Bool.false_and, Bool.not_false, Bool.and_true] at hx
        have hboz := hboF (zB T)
        clear hQ
        obtain ⟨hTl, hTr, hTz⟩ := id hTJ
        obtain ⟨lt0, lt1, lt2, lt3, lt4, lt5, lt6, lt7, lt8, lt9, lt10, lt11, lt12, lt13, lt14, lt15, lt16, lt17, lt18, lt19, lt20, lt21, lt22, lt23, lt24, lt25, lt26, lt27, lt28, lt29, lt30⟩ := hTl
        obtain ⟨rt0, rt1, rt2, rt3, rt4, rt5, rt6, rt7, rt8, rt9, rt10, rt11, rt12, rt13, rt14, rt15, rt16, rt17, rt18, rt19⟩ := hTr
        obtain ⟨zt0, zt1, zt2, zt3, zt4, zt5, zt6, zt7, zt8, zt9, zt10, zt11⟩ := hTz
        obtain ⟨⟨fl0, fl4, fl5, fl6, fl8, fl9, fl10, fl11, fl12, fl14, fl17, fk1, fk2, fk3, fk4, fk5, fk6, fk7, fk8, fk9, fk10, fk11, fk12⟩, ff0, ff3, ff1, ff2, ff8, ff11⟩ := id hFJ
        obtain ⟨d3, d7, d4, d5⟩ := id hDJ
        obtain ⟨sc0, sc1, sc2⟩ := sc_step (T := T) (S := S) (g := g) (v := 0) hN hi
        rw [b_Finder_fill_4]
        cases ho : (om i).testBit 12 with
        | false =>
          rw [ho] at hx
          simp (disch := omega) only [ws_nil, ws_iconst, ws_bipush, ws_sipush, ws_lconst, ws_ldc_i, ws_ldc_s, ws_ldc_w_i, ws_ldc_w_s, ws_iload_0, ws_lload_0, ws_aload_0, ws_istore_0, ws_lstore_0, ws_astore_0, ws_iload_1, ws_lload_1, ws_aload_1, ws_istore_1, ws_lstore_1, ws_astore_1, ws_iload_2, ws_lload_2, ws_aload_2, ws_istore_2, ws_lstore_2, ws_astore_2, ws_iload_3, ws_lload_3, ws_aload_3, ws_istore_3, ws_lstore_3, ws_astore_3, ws_iload, ws_aload, ws_istore, ws_astore, ws_iinc, ws_iadd, ws_isub, ws_imul, ws_iand, ws_ior, ws_ixor, ws_ishl, ws_ishr, ws_iushr, ws_idiv, ws_irem, ws_ineg, ws_i2l, ws_l2i, ws_ladd, ws_lmul, ws_lcmp, ws_dup_i, ws_pop_i, ws_dup_r, ws_pop_r, ws_dup2, ws_if_eq, ws_icmp_eq, ws_if_ne, ws_icmp_ne, ws_if_lt, ws_icmp_lt, ws_if_ge, ws_icmp_ge, ws_if_gt, ws_icmp_gt, ws_if_le, ws_icmp_le, ws_goto, ws_table, ws_get_0, ws_get_1, ws_get_2, ws_get_3, ws_put_0, ws_put_1, ws_put_2, ws_put_3, ws_iaload, ws_laload, ws_aaload, ws_iastore, ws_lastore, ws_alen, ws_ret_int, ws_ret_boolean, ws_ret_long, ws_ret_ref, ws_ret_void, ws_iv_0, ws_iv_1, ws_iv_2, ws_iv_3, ws_iv_4, ws_iv_5, ws_is_1, ws_is_2, ws_is_3, ws_is_4, ws_is_5, ws_slen, ws_schar, ws_max, ws_min, ws_copy, go_some, g_li_0, g_li_1, g_li_2, g_li_3, g_li_4, g_li_5, g_li_6, g_li_7, g_li_8, g_li_9, g_li_10, g_li_11, g_li_12, g_li_13, g_li_14, g_li_15, g_li_16, g_li_17, g_li_18, g_li_19, g_ll_0, g_ll_1, g_ll_2, g_ll_3, g_ll_4, g_ll_5, g_ll_6, g_ll_7, g_ll_8, g_ll_9, g_lr_0, g_lr_1, g_lr_2, g_lr_3, g_lr_4, g_lr_5, g_lr_6, g_lr_7, g_lr_8, g_lr_9, g_st_0, g_st_1i, g_st_1r, g_st_1n, g_st_1o, g_st_2, g_st_3, g_st_4, g_st_5, g_st_6, g_st_7, g_st_8, g_st_9, g_st_10, g_st_11, g_st_12, g_st_13, g_st_14, g_st_15, g_st_16, g_st_17, g_st_18, g_st_19, g_st2_1, gN_0, gN_1, gN_2, gN_3, gN_4, gN_5, gN_6, gN_7, gN_8, gN_9, to_some, to_none, ci_m2, ci_m1, ci_0, ci_1, ci_2, ci_3, ci_4, ci_5, cb_m2, cb_6, cb_7, cb_8, cb_9, cb_10, cb_11, cb_12, cb_13, cb_16, cb_20, cb_24, cb_27, cb_30, cb_32, cb_40, cb_41, cb_42, cb_48, cb_57, cb_59, cb_60, cb_63, cb_74, cb_75, cb_80, cb_90, cb_97, cb_99, cb_100, cb_120, cb_122, cs_130, cs_150, cs_162, cs_180, cs_190, cs_202, cs_214, cs_230, cs_255, cs_262, cs_358, cs_410, cs_786, cs_900, cs_2882, cs_3144, cs_4096, ci_m8, Nat.reduceAdd, Nat.reduceSub, Nat.reduceLeDiff, List.length_nil, List.length_cons, true_and, and_true, Nat.reduceMul, Nat.reduceLT, Nat.reduceEqDiff, b_Finder_fill_6, b_Finder_fill_7, n_bit1, hx, Bool.toNat_false, lt0, lt1, lt2, lt3, lt4, lt5, lt6, lt7, lt8, lt9, lt10, lt11, lt12, lt13, lt14, lt15, lt16, lt17, lt18, lt19, lt20, lt21, lt22, lt23, lt24, lt25, lt26, lt27, lt28, lt29, lt30, rt0, rt1, rt2, rt3, rt4, rt5, rt6, rt7, rt8, rt9, rt10, rt11, rt12, rt13, rt14, rt15, rt16, rt17, rt18, rt19, n_ite, n_lt, n_le, n_eq, n_lt0, n_ge0, n_gt0, n_le0, n_eq0, n_eq1, n_cl, n_in, n_add, n_mul, n_sub, n_and, n_or, n_shl, n_shr, n_m2lt0, n_m2ge0, n_m1lt0, n_m1ge0, n_mlt, n_m2ne, n_m2ne', n_m1ne, n_m1ne', not_true_eq_false, not_false_eq_true, false_implies, true_implies, and_self, true_and, and_true, Nat.not_lt, Nat.not_le, true_or, or_true, false_or, or_false, ne_eq, Nat.le_refl, Nat.lt_irrefl, implies_true, Nat.zero_add, Nat.add_zero, Classical.not_not]
          refine hQ' J hFJ hDJ ?_ FrF_rf
          rw [hskip 0 (fun h1 => by have := h1.1; rw [fup_at, plc_0, ho] at this; cases this)]
          exact hOJ
        | true =>
          rw [ho] at hx
          simp (disch := omega) only [ws_nil, ws_iconst, ws_bipush, ws_sipush, ws_lconst, ws_ldc_i, ws_ldc_s, ws_ldc_w_i, ws_ldc_w_s, ws_iload_0, ws_lload_0, ws_aload_0, ws_istore_0, ws_lstore_0, ws_astore_0, ws_iload_1, ws_lload_1, ws_aload_1, ws_istore_1, ws_lstore_1, ws_astore_1, ws_iload_2, ws_lload_2, ws_aload_2, ws_istore_2, ws_lstore_2, ws_astore_2, ws_iload_3, ws_lload_3, ws_aload_3, ws_istore_3, ws_lstore_3, ws_astore_3, ws_iload, ws_aload, ws_istore, ws_astore, ws_iinc, ws_iadd, ws_isub, ws_imul, ws_iand, ws_ior, ws_ixor, ws_ishl, ws_ishr, ws_iushr, ws_idiv, ws_irem, ws_ineg, ws_i2l, ws_l2i, ws_ladd, ws_lmul, ws_lcmp, ws_dup_i, ws_pop_i, ws_dup_r, ws_pop_r, ws_dup2, ws_if_eq, ws_icmp_eq, ws_if_ne, ws_icmp_ne, ws_if_lt, ws_icmp_lt, ws_if_ge, ws_icmp_ge, ws_if_gt, ws_icmp_gt, ws_if_le, ws_icmp_le, ws_goto, ws_table, ws_get_0, ws_get_1, ws_get_2, ws_get_3, ws_put_0, ws_put_1, ws_put_2, ws_put_3, ws_iaload, ws_laload, ws_aaload, ws_iastore, ws_lastore, ws_alen, ws_ret_int, ws_ret_boolean, ws_ret_long, ws_ret_ref, ws_ret_void, ws_iv_0, ws_iv_1, ws_iv_2, ws_iv_3, ws_iv_4, ws_iv_5, ws_is_1, ws_is_2, ws_is_3, ws_is_4, ws_is_5, ws_slen, ws_schar, ws_max, ws_min, ws_copy, go_some, g_li_0, g_li_1, g_li_2, g_li_3, g_li_4, g_li_5, g_li_6, g_li_7, g_li_8, g_li_9, g_li_10, g_li_11, g_li_12, g_li_13, g_li_14, g_li_15, g_li_16, g_li_17, g_li_18, g_li_19, g_ll_0, g_ll_1, g_ll_2, g_ll_3, g_ll_4, g_ll_5, g_ll_6, g_ll_7, g_ll_8, g_ll_9, g_lr_0, g_lr_1, g_lr_2, g_lr_3, g_lr_4, g_lr_5, g_lr_6, g_lr_7, g_lr_8, g_lr_9, g_st_0, g_st_1i, g_st_1r, g_st_1n, g_st_1o, g_st_2, g_st_3, g_st_4, g_st_5, g_st_6, g_st_7, g_st_8, g_st_9, g_st_10, g_st_11, g_st_12, g_st_13, g_st_14, g_st_15, g_st_16, g_st_17, g_st_18, g_st_19, g_st2_1, gN_0, gN_1, gN_2, gN_3, gN_4, gN_5, gN_6, gN_7, gN_8, gN_9, to_some, to_none, ci_m2, ci_m1, ci_0, ci_1, ci_2, ci_3, ci_4, ci_5, cb_m2, cb_6, cb_7, cb_8, cb_9, cb_10, cb_11, cb_12, cb_13, cb_16, cb_20, cb_24, cb_27, cb_30, cb_32, cb_40, cb_41, cb_42, cb_48, cb_57, cb_59, cb_60, cb_63, cb_74, cb_75, cb_80, cb_90, cb_97, cb_99, cb_100, cb_120, cb_122, cs_130, cs_150, cs_162, cs_180, cs_190, cs_202, cs_214, cs_230, cs_255, cs_262, cs_358, cs_410, cs_786, cs_900, cs_2882, cs_3144, cs_4096, ci_m8, Nat.reduceAdd, Nat.reduceSub, Nat.reduceLeDiff, List.length_nil, List.length_cons, true_and, and_true, Nat.reduceMul, Nat.reduceLT, Nat.reduceEqDiff, b_Finder_fill_6, fl0, fl4, fl5, fl6, fl8, fl9, fl10, fl11, fl12, fl14, fl17, fk1, fk2, fk3, fk4, fk5, fk6, fk7, fk8, fk9, fk10, fk11, fk12, n_bit1, hx, Bool.toNat_true, c_add fk5, gU_same, gU_oth, lt0, lt1, lt2, lt3, lt4, lt5, lt6, lt7, lt8, lt9, lt10, lt11, lt12, lt13, lt14, lt15, lt16, lt17, lt18, lt19, lt20, lt21, lt22, lt23, lt24, lt25, lt26, lt27, lt28, lt29, lt30, rt0, rt1, rt2, rt3, rt4, rt5, rt6, rt7, rt8, rt9, rt10, rt11, rt12, rt13, rt14, rt15, rt16, rt17, rt18, rt19, n_ite, n_lt, n_le, n_eq, n_lt0, n_ge0, n_gt0, n_le0, n_eq0, n_eq1, n_cl, n_in, n_add, n_mul, n_sub, n_and, n_or, n_shl, n_shr, n_m2lt0, n_m2ge0, n_m1lt0, n_m1ge0, n_mlt, n_m2ne, n_m2ne', n_m1ne, n_m1ne', not_true_eq_false, not_false_eq_true, false_implies, true_implies, and_self, true_and, and_true, Nat.not_lt, Nat.not_le, true_or, or_true, false_or, or_false, ne_eq, Nat.le_refl, Nat.lt_irrefl, implies_true, Nat.zero_add, Nat.add_zero, Classical.not_not]
          refine ⟨by omega, by omega, ?_⟩
          have hA' : okA T w om (fup g (w i) 0) (i + 1) := fun i' hi' => by
            by_cases e : i' = i
            · subst e; exact okI_church ho fup_at
            · exact (okI_congr (fun j hj => fup_oth (hwj j (by omega)))).mpr (hA i' (by omega))
          refine ih1 (i + 1) (fup g (w i) 0) ((List.range (zB T)).foldl F o) _ _ (by omega) (XT_F hTJ (fun a ha => (by simp (disch := omega) only [gU_same, gU_oth, upd_same, upd_oth])) hd) (XFs_of hFJ hn5 (by simp (disch := omega) only [gU_same, gU_oth, upd_same, upd_oth]) (by simp (disch := omega) only [gU_same, gU_oth, upd_same, upd_oth]) (by simp (disch := omega) only [gU_same, gU_oth, upd_same, upd_oth]) (by simp (disch := omega) only [gU_same, gU_oth, upd_same, upd_oth]) (by simp (disch := omega) only [gU_same, gU_oth, upd_same, upd_oth]) (fun j hj => (by simp (disch := omega) only [gU_same, gU_oth, upd_same, upd_oth]))) ?_ (XFo_of hOJ (by simp (disch := omega) only [gU_same, gU_oth, upd_same, upd_oth]) (by simp (disch := omega) only [gU_same, gU_oth, upd_same, upd_oth]) (by simp (disch := omega) only [gU_same, gU_oth, upd_same, upd_oth]) (by simp (disch := omega) only [gU_same, gU_oth, upd_same, upd_oth])) hA' (g0_step hg0) hboz (fun K hFK hDK hOK hRK => ?_)
          · refine ⟨fun j hj => ?_, ?_, fun h hh => ?_, fun e1 => ?_⟩
            · simp (disch := omega) only [gU_same, gU_oth]
              by_cases e : j = i
              · subst e; rw [upd_same, fup_at]; rfl
              · rw [upd_oth e, fup_oth (hwj j (by omega))]; exact d3 j (by omega)
            · simp (disch := omega) only [gU_same, gU_oth]
              rw [tk_church hN hi]; exact d7
            · simp (disch := omega) only [gU_same, gU_oth]
              rw [in_church hN hi]; exact d4 h hh
            · obtain ⟨q0, q1, q2⟩ := d5 e1
              simp (disch := omega) only [gU_same, gU_oth, upd_same, upd_oth]
              rw [sc0, sc1, sc2, q0, q1, q2, if_pos rfl, if_pos rfl, if_pos rfl, ff8 e1 i hi]
              exact ⟨by rw [n_add], by rw [n_add], by rw [n_add]⟩
          · obtain ⟨j3, j7, j4, j5⟩ := id hDK
            have ff8' := hFK.2.2.2.2.2.1
            simp (disch := omega) only [ws_nil, ws_iconst, ws_bipush, ws_sipush, ws_lconst, ws_ldc_i, ws_ldc_s, ws_ldc_w_i, ws_ldc_w_s, ws_iload_0, ws_lload_0, ws_aload_0, ws_istore_0, ws_lstore_0, ws_astore_0, ws_iload_1, ws_lload_1, ws_aload_1, ws_istore_1, ws_lstore_1, ws_astore_1, ws_iload_2, ws_lload_2, ws_aload_2, ws_istore_2, ws_lstore_2, ws_astore_2, ws_iload_3, ws_lload_3, ws_aload_3, ws_istore_3, ws_lstore_3, ws_astore_3, ws_iload, ws_aload, ws_istore, ws_astore, ws_iinc, ws_iadd, ws_isub, ws_imul, ws_iand, ws_ior, ws_ixor, ws_ishl, ws_ishr, ws_iushr, ws_idiv, ws_irem, ws_ineg, ws_i2l, ws_l2i, ws_ladd, ws_lmul, ws_lcmp, ws_dup_i, ws_pop_i, ws_dup_r, ws_pop_r, ws_dup2, ws_if_eq, ws_icmp_eq, ws_if_ne, ws_icmp_ne, ws_if_lt, ws_icmp_lt, ws_if_ge, ws_icmp_ge, ws_if_gt, ws_icmp_gt, ws_if_le, ws_icmp_le, ws_goto, ws_table, ws_get_0, ws_get_1, ws_get_2, ws_get_3, ws_put_0, ws_put_1, ws_put_2, ws_put_3, ws_iaload, ws_laload, ws_aaload, ws_iastore, ws_lastore, ws_alen, ws_ret_int, ws_ret_boolean, ws_ret_long, ws_ret_ref, ws_ret_void, ws_iv_0, ws_iv_1, ws_iv_2, ws_iv_3, ws_iv_4, ws_iv_5, ws_is_1, ws_is_2, ws_is_3, ws_is_4, ws_is_5, ws_slen, ws_schar, ws_max, ws_min, ws_copy, go_some, g_li_0, g_li_1, g_li_2, g_li_3, g_li_4, g_li_5, g_li_6, g_li_7, g_li_8, g_li_9, g_li_10, g_li_11, g_li_12, g_li_13, g_li_14, g_li_15, g_li_16, g_li_17, g_li_18, g_li_19, g_ll_0, g_ll_1, g_ll_2, g_ll_3, g_ll_4, g_ll_5, g_ll_6, g_ll_7, g_ll_8, g_ll_9, g_lr_0, g_lr_1, g_lr_2, g_lr_3, g_lr_4, g_lr_5, g_lr_6, g_lr_7, g_lr_8, g_lr_9, g_st_0, g_st_1i, g_st_1r, g_st_1n, g_st_1o, g_st_2, g_st_3, g_st_4, g_st_5, g_st_6, g_st_7, g_st_8, g_st_9, g_st_10, g_st_11, g_st_12, g_st_13, g_st_14, g_st_15, g_st_16, g_st_17, g_st_18, g_st_19, g_st2_1, gN_0, gN_1, gN_2, gN_3, gN_4, gN_5, gN_6, gN_7, gN_8, gN_9, to_some, to_none, ci_m2, ci_m1, ci_0, ci_1, ci_2, ci_3, ci_4, ci_5, cb_m2, cb_6, cb_7, cb_8, cb_9, cb_10, cb_11, cb_12, cb_13, cb_16, cb_20, cb_24, cb_27, cb_30, cb_32, cb_40, cb_41, cb_42, cb_48, cb_57, cb_59, cb_60, cb_63, cb_74, cb_75, cb_80, cb_90, cb_97, cb_99, cb_100, cb_120, cb_122, cs_130, cs_150, cs_162, cs_180, cs_190, cs_202, cs_214, cs_230, cs_255, cs_262, cs_358, cs_410, cs_786, cs_900, cs_2882, cs_3144, cs_4096, ci_m8, Nat.reduceAdd, Nat.reduceSub, Nat.reduceLeDiff, List.length_nil, List.length_cons, true_and, and_true, Nat.reduceMul, Nat.reduceLT, Nat.reduceEqDiff, b_Finder_fill_7, fl0, fl4, fl5, fl6, fl8, fl9, fl10, fl11, fl12, fl14, fl17, fk1, fk2, fk3, fk4, fk5, fk6, fk7, fk8, fk9, fk10, fk11, fk12, c_add fk5, gU_same, gU_oth, lt0, lt1, lt2, lt3, lt4, lt5, lt6, lt7, lt8, lt9, lt10, lt11, lt12, lt13, lt14, lt15, lt16, lt17, lt18, lt19, lt20, lt21, lt22, lt23, lt24, lt25, lt26, lt27, lt28, lt29, lt30, rt0, rt1, rt2, rt3, rt4, rt5, rt6, rt7, rt8, rt9, rt10, rt11, rt12, rt13, rt14, rt15, rt16, rt17, rt18, rt19, n_ite, n_lt, n_le, n_eq, n_lt0, n_ge0, n_gt0, n_le0, n_eq0, n_eq1, n_cl, n_in, n_add, n_mul, n_sub, n_and, n_or, n_shl, n_shr, n_m2lt0, n_m2ge0, n_m1lt0, n_m1ge0, n_mlt, n_m2ne, n_m2ne', n_m1ne, n_m1ne', not_true_eq_false, not_false_eq_true, false_implies, true_implies, and_self, true_and, and_true, Nat.not_lt, Nat.not_le, true_or, or_true, false_or, or_false, ne_eq, Nat.le_refl, Nat.lt_irrefl, implies_true, Nat.zero_add, Nat.add_zero, Classical.not_not]
            refine ⟨by omega, hQ' _ (XFs_of hFK hn5 (by simp (disch := omega) only [gU_same, gU_oth, upd_same, upd_oth]) (by simp (disch := omega) only [gU_same, gU_oth, upd_same, upd_oth]) (by simp (disch := omega) only [gU_same, gU_oth, upd_same, upd_oth]) (by simp (disch := omega) only [gU_same, gU_oth, upd_same, upd_oth]) (by simp (disch := omega) only [gU_same, gU_oth, upd_same, upd_oth]) (fun j hj => (by simp (disch := omega) only [gU_same, gU_oth, upd_same, upd_oth]))) ?_ (XFo_of hOK (by simp (disch := omega) only [gU_same, gU_oth, upd_same, upd_oth]) (by simp (disch := omega) only [gU_same, gU_oth, upd_same, upd_oth]) (by simp (disch := omega) only [gU_same, gU_oth, upd_same, upd_oth]) (by simp (disch := omega) only [gU_same, gU_oth, upd_same, upd_oth])) ?_⟩
            · refine ⟨fun j hj => ?_, ?_, fun h hh => ?_, fun e1 => ?_⟩
              · simp (disch := omega) only [gU_same, gU_oth]
                rw [j3 j (by omega), fup_oth (hwj j hj)]
              · simp (disch := omega) only [gU_same, gU_oth]
                rw [j7, tk_church hN hi]
              · simp (disch := omega) only [gU_same, gU_oth]
                rw [j4 h hh, in_church hN hi]
              · obtain ⟨q0, q1, q2⟩ := j5 e1
                simp (disch := omega) only [gU_same, gU_oth, upd_same, upd_oth]
                rw [q0, q1, q2, sc0, sc1, sc2, if_pos rfl, if_pos rfl, if_pos rfl, ff8' e1 i hi]
                refine ⟨n_addm1, n_addneg, ?_⟩
                rw [n_add]; rfl
            · obtain ⟨r0, r1, r2, r3⟩ := hRK
              refine ⟨fun a ha => ?_, fun x h1 h2 => ?_, fun e1 => ?_, fun e1 => ?_⟩
              · simp (disch := omega) only [gU_same, gU_oth]
                rw [r0 a ha]
                simp (disch := omega) only [gU_same, gU_oth, upd_same, upd_oth]
              · simp (disch := omega) only [gU_same, gU_oth, upd_oth]
                rw [r1 x h1 h2]
                simp (disch := omega) only [gU_same, gU_oth, upd_same, upd_oth]
              · obtain ⟨s1, s2⟩ := r2 e1
                simp (disch := omega) only [gU_same, gU_oth, upd_oth]
                rw [s1, s2]
                constructor
                · simp (disch := omega) only [gU_same, gU_oth, upd_same, upd_oth]
                · simp (disch := omega) only [gU_same, gU_oth, upd_same, upd_oth]
              · simp (disch := omega) only [gU_same, gU_oth, upd_oth]
                rw [r3 e1]
                simp (disch := omega) only [gU_same, gU_oth, upd_same, upd_oth]
      · intro J hTJ hFJ hDJ hOJ hRJ
        have hx := hfb b
        rw [mkN_bit] at hx
        simp only [show b < 12 by omega, decide_true, Bool.true_and] at hx
        have hbob := hboF b
        clear hQ
        obtain ⟨hTl, hTr, hTz⟩ := id hTJ
        obtain ⟨lt0, lt1, lt2, lt3, lt4, lt5, lt6, lt7, lt8, lt9, lt10, lt11, lt12, lt13, lt14, lt15, lt16, lt17, lt18, lt19, lt20, lt21, lt22, lt23, lt24, lt25, lt26, lt27, lt28, lt29, lt30⟩ := hTl
        obtain ⟨rt0, rt1, rt2, rt3, rt4, rt5, rt6, rt7, rt8, rt9, rt10, rt11, rt12, rt13, rt14, rt15, rt16, rt17, rt18, rt19⟩ := hTr
        obtain ⟨zt0, zt1, zt2, zt3, zt4, zt5, zt6, zt7, zt8, zt9, zt10, zt11⟩ := hTz
        rw [b_Finder_fill_4]
        cases hb1 : fr.testBit b with
        | false =>
          simp (disch := omega) only [ws_nil, ws_iconst, ws_bipush, ws_sipush, ws_lconst, ws_ldc_i, ws_ldc_s, ws_ldc_w_i, ws_ldc_w_s, ws_iload_0, ws_lload_0, ws_aload_0, ws_istore_0, ws_lstore_0, ws_astore_0, ws_iload_1, ws_lload_1, ws_aload_1, ws_istore_1, ws_lstore_1, ws_astore_1, ws_iload_2, ws_lload_2, ws_aload_2, ws_istore_2, ws_lstore_2, ws_astore_2, ws_iload_3, ws_lload_3, ws_aload_3, ws_istore_3, ws_lstore_3, ws_astore_3, ws_iload, ws_aload, ws_istore, ws_astore, ws_iinc, ws_iadd, ws_isub, ws_imul, ws_iand, ws_ior, ws_ixor, ws_ishl, ws_ishr, ws_iushr, ws_idiv, ws_irem, ws_ineg, ws_i2l, ws_l2i, ws_ladd, ws_lmul, ws_lcmp, ws_dup_i, ws_pop_i, ws_dup_r, ws_pop_r, ws_dup2, ws_if_eq, ws_icmp_eq, ws_if_ne, ws_icmp_ne, ws_if_lt, ws_icmp_lt, ws_if_ge, ws_icmp_ge, ws_if_gt, ws_icmp_gt, ws_if_le, ws_icmp_le, ws_goto, ws_table, ws_get_0, ws_get_1, ws_get_2, ws_get_3, ws_put_0, ws_put_1, ws_put_2, ws_put_3, ws_iaload, ws_laload, ws_aaload, ws_iastore, ws_lastore, ws_alen, ws_ret_int, ws_ret_boolean, ws_ret_long, ws_ret_ref, ws_ret_void, ws_iv_0, ws_iv_1, ws_iv_2, ws_iv_3, ws_iv_4, ws_iv_5, ws_is_1, ws_is_2, ws_is_3, ws_is_4, ws_is_5, ws_slen, ws_schar, ws_max, ws_min, ws_copy, go_some, g_li_0, g_li_1, g_li_2, g_li_3, g_li_4, g_li_5, g_li_6, g_li_7, g_li_8, g_li_9, g_li_10, g_li_11, g_li_12, g_li_13, g_li_14, g_li_15, g_li_16, g_li_17, g_li_18, g_li_19, g_ll_0, g_ll_1, g_ll_2, g_ll_3, g_ll_4, g_ll_5, g_ll_6, g_ll_7, g_ll_8, g_ll_9, g_lr_0, g_lr_1, g_lr_2, g_lr_3, g_lr_4, g_lr_5, g_lr_6, g_lr_7, g_lr_8, g_lr_9, g_st_0, g_st_1i, g_st_1r, g_st_1n, g_st_1o, g_st_2, g_st_3, g_st_4, g_st_5, g_st_6, g_st_7, g_st_8, g_st_9, g_st_10, g_st_11, g_st_12, g_st_13, g_st_14, g_st_15, g_st_16, g_st_17, g_st_18, g_st_19, g_st2_1, gN_0, gN_1, gN_2, gN_3, gN_4, gN_5, gN_6, gN_7, gN_8, gN_9, to_some, to_none, ci_m2, ci_m1, ci_0, ci_1, ci_2, ci_3, ci_4, ci_5, cb_m2, cb_6, cb_7, cb_8, cb_9, cb_10, cb_11, cb_12, cb_13, cb_16, cb_20, cb_24, cb_27, cb_30, cb_32, cb_40, cb_41, cb_42, cb_48, cb_57, cb_59, cb_60, cb_63, cb_74, cb_75, cb_80, cb_90, cb_97, cb_99, cb_100, cb_120, cb_122, cs_130, cs_150, cs_162, cs_180, cs_190, cs_202, cs_214, cs_230, cs_255, cs_262, cs_358, cs_410, cs_786, cs_900, cs_2882, cs_3144, cs_4096, ci_m8, Nat.reduceAdd, Nat.reduceSub, Nat.reduceLeDiff, List.length_nil, List.length_cons, true_and, and_true, Nat.reduceMul, Nat.reduceLT, Nat.reduceEqDiff, b_Finder_fill_5, n_bit1, hb1, Bool.toNat_false, lt0, lt1, lt2, lt3, lt4, lt5, lt6, lt7, lt8, lt9, lt10, lt11, lt12, lt13, lt14, lt15, lt16, lt17, lt18, lt19, lt20, lt21, lt22, lt23, lt24, lt25, lt26, lt27, lt28, lt29, lt30, rt0, rt1, rt2, rt3, rt4, rt5, rt6, rt7, rt8, rt9, rt10, rt11, rt12, rt13, rt14, rt15, rt16, rt17, rt18, rt19, n_ite, n_lt, n_le, n_eq, n_lt0, n_ge0, n_gt0, n_le0, n_eq0, n_eq1, n_cl, n_in, n_add, n_mul, n_sub, n_and, n_or, n_shl, n_shr, n_m2lt0, n_m2ge0, n_m1lt0, n_m1ge0, n_mlt, n_m2ne, n_m2ne', n_m1ne, n_m1ne', not_true_eq_false, not_false_eq_true, false_implies, true_implies, and_self, true_and, and_true, Nat.not_lt, Nat.not_le, true_or, or_true, false_or, or_false, ne_eq, Nat.le_refl, Nat.lt_irrefl, implies_true, Nat.zero_add, Nat.add_zero, Classical.not_not]
          refine ⟨fun q => by omega, fun _ => ihb J hTJ hFJ hDJ ?_ hRJ⟩
          rw [fold_rs]
          show XFo J f T S w n tk ((zLv (zB T) w k (i + 1) (fup g (w i) (b + 1))).foldl (stp T S w n tk ok) ((List.range b).foldl F o))
          rw [hskip (b + 1) (fun h1 => ?_)]
          · exact hOJ
          · have h2 := h1.1
            rw [fup_at] at h2
            have h3 : plc (b + 1) = b := rfl
            rw [h3] at h2
            rw [hb1, h2] at hx
            simp only [Bool.true_and] at hx
            have h4 : tkB w g i b = true := by
              cases h5 : tkB w g i b with
              | true => rfl
              | false => rw [h5] at hx; cases hx
            obtain ⟨j, a1, a2⟩ := tkB_iff.mp h4
            have := (h1.2.2 j a1).1 (by rw [fup_at]; omega)
            rw [fup_at, fup_oth (hwj j a1)] at this
            exact this a2
        | true =>
          rw [hb1] at hx
          have ho1 : (om i).testBit b = true := by
            cases h5 : (om i).testBit b with
            | true => rfl
            | false => rw [h5] at hx; cases hx
          have ho2 : tkB w g i b = false := by
            cases h5 : tkB w g i b with
            | false => rfl
            | true => rw [h5, ho1] at hx; cases hx
          simp (disch := omega) only [ws_nil, ws_iconst, ws_bipush, ws_sipush, ws_lconst, ws_ldc_i, ws_ldc_s, ws_ldc_w_i, ws_ldc_w_s, ws_iload_0, ws_lload_0, ws_aload_0, ws_istore_0, ws_lstore_0, ws_astore_0, ws_iload_1, ws_lload_1, ws_aload_1, ws_istore_1, ws_lstore_1, ws_astore_1, ws_iload_2, ws_lload_2, ws_aload_2, ws_istore_2, ws_lstore_2, ws_astore_2, ws_iload_3, ws_lload_3, ws_aload_3, ws_istore_3, ws_lstore_3, ws_astore_3, ws_iload, ws_aload, ws_istore, ws_astore, ws_iinc, ws_iadd, ws_isub, ws_imul, ws_iand, ws_ior, ws_ixor, ws_ishl, ws_ishr, ws_iushr, ws_idiv, ws_irem, ws_ineg, ws_i2l, ws_l2i, ws_ladd, ws_lmul, ws_lcmp, ws_dup_i, ws_pop_i, ws_dup_r, ws_pop_r, ws_dup2, ws_if_eq, ws_icmp_eq, ws_if_ne, ws_icmp_ne, ws_if_lt, ws_icmp_lt, ws_if_ge, ws_icmp_ge, ws_if_gt, ws_icmp_gt, ws_if_le, ws_icmp_le, ws_goto, ws_table, ws_get_0, ws_get_1, ws_get_2, ws_get_3, ws_put_0, ws_put_1, ws_put_2, ws_put_3, ws_iaload, ws_laload, ws_aaload, ws_iastore, ws_lastore, ws_alen, ws_ret_int, ws_ret_boolean, ws_ret_long, ws_ret_ref, ws_ret_void, ws_iv_0, ws_iv_1, ws_iv_2, ws_iv_3, ws_iv_4, ws_iv_5, ws_is_1, ws_is_2, ws_is_3, ws_is_4, ws_is_5, ws_slen, ws_schar, ws_max, ws_min, ws_copy, go_some, g_li_0, g_li_1, g_li_2, g_li_3, g_li_4, g_li_5, g_li_6, g_li_7, g_li_8, g_li_9, g_li_10, g_li_11, g_li_12, g_li_13, g_li_14, g_li_15, g_li_16, g_li_17, g_li_18, g_li_19, g_ll_0, g_ll_1, g_ll_2, g_ll_3, g_ll_4, g_ll_5, g_ll_6, g_ll_7, g_ll_8, g_ll_9, g_lr_0, g_lr_1, g_lr_2, g_lr_3, g_lr_4, g_lr_5, g_lr_6, g_lr_7, g_lr_8, g_lr_9, g_st_0, g_st_1i, g_st_1r, g_st_1n, g_st_1o, g_st_2, g_st_3, g_st_4, g_st_5, g_st_6, g_st_7, g_st_8, g_st_9, g_st_10, g_st_11, g_st_12, g_st_13, g_st_14, g_st_15, g_st_16, g_st_17, g_st_18, g_st_19, g_st2_1, gN_0, gN_1, gN_2, gN_3, gN_4, gN_5, gN_6, gN_7, gN_8, gN_9, to_some, to_none, ci_m2, ci_m1, ci_0, ci_1, ci_2, ci_3, ci_4, ci_5, cb_m2, cb_6, cb_7, cb_8, cb_9, cb_10, cb_11, cb_12, cb_13, cb_16, cb_20, cb_24, cb_27, cb_30, cb_32, cb_40, cb_41, cb_42, cb_48, cb_57, cb_59, cb_60, cb_63, cb_74, cb_75, cb_80, cb_90, cb_97, cb_99, cb_100, cb_120, cb_122, cs_130, cs_150, cs_162, cs_180, cs_190, cs_202, cs_214, cs_230, cs_255, cs_262, cs_358, cs_410, cs_786, cs_900, cs_2882, cs_3144, cs_4096, ci_m8, Nat.reduceAdd, Nat.reduceSub, Nat.reduceLeDiff, List.length_nil, List.length_cons, true_and, and_true, Nat.reduceMul, Nat.reduceLT, Nat.reduceEqDiff, n_bit1, hb1, Bool.toNat_true, fl0, fl4, fl5, fl6, fl8, fl9, fl10, fl11, fl12, fl14, fl17, fk1, fk2, fk3, fk4, fk5, fk6, fk7, fk8, fk9, fk10, fk11, fk12, lt0, lt1, lt2, lt3, lt4, lt5, lt6, lt7, lt8, lt9, lt10, lt11, lt12, lt13, lt14, lt15, lt16, lt17, lt18, lt19, lt20, lt21, lt22, lt23, lt24, lt25, lt26, lt27, lt28, lt29, lt30, rt0, rt1, rt2, rt3, rt4, rt5, rt6, rt7, rt8, rt9, rt10, rt11, rt12, rt13, rt14, rt15, rt16, rt17, rt18, rt19, n_ite, n_lt, n_le, n_eq, n_lt0, n_ge0, n_gt0, n_le0, n_eq0, n_eq1, n_cl, n_in, n_add, n_mul, n_sub, n_and, n_or, n_shl, n_shr, n_m2lt0, n_m2ge0, n_m1lt0, n_m1ge0, n_mlt, n_m2ne, n_m2ne', n_m1ne, n_m1ne', not_true_eq_false, not_false_eq_true, false_implies, true_implies, and_self, true_and, and_true, Nat.not_lt, Nat.not_le, true_or, or_true, false_or, or_false, ne_eq, Nat.le_refl, Nat.lt_irrefl, implies_true, Nat.zero_add, Nat.add_zero, Classical.not_not]
          refine ⟨fun q => by omega, fun _ => ?_⟩
          refine c_fillBed (d := d) (k := k) (ih d) (by omega) hTJ hFJ hDJ hOJ hA hg0 hbob hN hd hok hb ho1 ho2 (fun K hFK hDK hOK hRK => ?_)
          simp (disch := omega) only [ws_nil, ws_iconst, ws_bipush, ws_sipush, ws_lconst, ws_ldc_i, ws_ldc_s, ws_ldc_w_i, ws_ldc_w_s, ws_iload_0, ws_lload_0, ws_aload_0, ws_istore_0, ws_lstore_0, ws_astore_0, ws_iload_1, ws_lload_1, ws_aload_1, ws_istore_1, ws_lstore_1, ws_astore_1, ws_iload_2, ws_lload_2, ws_aload_2, ws_istore_2, ws_lstore_2, ws_astore_2, ws_iload_3, ws_lload_3, ws_aload_3, ws_istore_3, ws_lstore_3, ws_astore_3, ws_iload, ws_aload, ws_istore, ws_astore, ws_iinc, ws_iadd, ws_isub, ws_imul, ws_iand, ws_ior, ws_ixor, ws_ishl, ws_ishr, ws_iushr, ws_idiv, ws_irem, ws_ineg, ws_i2l, ws_l2i, ws_ladd, ws_lmul, ws_lcmp, ws_dup_i, ws_pop_i, ws_dup_r, ws_pop_r, ws_dup2, ws_if_eq, ws_icmp_eq, ws_if_ne, ws_icmp_ne, ws_if_lt, ws_icmp_lt, ws_if_ge, ws_icmp_ge, ws_if_gt, ws_icmp_gt, ws_if_le, ws_icmp_le, ws_goto, ws_table, ws_get_0, ws_get_1, ws_get_2, ws_get_3, ws_put_0, ws_put_1, ws_put_2, ws_put_3, ws_iaload, ws_laload, ws_aaload, ws_iastore, ws_lastore, ws_alen, ws_ret_int, ws_ret_boolean, ws_ret_long, ws_ret_ref, ws_ret_void, ws_iv_0, ws_iv_1, ws_iv_2, ws_iv_3, ws_iv_4, ws_iv_5, ws_is_1, ws_is_2, ws_is_3, ws_is_4, ws_is_5, ws_slen, ws_schar, ws_max, ws_min, ws_copy, go_some, g_li_0, g_li_1, g_li_2, g_li_3, g_li_4, g_li_5, g_li_6, g_li_7, g_li_8, g_li_9, g_li_10, g_li_11, g_li_12, g_li_13, g_li_14, g_li_15, g_li_16, g_li_17, g_li_18, g_li_19, g_ll_0, g_ll_1, g_ll_2, g_ll_3, g_ll_4, g_ll_5, g_ll_6, g_ll_7, g_ll_8, g_ll_9, g_lr_0, g_lr_1, g_lr_2, g_lr_3, g_lr_4, g_lr_5, g_lr_6, g_lr_7, g_lr_8, g_lr_9, g_st_0, g_st_1i, g_st_1r, g_st_1n, g_st_1o, g_st_2, g_st_3, g_st_4, g_st_5, g_st_6, g_st_7, g_st_8, g_st_9, g_st_10, g_st_11, g_st_12, g_st_13, g_st_14, g_st_15, g_st_16, g_st_17, g_st_18, g_st_19, g_st2_1, gN_0, gN_1, gN_2, gN_3, gN_4, gN_5, gN_6, gN_7, gN_8, gN_9, to_some, to_none, ci_m2, ci_m1, ci_0, ci_1, ci_2, ci_3, ci_4, ci_5, cb_m2, cb_6, cb_7, cb_8, cb_9, cb_10, cb_11, cb_12, cb_13, cb_16, cb_20, cb_24, cb_27, cb_30, cb_32, cb_40, cb_41, cb_42, cb_48, cb_57, cb_59, cb_60, cb_63, cb_74, cb_75, cb_80, cb_90, cb_97, cb_99, cb_100, cb_120, cb_122, cs_130, cs_150, cs_162, cs_180, cs_190, cs_202, cs_214, cs_230, cs_255, cs_262, cs_358, cs_410, cs_786, cs_900, cs_2882, cs_3144, cs_4096, ci_m8, Nat.reduceAdd, Nat.reduceSub, Nat.reduceLeDiff, List.length_nil, List.length_cons, true_and, and_true, Nat.reduceMul, Nat.reduceLT, Nat.reduceEqDiff, b_Finder_fill_5, lt0, lt1, lt2, lt3, lt4, lt5, lt6, lt7, lt8, lt9, lt10, lt11, lt12, lt13, lt14, lt15, lt16, lt17, lt18, lt19, lt20, lt21, lt22, lt23, lt24, lt25, lt26, lt27, lt28, lt29, lt30, rt0, rt1, rt2, rt3, rt4, rt5, rt6, rt7, rt8, rt9, rt10, rt11, rt12, rt13, rt14, rt15, rt16, rt17, rt18, rt19, n_ite, n_lt, n_le, n_eq, n_lt0, n_ge0, n_gt0, n_le0, n_eq0, n_eq1, n_cl, n_in, n_add, n_mul, n_sub, n_and, n_or, n_shl, n_shr, n_m2lt0, n_m2ge0, n_m1lt0, n_m1ge0, n_mlt, n_m2ne, n_m2ne', n_m1ne, n_m1ne', not_true_eq_false, not_false_eq_true, false_implies, true_implies, and_self, true_and, and_true, Nat.not_lt, Nat.not_le, true_or, or_true, false_or, or_false, ne_eq, Nat.le_refl, Nat.lt_irrefl, implies_true, Nat.zero_add, Nat.add_zero, Classical.not_not]
          exact ihb K (XT_F hTJ hRK.1 hd) hFK hDK (by rw [fold_rs]; exact hOK) (FrF_tr hRJ hRK)
    have blk1 : gj (d + 2 * k + 5) md_Finder_fill Q 1 [some (.ref f), some (.ref t), some (.int (nI i)), none, none] [] (E, I, L) := by
      obtain ⟨d3, d7, d4, d5⟩ := id hD
      simp (disch := omega) only [ws_nil, ws_iconst, ws_bipush, ws_sipush, ws_lconst, ws_ldc_i, ws_ldc_s, ws_ldc_w_i, ws_ldc_w_s, ws_iload_0, ws_lload_0, ws_aload_0, ws_istore_0, ws_lstore_0, ws_astore_0, ws_iload_1, ws_lload_1, ws_aload_1, ws_istore_1, ws_lstore_1, ws_astore_1, ws_iload_2, ws_lload_2, ws_aload_2, ws_istore_2, ws_lstore_2, ws_astore_2, ws_iload_3, ws_lload_3, ws_aload_3, ws_istore_3, ws_lstore_3, ws_astore_3, ws_iload, ws_aload, ws_istore, ws_astore, ws_iinc, ws_iadd, ws_isub, ws_imul, ws_iand, ws_ior, ws_ixor, ws_ishl, ws_ishr, ws_iushr, ws_idiv, ws_irem, ws_ineg, ws_i2l, ws_l2i, ws_ladd, ws_lmul, ws_lcmp, ws_dup_i, ws_pop_i, ws_dup_r, ws_pop_r, ws_dup2, ws_if_eq, ws_icmp_eq, ws_if_ne, ws_icmp_ne, ws_if_lt, ws_icmp_lt, ws_if_ge, ws_icmp_ge, ws_if_gt, ws_icmp_gt, ws_if_le, ws_icmp_le, ws_goto, ws_table, ws_get_0, ws_get_1, ws_get_2, ws_get_3, ws_put_0, ws_put_1, ws_put_2, ws_put_3, ws_iaload, ws_laload, ws_aaload, ws_iastore, ws_lastore, ws_alen, ws_ret_int, ws_ret_boolean, ws_ret_long, ws_ret_ref, ws_ret_void, ws_iv_0, ws_iv_1, ws_iv_2, ws_iv_3, ws_iv_4, ws_iv_5, ws_is_1, ws_is_2, ws_is_3, ws_is_4, ws_is_5, ws_slen, ws_schar, ws_max, ws_min, ws_copy, go_some, g_li_0, g_li_1, g_li_2, g_li_3, g_li_4, g_li_5, g_li_6, g_li_7, g_li_8, g_li_9, g_li_10, g_li_11, g_li_12, g_li_13, g_li_14, g_li_15, g_li_16, g_li_17, g_li_18, g_li_19, g_ll_0, g_ll_1, g_ll_2, g_ll_3, g_ll_4, g_ll_5, g_ll_6, g_ll_7, g_ll_8, g_ll_9, g_lr_0, g_lr_1, g_lr_2, g_lr_3, g_lr_4, g_lr_5, g_lr_6, g_lr_7, g_lr_8, g_lr_9, g_st_0, g_st_1i, g_st_1r, g_st_1n, g_st_1o, g_st_2, g_st_3, g_st_4, g_st_5, g_st_6, g_st_7, g_st_8, g_st_9, g_st_10, g_st_11, g_st_12, g_st_13, g_st_14, g_st_15, g_st_16, g_st_17, g_st_18, g_st_19, g_st2_1, gN_0, gN_1, gN_2, gN_3, gN_4, gN_5, gN_6, gN_7, gN_8, gN_9, to_some, to_none, ci_m2, ci_m1, ci_0, ci_1, ci_2, ci_3, ci_4, ci_5, cb_m2, cb_6, cb_7, cb_8, cb_9, cb_10, cb_11, cb_12, cb_13, cb_16, cb_20, cb_24, cb_27, cb_30, cb_32, cb_40, cb_41, cb_42, cb_48, cb_57, cb_59, cb_60, cb_63, cb_74, cb_75, cb_80, cb_90, cb_97, cb_99, cb_100, cb_120, cb_122, cs_130, cs_150, cs_162, cs_180, cs_190, cs_202, cs_214, cs_230, cs_255, cs_262, cs_358, cs_410, cs_786, cs_900, cs_2882, cs_3144, cs_4096, ci_m8, Nat.reduceAdd, Nat.reduceSub, Nat.reduceLeDiff, List.length_nil, List.length_cons, true_and, and_true, Nat.reduceMul, Nat.reduceLT, Nat.reduceEqDiff, b_Finder_fill_1, b_Finder_fill_3, fl0, fl4, fl5, fl6, fl8, fl9, fl10, fl11, fl12, fl14, fl17, fk1, fk2, fk3, fk4, fk5, fk6, fk7, fk8, fk9, fk10, fk11, fk12, ff3, ff2, d7, n_andn, hfre, n_ite, n_lt, n_le, n_eq, n_lt0, n_ge0, n_gt0, n_le0, n_eq0, n_eq1, n_cl, n_in, n_add, n_mul, n_sub, n_and, n_or, n_shl, n_shr, n_m2lt0, n_m2ge0, n_m1lt0, n_m1ge0, n_mlt, n_m2ne, n_m2ne', n_m1ne, n_m1ne', not_true_eq_false, not_false_eq_true, false_implies, true_implies, and_self, true_and, and_true, Nat.not_lt, Nat.not_le, true_or, or_true, false_or, or_false, ne_eq, Nat.le_refl, Nat.lt_irrefl, implies_true, Nat.zero_add, Nat.add_zero, Classical.not_not]
      refine ⟨fun q => by omega, fun _ => ⟨fun _ => ⟨by omega, key 0 (Nat.zero_le _) I hT hF hD hO FrF_rf⟩, fun q => by omega⟩⟩
    rw [show d + 2 * (k + 1) + 4 = d + 2 * k + 5 + 1 by omega, en_Finder_fill]
    by_cases h1 : tk = 1
    · subst h1
      obtain ⟨o0, o1, o2, o3⟩ := hO.1 rfl
      obtain ⟨q0, q1, q2⟩ := hD.2.2.2 rfl
      obtain ⟨r0, r1, r2⟩ := ff11 rfl i (by omega)
      rw [show n - i = k + 1 by omega] at r0 r1 r2
      have b0 := scC_le (w := w) (g := g) (i := i)
      have b1 := scT_le (S := S) (w := w) (g := g) (i := i) (fun j hj => hs j (by omega))
      have b2 := scW_le (w := w) (g := g) (i := i) hT.2.2 (fun j hj => hN.2.1 j (by omega)) hgA
      have b6 := rsC_le (om := om) (k + 1) i
      have b7 := rsT_le (om := om) hs (k + 1) i (by omega)
      have b8 := rsW_le (om := om) hT.2.2 hN.2.1 (k + 1) i (by omega)
      obtain ⟨b3, b4, b5⟩ := hbo
      have hbw := fun Q => c_beatsWith (d := d + 2 * k + 4) (L := L) (Q := Q) fk5 (fk12 i (by omega)) fk6 q0 q1 q2 r0 r1 r2 o0 o1 o2 (by omega) (by omega) (by omega) (by omega) (by omega) (by omega)
      generalize hdd : decide (btS (scC w g i + rsC om (k + 1) i) (scT S w g i + rsT S w om (k + 1) i) (scW T w g i + rsW T w om (k + 1) i) (toC w n o) (toT S w n o) (toW T w n o)) = bb at hbw
      cases bb with
      | true =>
        simp (disch := omega) only [ws_nil, ws_iconst, ws_bipush, ws_sipush, ws_lconst, ws_ldc_i, ws_ldc_s, ws_ldc_w_i, ws_ldc_w_s, ws_iload_0, ws_lload_0, ws_aload_0, ws_istore_0, ws_lstore_0, ws_astore_0, ws_iload_1, ws_lload_1, ws_aload_1, ws_istore_1, ws_lstore_1, ws_astore_1, ws_iload_2, ws_lload_2, ws_aload_2, ws_istore_2, ws_lstore_2, ws_astore_2, ws_iload_3, ws_lload_3, ws_aload_3, ws_istore_3, ws_lstore_3, ws_astore_3, ws_iload, ws_aload, ws_istore, ws_astore, ws_iinc, ws_iadd, ws_isub, ws_imul, ws_iand, ws_ior, ws_ixor, ws_ishl, ws_ishr, ws_iushr, ws_idiv, ws_irem, ws_ineg, ws_i2l, ws_l2i, ws_ladd, ws_lmul, ws_lcmp, ws_dup_i, ws_pop_i, ws_dup_r, ws_pop_r, ws_dup2, ws_if_eq, ws_icmp_eq, ws_if_ne, ws_icmp_ne, ws_if_lt, ws_icmp_lt, ws_if_ge, ws_icmp_ge, ws_if_gt, ws_icmp_gt, ws_if_le, ws_icmp_le, ws_goto, ws_table, ws_get_0, ws_get_1, ws_get_2, ws_get_3, ws_put_0, ws_put_1, ws_put_2, ws_put_3, ws_iaload, ws_laload, ws_aaload, ws_iastore, ws_lastore, ws_alen, ws_ret_int, ws_ret_boolean, ws_ret_long, ws_ret_ref, ws_ret_void, ws_iv_0, ws_iv_1, ws_iv_2, ws_iv_3, ws_iv_4, ws_iv_5, ws_is_1, ws_is_2, ws_is_3, ws_is_4, ws_is_5, ws_slen, ws_schar, ws_max, ws_min, ws_copy, go_some, g_li_0, g_li_1, g_li_2, g_li_3, g_li_4, g_li_5, g_li_6, g_li_7, g_li_8, g_li_9, g_li_10, g_li_11, g_li_12, g_li_13, g_li_14, g_li_15, g_li_16, g_li_17, g_li_18, g_li_19, g_ll_0, g_ll_1, g_ll_2, g_ll_3, g_ll_4, g_ll_5, g_ll_6, g_ll_7, g_ll_8, g_ll_9, g_lr_0, g_lr_1, g_lr_2, g_lr_3, g_lr_4, g_lr_5, g_lr_6, g_lr_7, g_lr_8, g_lr_9, g_st_0, g_st_1i, g_st_1r, g_st_1n, g_st_1o, g_st_2, g_st_3, g_st_4, g_st_5, g_st_6, g_st_7, g_st_8, g_st_9, g_st_10, g_st_11, g_st_12, g_st_13, g_st_14, g_st_15, g_st_16, g_st_17, g_st_18, g_st_19, g_st2_1, gN_0, gN_1, gN_2, gN_3, gN_4, gN_5, gN_6, gN_7, gN_8, gN_9, to_some, to_none, ci_m2, ci_m1, ci_0, ci_1, ci_2, ci_3, ci_4, ci_5, cb_m2, cb_6, cb_7, cb_8, cb_9, cb_10, cb_11, cb_12, cb_13, cb_16, cb_20, cb_24, cb_27, cb_30, cb_32, cb_40, cb_41, cb_42, cb_48, cb_57, cb_59, cb_60, cb_63, cb_74, cb_75, cb_80, cb_90, cb_97, cb_99, cb_100, cb_120, cb_122, cs_130, cs_150, cs_162, cs_180, cs_190, cs_202, cs_214, cs_230, cs_255, cs_262, cs_358, cs_410, cs_786, cs_900, cs_2882, cs_3144, cs_4096, ci_m8, Nat.reduceAdd, Nat.reduceSub, Nat.reduceLeDiff, List.length_nil, List.length_cons, true_and, and_true, Nat.reduceMul, Nat.reduceLT, Nat.reduceEqDiff, b_Finder_fill_0, fl0, fl4, fl5, fl6, fl8, fl9, fl10, fl11, fl12, fl14, fl17, fk1, fk2, fk3, fk4, fk5, fk6, fk7, fk8, fk9, fk10, fk11, fk12, ff0, h15, if_false, hbw, Bool.toNat_true, n_ite, n_lt, n_le, n_eq, n_lt0, n_ge0, n_gt0, n_le0, n_eq0, n_eq1, n_cl, n_in, n_add, n_mul, n_sub, n_and, n_or, n_shl, n_shr, n_m2lt0, n_m2ge0, n_m1lt0, n_m1ge0, n_mlt, n_m2ne, n_m2ne', n_m1ne, n_m1ne', not_true_eq_false, not_false_eq_true, false_implies, true_implies, and_self, true_and, and_true, Nat.not_lt, Nat.not_le, true_or, or_true, false_or, or_false, ne_eq, Nat.le_refl, Nat.lt_irrefl, implies_true, Nat.zero_add, Nat.add_zero, Classical.not_not]
        exact ⟨by omega, blk1⟩
      | false =>
        simp (disch := omega) only [ws_nil, ws_iconst, ws_bipush, ws_sipush, ws_lconst, ws_ldc_i, ws_ldc_s, ws_ldc_w_i, ws_ldc_w_s, ws_iload_0, ws_lload_0, ws_aload_0, ws_istore_0, ws_lstore_0, ws_astore_0, ws_iload_1, ws_lload_1, ws_aload_1, ws_istore_1, ws_lstore_1, ws_astore_1, ws_iload_2, ws_lload_2, ws_aload_2, ws_istore_2, ws_lstore_2, ws_astore_2, ws_iload_3, ws_lload_3, ws_aload_3, ws_istore_3, ws_lstore_3, ws_astore_3, ws_iload, ws_aload, ws_istore, ws_astore, ws_iinc, ws_iadd, ws_isub, ws_imul, ws_iand, ws_ior, ws_ixor, ws_ishl, ws_ishr, ws_iushr, ws_idiv, ws_irem, ws_ineg, ws_i2l, ws_l2i, ws_ladd, ws_lmul, ws_lcmp, ws_dup_i, ws_pop_i, ws_dup_r, ws_pop_r, ws_dup2, ws_if_eq, ws_icmp_eq, ws_if_ne, ws_icmp_ne, ws_if_lt, ws_icmp_lt, ws_if_ge, ws_icmp_ge, ws_if_gt, ws_icmp_gt, ws_if_le, ws_icmp_le, ws_goto, ws_table, ws_get_0, ws_get_1, ws_get_2, ws_get_3, ws_put_0, ws_put_1, ws_put_2, ws_put_3, ws_iaload, ws_laload, ws_aaload, ws_iastore, ws_lastore, ws_alen, ws_ret_int, ws_ret_boolean, ws_ret_long, ws_ret_ref, ws_ret_void, ws_iv_0, ws_iv_1, ws_iv_2, ws_iv_3, ws_iv_4, ws_iv_5, ws_is_1, ws_is_2, ws_is_3, ws_is_4, ws_is_5, ws_slen, ws_schar, ws_max, ws_min, ws_copy, go_some, g_li_0, g_li_1, g_li_2, g_li_3, g_li_4, g_li_5, g_li_6, g_li_7, g_li_8, g_li_9, g_li_10, g_li_11, g_li_12, g_li_13, g_li_14, g_li_15, g_li_16, g_li_17, g_li_18, g_li_19, g_ll_0, g_ll_1, g_ll_2, g_ll_3, g_ll_4, g_ll_5, g_ll_6, g_ll_7, g_ll_8, g_ll_9, g_lr_0, g_lr_1, g_lr_2, g_lr_3, g_lr_4, g_lr_5, g_lr_6, g_lr_7, g_lr_8, g_lr_9, g_st_0, g_st_1i, g_st_1r, g_st_1n, g_st_1o, g_st_2, g_st_3, g_st_4, g_st_5, g_st_6, g_st_7, g_st_8, g_st_9, g_st_10, g_st_11, g_st_12, g_st_13, g_st_14, g_st_15, g_st_16, g_st_17, g_st_18, g_st_19, g_st2_1, gN_0, gN_1, gN_2, gN_3, gN_4, gN_5, gN_6, gN_7, gN_8, gN_9, to_some, to_none, ci_m2, ci_m1, ci_0, ci_1, ci_2, ci_3, ci_4, ci_5, cb_m2, cb_6, cb_7, cb_8, cb_9, cb_10, cb_11, cb_12, cb_13, cb_16, cb_20, cb_24, cb_27, cb_30, cb_32, cb_40, cb_41, cb_42, cb_48, cb_57, cb_59, cb_60, cb_63, cb_74, cb_75, cb_80, cb_90, cb_97, cb_99, cb_100, cb_120, cb_122, cs_130, cs_150, cs_162, cs_180, cs_190, cs_202, cs_214, cs_230, cs_255, cs_262, cs_358, cs_410, cs_786, cs_900, cs_2882, cs_3144, cs_4096, ci_m8, Nat.reduceAdd, Nat.reduceSub, Nat.reduceLeDiff, List.length_nil, List.length_cons, true_and, and_true, Nat.reduceMul, Nat.reduceLT, Nat.reduceEqDiff, b_Finder_fill_0, fl0, fl4, fl5, fl6, fl8, fl9, fl10, fl11, fl12, fl14, fl17, fk1, fk2, fk3, fk4, fk5, fk6, fk7, fk8, fk9, fk10, fk11, fk12, ff0, h15, if_false, hbw, Bool.toNat_false, n_ite, n_lt, n_le, n_eq, n_lt0, n_ge0, n_gt0, n_le0, n_eq0, n_eq1, n_cl, n_in, n_add, n_mul, n_sub, n_and, n_or, n_shl, n_shr, n_m2lt0, n_m2ge0, n_m1lt0, n_m1ge0, n_mlt, n_m2ne, n_m2ne', n_m1ne, n_m1ne', not_true_eq_false, not_false_eq_true, false_implies, true_implies, and_self, true_and, and_true, Nat.not_lt, Nat.not_le, true_or, or_true, false_or, or_false, ne_eq, Nat.le_refl, Nat.lt_irrefl, implies_true, Nat.zero_add, Nat.add_zero, Classical.not_not]
        refine ⟨by omega, hQ I hF hD ?_ FrF_rf⟩
        rw [cut_ok hN hT.2.2 hk hg0 hok (of_decide_eq_false hdd)]
        exact hO
    · have h0 : tk = 0 := by omega
      subst h0
      simp (disch := omega) only [ws_nil, ws_iconst, ws_bipush, ws_sipush, ws_lconst, ws_ldc_i, ws_ldc_s, ws_ldc_w_i, ws_ldc_w_s, ws_iload_0, ws_lload_0, ws_aload_0, ws_istore_0, ws_lstore_0, ws_astore_0, ws_iload_1, ws_lload_1, ws_aload_1, ws_istore_1, ws_lstore_1, ws_astore_1, ws_iload_2, ws_lload_2, ws_aload_2, ws_istore_2, ws_lstore_2, ws_astore_2, ws_iload_3, ws_lload_3, ws_aload_3, ws_istore_3, ws_lstore_3, ws_astore_3, ws_iload, ws_aload, ws_istore, ws_astore, ws_iinc, ws_iadd, ws_isub, ws_imul, ws_iand, ws_ior, ws_ixor, ws_ishl, ws_ishr, ws_iushr, ws_idiv, ws_irem, ws_ineg, ws_i2l, ws_l2i, ws_ladd, ws_lmul, ws_lcmp, ws_dup_i, ws_pop_i, ws_dup_r, ws_pop_r, ws_dup2, ws_if_eq, ws_icmp_eq, ws_if_ne, ws_icmp_ne, ws_if_lt, ws_icmp_lt, ws_if_ge, ws_icmp_ge, ws_if_gt, ws_icmp_gt, ws_if_le, ws_icmp_le, ws_goto, ws_table, ws_get_0, ws_get_1, ws_get_2, ws_get_3, ws_put_0, ws_put_1, ws_put_2, ws_put_3, ws_iaload, ws_laload, ws_aaload, ws_iastore, ws_lastore, ws_alen, ws_ret_int, ws_ret_boolean, ws_ret_long, ws_ret_ref, ws_ret_void, ws_iv_0, ws_iv_1, ws_iv_2, ws_iv_3, ws_iv_4, ws_iv_5, ws_is_1, ws_is_2, ws_is_3, ws_is_4, ws_is_5, ws_slen, ws_schar, ws_max, ws_min, ws_copy, go_some, g_li_0, g_li_1, g_li_2, g_li_3, g_li_4, g_li_5, g_li_6, g_li_7, g_li_8, g_li_9, g_li_10, g_li_11, g_li_12, g_li_13, g_li_14, g_li_15, g_li_16, g_li_17, g_li_18, g_li_19, g_ll_0, g_ll_1, g_ll_2, g_ll_3, g_ll_4, g_ll_5, g_ll_6, g_ll_7, g_ll_8, g_ll_9, g_lr_0, g_lr_1, g_lr_2, g_lr_3, g_lr_4, g_lr_5, g_lr_6, g_lr_7, g_lr_8, g_lr_9, g_st_0, g_st_1i, g_st_1r, g_st_1n, g_st_1o, g_st_2, g_st_3, g_st_4, g_st_5, g_st_6, g_st_7, g_st_8, g_st_9, g_st_10, g_st_11, g_st_12, g_st_13, g_st_14, g_st_15, g_st_16, g_st_17, g_st_18, g_st_19, g_st2_1, gN_0, gN_1, gN_2, gN_3, gN_4, gN_5, gN_6, gN_7, gN_8, gN_9, to_some, to_none, ci_m2, ci_m1, ci_0, ci_1, ci_2, ci_3, ci_4, ci_5, cb_m2, cb_6, cb_7, cb_8, cb_9, cb_10, cb_11, cb_12, cb_13, cb_16, cb_20, cb_24, cb_27, cb_30, cb_32, cb_40, cb_41, cb_42, cb_48, cb_57, cb_59, cb_60, cb_63, cb_74, cb_75, cb_80, cb_90, cb_97, cb_99, cb_100, cb_120, cb_122, cs_130, cs_150, cs_162, cs_180, cs_190, cs_202, cs_214, cs_230, cs_255, cs_262, cs_358, cs_410, cs_786, cs_900, cs_2882, cs_3144, cs_4096, ci_m8, Nat.reduceAdd, Nat.reduceSub, Nat.reduceLeDiff, List.length_nil, List.length_cons, true_and, and_true, Nat.reduceMul, Nat.reduceLT, Nat.reduceEqDiff, b_Finder_fill_0, fl0, fl4, fl5, fl6, fl8, fl9, fl10, fl11, fl12, fl14, fl17, fk1, fk2, fk3, fk4, fk5, fk6, fk7, fk8, fk9, fk10, fk11, fk12, ff0, n_ite, n_lt, n_le, n_eq, n_lt0, n_ge0, n_gt0, n_le0, n_eq0, n_eq1, n_cl, n_in, n_add, n_mul, n_sub, n_and, n_or, n_shl, n_shr, n_m2lt0, n_m2ge0, n_m1lt0, n_m1ge0, n_mlt, n_m2ne, n_m2ne', n_m1ne, n_m1ne', not_true_eq_false, not_false_eq_true, false_implies, true_implies, and_self, true_and, and_true, Nat.not_lt, Nat.not_le, true_or, or_true, false_or, or_false, ne_eq, Nat.le_refl, Nat.lt_irrefl, implies_true, Nat.zero_add, Nat.add_zero, Classical.not_not]
      exact blk1
end FN4
