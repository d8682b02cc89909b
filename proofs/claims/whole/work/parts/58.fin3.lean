/-! Finder: the search -/
section FN3
variable {d s t p q h b a k m n j v r i l c f tk u : Nat} {E : gE} {I J K : Nat → Nat → Int32} {L : Nat → Nat → Int64} {M : gM} {T S S' : zA} {w om g g' : Nat → Nat} {o : zO} {ok : (Nat → Nat) → Bool} {Q : Option Value → gM → Prop}
theorem n_clr (h : m.testBit q = false) : nI (m ||| 2 ^ q) &&& (nI (2 ^ q) ^^^ (-1)) = nI m := by
  apply Int32.toBitVec_inj.mp
  show BitVec.ofNat 32 (m ||| 2 ^ q) &&& (BitVec.ofNat 32 (2 ^ q) ^^^ BitVec.allOnes 32) = BitVec.ofNat 32 m
  apply BitVec.eq_of_getLsbD_eq
  intro i hi
  simp only [BitVec.getLsbD_and, BitVec.getLsbD_xor, BitVec.getLsbD_ofNat, BitVec.getLsbD_allOnes, hi, Nat.testBit_or, Nat.testBit_two_pow, decide_true, Bool.true_and, Bool.and_true]
  by_cases e : q = i
  · subst e; simp [h]
  · simp [e]
theorem n_andn : nI a &&& (nI b ^^^ (-1)) = nI (a ^^^ (a &&& b)) := by
  apply Int32.toBitVec_inj.mp
  show BitVec.ofNat 32 a &&& (BitVec.ofNat 32 b ^^^ BitVec.allOnes 32) = BitVec.ofNat 32 (a ^^^ (a &&& b))
  apply BitVec.eq_of_getLsbD_eq
  intro i hi
  simp only [BitVec.getLsbD_and, BitVec.getLsbD_xor, BitVec.getLsbD_ofNat, BitVec.getLsbD_allOnes, hi, Nat.testBit_xor, Nat.testBit_and, decide_true, Bool.true_and]
  cases a.testBit i <;> cases b.testBit i <;> rfl
theorem n_addneg : nI (a + b) + -nI b = nI a := by
  rw [← n_add]
  rw [Int32.add_assoc, Int32.add_right_neg, Int32.add_zero]
theorem n_addm1 : nI (a + 1) + -1 = nI a := n_m1 (by omega)
theorem diff_bit : (a ^^^ (a &&& b)).testBit i = (a.testBit i && !b.testBit i) := by
  rw [Nat.testBit_xor, Nat.testBit_and]
  cases a.testBit i <;> cases b.testBit i <;> rfl
theorem tk_step (hN : zNm T w n) (hi : i < n) : tkB w (fup g (w i) v) (i + 1) b = (tkB w g i b || v == b + 1) := by
  have e : tkB w (fup g (w i) v) i b = tkB w g i b := anyN_congr (fun j hj => by rw [fup_oth (fun e => by have := hN.2.2 j i (by omega) hi e; omega)])
  rw [← e]
  unfold tkB
  simp only [anyN, fup_at]
theorem in_step (hN : zNm T w n) (hi : i < n) : inB T w (fup g (w i) v) (i + 1) h q = (inB T w g i h q || (w i == q && !(v == 0) && T 7 (v - 1) == h)) := by
  have e : inB T w (fup g (w i) v) i h q = inB T w g i h q := by
    rw [Bool.eq_iff_iff, inB_iff, inB_iff]
    refine exists_congr fun j => ?_
    constructor
    · rintro ⟨a1, rfl, a2, a3⟩
      rw [fup_oth (fun e => by have := hN.2.2 j i (by omega) hi e; omega)] at a2 a3
      exact ⟨a1, rfl, a2, a3⟩
    · rintro ⟨a1, rfl, a2, a3⟩
      rw [fup_oth (fun e => by have := hN.2.2 j i (by omega) hi e; omega)]
      exact ⟨a1, rfl, a2, a3⟩
  rw [← e]
  unfold inB
  simp only [anyN]
  by_cases e2 : w i = q
  · subst e2
    simp only [fup_at]
  · have : (w i == q) = false := by simpa using e2
    simp only [this, Bool.false_and]
theorem mk_or (hb : b < m) {c c' : Nat → Bool} (h : ∀ q, q < m → c' q = (c q || b == q)) : mkN c m ||| 2 ^ b = mkN c' m := by
  apply Nat.eq_of_testBit_eq
  intro i
  rw [Nat.testBit_or, mkN_bit, mkN_bit, Nat.testBit_two_pow]
  by_cases hi : i < m
  · rw [h i hi]
    simp only [hi, decide_true, Bool.true_and]
    rfl
  · have : b ≠ i := by omega
    simp [hi, this]
theorem tk_bed (hN : zNm T w n) (hi : i < n) (hb : b < 12) : mkN (tkB w g i) 12 ||| 2 ^ b = mkN (tkB w (fup g (w i) (b + 1)) (i + 1)) 12 :=
  mk_or hb (fun q _ => by rw [tk_step hN hi]; congr 1; rw [Bool.eq_iff_iff]; simp)
theorem tk_church (hN : zNm T w n) (hi : i < n) : mkN (tkB w (fup g (w i) 0) (i + 1)) 12 = mkN (tkB w g i) 12 :=
  orN_mk_congr (fun q _ => by rw [tk_step hN hi]; simp)
theorem in_bed (hN : zNm T w n) (hz : zT T) (hi : i < n) : mkN (inB T w g i (T 7 b)) 10 ||| 2 ^ w i = mkN (inB T w (fup g (w i) (b + 1)) (i + 1) (T 7 b)) 10 := by
  have h1 := hN.2.1 i hi
  have h2 := hz.2.2.1
  refine mk_or (by omega) (fun q _ => ?_)
  rw [in_step hN hi]
  simp
theorem in_bed' (hN : zNm T w n) (hi : i < n) (hh : h ≠ T 7 b) : mkN (inB T w (fup g (w i) (b + 1)) (i + 1) h) 10 = mkN (inB T w g i h) 10 :=
  orN_mk_congr (fun q _ => by rw [in_step hN hi]; have : (T 7 (b + 1 - 1) == h) = false := by simp; exact fun e => hh e.symm
                              rw [this]; simp)
theorem in_church (hN : zNm T w n) (hi : i < n) : mkN (inB T w (fup g (w i) 0) (i + 1) h) 10 = mkN (inB T w g i h) 10 :=
  orN_mk_congr (fun q _ => by rw [in_step hN hi]; simp)
theorem sc_step (hN : zNm T w n) (hi : i < n) : scC w (fup g (w i) v) (i + 1) = scC w g i + (if v = 0 then 1 else 0) ∧ scT S w (fup g (w i) v) (i + 1) = scT S w g i + (if v = 0 then S 1 (w i) else 0) ∧ scW T w (fup g (w i) v) (i + 1) = scW T w g i + (if v = 0 then 0 else zWant T (w i) (T 7 (v - 1))) := by
  have h := sc_congr (T := T) (S := S) (w := w) (g := g) (g' := fup g (w i) v) (i := i) (fun j hj => fup_oth (fun e => by have := hN.2.2 j i (by omega) hi e; omega))
  obtain ⟨h1, h2, h3⟩ := h
  refine ⟨?_, ?_, ?_⟩
  · rw [← h1]; unfold scC; simp only [sumN, fup_at]
  · rw [← h2]; unfold scT; simp only [sumN, fup_at]
  · rw [← h3]; unfold scW; simp only [sumN, fup_at]
/-- a score that came from a row is bounded -/
def boO (T S : zA) (w : Nat → Nat) (n : Nat) (o : zO) : Prop := toC w n o ≤ 11 ∧ toT S w n o ≤ 5000000 ∧ toW T w n o ≤ 45
/-- what the search does from the i-th on, with k left -/
def fillP (E : gE) (L : Nat → Nat → Int64) (t f : Nat) (T S : zA) (w om : Nat → Nat) (n tk : Nat) (ok : (Nat → Nat) → Bool) (D k : Nat) : Prop :=
  ∀ (i : Nat) (g : Nat → Nat) (o : zO) (I : Nat → Nat → Int32) (Q : Option Value → gM → Prop), i + k = n → XT E I t T → XFs E I f T S w om n tk → XFd I f T S w tk i g → XFo I f T S w n tk o → okA T w om g i → (∀ q, (∀ j, j < i → w j ≠ q) → g q = 0) → boO T S w n o →
    (∀ J, XFs E J f T S w om n tk → XFd J f T S w tk i g → XFo J f T S w n tk ((zLv (zB T) w k i g).foldl (stp T S w n tk ok) o) → FrF f tk I J → Q none (E, J, L)) → gm D 27 [.ref f, .ref t, .int (nI i)] (E, I, L) Q
theorem g0_step (hg0 : ∀ q, (∀ j, j < i → w j ≠ q) → g q = 0) : ∀ q, (∀ j, j < i + 1 → w j ≠ q) → fup g (w i) v q = 0 := fun q hq => by
  rw [fup_oth (fun e => hq i (by omega) e.symm)]
  exact hg0 q (fun j hj => hq j (by omega))
theorem lv_zero (hk : i + k = n) (hg0 : ∀ q, (∀ j, j < i → w j ≠ q) → g q = 0) {l : Nat → Nat} (hl : l ∈ zLv b w k i g) : ∀ q, (∀ j, j < n → w j ≠ q) → l q = 0 := fun q hq => by
  rw [zLv_mem k i g l hl q (fun j h1 h2 => hq j (by omega))]
  exact hg0 q (fun j hj => hq j (by omega))
theorem c_fillBed (IH : fillP E L t f T S w om n tk ok (d + 2 * k + 4) k) (hk : i + 1 + k = n) (hT : XT E I t T) (hF : XFs E I f T S w om n tk) (hD : XFd I f T S w tk i g) (hO : XFo I f T S w n tk o) (hA : okA T w om g i) (hg0 : ∀ q, (∀ j, j < i → w j ≠ q) → g q = 0) (hbo : boO T S w n o) (hN : zNm T w n) (hd : t + 16 ≤ f ∨ f + 17 ≤ t)
    (hok : ∀ l, (∀ q, (∀ j, j < n → w j ≠ q) → l q = 0) → (ok l = true ↔ okA T w om l n ∧ okK T w n l)) (hb : b < zB T) (hopen : (om i).testBit b = true) (hfree : tkB w g i b = false)
    (hQ : ∀ J, XFs E J f T S w om n tk → XFd J f T S w tk i g → XFo J f T S w n tk ((zLv (zB T) w k (i + 1) (fup g (w i) (b + 1))).foldl (stp T S w n tk ok) o) → FrF f tk I J → Q none (E, J, L)) : gm (d + 2 * k + 5) 30 [.ref f, .ref t, .int (nI i), .int (nI b)] (E, I, L) Q := by
  have hi : i < n := by omega
  have hn5 := hN.1
  have hw := hN.2.1 i hi
  obtain ⟨hTl, hTr, hTz⟩ := id hT
  obtain ⟨lt0, lt1, lt2, lt3, lt4, lt5, lt6, lt7, lt8, lt9, lt10, lt11, lt12, lt13, lt14, lt15, lt16, lt17, lt18, lt19, lt20, lt21, lt22, lt23, lt24, lt25, lt26, lt27, lt28, lt29, lt30⟩ := hTl
  obtain ⟨rt0, rt1, rt2, rt3, rt4, rt5, rt6, rt7, rt8, rt9, rt10, rt11, rt12, rt13, rt14, rt15, rt16, rt17, rt18, rt19⟩ := hTr
  obtain ⟨zt0, zt1, zt2, zt3, zt4, zt5, zt6, zt7, zt8, zt9, zt10, zt11⟩ := hTz
  obtain ⟨⟨fl0, fl4, fl5, fl6, fl8, fl9, fl10, fl11, fl12, fl14, fl17, fk1, fk2, fk3, fk4, fk5, fk6, fk7, fk8, fk9, fk10, fk11, fk12⟩, ff0, ff3, ff1, ff2, ff8, ff11⟩ := id hF
  obtain ⟨d3, d7, d4, d5⟩ := id hD
  have h7 := zt6 b hb
  have hp := zt7 (w i) hw
  have hin := in_lt (T := T) (w := w) (g := g) (i := i) (h := T 7 b)
  have hjl : mkN (zJar T (w i)) (zP T) < 1024 := mkN_lt (k := 10) zt2
  have hor : T 12 (w i) ||| mkN (zJar T (w i)) (zP T) < 2 ^ 10 := Nat.or_lt_two_pow hp.2.2.2.2.2.1 hjl
  have hand : mkN (inB T w g i (T 7 b)) 10 &&& (T 12 (w i) ||| mkN (zJar T (w i)) (zP T)) < 1024 := Nat.and_lt_two_pow (n := 10) _ hor
  have hwj : ∀ j, j < i → w j ≠ w i := fun j hj e => by have := hN.2.2 j i (by omega) hi e; omega
  have hpw1 : 2 ^ w i < 2 ^ 10 := Nat.pow_lt_pow_right (by omega) (by omega)
  have hpw2 : 2 ^ b < 2 ^ 12 := Nat.pow_lt_pow_right (by omega) (by omega)
  have hskip : (∀ l ∈ zLv (zB T) w k (i + 1) (fup g (w i) (b + 1)), ok l = false) → Q none (E, I, L) := fun hs => hQ I hF hD (by rw [fold_skip (fun l hl => stp_bad (hs l hl))]; exact hO) FrF_rf
  have hbad : ∀ l ∈ zLv (zB T) w k (i + 1) (fup g (w i) (b + 1)), (¬ (okA T w om l n ∧ okK T w n l)) → ok l = false := fun l hl hx => by
    rw [← Bool.not_eq_true]
    intro he
    exact hx ((hok l (lv_zero hk (g0_step hg0) hl)).mp he)
  rw [en_Finder_fillBed]
  simp (disch := omega) only [ws_nil, ws_iconst, ws_bipush, ws_sipush, ws_lconst, ws_ldc_i, ws_ldc_s, ws_ldc_w_i, ws_ldc_w_s, ws_iload_0, ws_lload_0, ws_aload_0, ws_istore_0, ws_lstore_0, ws_astore_0, ws_iload_1, ws_lload_1, ws_aload_1, ws_istore_1, ws_lstore_1, ws_astore_1, ws_iload_2, ws_lload_2, ws_aload_2, ws_istore_2, ws_lstore_2, ws_astore_2, ws_iload_3, ws_lload_3, ws_aload_3, ws_istore_3, ws_lstore_3, ws_astore_3, ws_iload, ws_aload, ws_istore, ws_astore, ws_iinc, ws_iadd, ws_isub, ws_imul, ws_iand, ws_ior, ws_ixor, ws_ishl, ws_ishr, ws_iushr, ws_idiv, ws_irem, ws_ineg, ws_i2l, ws_l2i, ws_ladd, ws_lmul, ws_lcmp, ws_dup_i, ws_pop_i, ws_dup_r, ws_pop_r, ws_dup2, ws_if_eq, ws_icmp_eq, ws_if_ne, ws_icmp_ne, ws_if_lt, ws_icmp_lt, ws_if_ge, ws_icmp_ge, ws_if_gt, ws_icmp_gt, ws_if_le, ws_icmp_le, ws_goto, ws_table, ws_get_0, ws_get_1, ws_get_2, ws_get_3, ws_put_0, ws_put_1, ws_put_2, ws_put_3, ws_iaload, ws_laload, ws_aaload, ws_iastore, ws_lastore, ws_alen, ws_ret_int, ws_ret_boolean, ws_ret_long, ws_ret_ref, ws_ret_void, ws_iv_0, ws_iv_1, ws_iv_2, ws_iv_3, ws_iv_4, ws_iv_5, ws_is_1, ws_is_2, ws_is_3, ws_is_4, ws_is_5, ws_slen, ws_schar, ws_max, ws_min, ws_copy, go_some, g_li_0, g_li_1, g_li_2, g_li_3, g_li_4, g_li_5, g_li_6, g_li_7, g_li_8, g_li_9, g_li_10, g_li_11, g_li_12, g_li_13, g_li_14, g_li_15, g_li_16, g_li_17, g_li_18, g_li_19, g_ll_0, g_ll_1, g_ll_2, g_ll_3, g_ll_4, g_ll_5, g_ll_6, g_ll_7, g_ll_8, g_ll_9, g_lr_0, g_lr_1, g_lr_2, g_lr_3, g_lr_4, g_lr_5, g_lr_6, g_lr_7, g_lr_8, g_lr_9, g_st_0, g_st_1i, g_st_1r, g_st_1n, g_st_1o, g_st_2, g_st_3, g_st_4, g_st_5, g_st_6, g_st_7, g_st_8, g_st_9, g_st_10, g_st_11, g_st_12, g_st_13, g_st_14, g_st_15, g_st_16, g_st_17, g_st_18, g_st_19, g_st2_1, gN_0, gN_1, gN_2, gN_3, gN_4, gN_5, gN_6, gN_7, gN_8, gN_9, to_some, to_none, ci_m2, ci_m1, ci_0, ci_1, ci_2, ci_3, ci_4, ci_5, cb_m2, cb_6, cb_7, cb_8, cb_9, cb_10, cb_11, cb_12, cb_13, cb_16, cb_20, cb_24, cb_27, cb_30, cb_32, cb_40, cb_41, cb_42, cb_48, cb_57, cb_59, cb_60, cb_63, cb_74, cb_75, cb_80, cb_90, cb_97, cb_99, cb_100, cb_120, cb_122, cs_130, cs_150, cs_162, cs_180, cs_190, cs_202, cs_214, cs_230, cs_255, cs_262, cs_358, cs_410, cs_786, cs_900, cs_2882, cs_3144, cs_4096, ci_m8, gb_n, gb_i1, gb_r1, gb_i2, gb_r2, gb_l2, gb_i3, gb_r3, gb_l3, gb_i4, gb_r4, gb_l4, gb_i5, gb_r5, gb_l5, gb_i6, gb_r6, gb_l6, gb_i7, gb_r7, gb_l7, gb_i8, gb_r8, gb_l8, Nat.reduceAdd, Nat.reduceSub, Nat.reduceLeDiff, List.length_nil, List.length_cons, true_and, and_true, Nat.reduceMul, Nat.reduceLT, Nat.reduceEqDiff, b_Finder_fillBed_0, fl0, fl4, fl5, fl6, fl8, fl9, fl10, fl11, fl12, fl14, fl17, fk1, fk2, fk3, fk4, fk5, fk6, fk7, fk8, fk9, fk10, fk11, fk12, ff1, d4, lt0, lt1, lt2, lt3, lt4, lt5, lt6, lt7, lt8, lt9, lt10, lt11, lt12, lt13, lt14, lt15, lt16, lt17, lt18, lt19, lt20, lt21, lt22, lt23, lt24, lt25, lt26, lt27, lt28, lt29, lt30, rt0, rt1, rt2, rt3, rt4, rt5, rt6, rt7, rt8, rt9, rt10, rt11, rt12, rt13, rt14, rt15, rt16, rt17, rt18, rt19, n_ite, n_lt, n_le, n_eq, n_lt0, n_ge0, n_gt0, n_le0, n_eq0, n_eq1, n_cl, n_in, n_add, n_mul, n_sub, n_and, n_or, n_shl, n_shr, n_m2lt0, n_m2ge0, n_m1lt0, n_m1ge0, n_mlt, n_m2ne, n_m2ne', n_m1ne, n_m1ne', not_true_eq_false, not_false_eq_true, false_implies, true_implies, and_self, true_and, and_true, Nat.not_lt, Nat.not_le, true_or, or_true, false_or, or_false, ne_eq, Nat.le_refl, Nat.lt_irrefl, implies_true, Nat.zero_add, Nat.add_zero, Classical.not_not]
  refine ⟨by omega, by omega, by omega, by omega, by omega, fun q => ?_, fun q => ?_⟩
  · -- one in the house is a foe, or would not let him sleep
    simp (disch := omega) only [ws_nil, ws_iconst, ws_bipush, ws_sipush, ws_lconst, ws_ldc_i, ws_ldc_s, ws_ldc_w_i, ws_ldc_w_s, ws_iload_0, ws_lload_0, ws_aload_0, ws_istore_0, ws_lstore_0, ws_astore_0, ws_iload_1, ws_lload_1, ws_aload_1, ws_istore_1, ws_lstore_1, ws_astore_1, ws_iload_2, ws_lload_2, ws_aload_2, ws_istore_2, ws_lstore_2, ws_astore_2, ws_iload_3, ws_lload_3, ws_aload_3, ws_istore_3, ws_lstore_3, ws_astore_3, ws_iload, ws_aload, ws_istore, ws_astore, ws_iinc, ws_iadd, ws_isub, ws_imul, ws_iand, ws_ior, ws_ixor, ws_ishl, ws_ishr, ws_iushr, ws_idiv, ws_irem, ws_ineg, ws_i2l, ws_l2i, ws_ladd, ws_lmul, ws_lcmp, ws_dup_i, ws_pop_i, ws_dup_r, ws_pop_r, ws_dup2, ws_if_eq, ws_icmp_eq, ws_if_ne, ws_icmp_ne, ws_if_lt, ws_icmp_lt, ws_if_ge, ws_icmp_ge, ws_if_gt, ws_icmp_gt, ws_if_le, ws_icmp_le, ws_goto, ws_table, ws_get_0, ws_get_1, ws_get_2, ws_get_3, ws_put_0, ws_put_1, ws_put_2, ws_put_3, ws_iaload, ws_laload, ws_aaload, ws_iastore, ws_lastore, ws_alen, ws_ret_int, ws_ret_boolean, ws_ret_long, ws_ret_ref, ws_ret_void, ws_iv_0, ws_iv_1, ws_iv_2, ws_iv_3, ws_iv_4, ws_iv_5, ws_is_1, ws_is_2, ws_is_3, ws_is_4, ws_is_5, ws_slen, ws_schar, ws_max, ws_min, ws_copy, go_some, g_li_0, g_li_1, g_li_2, g_li_3, g_li_4, g_li_5, g_li_6, g_li_7, g_li_8, g_li_9, g_li_10, g_li_11, g_li_12, g_li_13, g_li_14, g_li_15, g_li_16, g_li_17, g_li_18, g_li_19, g_ll_0, g_ll_1, g_ll_2, g_ll_3, g_ll_4, g_ll_5, g_ll_6, g_ll_7, g_ll_8, g_ll_9, g_lr_0, g_lr_1, g_lr_2, g_lr_3, g_lr_4, g_lr_5, g_lr_6, g_lr_7, g_lr_8, g_lr_9, g_st_0, g_st_1i, g_st_1r, g_st_1n, g_st_1o, g_st_2, g_st_3, g_st_4, g_st_5, g_st_6, g_st_7, g_st_8, g_st_9, g_st_10, g_st_11, g_st_12, g_st_13, g_st_14, g_st_15, g_st_16, g_st_17, g_st_18, g_st_19, g_st2_1, gN_0, gN_1, gN_2, gN_3, gN_4, gN_5, gN_6, gN_7, gN_8, gN_9, to_some, to_none, ci_m2, ci_m1, ci_0, ci_1, ci_2, ci_3, ci_4, ci_5, cb_m2, cb_6, cb_7, cb_8, cb_9, cb_10, cb_11, cb_12, cb_13, cb_16, cb_20, cb_24, cb_27, cb_30, cb_32, cb_40, cb_41, cb_42, cb_48, cb_57, cb_59, cb_60, cb_63, cb_74, cb_75, cb_80, cb_90, cb_97, cb_99, cb_100, cb_120, cb_122, cs_130, cs_150, cs_162, cs_180, cs_190, cs_202, cs_214, cs_230, cs_255, cs_262, cs_358, cs_410, cs_786, cs_900, cs_2882, cs_3144, cs_4096, ci_m8, gb_n, gb_i1, gb_r1, gb_i2, gb_r2, gb_l2, gb_i3, gb_r3, gb_l3, gb_i4, gb_r4, gb_l4, gb_i5, gb_r5, gb_l5, gb_i6, gb_r6, gb_l6, gb_i7, gb_r7, gb_l7, gb_i8, gb_r8, gb_l8, Nat.reduceAdd, Nat.reduceSub, Nat.reduceLeDiff, List.length_nil, List.length_cons, true_and, and_true, Nat.reduceMul, Nat.reduceLT, Nat.reduceEqDiff, b_Finder_fillBed_1, fl0, fl4, fl5, fl6, fl8, fl9, fl10, fl11, fl12, fl14, fl17, fk1, fk2, fk3, fk4, fk5, fk6, fk7, fk8, fk9, fk10, fk11, fk12]
    refine hskip (fun l hl => hbad l hl (fun hx => lv_bad hN hk (om := om) (fun hoki => ?_) hl hx.1))
    apply q
    rw [mk_meet, ← Bool.not_eq_true, anyN_iff]
    rintro ⟨q', a1, a2⟩
    rw [Bool.and_eq_true, inB_iff, Nat.testBit_or, mkN_bit] at a2
    obtain ⟨⟨j, b1, rfl, b2, b3⟩, b4⟩ := a2
    have hwj' := hN.2.1 j (by omega)
    have := (hoki.2.2 j b1).2 ⟨by rw [fup_at]; omega, by rw [fup_oth (hwj j b1)]; exact b2, by rw [fup_at, fup_oth (hwj j b1), b3]; rfl⟩
    simp only [hwj', decide_true, Bool.true_and] at b4
    unfold zConf zFoe at this
    rw [this] at b4
    cases b4
  · have hoki : okI T w om (fup g (w i) (b + 1)) i := by
      refine ⟨by rw [fup_at]; exact hopen, by rw [fup_at]; omega, fun j hj => ⟨fun _ e => ?_, fun hs => ?_⟩⟩
      · rw [fup_at, fup_oth (hwj j hj)] at e
        rw [← Bool.not_eq_true] at hfree
        exact hfree (tkB_iff.mpr ⟨j, hj, e⟩)
      · obtain ⟨s1, s2, s3⟩ := hs
        rw [fup_oth (hwj j hj)] at s2 s3
        rw [fup_at] at s3
        rw [mk_meet, ← Bool.not_eq_true, anyN_iff] at q
        have hwj' := hN.2.1 j (by omega)
        rw [← Bool.not_eq_true]
        intro hc
        refine q ⟨w j, by omega, ?_⟩
        rw [Bool.and_eq_true, inB_iff, Nat.testBit_or, mkN_bit]
        refine ⟨⟨j, hj, rfl, s2, s3.symm⟩, ?_⟩
        simp only [hwj', decide_true, Bool.true_and]
        exact hc
    have hA' : okA T w om (fup g (w i) (b + 1)) (i + 1) := fun i' hi' => by
      by_cases e : i' = i
      · subst e; exact hoki
      · exact (okI_congr (fun j hj => fup_oth (hwj j (by omega)))).mpr (hA i' (by omega))
    have hb0 : (mkN (tkB w g i) 12).testBit b = false := by rw [mkN_bit, hfree, Bool.and_false]
    have hi0 : (mkN (inB T w g i (T 7 b)) 10).testBit (w i) = false := by
      rw [mkN_bit, Bool.and_eq_false_iff]
      right
      rw [← Bool.not_eq_true, inB_iff]
      rintro ⟨j, a1, a2, _⟩
      exact hwj j a1 a2
    have e7 := tk_bed (g := g) hN hi (show b < 12 by omega)
    have e4 := in_bed (b := b) (g := g) hN hT.2.2 hi
    obtain ⟨sc0, sc1, sc2⟩ := sc_step (T := T) (S := S) (g := g) (v := b + 1) hN hi
    refine c_isLeftAlone (d := d + 2 * k + 3) hT hF hD hN hi (by omega) (fun cB hcB => ?_)
    cases cB with
    | true =>
      obtain ⟨c1, c2⟩ := hcB rfl
      simp (disch := omega) only [ws_nil, ws_iconst, ws_bipush, ws_sipush, ws_lconst, ws_ldc_i, ws_ldc_s, ws_ldc_w_i, ws_ldc_w_s, ws_iload_0, ws_lload_0, ws_aload_0, ws_istore_0, ws_lstore_0, ws_astore_0, ws_iload_1, ws_lload_1, ws_aload_1, ws_istore_1, ws_lstore_1, ws_astore_1, ws_iload_2, ws_lload_2, ws_aload_2, ws_istore_2, ws_lstore_2, ws_astore_2, ws_iload_3, ws_lload_3, ws_aload_3, ws_istore_3, ws_lstore_3, ws_astore_3, ws_iload, ws_aload, ws_istore, ws_astore, ws_iinc, ws_iadd, ws_isub, ws_imul, ws_iand, ws_ior, ws_ixor, ws_ishl, ws_ishr, ws_iushr, ws_idiv, ws_irem, ws_ineg, ws_i2l, ws_l2i, ws_ladd, ws_lmul, ws_lcmp, ws_dup_i, ws_pop_i, ws_dup_r, ws_pop_r, ws_dup2, ws_if_eq, ws_icmp_eq, ws_if_ne, ws_icmp_ne, ws_if_lt, ws_icmp_lt, ws_if_ge, ws_icmp_ge, ws_if_gt, ws_icmp_gt, ws_if_le, ws_icmp_le, ws_goto, ws_table, ws_get_0, ws_get_1, ws_get_2, ws_get_3, ws_put_0, ws_put_1, ws_put_2, ws_put_3, ws_iaload, ws_laload, ws_aaload, ws_iastore, ws_lastore, ws_alen, ws_ret_int, ws_ret_boolean, ws_ret_long, ws_ret_ref, ws_ret_void, ws_iv_0, ws_iv_1, ws_iv_2, ws_iv_3, ws_iv_4, ws_iv_5, ws_is_1, ws_is_2, ws_is_3, ws_is_4, ws_is_5, ws_slen, ws_schar, ws_max, ws_min, ws_copy, go_some, g_li_0, g_li_1, g_li_2, g_li_3, g_li_4, g_li_5, g_li_6, g_li_7, g_li_8, g_li_9, g_li_10, g_li_11, g_li_12, g_li_13, g_li_14, g_li_15, g_li_16, g_li_17, g_li_18, g_li_19, g_ll_0, g_ll_1, g_ll_2, g_ll_3, g_ll_4, g_ll_5, g_ll_6, g_ll_7, g_ll_8, g_ll_9, g_lr_0, g_lr_1, g_lr_2, g_lr_3, g_lr_4, g_lr_5, g_lr_6, g_lr_7, g_lr_8, g_lr_9, g_st_0, g_st_1i, g_st_1r, g_st_1n, g_st_1o, g_st_2, g_st_3, g_st_4, g_st_5, g_st_6, g_st_7, g_st_8, g_st_9, g_st_10, g_st_11, g_st_12, g_st_13, g_st_14, g_st_15, g_st_16, g_st_17, g_st_18, g_st_19, g_st2_1, gN_0, gN_1, gN_2, gN_3, gN_4, gN_5, gN_6, gN_7, gN_8, gN_9, to_some, to_none, ci_m2, ci_m1, ci_0, ci_1, ci_2, ci_3, ci_4, ci_5, cb_m2, cb_6, cb_7, cb_8, cb_9, cb_10, cb_11, cb_12, cb_13, cb_16, cb_20, cb_24, cb_27, cb_30, cb_32, cb_40, cb_41, cb_42, cb_48, cb_57, cb_59, cb_60, cb_63, cb_74, cb_75, cb_80, cb_90, cb_97, cb_99, cb_100, cb_120, cb_122, cs_130, cs_150, cs_162, cs_180, cs_190, cs_202, cs_214, cs_230, cs_255, cs_262, cs_358, cs_410, cs_786, cs_900, cs_2882, cs_3144, cs_4096, ci_m8, gb_n, gb_i1, gb_r1, gb_i2, gb_r2, gb_l2, gb_i3, gb_r3, gb_l3, gb_i4, gb_r4, gb_l4, gb_i5, gb_r5, gb_l5, gb_i6, gb_r6, gb_l6, gb_i7, gb_r7, gb_l7, gb_i8, gb_r8, gb_l8, Nat.reduceAdd, Nat.reduceSub, Nat.reduceLeDiff, List.length_nil, List.length_cons, true_and, and_true, Nat.reduceMul, Nat.reduceLT, Nat.reduceEqDiff, b_Finder_fillBed_1, fl0, fl4, fl5, fl6, fl8, fl9, fl10, fl11, fl12, fl14, fl17, fk1, fk2, fk3, fk4, fk5, fk6, fk7, fk8, fk9, fk10, fk11, fk12, Bool.toNat_true, n_ite, n_lt, n_le, n_eq, n_lt0, n_ge0, n_gt0, n_le0, n_eq0, n_eq1, n_cl, n_in, n_add, n_mul, n_sub, n_and, n_or, n_shl, n_shr, n_m2lt0, n_m2ge0, n_m1lt0, n_m1ge0, n_mlt, n_m2ne, n_m2ne', n_m1ne, n_m1ne', not_true_eq_false, not_false_eq_true, false_implies, true_implies, and_self, true_and, and_true, Nat.not_lt, Nat.not_le, true_or, or_true, false_or, or_false, ne_eq, Nat.le_refl, Nat.lt_irrefl, implies_true, Nat.zero_add, Nat.add_zero, Classical.not_not]
      refine hskip (fun l hl => hbad l hl (fun hx => lv_alone hN hk c1 (by rw [fup_at]; omega) (fun q' hq' => c2 q' ?_) hl hx.2))
      rw [fup_at] at hq'
      rcases hq' with hq' | hq'
      · left
        rw [inB_iff] at hq' ⊢
        obtain ⟨j, a1, rfl, a2, a3⟩ := hq'
        rw [fup_oth (hwj j a1)] at a2 a3
        exact ⟨j, a1, rfl, a2, a3⟩
      · exact Or.inr hq'
    | false =>
      have fall : ∀ h, h < 6 → h ≠ T 7 b → I (f + 4) h = nI (mkN (inB T w (fup g (w i) (b + 1)) (i + 1) h) 10) := fun h h1 h2 => by rw [in_bed' hN hi h2]; exact d4 h h1
      simp (disch := omega) only [ws_nil, ws_iconst, ws_bipush, ws_sipush, ws_lconst, ws_ldc_i, ws_ldc_s, ws_ldc_w_i, ws_ldc_w_s, ws_iload_0, ws_lload_0, ws_aload_0, ws_istore_0, ws_lstore_0, ws_astore_0, ws_iload_1, ws_lload_1, ws_aload_1, ws_istore_1, ws_lstore_1, ws_astore_1, ws_iload_2, ws_lload_2, ws_aload_2, ws_istore_2, ws_lstore_2, ws_astore_2, ws_iload_3, ws_lload_3, ws_aload_3, ws_istore_3, ws_lstore_3, ws_astore_3, ws_iload, ws_aload, ws_istore, ws_astore, ws_iinc, ws_iadd, ws_isub, ws_imul, ws_iand, ws_ior, ws_ixor, ws_ishl, ws_ishr, ws_iushr, ws_idiv, ws_irem, ws_ineg, ws_i2l, ws_l2i, ws_ladd, ws_lmul, ws_lcmp, ws_dup_i, ws_pop_i, ws_dup_r, ws_pop_r, ws_dup2, ws_if_eq, ws_icmp_eq, ws_if_ne, ws_icmp_ne, ws_if_lt, ws_icmp_lt, ws_if_ge, ws_icmp_ge, ws_if_gt, ws_icmp_gt, ws_if_le, ws_icmp_le, ws_goto, ws_table, ws_get_0, ws_get_1, ws_get_2, ws_get_3, ws_put_0, ws_put_1, ws_put_2, ws_put_3, ws_iaload, ws_laload, ws_aaload, ws_iastore, ws_lastore, ws_alen, ws_ret_int, ws_ret_boolean, ws_ret_long, ws_ret_ref, ws_ret_void, ws_iv_0, ws_iv_1, ws_iv_2, ws_iv_3, ws_iv_4, ws_iv_5, ws_is_1, ws_is_2, ws_is_3, ws_is_4, ws_is_5, ws_slen, ws_schar, ws_max, ws_min, ws_copy, go_some, g_li_0, g_li_1, g_li_2, g_li_3, g_li_4, g_li_5, g_li_6, g_li_7, g_li_8, g_li_9, g_li_10, g_li_11, g_li_12, g_li_13, g_li_14, g_li_15, g_li_16, g_li_17, g_li_18, g_li_19, g_ll_0, g_ll_1, g_ll_2, g_ll_3, g_ll_4, g_ll_5, g_ll_6, g_ll_7, g_ll_8, g_ll_9, g_lr_0, g_lr_1, g_lr_2, g_lr_3, g_lr_4, g_lr_5, g_lr_6, g_lr_7, g_lr_8, g_lr_9, g_st_0, g_st_1i, g_st_1r, g_st_1n, g_st_1o, g_st_2, g_st_3, g_st_4, g_st_5, g_st_6, g_st_7, g_st_8, g_st_9, g_st_10, g_st_11, g_st_12, g_st_13, g_st_14, g_st_15, g_st_16, g_st_17, g_st_18, g_st_19, g_st2_1, gN_0, gN_1, gN_2, gN_3, gN_4, gN_5, gN_6, gN_7, gN_8, gN_9, to_some, to_none, ci_m2, ci_m1, ci_0, ci_1, ci_2, ci_3, ci_4, ci_5, cb_m2, cb_6, cb_7, cb_8, cb_9, cb_10, cb_11, cb_12, cb_13, cb_16, cb_20, cb_24, cb_27, cb_30, cb_32, cb_40, cb_41, cb_42, cb_48, cb_57, cb_59, cb_60, cb_63, cb_74, cb_75, cb_80, cb_90, cb_97, cb_99, cb_100, cb_120, cb_122, cs_130, cs_150, cs_162, cs_180, cs_190, cs_202, cs_214, cs_230, cs_255, cs_262, cs_358, cs_410, cs_786, cs_900, cs_2882, cs_3144, cs_4096, ci_m8, gb_n, gb_i1, gb_r1, gb_i2, gb_r2, gb_l2, gb_i3, gb_r3, gb_l3, gb_i4, gb_r4, gb_l4, gb_i5, gb_r5, gb_l5, gb_i6, gb_r6, gb_l6, gb_i7, gb_r7, gb_l7, gb_i8, gb_r8, gb_l8, Nat.reduceAdd, Nat.reduceSub, Nat.reduceLeDiff, List.length_nil, List.length_cons, true_and, and_true, Nat.reduceMul, Nat.reduceLT, Nat.reduceEqDiff, b_Finder_fillBed_2, fl0, fl4, fl5, fl6, fl8, fl9, fl10, fl11, fl12, fl14, fl17, fk1, fk2, fk3, fk4, fk5, fk6, fk7, fk8, fk9, fk10, fk11, fk12, ff1, d4, d7, Bool.toNat_false, c_wantsOf hT, c_add fk5, gU_same, gU_oth, lt0, lt1, lt2, lt3, lt4, lt5, lt6, lt7, lt8, lt9, lt10, lt11, lt12, lt13, lt14, lt15, lt16, lt17, lt18, lt19, lt20, lt21, lt22, lt23, lt24, lt25, lt26, lt27, lt28, lt29, lt30, rt0, rt1, rt2, rt3, rt4, rt5, rt6, rt7, rt8, rt9, rt10, rt11, rt12, rt13, rt14, rt15, rt16, rt17, rt18, rt19, n_ite, n_lt, n_le, n_eq, n_lt0, n_ge0, n_gt0, n_le0, n_eq0, n_eq1, n_cl, n_in, n_add, n_mul, n_sub, n_and, n_or, n_shl, n_shr, n_m2lt0, n_m2ge0, n_m1lt0, n_m1ge0, n_mlt, n_m2ne, n_m2ne', n_m1ne, n_m1ne', not_true_eq_false, not_false_eq_true, false_implies, true_implies, and_self, true_and, and_true, Nat.not_lt, Nat.not_le, true_or, or_true, false_or, or_false, ne_eq, Nat.le_refl, Nat.lt_irrefl, implies_true, Nat.zero_add, Nat.add_zero, Classical.not_not]
      rw [Nat.one_mul, Nat.one_mul]
      refine ⟨by omega, by omega, by omega, ?_⟩
      refine IH (i + 1) (fup g (w i) (b + 1)) o _ _ (by omega) (XT_F hT (fun a ha => (by simp (disch := omega) only [gU_same, gU_oth, upd_same, upd_oth])) hd) (XFs_of hF hn5 (by simp (disch := omega) only [gU_same, gU_oth, upd_same, upd_oth]) (by simp (disch := omega) only [gU_same, gU_oth, upd_same, upd_oth]) (by simp (disch := omega) only [gU_same, gU_oth, upd_same, upd_oth]) (by simp (disch := omega) only [gU_same, gU_oth, upd_same, upd_oth]) (by simp (disch := omega) only [gU_same, gU_oth, upd_same, upd_oth]) (fun j hj => (by simp (disch := omega) only [gU_same, gU_oth, upd_same, upd_oth]))) ?_ (XFo_of hO (by simp (disch := omega) only [gU_same, gU_oth, upd_same, upd_oth]) (by simp (disch := omega) only [gU_same, gU_oth, upd_same, upd_oth]) (by simp (disch := omega) only [gU_same, gU_oth, upd_same, upd_oth]) (by simp (disch := omega) only [gU_same, gU_oth, upd_same, upd_oth])) hA' (g0_step hg0) hbo (fun J hFJ hDJ hOJ hRJ => ?_)
      · refine ⟨fun j hj => ?_, ?_, fun h hh => ?_, fun e1 => ?_⟩
        · simp (disch := omega) only [gU_same, gU_oth]
          by_cases e : j = i
          · subst e; rw [upd_same, fup_at]; rfl
          · rw [upd_oth e, fup_oth (hwj j (by omega))]; exact d3 j (by omega)
        · simp (disch := omega) only [gU_same, gU_oth, upd_same]
          rw [← e7]
        · simp (disch := omega) only [gU_same, gU_oth]
          by_cases e : h = T 7 b
          · subst e; rw [upd_same, ← e4]
          · rw [upd_oth e]; exact fall h hh e
        · obtain ⟨q0, q1, q2⟩ := d5 e1
          simp (disch := omega) only [gU_same, gU_oth, upd_same, upd_oth]
          rw [sc0, sc1, sc2, q0, q1, q2, if_neg (by omega), if_neg (by omega), if_neg (by omega)]
          exact ⟨by rw [n_add], by rw [n_add], by rw [n_add]; rfl⟩
      · obtain ⟨j3, j7, j4, j5⟩ := id hDJ
        have j4h := j4 (T 7 b) (by omega)
        rw [← e4] at j4h
        rw [← e7] at j7
        simp (disch := omega) only [ws_nil, ws_iconst, ws_bipush, ws_sipush, ws_lconst, ws_ldc_i, ws_ldc_s, ws_ldc_w_i, ws_ldc_w_s, ws_iload_0, ws_lload_0, ws_aload_0, ws_istore_0, ws_lstore_0, ws_astore_0, ws_iload_1, ws_lload_1, ws_aload_1, ws_istore_1, ws_lstore_1, ws_astore_1, ws_iload_2, ws_lload_2, ws_aload_2, ws_istore_2, ws_lstore_2, ws_astore_2, ws_iload_3, ws_lload_3, ws_aload_3, ws_istore_3, ws_lstore_3, ws_astore_3, ws_iload, ws_aload, ws_istore, ws_astore, ws_iinc, ws_iadd, ws_isub, ws_imul, ws_iand, ws_ior, ws_ixor, ws_ishl, ws_ishr, ws_iushr, ws_idiv, ws_irem, ws_ineg, ws_i2l, ws_l2i, ws_ladd, ws_lmul, ws_lcmp, ws_dup_i, ws_pop_i, ws_dup_r, ws_pop_r, ws_dup2, ws_if_eq, ws_icmp_eq, ws_if_ne, ws_icmp_ne, ws_if_lt, ws_icmp_lt, ws_if_ge, ws_icmp_ge, ws_if_gt, ws_icmp_gt, ws_if_le, ws_icmp_le, ws_goto, ws_table, ws_get_0, ws_get_1, ws_get_2, ws_get_3, ws_put_0, ws_put_1, ws_put_2, ws_put_3, ws_iaload, ws_laload, ws_aaload, ws_iastore, ws_lastore, ws_alen, ws_ret_int, ws_ret_boolean, ws_ret_long, ws_ret_ref, ws_ret_void, ws_iv_0, ws_iv_1, ws_iv_2, ws_iv_3, ws_iv_4, ws_iv_5, ws_is_1, ws_is_2, ws_is_3, ws_is_4, ws_is_5, ws_slen, ws_schar, ws_max, ws_min, ws_copy, go_some, g_li_0, g_li_1, g_li_2, g_li_3, g_li_4, g_li_5, g_li_6, g_li_7, g_li_8, g_li_9, g_li_10, g_li_11, g_li_12, g_li_13, g_li_14, g_li_15, g_li_16, g_li_17, g_li_18, g_li_19, g_ll_0, g_ll_1, g_ll_2, g_ll_3, g_ll_4, g_ll_5, g_ll_6, g_ll_7, g_ll_8, g_ll_9, g_lr_0, g_lr_1, g_lr_2, g_lr_3, g_lr_4, g_lr_5, g_lr_6, g_lr_7, g_lr_8, g_lr_9, g_st_0, g_st_1i, g_st_1r, g_st_1n, g_st_1o, g_st_2, g_st_3, g_st_4, g_st_5, g_st_6, g_st_7, g_st_8, g_st_9, g_st_10, g_st_11, g_st_12, g_st_13, g_st_14, g_st_15, g_st_16, g_st_17, g_st_18, g_st_19, g_st2_1, gN_0, gN_1, gN_2, gN_3, gN_4, gN_5, gN_6, gN_7, gN_8, gN_9, to_some, to_none, ci_m2, ci_m1, ci_0, ci_1, ci_2, ci_3, ci_4, ci_5, cb_m2, cb_6, cb_7, cb_8, cb_9, cb_10, cb_11, cb_12, cb_13, cb_16, cb_20, cb_24, cb_27, cb_30, cb_32, cb_40, cb_41, cb_42, cb_48, cb_57, cb_59, cb_60, cb_63, cb_74, cb_75, cb_80, cb_90, cb_97, cb_99, cb_100, cb_120, cb_122, cs_130, cs_150, cs_162, cs_180, cs_190, cs_202, cs_214, cs_230, cs_255, cs_262, cs_358, cs_410, cs_786, cs_900, cs_2882, cs_3144, cs_4096, ci_m8, gb_n, gb_i1, gb_r1, gb_i2, gb_r2, gb_l2, gb_i3, gb_r3, gb_l3, gb_i4, gb_r4, gb_l4, gb_i5, gb_r5, gb_l5, gb_i6, gb_r6, gb_l6, gb_i7, gb_r7, gb_l7, gb_i8, gb_r8, gb_l8, Nat.reduceAdd, Nat.reduceSub, Nat.reduceLeDiff, List.length_nil, List.length_cons, true_and, and_true, Nat.reduceMul, Nat.reduceLT, Nat.reduceEqDiff, fl0, fl4, fl5, fl6, fl8, fl9, fl10, fl11, fl12, fl14, fl17, fk1, fk2, fk3, fk4, fk5, fk6, fk7, fk8, fk9, fk10, fk11, fk12, j4h, j7, c_add fk5, gU_same, gU_oth, n_clr hi0, n_clr hb0, lt0, lt1, lt2, lt3, lt4, lt5, lt6, lt7, lt8, lt9, lt10, lt11, lt12, lt13, lt14, lt15, lt16, lt17, lt18, lt19, lt20, lt21, lt22, lt23, lt24, lt25, lt26, lt27, lt28, lt29, lt30, rt0, rt1, rt2, rt3, rt4, rt5, rt6, rt7, rt8, rt9, rt10, rt11, rt12, rt13, rt14, rt15, rt16, rt17, rt18, rt19, n_ite, n_lt, n_le, n_eq, n_lt0, n_ge0, n_gt0, n_le0, n_eq0, n_eq1, n_cl, n_in, n_add, n_mul, n_sub, n_and, n_or, n_shl, n_shr, n_m2lt0, n_m2ge0, n_m1lt0, n_m1ge0, n_mlt, n_m2ne, n_m2ne', n_m1ne, n_m1ne', not_true_eq_false, not_false_eq_true, false_implies, true_implies, and_self, true_and, and_true, Nat.not_lt, Nat.not_le, true_or, or_true, false_or, or_false, ne_eq, Nat.le_refl, Nat.lt_irrefl, implies_true, Nat.zero_add, Nat.add_zero, Classical.not_not]
        simp only [Nat.one_mul, n_clr hi0, n_clr hb0]
        refine ⟨by omega, by omega, hQ _ (XFs_of hFJ hn5 (by simp (disch := omega) only [gU_same, gU_oth, upd_same, upd_oth]) (by simp (disch := omega) only [gU_same, gU_oth, upd_same, upd_oth]) (by simp (disch := omega) only [gU_same, gU_oth, upd_same, upd_oth]) (by simp (disch := omega) only [gU_same, gU_oth, upd_same, upd_oth]) (by simp (disch := omega) only [gU_same, gU_oth, upd_same, upd_oth]) (fun j hj => (by simp (disch := omega) only [gU_same, gU_oth, upd_same, upd_oth]))) ?_ (XFo_of hOJ (by simp (disch := omega) only [gU_same, gU_oth, upd_same, upd_oth]) (by simp (disch := omega) only [gU_same, gU_oth, upd_same, upd_oth]) (by simp (disch := omega) only [gU_same, gU_oth, upd_same, upd_oth]) (by simp (disch := omega) only [gU_same, gU_oth, upd_same, upd_oth])) ?_⟩
        · refine ⟨fun j hj => ?_, ?_, fun h hh => ?_, fun e1 => ?_⟩
          · simp (disch := omega) only [gU_same, gU_oth]
            rw [j3 j (by omega), fup_oth (hwj j hj)]
          · simp (disch := omega) only [gU_same, gU_oth, upd_same]
          · simp (disch := omega) only [gU_same, gU_oth]
            by_cases e : h = T 7 b
            · subst e; rw [upd_same]
            · rw [upd_oth e, j4 h hh, in_bed' hN hi e]
          · obtain ⟨q0, q1, q2⟩ := j5 e1
            simp (disch := omega) only [gU_same, gU_oth, upd_same, upd_oth]
            rw [q0, q1, q2, sc0, sc1, sc2, if_neg (by omega), if_neg (by omega), if_neg (by omega)]
            refine ⟨?_, ?_, n_addneg⟩
            · rw [n_add]; rfl
            · rw [n_add]; rfl
        · obtain ⟨r0, r1, r2, r3⟩ := hRJ
          refine ⟨fun a ha => ?_, fun x h1 h2 => ?_, fun e1 => ?_, fun e1 => ?_⟩
          · simp (disch := omega) only [gU_same, gU_oth]
            rw [r0 a ha]
            simp (disch := omega) only [gU_same, gU_oth, upd_same, upd_oth]
          · simp (disch := omega) only [gU_same, gU_oth, upd_oth]
            rw [r1 x h1 h2]
            simp (disch := omega) only [gU_same, gU_oth, upd_same, upd_oth]
          · obtain ⟨s1, s2⟩ := r2 e1
            simp (disch := omega) only [gU_same, gU_oth, upd_oth]
            rw [s1, s2]
            constructor
            · simp (disch := omega) only [gU_same, gU_oth, upd_same, upd_oth]
            · simp (disch := omega) only [gU_same, gU_oth, upd_same, upd_oth]
          · simp (disch := omega) only [gU_same, gU_oth, upd_oth]
            rw [r3 e1]
            simp (disch := omega) only [gU_same, gU_oth, upd_same, upd_oth]
end FN3
