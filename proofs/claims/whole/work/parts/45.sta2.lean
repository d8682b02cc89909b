/-! State: what is wrong; more reads -/
section STB
variable {d s t p q h b a k : Nat} {E : gE} {I : Nat → Nat → Int32} {L : Nat → Nat → Int64} {T S : zA} {Q : Option Value → gM → Prop}
theorem fv_lt0 {n r : Nat} (hn : n < 2147483648) : (fv n r < 0) = ¬ (r < n) := by
  unfold fv
  split
  · rw [n_lt0 (by omega)]; simp; assumption
  · simp; omega
theorem fv_ge {n r p : Nat} (hn : n < 2147483648) (hp : p < 2147483648) : (nI p ≤ fv n r) = (r < n ∧ p ≤ r) := by
  unfold fv
  split
  · rw [n_le (by omega) (by omega)]; simp; omega
  · apply propext
    constructor
    · intro h
      exfalso
      have h1 := Int32.le_iff_toInt_le.mp h
      rw [nI_toInt hp] at h1
      have h2 : (-2 : Int32).toInt = -2 := rfl
      omega
    · rintro ⟨h1, -⟩; omega
theorem and_lt31 {a b : Nat} (h : a < 2 ^ 10) : a &&& b < 2147483648 := Nat.lt_of_le_of_lt Nat.and_le_left (by omega)
theorem b2n (b : Bool) : b.toNat < 2 := Bool.toNat_lt b
theorem b2n_0 {b : Bool} : (b.toNat = 0) = (b = false) := by cases b <;> simp
theorem zIn_lt (T S : zA) (p h : Nat) (hn : zP T ≤ 10) : mkN (zIn T S p h) (zP T) < 2 ^ 10 := mkN_lt hn
theorem meet_jar {T S : zA} {p h : Nat} : (mkN (zIn T S p h) (zP T) &&& mkN (zJar T p) (zP T) = 0) = (anyN (fun q => zIn T S p h q && zJar T p q) (zP T) = false) := by
  rw [propext mk_meet]
  rw [anyN_congr (c' := fun q => zIn T S p h q && zJar T p q) (fun q hq => by rw [mkN_bit]; simp [hq])]
theorem meet_eld {T S : zA} {p h : Nat} : (mkN (zIn T S p h) (zP T) &&& mkN (zEld T p) (zP T) = 0) = (anyN (fun q => zIn T S p h q && zEld T p q) (zP T) = false) := by
  rw [propext mk_meet]
  rw [anyN_congr (c' := fun q => zIn T S p h q && zEld T p q) (fun q hq => by rw [mkN_bit]; simp [hq])]
theorem meet_foe {T S : zA} {p h : Nat} : (mkN (zIn T S p h) (zP T) &&& T 12 p = 0) = (anyN (fun q => zIn T S p h q && zFoe T p q) (zP T) = false) := propext mk_meet
theorem zWrong_lt (T S : zA) (p b : Nat) : zWrong T S p b < 8 := by
  unfold zWrong
  repeat' split
  all_goals omega
theorem c_wrongAt (hT : XT E I t T) (hS : XS E I s T S) (hp : p < zP T) (hb : b < zB T) : gm (d + 3) 102 [.ref s, .ref t, .int (nI p), .int (nI b)] (E, I, L) Q = Q (some (.int (nI (zWrong T S p b)))) (E, I, L) := by
  refine gm_eq (fun Q hQ => ?_) Q
  obtain ⟨hTl, hTr, hTz⟩ := id hT
  obtain ⟨lt0, lt1, lt2, lt3, lt4, lt5, lt6, lt7, lt8, lt9, lt10, lt11, lt12, lt13, lt14, lt15, lt16, lt17, lt18, lt19, lt20, lt21, lt22, lt23, lt24, lt25, lt26, lt27, lt28, lt29, lt30⟩ := hTl
  obtain ⟨rt0, rt1, rt2, rt3, rt4, rt5, rt6, rt7, rt8, rt9, rt10, rt11, rt12, rt13, rt14, rt15, rt16, rt17, rt18, rt19⟩ := hTr
  obtain ⟨zt0, zt1, zt2, zt3, zt4, zt5, zt6, zt7, zt8, zt9, zt10, zt11⟩ := hTz
  obtain ⟨hSl, hSr, hSz⟩ := id hS
  obtain ⟨ls0, ls1, ls2, ls3, ls4, ls5, ls6, ls7, ls8, ls9, ls10⟩ := hSl
  obtain ⟨rs0, rs1, rs2, rs3, rs4, rs5, rs6, rs7⟩ := hSr
  obtain ⟨zs0, zs1, zs2⟩ := hSz
  have h1 := zt6 b hb
  have h2 := zt7 p hp
  have h3 := zSP_lt hT.2.2 hp
  have h4 := zSB_lt hT.2.2 hb
  have h5 := zIn_lt T S p (T 7 b) zt2
  have h6 := and_lt31 (b := T 12 p) h5
  have h7 := and_lt31 (b := mkN (zJar T p) (zP T)) h5
  have h8 := and_lt31 (b := mkN (zEld T p) (zP T)) h5
  have h9 := b2n (zLate T S p b)
  have h10 := (zs0 p hp).2.2.2.1
  rw [en_State_wrongAt]
  simp (disch := omega) only [ws_nil, ws_iconst, ws_bipush, ws_sipush, ws_lconst, ws_ldc_i, ws_ldc_s, ws_ldc_w_i, ws_ldc_w_s, ws_iload_0, ws_lload_0, ws_aload_0, ws_istore_0, ws_lstore_0, ws_astore_0, ws_iload_1, ws_lload_1, ws_aload_1, ws_istore_1, ws_lstore_1, ws_astore_1, ws_iload_2, ws_lload_2, ws_aload_2, ws_istore_2, ws_lstore_2, ws_astore_2, ws_iload_3, ws_lload_3, ws_aload_3, ws_istore_3, ws_lstore_3, ws_astore_3, ws_iload, ws_aload, ws_istore, ws_astore, ws_iinc, ws_iadd, ws_isub, ws_imul, ws_iand, ws_ior, ws_ixor, ws_ishl, ws_ishr, ws_iushr, ws_idiv, ws_irem, ws_ineg, ws_i2l, ws_l2i, ws_ladd, ws_lmul, ws_lcmp, ws_dup_i, ws_pop_i, ws_dup_r, ws_pop_r, ws_dup2, ws_if_eq, ws_icmp_eq, ws_if_ne, ws_icmp_ne, ws_if_lt, ws_icmp_lt, ws_if_ge, ws_icmp_ge, ws_if_gt, ws_icmp_gt, ws_if_le, ws_icmp_le, ws_goto, ws_table, ws_get_0, ws_get_1, ws_get_2, ws_get_3, ws_put_0, ws_put_1, ws_put_2, ws_put_3, ws_iaload, ws_laload, ws_aaload, ws_iastore, ws_lastore, ws_alen, ws_ret_int, ws_ret_boolean, ws_ret_long, ws_ret_ref, ws_ret_void, ws_iv_0, ws_iv_1, ws_iv_2, ws_iv_3, ws_iv_4, ws_iv_5, ws_is_1, ws_is_2, ws_is_3, ws_is_4, ws_is_5, ws_slen, ws_schar, ws_max, ws_min, ws_copy, go_some, g_li_0, g_li_1, g_li_2, g_li_3, g_li_4, g_li_5, g_li_6, g_li_7, g_li_8, g_li_9, g_li_10, g_li_11, g_li_12, g_li_13, g_li_14, g_li_15, g_li_16, g_li_17, g_li_18, g_li_19, g_ll_0, g_ll_1, g_ll_2, g_ll_3, g_ll_4, g_ll_5, g_ll_6, g_ll_7, g_ll_8, g_ll_9, g_lr_0, g_lr_1, g_lr_2, g_lr_3, g_lr_4, g_lr_5, g_lr_6, g_lr_7, g_lr_8, g_lr_9, g_st_0, g_st_1i, g_st_1r, g_st_1n, g_st_1o, g_st_2, g_st_3, g_st_4, g_st_5, g_st_6, g_st_7, g_st_8, g_st_9, g_st_10, g_st_11, g_st_12, g_st_13, g_st_14, g_st_15, g_st_16, g_st_17, g_st_18, g_st_19, g_st2_1, gN_0, gN_1, gN_2, gN_3, gN_4, gN_5, gN_6, gN_7, gN_8, gN_9, to_some, to_none, ci_m2, ci_m1, ci_0, ci_1, ci_2, ci_3, ci_4, ci_5, cb_m2, cb_6, cb_7, cb_8, cb_9, cb_10, cb_11, cb_12, cb_13, cb_16, cb_20, cb_24, cb_27, cb_30, cb_32, cb_40, cb_41, cb_42, cb_48, cb_57, cb_59, cb_60, cb_63, cb_74, cb_75, cb_80, cb_90, cb_97, cb_99, cb_100, cb_120, cb_122, cs_130, cs_150, cs_162, cs_180, cs_190, cs_202, cs_214, cs_230, cs_255, cs_262, cs_358, cs_410, cs_786, cs_900, cs_2882, cs_3144, cs_4096, ci_m8, gb_n, gb_i1, gb_r1, gb_i2, gb_r2, gb_l2, gb_i3, gb_r3, gb_l3, gb_i4, gb_r4, gb_l4, gb_i5, gb_r5, gb_l5, gb_i6, gb_r6, gb_l6, gb_i7, gb_r7, gb_l7, gb_i8, gb_r8, gb_l8, Nat.reduceAdd, Nat.reduceSub, Nat.reduceLeDiff, List.length_nil, List.length_cons, true_and, and_true, Nat.reduceMul, Nat.reduceLT, Nat.reduceEqDiff, b_State_wrongAt_0, b_State_wrongAt_1, b_State_wrongAt_2, b_State_wrongAt_3, b_State_wrongAt_4, b_State_wrongAt_5, b_State_wrongAt_6, b_State_wrongAt_7, b_State_wrongAt_8, b_State_wrongAt_9, c_bedSide hT, c_sideOf hT, c_firstIn hT hS, c_sleptLately hT hS, c_othersIn hT hS, c_isIll hS zt2, fv_lt0, fv_ge, b2n_0, meet_foe, meet_jar, meet_eld, lt0, lt1, lt2, lt3, lt4, lt5, lt6, lt7, lt8, lt9, lt10, lt11, lt12, lt13, lt14, lt15, lt16, lt17, lt18, lt19, lt20, lt21, lt22, lt23, lt24, lt25, lt26, lt27, lt28, lt29, lt30, rt0, rt1, rt2, rt3, rt4, rt5, rt6, rt7, rt8, rt9, rt10, rt11, rt12, rt13, rt14, rt15, rt16, rt17, rt18, rt19, ls0, ls1, ls2, ls3, ls4, ls5, ls6, ls7, ls8, ls9, ls10, rs0, rs1, rs2, rs3, rs4, rs5, rs6, rs7, n_ite, n_lt, n_le, n_eq, n_lt0, n_ge0, n_gt0, n_le0, n_eq0, n_eq1, n_cl, n_in, n_add, n_mul, n_sub, n_and, n_or, n_shl, n_shr, n_m2lt0, n_m2ge0, n_m1lt0, n_m1ge0, n_mlt, n_m2ne, n_m2ne', n_m1ne, n_m1ne', not_true_eq_false, not_false_eq_true, false_implies, true_implies, and_self, true_and, and_true, Nat.not_lt, Nat.not_le, true_or, or_true, false_or, or_false, ne_eq, Nat.le_refl, Nat.lt_irrefl, implies_true, Nat.zero_add, Nat.add_zero, Classical.not_not]
  have hfa := firN_any (c := fun p => S 0 p == b + 1) (n := zP T) (m := p) (by omega)
  have hr : zWrong T S p b = (if zSB T b = zSP T p then 1 else if anyN (fun q => S 0 q == b + 1) p then 2 else if zLate T S p b then 3 else if anyN (fun q => zIn T S p (T 7 b) q && zFoe T p q) (zP T) then 4 else if anyN (fun q => zIn T S p (T 7 b) q && zJar T p q) (zP T) then 5 else if T 8 p = 3 ∧ anyN (fun q => zIn T S p (T 7 b) q && zEld T p q) (zP T) = false then 6 else if S 5 p = 0 then 0 else 7) := rfl
  have p10 : (p < 10) = True := eq_true (by omega)
  have b12 : (b < 12) = True := eq_true (by omega)
  rw [hr] at hQ
  generalize anyN (fun q => zIn T S p (T 7 b) q && zFoe T p q) (zP T) = c4 at hQ ⊢
  generalize anyN (fun q => zIn T S p (T 7 b) q && zJar T p q) (zP T) = c5 at hQ ⊢
  generalize anyN (fun q => zIn T S p (T 7 b) q && zEld T p q) (zP T) = c6 at hQ ⊢
  generalize zLate T S p b = c3 at hQ ⊢
  generalize firN (fun p => S 0 p == b + 1) (zP T) 0 = f at hQ hfa ⊢
  generalize anyN (fun q => S 0 q == b + 1) p = c2 at hQ hfa ⊢
  generalize S 5 p = z5 at hQ ⊢
  generalize T 8 p = k8 at hQ ⊢
  have hf : (zP T ≤ f) = ¬ (f < zP T) := propext ⟨fun z => by omega, fun z => by omega⟩
  have hf2 : (f < zP T ∧ p ≤ f) = (f < zP T ∧ ¬ (c2 = true)) := by rw [← hfa]; exact propext ⟨fun z => ⟨z.1, by omega⟩, fun z => ⟨z.1, by omega⟩⟩
  have hf3 : c2 = true → f < zP T := fun z => by have := hfa.mpr z; omega
  simp only [p10, b12, true_and, hf, hf2]
  by_cases q1 : zSB T b = zSP T p
  · simp only [q1, if_true] at hQ
    simp only [q1, not_true_eq_false, false_implies, true_and, true_implies]
    exact hQ
  · by_cases qf : f < zP T
    · cases c2 <;> cases c3 <;> cases c4 <;> cases c5 <;> cases c6 <;> by_cases q5 : z5 = 0 <;> by_cases q8 : k8 = 3 <;> (simp [q1, q5, q8, qf] at hQ ⊢; exact hQ)
    · have h2 : c2 = false := by cases c2 with
        | false => rfl
        | true => exact absurd (hf3 rfl) qf
      subst h2
      cases c3 <;> cases c4 <;> cases c5 <;> cases c6 <;> by_cases q5 : z5 = 0 <;> by_cases q8 : k8 = 3 <;> (simp [q1, q5, q8, qf] at hQ ⊢; exact hQ)
end STB
