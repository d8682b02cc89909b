/-! the law's case of led -/
theorem dw_1728 : decode code 1728 = .ok (.aload_n 1, 1) := by decide +kernel
theorem dw_1735 : decode code 1735 = .ok (.aload_n 3, 1) := by decide +kernel
theorem dw_1736 : decode code 1736 = .ok (.invokestatic 235, 3) := by decide +kernel
theorem dw_1739 : decode code 1739 = .ok (.istore 5, 2) := by decide +kernel
theorem dw_1741 : decode code 1741 = .ok (.aload_n 2, 1) := by decide +kernel
theorem dw_1748 : decode code 1748 = .ok (.invokevirtual 240, 3) := by decide +kernel
theorem dw_1751 : decode code 1751 = .ok (.istore 6, 2) := by decide +kernel
theorem dw_1753 : decode code 1753 = .ok (.aload_n 2, 1) := by decide +kernel
theorem dw_1754 : decode code 1754 = .ok (.invokevirtual 241, 3) := by decide +kernel
theorem dw_1757 : decode code 1757 = .ok (.iload 5, 2) := by decide +kernel
theorem dw_1759 : decode code 1759 = .ok (.if_icmp .eq 5, 3) := by decide +kernel
theorem dw_1764 : decode code 1764 = .ok (.iload 5, 2) := by decide +kernel
theorem dw_1766 : decode code 1766 = .ok (.ifCond .ne 15, 3) := by decide +kernel
theorem dw_1769 : decode code 1769 = .ok (.aload_n 3, 1) := by decide +kernel
theorem dw_1770 : decode code 1770 = .ok (.iconst 0, 1) := by decide +kernel
theorem dw_1771 : decode code 1771 = .ok (.laload, 1) := by decide +kernel
theorem dw_1772 : decode code 1772 = .ok (.iload 6, 2) := by decide +kernel
theorem dw_1774 : decode code 1774 = .ok (.i2l, 1) := by decide +kernel
theorem dw_1775 : decode code 1775 = .ok (.lcmp, 1) := by decide +kernel
theorem dw_1776 : decode code 1776 = .ok (.ifCond .eq 5, 3) := by decide +kernel
theorem dw_1781 : decode code 1781 = .ok (.goto 41, 3) := by decide +kernel
theorem aw_1729 : argB 1729 1 = true := by decide +kernel
theorem aw_1742 : argB 1742 1 = true := by decide +kernel
theorem mw_led : 339 < g_cnt ∧ g_mk 339 = 0 ∧ (mt 339).2.2.2.2.2.1 = (0, 0) ∧ (mt 339).1.cls = gR 9 ∧ (mt 339).2.2.2.2.1 = 2 := by decide +kernel
theorem mw_thr : 210 < g_cnt ∧ g_mk 210 = 0 ∧ (mt 210).2.2.2.2.2.1 = (0, 0) ∧ (mt 210).1.cls = gR 9 ∧ (mt 210).2.2.2.2.1 = 1 := by decide +kernel
theorem lw_w52 : Cond.methodLink RL 240 (mt 339).1 ∈ gt ∧ Cond.methodLink RL 241 (mt 210).1 ∈ gt ∧ Cond.methodLink RL 235 yL_led ∈ gt ∧ Cond.static yL_led ∈ gt ∧ Cond.initialized RL ∈ gt ∧ Cond.codeWith yL_led cL_led 4 (some .int) [(0, 9, 12, 13)] ∈ gt := by decide +kernel
section L52
variable {p : Program} {l : Launch} {e : Env} {s : State} {m : MethodId} {below : List Frame} {meth : Method} {c : Code} {Z : State → Prop} {D : va_G} {ca : Nat → ClassId} {sk sv : Nat → Nat} {b L : Nat} {xs : Nat → Int32} {M : gM} {cl sl pc i n : Nat} {a5 a6 : Option Value} {st as : List Value} {lo : gL} {Q : Option Value → gM → Prop}
variable {E : gE} {I : Nat → Nat → Int32} {La : Nat → Nat → Int64} {o tt dr cnt ic tn flt pl tr y : Nat} {T S : zA} {U G : Nat → zA} {tp : Nat → Nat} {X : Int32}
theorem lw_ledc (hC : lwC p l s m c D ca sk sv b L xs) (hst : l.stackTraces = false) (hX : XO E I 0 tt dr T S cnt ic U G tn tp flt pl tr) (hq : E.2.1 272 = (2, 1)) (hcl : cl + 1 ≤ 601024) (hsl : sl + 6 ≤ 7293034)
    (kk : ∀ r M', lq_Q T S X 272 (E, I, La) r M' → g_W p l e room_1 s m #[Value.ref b] below meth c Z D ca s.heap.size sk false 7 (1736 + 3) lo (r.toList ++ []) M' (cl + 1) (sl + 6)) : g_W p l e room_1 s m #[Value.ref b] below meth c Z D ca s.heap.size sk false 7 1736 lo [.ref 272, .int X, .ref 0] (E, I, La) cl sl := by
  obtain ⟨hx, hb, hml, hown, hts, hK, hXg, hxs, hbl, hsk, hL, hmok, hchk⟩ := id hC
  intro H locs ls h1 h2 h3 h4 Ts hT XX
  have hcw : vx_CSW room_1 s #[Value.ref b] RL 235 yL_led cL_led 4 (some .int) [(0, 9, 12, 13)] lq_ws lq_rm 1 6 3 := by
    refine vx_cwSW (Ts := gt) (ws' := gt) 3 hts (g_good ?_) rfl rfl rfl ⟨by decide, by decide, by decide +kernel⟩ ⟨by decide, by decide⟩
    intro w hw
    unfold va_wsS at hw
    rcases List.mem_append.mp hw with h | h
    · simp only [List.mem_cons, List.not_mem_nil, or_false] at h
      rcases h with rfl | rfl | rfl
      · exact lw_w52.2.2.1
      · exact lw_w52.2.2.2.1
      · exact lw_w52.2.2.2.2.1
    · rcases List.mem_cons.mp h with rfl | h
      · exact lw_w52.2.2.2.2.2
      · exact h
  have hrun := vx_runSW (l := l) (p := p) (e := e) (below := below) (meth := meth) (locs := locs) (cells := cl) (slots := sl) (H := H) (cc := code) (Ts := gt) (As := [.ref (g_ad s.heap.size sk 0), .int X, .ref (g_ad s.heap.size sk 272)]) (rest := []) (g := F0 m 1736 ls [.ref (g_ad s.heap.size sk 272), .int X, .ref (g_ad s.heap.size sk 0)]) ⟨hx, hb, hml, hown, hts⟩ (lq_met (D := D) (ca := ca) (b := s.heap.size) (sk := sk) (sv := sv) (L := La) (X := X) hst hX hq) hcw
    ⟨g_blind, g_pre (as := [.ref 0, .int X, .ref 272]) h1 h2 (Nat.le_refl _) hK hXg (fun z => nomatch z)⟩ rfl rfl h3.2.1 rfl (lv_room (by decide)) dw_1736 ⟨hcl, hsl⟩
  exact gs_back (rest := []) hrun h2 h3 h4 (Nat.le_refl _) kk Ts hT XX
theorem lg_cmp0 (x : Int64) : lg_cmp x x = 0 := by simp [lg_cmp]
theorem zthr {J : Nat → Nat → Int32} {Lb : Nat → Nat → Int64} {v5 : Int32} (hsy : E.2.1 254 = (15, 41)) (h : J 254 0 = v5) : gm 40 210 [.ref 254] (E, J, Lb) (fun r M' => r = some (.int v5) ∧ M' = (E, J, Lb)) := by
  show gm (39 + 1) 210 [.ref 254] (E, J, Lb) _
  rw [en_Model_thrown]
  simp (disch := omega) only [ws_nil, ws_iconst, ws_bipush, ws_sipush, ws_lconst, ws_ldc_i, ws_ldc_s, ws_ldc_w_i, ws_ldc_w_s, ws_iload_0, ws_lload_0, ws_aload_0, ws_istore_0, ws_lstore_0, ws_astore_0, ws_iload_1, ws_lload_1, ws_aload_1, ws_istore_1, ws_lstore_1, ws_astore_1, ws_iload_2, ws_lload_2, ws_aload_2, ws_istore_2, ws_lstore_2, ws_astore_2, ws_iload_3, ws_lload_3, ws_aload_3, ws_istore_3, ws_lstore_3, ws_astore_3, ws_iload, ws_aload, ws_istore, ws_astore, ws_iinc, ws_iadd, ws_isub, ws_imul, ws_iand, ws_ior, ws_ixor, ws_ishl, ws_ishr, ws_iushr, ws_idiv, ws_irem, ws_ineg, ws_i2l, ws_l2i, ws_ladd, ws_lmul, ws_lcmp, ws_dup_i, ws_pop_i, ws_dup_r, ws_pop_r, ws_dup2, ws_if_eq, ws_icmp_eq, ws_if_ne, ws_icmp_ne, ws_if_lt, ws_icmp_lt, ws_if_ge, ws_icmp_ge, ws_if_gt, ws_icmp_gt, ws_if_le, ws_icmp_le, ws_goto, ws_table, ws_get_0, ws_get_1, ws_get_2, ws_get_3, ws_put_0, ws_put_1, ws_put_2, ws_put_3, ws_iaload, ws_laload, ws_aaload, ws_iastore, ws_lastore, ws_alen, ws_ret_int, ws_ret_boolean, ws_ret_long, ws_ret_ref, ws_ret_void, ws_iv_0, ws_iv_1, ws_iv_2, ws_iv_3, ws_iv_4, ws_iv_5, ws_is_1, ws_is_2, ws_is_3, ws_is_4, ws_is_5, ws_slen, ws_schar, ws_max, ws_min, ws_copy, go_some, g_li_0, g_li_1, g_li_2, g_li_3, g_li_4, g_li_5, g_li_6, g_li_7, g_li_8, g_li_9, g_li_10, g_li_11, g_li_12, g_li_13, g_li_14, g_li_15, g_li_16, g_li_17, g_li_18, g_li_19, g_ll_0, g_ll_1, g_ll_2, g_ll_3, g_ll_4, g_ll_5, g_ll_6, g_ll_7, g_ll_8, g_ll_9, g_lr_0, g_lr_1, g_lr_2, g_lr_3, g_lr_4, g_lr_5, g_lr_6, g_lr_7, g_lr_8, g_lr_9, g_st_0, g_st_1i, g_st_1r, g_st_1n, g_st_1o, g_st_2, g_st_3, g_st_4, g_st_5, g_st_6, g_st_7, g_st_8, g_st_9, g_st_10, g_st_11, g_st_12, g_st_13, g_st_14, g_st_15, g_st_16, g_st_17, g_st_18, g_st_19, g_st2_1, gN_0, gN_1, gN_2, gN_3, gN_4, gN_5, gN_6, gN_7, gN_8, gN_9, to_some, to_none, ci_m2, ci_m1, ci_0, ci_1, ci_2, ci_3, ci_4, ci_5, cb_m2, cb_6, cb_7, cb_8, cb_9, cb_10, cb_11, cb_12, cb_13, cb_16, cb_20, cb_24, cb_27, cb_30, cb_32, cb_40, cb_41, cb_42, cb_48, cb_57, cb_59, cb_60, cb_63, cb_74, cb_75, cb_80, cb_90, cb_97, cb_99, cb_100, cb_120, cb_122, cs_130, cs_150, cs_162, cs_180, cs_190, cs_202, cs_214, cs_230, cs_255, cs_262, cs_358, cs_410, cs_786, cs_900, cs_2882, cs_3144, cs_4096, ci_m8, gb_n, gb_i1, gb_r1, gb_i2, gb_r2, gb_l2, gb_i3, gb_r3, gb_l3, gb_i4, gb_r4, gb_l4, gb_i5, gb_r5, gb_l5, gb_i6, gb_r6, gb_l6, gb_i7, gb_r7, gb_l7, gb_i8, gb_r8, gb_l8, Nat.reduceAdd, Nat.reduceSub, Nat.reduceLeDiff, List.length_nil, List.length_cons, true_and, and_true, Nat.reduceMul, Nat.reduceLT, Nat.reduceEqDiff, b_Model_thrown_0, hsy, h, n_ite, n_lt, n_le, n_eq, n_lt0, n_ge0, n_gt0, n_le0, n_eq0, n_eq1, n_cl, n_in, n_add, n_mul, n_sub, n_and, n_or, n_shl, n_shr, n_m2lt0, n_m2ge0, n_m1lt0, n_m1ge0, n_mlt, n_m2ne, n_m2ne', n_m1ne, n_m1ne', not_true_eq_false, not_false_eq_true, false_implies, true_implies, and_self, true_and, and_true, Nat.not_lt, Nat.not_le, true_or, or_true, false_or, or_false, ne_eq, Nat.le_refl, Nat.lt_irrefl, implies_true, Nat.zero_add, Nat.add_zero, Classical.not_not]
/-- case 52 -/
theorem lw_led (hC : lwC p l s m c D ca sk sv b L xs) (hst : l.stackTraces = false) (hi : i + 6 ≤ L) (hV : LV 0 254 n M.1 M.2.1) (hcl : cl + 1 ≤ 601024) (hsl : sl + 6 ≤ 7293034)
    (kk : ∀ M' a5 a6, LV 0 254 (n + 40) M'.1 M'.2.1 → g_W p l e room_1 s m #[Value.ref b] below meth c Z D ca s.heap.size sk false 7 1822 [some (.ref 1000999), some (.ref 0), some (.ref 254), some (.ref 272), some (.int (nI (i))), a5, a6] [] M' (cl + 1) (sl + 6)) : g_W p l e room_1 s m #[Value.ref b] below meth c Z D ca s.heap.size sk false 7 1728 [some (.ref 1000999), some (.ref 0), some (.ref 254), some (.ref 272), some (.int (nI (i))), a5, a6] [] M cl sl := by
  obtain ⟨hx, hb, hml, hown, hts, hK, hXg, hxs, hbl, hsk, hL, hmok, hchk⟩ := id hC
  obtain ⟨E, I, La⟩ := M
  have hsy := LV_sy hV
  obtain ⟨tt, dr, T, S, cnt, ic, U, G, tn, tp, flt, pl, tr, ⟨hX, hY, hU, hbb, hoy⟩, hs⟩ := hV
  have hb40 := nb_le hbb (show n ≤ n + 40 by omega)
  have hX : XO E I 0 tt dr T S cnt ic U G tn tp flt pl tr := hX
  have hY : YO E I 254 T S cnt ic U G tn tp flt pl tr := hY
  have hs : E.2.1 272 = (2, 1) := hs
  have hsy : E.2.1 254 = (15, 41) := hsy
  refine gs_aload_n hx hb dw_1728 (x := 0) rfl ?_
  refine lw_arg hC aw_1729 (by omega) ?_
  refine gs_aload_n hx hb dw_1735 (x := 272) rfl ?_
  refine lw_ledc hC hst hX hs hcl hsl (fun r M1 hq => ?_)
  -- the end, once both numbers stand in their places
  have fin : ∀ (v5 v6 : Int32) (J : Nat → Nat → Int32) (Lb : Nat → Nat → Int64), YO E J 254 T S cnt ic U G tn tp flt pl tr → FM 254 I J → J 254 0 = v5 → (v5 = 0 → Lb 272 0 = v6.toInt64) → g_W p l e room_1 s m #[Value.ref b] below meth c Z D ca s.heap.size sk false 7 (1748 + 3) [some (.ref 1000999), some (.ref 0), some (.ref 254), some (.ref 272), some (.int (nI (i))), some (.int v5), a6] [.int v6] (E, J, Lb) (cl + 1) (sl + 6) := by
    intro v5 v6 J Lb hY2 hJ hv5 hv6
    have hV2 : LV 0 254 (n + 40) E J := ⟨tt, dr, _, _, _, _, _, _, _, _, _, _, _, ⟨XO_all hX (fun a g1 g2 => hJ a (by omega)), hY2, hU, hb40, hoy⟩, hs⟩
    refine gs_istore hx hb dw_1751 ⟨by show 6 < 7; omega, rfl, ?_⟩
    refine gs_aload_n hx hb dw_1753 (x := 254) rfl ?_
    refine lw_call (as := []) (st := []) (a := 254) (ci := 9) (Q := fun r M' => r = some (.int v5) ∧ M' = (E, J, Lb)) hC mw_thr.1 mw_thr.2.1 mw_thr.2.2.1 mw_thr.2.2.2.1 (by decide) hsy lw_w52.2.1 (by rw [mw_thr.2.2.2.2]; rfl) trivial hcl hsl dw_1754 ?_ (fun r M' hq => ?_)
    · exact zthr hsy hv5
    obtain ⟨rfl, rfl⟩ := hq
    refine gs_iload hx hb dw_1757 (x := v5) rfl ?_
    refine gs_icmp hx hb dw_1759 (tgt := 1764) (by decide) (fun _ => ?_) (fun z => absurd rfl z)
    refine gs_iload hx hb dw_1764 (x := v5) rfl ?_
    have out : g_W p l e room_1 s m #[Value.ref b] below meth c Z D ca s.heap.size sk false 7 1781 [some (.ref 1000999), some (.ref 0), some (.ref 254), some (.ref 272), some (.int (nI (i))), some (.int v5), some (.int v6)] [] (E, J, Lb) (cl + 1) (sl + 6) := gs_goto hx hb dw_1781 (tgt := 1822) (by decide) (kk (E, J, Lb) _ _ hV2)
    refine gs_if hx hb dw_1766 (tgt := 1781) (by decide) (fun _ => out) (fun z => ?_)
    have z : ¬ ¬ v5 = 0 := z
    rw [Classical.not_not] at z
    refine gs_aload_n hx hb dw_1769 (x := 272) rfl ?_
    refine gs_iconst hx hb dw_1770 ?_
    refine gs_laload hx hb hK (by show (E.2.1 272).1 = 2; rw [hs]) (by show vp_in (nI 0) (E.2.1 272).2; rw [hs]; exact vp_in_nI (by omega) (by omega)) dw_1771 ?_
    refine gs_iload hx hb dw_1772 (x := v6) rfl ?_
    refine gs_i2l hx hb dw_1774 ?_
    have e9 : (E, J, Lb).2.2 272 (Int32.ofInt 0).toNatClampNeg = v6.toInt64 := hv6 z
    rw [e9]
    refine gs_lcmp hx hb dw_1775 ?_
    rw [lg_cmp0]
    exact gs_if hx hb dw_1776 (tgt := 1781) (by decide) (fun _ => out) (fun z => absurd rfl z)
  rcases hq with ⟨hlt, rfl, rfl⟩ | ⟨hno, rfl, rfl⟩
  · refine gs_istore hx hb dw_1739 ⟨by show 5 < 7; omega, rfl, ?_⟩
    refine gs_aload_n hx hb dw_1741 (x := 254) rfl ?_
    refine lw_arg hC aw_1742 (by omega) ?_
    refine lw_call (as := [.int (xs (i + 1))]) (st := []) (a := 254) (ci := 9) (Q := fun r M' => ∃ J, r = some (.int (nI (zLd T S (xs (i + 1)) 0))) ∧ M' = (E, J, (g_pl (E, I, La) 272 0 (nI (zLd T S (xs (i + 1)) 0)).toInt64).2.2) ∧ YO E J 254 T S cnt ic U G tn tp flt pl tr ∧ FM 254 I J ∧ J 254 0 = nI 0) hC mw_led.1 mw_led.2.1 mw_led.2.2.1 mw_led.2.2.2.1 (by decide) hsy lw_w52.1 (by rw [mw_led.2.2.2.2]; rfl) trivial hcl hsl dw_1748 ?_ (fun r M' hq => ?_)
    · exact m_led (d := 0) hY (fun _ J h1 h2 h3 => ⟨J, rfl, rfl, h1, h2, h3⟩) (fun z => absurd hlt z)
    obtain ⟨J, rfl, rfl, h1, h2, h3⟩ := hq
    have e8 : (g_pl (E, I, La) 272 0 (nI (zLd T S (xs (i + 1)) 0)).toInt64).2.2 272 0 = (nI (zLd T S (xs (i + 1)) 0)).toInt64 := by
      show gU La 272 (vp_updL (La 272) 0 (nI (zLd T S (xs (i + 1)) 0)).toInt64) 272 0 = _
      rw [gU_same]
      simp [vp_updL]
    exact fin 0 _ J _ h1 h2 h3 (fun _ => e8)
  · refine gs_istore hx hb dw_1739 ⟨by show 5 < 7; omega, rfl, ?_⟩
    refine gs_aload_n hx hb dw_1741 (x := 254) rfl ?_
    refine lw_arg hC aw_1742 (by omega) ?_
    refine lw_call (as := [.int (xs (i + 1))]) (st := []) (a := 254) (ci := 9) (Q := fun r M' => ∃ J, r = some (.int (nI 0)) ∧ M' = (E, J, La) ∧ YO E J 254 T S cnt ic U G tn tp flt pl tr ∧ FM 254 I J ∧ J 254 0 = nI 1) hC mw_led.1 mw_led.2.1 mw_led.2.2.1 mw_led.2.2.2.1 (by decide) hsy lw_w52.1 (by rw [mw_led.2.2.2.2]; rfl) trivial hcl hsl dw_1748 ?_ (fun r M' hq => ?_)
    · exact m_led (d := 0) hY (fun z => absurd z hno) (fun _ J h1 h2 h3 => ⟨J, rfl, rfl, h1, h2, h3⟩)
    obtain ⟨J, rfl, rfl, h1, h2, h3⟩ := hq
    exact fin 1 _ J _ h1 h2 h3 (fun z => absurd z (by decide))
end L52
