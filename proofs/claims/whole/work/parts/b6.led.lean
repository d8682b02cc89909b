/-! led: the class's, which throws, and the law's, which catches -/
theorem dX9_led_0 : decode cX9_led 0 = .ok (.iconst 0, 1) := by decide +kernel
theorem dX9_led_1 : decode cX9_led 1 = .ok (.istore_n 2, 1) := by decide +kernel
theorem dX9_led_2 : decode cX9_led 2 = .ok (.iconst 0, 1) := by decide +kernel
theorem dX9_led_3 : decode cX9_led 3 = .ok (.istore_n 3, 1) := by decide +kernel
theorem dX9_led_4 : decode cX9_led 4 = .ok (.iload_n 3, 1) := by decide +kernel
theorem dX9_led_5 : decode cX9_led 5 = .ok (.aload_n 0, 1) := by decide +kernel
theorem dX9_led_6 : decode cX9_led 6 = .ok (.getfield 20, 3) := by decide +kernel
theorem dX9_led_9 : decode cX9_led 9 = .ok (.getfield 121, 3) := by decide +kernel
theorem dX9_led_12 : decode cX9_led 12 = .ok (.if_icmp .ge 33, 3) := by decide +kernel
theorem dX9_led_15 : decode cX9_led 15 = .ok (.aload_n 0, 1) := by decide +kernel
theorem dX9_led_16 : decode cX9_led 16 = .ok (.getfield 34, 3) := by decide +kernel
theorem dX9_led_19 : decode cX9_led 19 = .ok (.getfield 183, 3) := by decide +kernel
theorem dX9_led_22 : decode cX9_led 22 = .ok (.iload_n 3, 1) := by decide +kernel
theorem dX9_led_23 : decode cX9_led 23 = .ok (.iaload, 1) := by decide +kernel
theorem dX9_led_24 : decode cX9_led 24 = .ok (.bipush (-2), 2) := by decide +kernel
theorem dX9_led_26 : decode cX9_led 26 = .ok (.if_icmp .ne 13, 3) := by decide +kernel
theorem dX9_led_29 : decode cX9_led 29 = .ok (.iload_n 2, 1) := by decide +kernel
theorem dX9_led_30 : decode cX9_led 30 = .ok (.iload_n 1, 1) := by decide +kernel
theorem dX9_led_31 : decode cX9_led 31 = .ok (.if_icmp .ne 5, 3) := by decide +kernel
theorem dX9_led_34 : decode cX9_led 34 = .ok (.iload_n 3, 1) := by decide +kernel
theorem dX9_led_35 : decode cX9_led 35 = .ok (.ireturn, 1) := by decide +kernel
theorem dX9_led_36 : decode cX9_led 36 = .ok (.iinc 2 1, 3) := by decide +kernel
theorem dX9_led_39 : decode cX9_led 39 = .ok (.iinc 3 1, 3) := by decide +kernel
theorem dX9_led_42 : decode cX9_led 42 = .ok (.goto (-38), 3) := by decide +kernel
theorem dX9_led_45 : decode cX9_led 45 = .ok (.new 377, 3) := by decide +kernel
theorem dX9_led_48 : decode cX9_led 48 = .ok (.dup, 1) := by decide +kernel
theorem dX9_led_49 : decode cX9_led 49 = .ok (.ldc_w 379, 3) := by decide +kernel
theorem dX9_led_52 : decode cX9_led 52 = .ok (.invokespecial 381, 3) := by decide +kernel
theorem dX9_led_55 : decode cX9_led 55 = .ok (.athrow, 1) := by decide +kernel
theorem dL_led_0 : decode cL_led 0 = .ok (.aload_n 2, 1) := by decide +kernel
theorem dL_led_1 : decode cL_led 1 = .ok (.iconst 0, 1) := by decide +kernel
theorem dL_led_2 : decode cL_led 2 = .ok (.aload_n 0, 1) := by decide +kernel
theorem dL_led_3 : decode cL_led 3 = .ok (.iload_n 1, 1) := by decide +kernel
theorem dL_led_4 : decode cL_led 4 = .ok (.invokevirtual 7, 3) := by decide +kernel
theorem dL_led_7 : decode cL_led 7 = .ok (.i2l, 1) := by decide +kernel
theorem dL_led_8 : decode cL_led 8 = .ok (.lastore, 1) := by decide +kernel
theorem dL_led_9 : decode cL_led 9 = .ok (.goto 6, 3) := by decide +kernel
theorem dL_led_12 : decode cL_led 12 = .ok (.astore_n 3, 1) := by decide +kernel
theorem dL_led_13 : decode cL_led 13 = .ok (.iconst 1, 1) := by decide +kernel
theorem dL_led_14 : decode cL_led 14 = .ok (.ireturn, 1) := by decide +kernel
theorem dL_led_15 : decode cL_led 15 = .ok (.iconst 0, 1) := by decide +kernel
theorem dL_led_16 : decode cL_led 16 = .ok (.ireturn, 1) := by decide +kernel
theorem ld_w : Cond.fieldLink RX9 20 (gR 8) (gT 8 2).2.1 (gT 8 2).2.2.1 ∈ gt ∧ Cond.fieldLink RX9 121 (gR 7) (gT 7 8).2.1 (gT 7 8).2.2.1 ∈ gt ∧ Cond.fieldLink RX9 34 (gR 8) (gT 8 4).2.1 (gT 8 4).2.2.1 ∈ gt ∧ Cond.fieldLink RX9 183 (gR 6) (gT 6 0).2.1 (gT 6 0).2.2.1 ∈ gt ∧ Cond.classLink RX9 377 "java/util/NoSuchElementException" ∈ gt ∧ Cond.initialized "java/util/NoSuchElementException" ∈ gt := by decide +kernel
theorem ld_w2 : Cond.methodLink RL 7 yX9_led ∈ gt ∧ Cond.instanceMethod yX9_led ∈ gt ∧ Cond.selects RX9 yX9_led yX9_led ∈ gt ∧ Cond.initialized RX9 ∈ gt ∧ Cond.code yX9_led cX9_led 4 (some .int) ∈ gt ∧ Cond.classLink RL 13 "java/util/NoSuchElementException" ∈ gt := by decide +kernel
def zt_b : ByteArray := ⟨#[0x2a, 0x2b, 0xb7, 0x00, 0x0d, 0xb1]⟩
theorem zt_b0 : decode zt_b 0 = .ok (.aload_n 0, 1) := by decide +kernel
theorem zt_b1 : decode zt_b 1 = .ok (.aload_n 1, 1) := by decide +kernel
theorem zt_b2 : decode zt_b 2 = .ok (.invokespecial 13, 3) := by decide +kernel
theorem zt_b5 : decode zt_b 5 = .ok (.return_, 1) := by decide +kernel
theorem ld_x0 : ∀ w ∈ ((zt_at RX9 381 "java/util/NoSuchElementException" "java/lang/RuntimeException" 13 zt_b ["java/lang/Exception"]).filter vx_no).filter goodWord, w ∈ lw_tbl := by decide +kernel
theorem ld_x1 : ∀ w ∈ ((zt_at RX9 381 "java/util/NoSuchElementException" "java/lang/RuntimeException" 13 zt_b ["java/lang/Exception"]).filter vx_no).filter (fun w => !goodWord w), w ∈ gsD := by decide +kernel
theorem ld_x2 : ∀ w ∈ Cond.classLink RX9 377 "java/util/NoSuchElementException" :: Cond.initialized "java/util/NoSuchElementException" :: (zt_at RX9 381 "java/util/NoSuchElementException" "java/lang/RuntimeException" 13 zt_b ["java/lang/Exception"]).filter vx_no, vx_ot w = true := by decide +kernel
theorem gsD_on : ∀ w ∈ gsD, w.onTables = true := by decide
theorem gsR_23 : ("OtherTown", 379, "nobody of that number is in the church", 23) ∈ gsR := by decide +kernel
abbrev ld_rm : Room := { frames := 6, cells := 1, slots := 6, locals := 200 }
def ld_Q (D : va_G) (ca : Nat → ClassId) (b : Nat) (sk : Nat → Nat) (M : gM) (T S : zA) (X : Int32) : Array Value → State → Outcome → State → Prop := g_Qc D ca b sk false 1 M (fun r M' => zLd T S X 0 < zP T ∧ r = some (.int (nI (zLd T S X 0))) ∧ M' = M)
def ld_XC (D : va_G) (ca : Nat → ClassId) (b : Nat) (sk : Nat → Nat) (M : gM) (T S : zA) (X : Int32) : String → State → State → Prop := fun E st t => E = "java/util/NoSuchElementException" ∧ ¬ zLd T S X 0 < zP T ∧ g_wr D ca b sk M t.heap ∧ (∀ q, q < b → t.heap[q]? = st.heap[q]?) ∧ st.heap.size ≤ t.heap.size
theorem n_inc1 (a : Nat) : nI a + Int32.ofInt 1 = nI (a + 1) := n_add a 1
section LD
variable {p : Program} {l : Launch} {e : Env} {R : Room} {s : State} {m : MethodId} {args : Array Value} {below : List Frame} {meth : Method} {c : Code} {Z : State → Prop}
variable {D : va_G} {ca : Nat → ClassId} {b : Nat} {sk sv : Nat → Nat} {nL : Nat} {cc : ByteArray} {pc : Nat} {lo : gL} {M M0 : gM} {own : String} {Q : Option Value → gM → Prop} {XC : String → State → State → Prop}
theorem ld_ret (hx : p.tables.exec = Jvm.exec) (hb : c.code = cc) (hlk : meth.locks = false) (hr : meth.sig.returnType = some .int) {v : Int32} (hbs : b ≤ s.heap.size) (hQ : Q (some (.int v)) M) (hd : decode cc pc = .ok (.ireturn, 1)) :
    g_W p l e R s m args below meth c (vx_MQ below (g_Qc D ca b sk false 1 M0 Q) XC args s 1 6 (fun q => b ≤ q)) D ca b sk false nL pc lo [.int v] M 0 0 :=
  fun H locs ls h1 h2 h3 h4 => W.widen (k := 1) (n := 6) (by omega) (by omega) (vx_ret (gs_ireturn (cl := 1) (sl := 6) (al := false) hx hb hlk hr (Or.inl rfl) (fun z => nomatch z) hbs hQ hd H locs ls h1 h2 h3 (fun z => nomatch z)))
end LD
section LD2
variable {l : Launch} {D : va_G} {ca : Nat → ClassId} {b : Nat} {sk sv : Nat → Nat} {o tt dr cnt ic tn flt pl tr : Nat} {E : gE} {I : Nat → Nat → Int32} {L : Nat → Nat → Int64} {T S : zA} {U G : Nat → zA} {tp : Nat → Nat} {X : Int32}
theorem ld_met (hst : l.stackTraces = false) (hX : XO E I o tt dr T S cnt ic U G tn tp flt pl tr) : vx_Met l yX9_led (zj_ws yX9_led cX9_led 4 (some .int)) ld_rm (g_Pc D ca b sk sv false [.ref o, .int X] (E, I, L)) (ld_Q D ca b sk (E, I, L) T S X) (ld_XC D ca b sk (E, I, L) T S X) 1 6 (fun q => b ≤ q) := by
  obtain ⟨hL, hT, hS, -⟩ := id hX
  have lo0 := hL.1
  have lo2 := hL.2.2.1
  have lo4 := hL.2.2.2.2.1
  have lt0 := hT.1.1
  have rt2 := hT.2.1.2.2.1
  have zt2 := hT.2.2.2.2.1
  have ls0 := hS.1.1
  have ls1 := hS.1.2.1
  have ls6 := hS.1.2.2.2.2.2.2.1
  have rs0 := hS.2.1.1
  have zs0 := hS.2.2.1
  have zt1 := hT.2.2.2.1
  refine vx_ofW (cc := cX9_led) (maxL := 4) (ret := some .int) (by decide) rfl ?_
  intro p e s m args below meth c s₁ B hml hnt hv
  obtain ⟨hargs, hw, hK, hXg, -⟩ := hv
  have hx := B.exec
  have hb := B.bytes
  have hr := B.returns
  have hlk := B.notSynchronized
  have hts0 := atoms_spec (ws := zj_ws yX9_led cX9_led 4 (some .int)) B.pre
  have hts : ∀ w ∈ gt, w.before args s = true := fun w h => hts0 w (List.mem_cons_of_mem _ h)
  have hown : s.vm.findClass RX9 = some m.cls := findClass_of_methodNamed B.named
  have hbs : b ≤ s.heap.size := hw.2.2
  obtain ⟨Zz, hZz⟩ : ∃ z, z = vx_MQ below (ld_Q D ca b sk (E, I, L) T S X) (ld_XC D ca b sk (E, I, L) T S X) args s 1 6 (fun q => b ≤ q) := ⟨_, rfl⟩
  have ret : ∀ i lo, zLd T S X 0 = i → i < zP T → g_W p l e ld_rm s m args below meth c Zz D ca b sk false 4 35 lo [.int (nI i)] (E, I, L) 0 0 := by
    intro i lo g hi
    rw [hZz]
    exact ld_ret hx hb hlk hr hbs ⟨by rw [g]; exact hi, by rw [g], rfl⟩ dX9_led_35
  have thr : ¬ zLd T S X 0 < zP T → ∀ lo, g_W p l e ld_rm s m args below meth c Zz D ca b sk false 4 45 lo [] (E, I, L) 0 0 := by
    intro g lo H locs ls h1 h2 h3 h4
    rw [hZz]
    refine zt_throw hx hb hst (own := RX9) (cls := "java/util/NoSuchElementException") (sup := "java/lang/RuntimeException") (text := "nobody of that number is in the church") (names := ["java/lang/Exception"]) (ik := 377) (is := 379) (ic := 381) (ix := 13) (bytes := zt_b) (sa := sk 23) (A := fun q => b ≤ q) hown (by decide +kernel) (by decide +kernel) (by decide +kernel) zt_b0 zt_b1 zt_b2 zt_b5 (hts _ ld_w.2.2.2.2.1) (hts _ ld_w.2.2.2.2.2) (hXg.2.1 _ gsR_23)
      (vx_hat (B := gsD) (fun w hw => hts w (List.mem_filter.mpr ⟨ld_x0 w hw, (List.mem_filter.mp hw).2⟩)) ld_x1 (fun w hw => va_Nw.use (gsD_on w hw) (hXg.2.2.2.2.2.2.2.2 w hw))) ld_x2 hXg.2.2.2.2.2.2.1 hXg.2.2.2.2.2.2.2.1 h2 (h3.2.1.trans hml.symm)
      dX9_led_45 dX9_led_48 dX9_led_49 dX9_led_52 dX9_led_55 (fun x hx => (hnt x hx).elim) (by decide) (by decide) (by decide) (by decide) hlk (fun t hal hsz hk => ⟨rfl, g, ⟨h1.1.kept (fun k x hx => hk x.1 ((h1.1 k x hx).lt)), h1.2.1, by have := h1.2.2; omega⟩, fun q hq => ?_, by have := h2.1; omega⟩) h2.2.2 (by decide) (by decide)
    rw [hk q (by have := h1.2.2; omega)]
    exact h2.2.1 q (by omega) (by omega)
  have key : ∀ i, i ≤ zP T → zLd T S X 0 = zLd T S X i → g_W p l e ld_rm s m args below meth c Zz D ca b sk false 4 4 [some (.ref o), some (.int X), some (.int (nI (zInC T S i))), some (.int (nI i))] [] (E, I, L) 0 0 := by
    have head : ∀ i lo, lo = [some (.ref o), some (.int X), some (.int (nI (zInC T S i))), some (.int (nI i))] → i ≤ zP T → (zP T ≤ i → g_W p l e ld_rm s m args below meth c Zz D ca b sk false 4 45 lo [] (E, I, L) 0 0) → (i < zP T → g_W p l e ld_rm s m args below meth c Zz D ca b sk false 4 15 lo [] (E, I, L) 0 0) → g_W p l e ld_rm s m args below meth c Zz D ca b sk false 4 4 lo [] (E, I, L) 0 0 := by
      intro i lo hlo hi k1 k2
      subst hlo
      refine gs_iload_n hx hb dX9_led_4 rfl ?_
      refine gs_aload_n hx hb dX9_led_5 rfl ?_
      refine gs_get hx hb hown hts hK (ci := 8) (k := 2) (by decide) (by decide) lo0 ld_w.1 (v := .ref tt) (by show va_rf ((E.2.2 o 2).map _) = _; rw [lo2]; rfl) dX9_led_6 ?_
      refine gs_get hx hb hown hts hK (ci := 7) (k := 8) (by decide) (by decide) lt0 ld_w.2.1 (v := .int (nI (zP T))) (by show Value.int (I tt 8) = _; rw [rt2]; rfl) dX9_led_9 ?_
      refine gs_icmp hx hb dX9_led_12 (tgt := 45) (by decide) (fun z => k1 ?_) (fun z => k2 ?_)
      · have z : nI (zP T) ≤ nI i := z
        rwa [n_le (by omega) (by omega)] at z
      · have z : ¬ nI (zP T) ≤ nI i := z
        rw [n_le (by omega) (by omega)] at z
        omega
    refine up_ind ?_ (fun i hi ih => ?_)
    · intro g
      refine head _ _ rfl (Nat.le_refl _) (fun _ => thr ?_ _) (fun z => absurd z (by omega))
      rw [g]; unfold zLd; rw [firN_ge (Nat.le_refl _)]; omega
    · intro g
      have hsb := (zs0 i hi).1
      have hs : zLd T S X i = if (S 0 i == 0 && decide (nI (zInC T S i) = X)) = true then i else zLd T S X (i + 1) := by unfold zLd; rw [firN_lt hi]
      rw [zInC_s] at ih
      refine head _ _ rfl (by omega) (fun z => absurd z (by omega)) (fun _ => ?_)
      refine gs_aload_n hx hb dX9_led_15 rfl ?_
      refine gs_get hx hb hown hts hK (ci := 8) (k := 4) (by decide) (by decide) lo0 ld_w.2.2.1 (v := .ref (o + 38)) (by show va_rf ((E.2.2 o 4).map _) = _; rw [lo4]; rfl) dX9_led_16 ?_
      refine gs_get hx hb hown hts hK (ci := 6) (k := 0) (by decide) (by decide) ls0 ld_w.2.2.2.1 (v := .ref (o + 38 + 1)) (by show va_rf ((E.2.2 (o + 38) 0).map _) = _; rw [ls1]; rfl) dX9_led_19 ?_
      refine gs_iload_n hx hb dX9_led_22 rfl ?_
      refine gs_iaload hx hb hK (by show (E.2.1 (o + 38 + 1)).1 = 1; rw [ls6]) (by show vp_in (nI i) (E.2.1 (o + 38 + 1)).2; rw [ls6, n_in (by omega) (by omega)]; omega) dX9_led_23 ?_
      have hbv : (E, I, L).2.1 (o + 38 + 1) (nI i).toNatClampNeg = bv (S 0 i) := by
        show I (o + 38 + 1) (nI i).toNatClampNeg = _
        rw [n_cl (by omega)]
        exact rs0 i hi
      rw [hbv]
      refine gs_bipush hx hb dX9_led_24 ?_
      have hc : (Int8.ofInt (-2)).toInt32 = (-2 : Int32) := by decide
      rw [hc]
      have nx : zLd T S X i = zLd T S X (i + 1) → g_W p l e ld_rm s m args below meth c Zz D ca b sk false 4 39 [some (.ref o), some (.int X), some (.int (nI (zInC T S i + if S 0 i = 0 then 1 else 0))), some (.int (nI i))] [] (E, I, L) 0 0 := by
        intro hs2
        have ih2 := ih (by rw [g, hs2])
        refine gs_iinc hx hb dX9_led_39 (x := nI i) rfl ⟨by show 3 < 4; omega, rfl, ?_⟩
        refine gs_goto hx hb dX9_led_42 (tgt := 4) (by decide) ?_
        rw [n_inc1]
        exact ih2
      refine gs_icmp hx hb dX9_led_26 (tgt := 39) (by decide) (fun z => ?_) (fun z => ?_)
      · have z : ¬ bv (S 0 i) = -2 := z
        rw [bv_eq2 (by omega)] at z
        rw [if_neg z, Nat.add_zero] at nx
        rw [if_neg (by rw [beq_false_of_ne z]; exact Bool.false_ne_true)] at hs
        exact nx hs
      · have z : ¬ ¬ bv (S 0 i) = -2 := z
        rw [bv_eq2 (by omega), Classical.not_not] at z
        rw [if_pos z] at nx
        refine gs_iload_n hx hb dX9_led_29 rfl ?_
        refine gs_iload_n hx hb dX9_led_30 rfl ?_
        refine gs_icmp hx hb dX9_led_31 (tgt := 36) (by decide) (fun z2 => ?_) (fun z2 => ?_)
        · have z2 : ¬ nI (zInC T S i) = X := z2
          rw [if_neg (by rw [decide_eq_false z2, Bool.and_false]; exact Bool.false_ne_true)] at hs
          refine gs_iinc hx hb dX9_led_36 (x := nI (zInC T S i)) rfl ⟨by show 2 < 4; omega, rfl, ?_⟩
          rw [n_inc1]
          exact nx hs
        · have z2 : ¬ ¬ nI (zInC T S i) = X := z2
          rw [Classical.not_not] at z2
          rw [if_pos (by rw [z, decide_eq_true z2]; rfl)] at hs
          refine gs_iload_n hx hb dX9_led_34 rfl ?_
          exact ret i _ (by rw [g, hs]) hi
  have k0 := key 0 (Nat.zero_le _) rfl
  have go : g_W p l e ld_rm s m args below meth c Zz D ca b sk false 4 0 [some (.ref o), some (.int X), none, none] [] (E, I, L) 0 0 := by
    refine gs_iconst hx hb dX9_led_0 ?_
    refine gs_istore_n hx hb dX9_led_1 ⟨by show 2 < 4; omega, rfl, ?_⟩
    refine gs_iconst hx hb dX9_led_2 ?_
    refine gs_istore_n hx hb dX9_led_3 ⟨by show 3 < 4; omega, rfl, ?_⟩
    exact k0
  rw [hZz, hargs] at go
  rw [hargs, lg_entry_eq]
  exact go s.heap [] _ hw va_S.rf (g_loc (as := [.ref o, .int X]) rfl (by show 2 ≤ 4; omega)) (fun z => nomatch z)
end LD2
