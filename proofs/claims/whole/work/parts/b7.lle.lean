/-! the law's led: it catches what the class's throws -/
abbrev lq_rm : Room := { frames := 8, cells := 1, slots := 6, locals := 300 }
abbrev lq_ws : List Cond := Cond.codeWith yL_led cL_led 4 (some .int) [(0, 9, 12, 13)] :: gt
def lq_Q (T S : zA) (X : Int32) (q : Nat) (M : gM) : Option Value → gM → Prop := fun r M' => (zLd T S X 0 < zP T ∧ r = some (.int 0) ∧ M' = g_pl M q 0 (nI (zLd T S X 0)).toInt64) ∨ (¬ zLd T S X 0 < zP T ∧ r = some (.int 1) ∧ M' = M)
section LQ
variable {l : Launch} {D : va_G} {ca : Nat → ClassId} {b : Nat} {sk sv : Nat → Nat} {o tt dr cnt ic tn flt pl tr q : Nat} {E : gE} {I : Nat → Nat → Int32} {L : Nat → Nat → Int64} {T S : zA} {U G : Nat → zA} {tp : Nat → Nat} {X : Int32}
theorem lq_met (hst : l.stackTraces = false) (hX : XO E I o tt dr T S cnt ic U G tn tp flt pl tr) (hq : E.2.1 q = (2, 1)) : Met l yL_led lq_ws lq_rm (g_Pc D ca b sk sv false [.ref o, .int X, .ref q] (E, I, L)) (g_Qc D ca b sk false 1 (E, I, L) (lq_Q T S X q (E, I, L))) 1 6 (fun q => b ≤ q) := by
  have lo0 := hX.1.1
  refine va_MetW (cc := cL_led) (maxL := 4) (ret := some .int) (hh := [(0, 9, 12, 13)]) (by decide) rfl ?_
  intro p e s m args below meth c s₁ B hml hv
  obtain ⟨hargs, hw, hK, hXg, -⟩ := hv
  have hx := B.exec
  have hb := B.bytes
  have hr := B.returns
  have hlk := B.notSynchronized
  have hts0 := atoms_spec (ws := lq_ws) B.pre
  have hts : ∀ w ∈ gt, w.before args s = true := fun w h => hts0 w (List.mem_cons_of_mem _ h)
  have hown : s.vm.findClass RL = some m.cls := findClass_of_methodNamed B.named
  have hbs : b ≤ s.heap.size := hw.2.2
  have htab : c.exceptionTable.toList = [⟨0, 9, 12, 13⟩] := vx_table (x := yL_led) B (hts0 _ List.mem_cons_self)
  obtain ⟨Zz, hZz⟩ : ∃ z, z = MQ below (g_Qc D ca b sk false 1 (E, I, L) (lq_Q T S X q (E, I, L))) args s 1 6 (fun q => b ≤ q) := ⟨_, rfl⟩
  have ok : zLd T S X 0 < zP T → ∀ lo, g_W p l e lq_rm s m args below meth c Zz D ca b sk false 4 7 lo [.int (nI (zLd T S X 0)), .int (Int32.ofInt 0), .ref q] (E, I, L) 1 6 := by
    intro g lo
    refine gs_i2l hx hb dL_led_7 ?_
    refine gs_lastore hx hb hK hbs (by show (E.2.1 q).1 = 2; rw [hq]) (by show vp_in (nI 0) (E.2.1 q).2; rw [hq]; exact vp_in_nI (by omega) (by omega)) dL_led_8 ?_
    refine gs_goto hx hb dL_led_9 (tgt := 15) (by decide) ?_
    refine gs_iconst hx hb dL_led_15 ?_
    rw [hZz]
    exact gs_ireturn hx hb hlk hr (Or.inl rfl) (fun z => nomatch z) hbs (Or.inl ⟨g, rfl, rfl⟩) dL_led_16
  have call : g_W p l e lq_rm s m args below meth c Zz D ca b sk false 4 4 [some (.ref o), some (.int X), some (.ref q), none] [.int X, .ref o, .int (Int32.ofInt 0), .ref q] (E, I, L) 0 0 := by
    intro H locs ls h1 h2 h3 h4 Ts hT XX
    have hcw := zj_cwV (R := lq_rm) (own := RL) (index := 7) (y := yX9_led) (cc := cX9_led) (maxL := 4) (r := some .int) (rm := ld_rm) (mc := 1) (ms := 6) 1 hts ld_w2.1 ld_w2.2.1 ld_w2.2.2.1 ld_w2.2.2.2.1 ld_w2.2.2.2.2.1 rfl rfl ⟨by decide, by decide, by decide +kernel⟩ ⟨by decide, by decide⟩
    have he : (g_wd ca (g_ad b sk) (E, I, L))[o]? = some (g_ad b sk o, .inr (8, g_fs (g_ad b sk) (E, I, L) o 8)) := by rw [g_wd_get (g_sn_lt (M := (E, I, L)) h1.2.1 lo0), g_cell_obj (M := (E, I, L)) (ci := 8) lo0]
    have hrun := vx_runV (l := l) (p := p) (e := e) (below := below) (meth := meth) (locs := locs) (cells := 0) (slots := 0) (H := H) (cc := cL_led) (Ts := gt) (b := g_ad b sk o) (As := [.int X]) (rest := [.int (Int32.ofInt 0), .ref (g_ad b sk q)]) (g := F0 m 4 ls [.int X, .ref (g_ad b sk o), .int (Int32.ofInt 0), .ref (g_ad b sk q)]) ⟨hx, hb, hml, hown, hts⟩ (ld_met (D := D) (ca := ca) (b := b) (sk := sk) (sv := sv) (L := L) (X := X) hst hX) hcw
      ⟨g_blind, va_recv hK h1.1 (g_cl (c := 8) (by decide)) he, g_pre (as := [.ref o, .int X]) h1 h2 hbs hK hXg (fun z => nomatch z)⟩ rfl rfl h3.2.1 rfl (lv_room (by show 1 + (1 + 0) ≤ 8; omega)) dL_led_4 ⟨by decide, by decide⟩
    rcases hrun Ts hT XX with ⟨v, st0, t, T', L', h0, X', hL', e1, e2, ⟨r, M', hv, ⟨hlt, rfl, rfl⟩, hw', hk, hz, -⟩, stp⟩ | ⟨qx, st0, t, T', L', En, ce, h0, X', hL', e1, e2, ⟨rfl, hno, hw', hk, hz⟩, hce, hcv, hcl, st⟩
    · cases hv
      rw [h0] at hk hz
      have hS : va_S (fun q => b ≤ q) s.heap T'.heap (locs ++ L') := by
        refine ⟨Nat.le_trans h2.1 (by rw [e1]; exact hz), fun q q1 q2 => ?_, fun q hq => ?_⟩
        · have q3 : q < b := Nat.lt_of_not_le q2
          rw [e1, hk q q3]
          exact h2.2.1 q q1 q2
        · rcases List.mem_append.mp hq with h | h
          · exact h2.2.2 q h
          · exact hL' q h
      obtain ⟨t2, a1, b1⟩ := ok hlt _ T'.heap (locs ++ L') ls (by rw [e1]; exact hw') hS h3 (fun z => nomatch z) T' rfl X'
      exact ⟨t2, stp t2 a1, b1⟩
    · rw [h0] at hk hz
      obtain ⟨c3, c4, hc3, hc4, hasg⟩ := Cond.castable_spec (va_Nw.use (A := args) (gsD_on _ (by decide)) (hXg.2.2.2.2.2.2.2.2 (.castable "java/util/NoSuchElementException" "java/util/NoSuchElementException") (by decide)))
      cases Option.some.inj (hc3.symm.trans hcl)
      cases Option.some.inj (hc4.symm.trans hcl)
      obtain ⟨vm', X2, st2⟩ := zc_catch X' (g := F0 m 4 ls [.int (Int32.ofInt 0), .ref (g_ad b sk q)]) rfl hown htab (by show covers ⟨0, 9, 12, 13⟩ 4 = true; decide) (by decide) (hts _ ld_w2.2.2.2.2.2) hcl (by rw [e1]; exact hce) (by rw [hcv]; rfl) hasg
      have fin : W p l e lq_rm s m args below meth c T'.heap (locs ++ L') 1 6 Zz (F0 m 12 ls [.ref qx]) := by
        refine lv_astore_n hx hb dL_led_12 rfl (g_lc_has h3) (by decide) rfl (fun ls' h' => ?_)
        refine lv_iconst hx hb dL_led_13 (v := 1) rfl ?_
        rw [hZz]
        refine W.iret hx hb hr (fun t9 ht9 hW9 => ⟨some (.int 1), (E, I, L), rfl, Or.inr ⟨hno, rfl, rfl⟩, by rw [ht9, e1]; exact hw', fun q9 hq9 => by rw [ht9, e1, hk q9 hq9]; exact h2.2.1 q9 (by omega) (by omega), by rw [ht9, e1]; exact Nat.le_trans h2.1 hz, fun z => nomatch z⟩) (fun q9 hq9 => ?_) dL_led_14 hlk
        · rcases List.mem_append.mp hq9 with h | h
          · exact h2.2.2 q9 h
          · exact hL' q9 h
      obtain ⟨t2, a1, b1⟩ := fin (T'.setVm vm') rfl X2
      exact ⟨t2, st.trans (st2 t2 a1), b1⟩
  have go : g_W p l e lq_rm s m args below meth c Zz D ca b sk false 4 0 [some (.ref o), some (.int X), some (.ref q), none] [] (E, I, L) 0 0 := by
    refine gs_aload_n hx hb dL_led_0 rfl ?_
    refine gs_iconst hx hb dL_led_1 ?_
    refine gs_aload_n hx hb dL_led_2 rfl ?_
    refine gs_iload_n hx hb dL_led_3 rfl ?_
    exact call
  rw [hZz, hargs] at go
  rw [hargs, lg_entry_eq]
  exact go s.heap [] _ hw va_S.rf (g_loc (as := [.ref o, .int X, .ref q]) rfl (by show 3 ≤ 4; omega)) (fun z => nomatch z)
end LQ
