/-! the law from its entry on; the claim -/
theorem whole_start {p : Program} {e : Env} {s : State} {m : MethodId} {below : List Frame} {meth : Method} {c : Code} (l : Launch) (hflags : l.flags = flags0) {b L : Nat} {xs : Nat → Int32} (hL : L ≤ 3072) (C0 : lw_At p s m meth c b L xs) : W p l e room_1 s m #[Value.ref b] below meth c s.heap [] 0 0 (lw_Z below #[Value.ref b] s) (entryFrame m ([Value.ref b] : List Value).toArray 7) := by
  obtain ⟨hx, hb, hr, hml, hown, hts0, hXs, hbl, hlocks, hgv⟩ := id C0
  have hts : ∀ w ∈ gt, w.before #[Value.ref b] s = true := fun w h => hts0 w (List.mem_filter.mp h).1
  have hs : NT9.before #[Value.ref b] s = true := hgv
  obtain ⟨sk, sv, hXg, hsk⟩ := st_X hts0 hs
  obtain ⟨D, ca, hK⟩ := st_K hts0
  have hC : lwC p l s m c D ca sk sv b L xs := ⟨hx, hb, hml, hown, hts, hK, hXg, hXs, hbl, hsk, hL, g_mok_all, g_mchk_all⟩
  have hst : l.stackTraces = false := by
    unfold Launch.stackTraces
    rw [hflags]
    decide +kernel
  obtain ⟨M1, M2, e1, n1, e2, n2, hB⟩ := st_two
  have hV : LV 0 254 (40 * 0) (g_nw M2 2 1).1 (g_nw M2 2 1).2.1 := LV_0 hB
  have hM1 := g_met (l := l) (D := D) (ca := ca) (b := s.heap.size) (sk := sk) (sv := sv) (al := true) (mt := mt) (mk := g_mk) (nm := g_cnt) zj_SK g_mok_all g_mchk_all 6 138 [.ref 0] (g_nw gM0 14 12) (fun r M' => r = none ∧ M' = M1) wh_m1.2.2.2 (ev_m_ok 6 138 _ _ M1 e1 _ ⟨rfl, rfl⟩)
  rw [wh_m1.1] at hM1
  have hM2 := g_met (l := l) (D := D) (ca := ca) (b := s.heap.size) (sk := sk) (sv := sv) (al := true) (mt := mt) (mk := g_mk) (nm := g_cnt) zj_SK g_mok_all g_mchk_all 6 209 [.ref 254] (g_nw M1 15 41) (fun r M' => r = none ∧ M' = M2) wh_m2.2.2.2 (ev_m_ok 6 209 _ _ M2 e2 _ ⟨rfl, rfl⟩)
  rw [wh_m2.1] at hM2
  have hok1 := g_mok_all 138 wh_m1.2.2.2
  rw [wh_m1.2.1] at hok1
  have hok2 := g_mok_all 209 wh_m2.2.2.2
  rw [wh_m2.2.1] at hok2
  have loop : ∀ cl sl, cl ≤ 300 → sl ≤ 20000 → g_W p l e room_1 s m #[Value.ref b] below meth c (lw_Z below #[Value.ref b] s) D ca s.heap.size sk true 7 23 [some (.ref 1000999), some (.ref 0), some (.ref 254), some (.ref 272), some (.int (nI (6 * 0))), none, none] [] (g_nw M2 2 1) cl sl :=
    fun cl sl h9 h8 H locs ls h1 h2 h3 _ => lw_loop hC hst hr hlocks rfl 0 (by omega) (g_nw M2 2 1) none none cl sl hV (by omega) (by omega) H locs ls h1 h2 h3 (fun z => nomatch z)
  have e1n : (Int32.ofInt 1).toNatClampNeg = 1 := by decide
  have e0n : Int32.ofInt 0 = nI (6 * 0) := by decide
  have go : g_W p l e room_1 s m #[Value.ref b] below meth c (lw_Z below #[Value.ref b] s) D ca s.heap.size sk true 7 0 [some (.ref 1000999), none, none, none, none, none, none] [] gM0 0 0 := by
    refine gs_new hx hb hown hts hK (ci := 8) (index := 8) (by decide) wh_w1.1 wh_w1.2.1 wh_w1.2.2.1 rfl (by decide) (by decide) (by decide) dw_0 ?_
    refine gs_dup hx hb dw_3 rfl ?_
    refine gs_callI (d := 6) (mcy := 253) (msy := 8444) (as := []) (a := 0) (st := [.ref 0]) hx hb hml hown hts hK hXg (Nat.le_refl _) hok1 hM1 ⟨by decide, by decide⟩ wh_w1.2.2.2 (by rw [wh_m1.2.2.1]; rfl) ⟨by show 1 ≤ 8; omega, trivial⟩ (by decide) (by decide) dw_4 (fun r M' hq => ?_)
    obtain ⟨rfl, rfl⟩ := hq
    refine gs_astore_n hx hb dw_7 ⟨by show 1 < 7; omega, rfl, ?_⟩
    refine gs_new hx hb hown hts hK (ci := 9) (index := 16) (by decide) wh_w2.1 wh_w2.2.1 wh_w2.2.2.1 rfl (by rw [n1]; decide) (by decide) (by decide) dw_8 ?_
    rw [n1]
    refine gs_dup hx hb dw_11 rfl ?_
    refine gs_callI (d := 6) (mcy := 17) (msy := 6272) (as := []) (a := 254) (st := [.ref 254]) hx hb hml hown hts hK hXg (Nat.le_refl _) hok2 hM2 ⟨by decide, by decide⟩ wh_w2.2.2.2 (by rw [wh_m2.2.2.1]; rfl) ⟨by show 1 ≤ 8; omega, trivial⟩ (by decide) (by decide) dw_12 (fun r M' hq => ?_)
    obtain ⟨rfl, rfl⟩ := hq
    refine gs_astore_n hx hb dw_15 ⟨by show 2 < 7; omega, rfl, ?_⟩
    refine gs_iconst hx hb dw_16 ?_
    refine gs_newl hx hb hts hK g_arw.2 rfl (by rw [n2]; decide) (by decide) (by decide) (by decide) (by decide) dw_17 ?_
    rw [n2, e1n]
    refine gs_astore_n hx hb dw_19 ⟨by show 3 < 7; omega, rfl, ?_⟩
    refine gs_iconst hx hb dw_20 ?_
    refine gs_istore hx hb dw_21 ⟨by show 4 < 7; omega, rfl, ?_⟩
    rw [e0n]
    exact loop _ _ (by decide) (by decide)
  have hw : g_wr D ca s.heap.size sk gM0 s.heap := ⟨fun k q h => by simp [g_wd, gM0] at h, ⟨by decide, fun a h => absurd rfl h⟩, Nat.le_refl _⟩
  have hl := g_loc (ad := g_ad s.heap.size sk) (as := [.ref 1000999]) (n := 7) rfl (by show 1 ≤ 7; omega)
  have e9 : [Value.ref 1000999].map (g_em (g_ad s.heap.size sk)) = [Value.ref b] := by
    show [Value.ref (g_ad s.heap.size sk 1000999)] = _
    rw [lw_ad hsk]
  rw [e9] at hl
  rw [lg_entry_eq]
  exact go s.heap [] _ hw va_S.rf hl (fun _ => rfl)
set_option maxHeartbeats 4000000 in
theorem lw_walk (l : Launch) (hflags : l.flags = flags0) (b : Addr) (xs : List Int32) : MetFree l x (headSpec (Jvm.Cond.code x code maxLocals ret :: tables_1) room_1) (lw_P b xs) (fun _ _ _ _ _ => True) lw_Q := by
  refine MetFree.of_bodyS (code := code) (maxLocals := maxLocals) (ret := ret) (by decide) ?_ ?_
  · intro args s m h hn
    obtain ⟨meth, c, h1, h2, h3, h4, h5, h6, -, -⟩ := Cond.code_spec hn (atoms_spec (ws := Jvm.Cond.code x code maxLocals ret :: tables_1) h _ List.mem_cons_self)
    exact ⟨meth, c, h1, h2, h3, h4, h5, h6⟩
  · intro p e s m args below meth c s₁ B hml0 hP _
    obtain ⟨rfl, hx, hbd, hgv⟩ := hP
    obtain ⟨scr, harrAt, hlist, hof, hsmall⟩ := hx
    obtain ⟨hcb, hkn, -, -⟩ := State.arrayAt?_spec harrAt
    have hown : s.vm.findClass R_law = some m.cls := findClass_of_methodNamed B.named
    have hts0 : ∀ c ∈ (Jvm.Cond.code x code maxLocals ret :: tables_1), c.before #[Value.ref b] s = true := atoms_spec (ws := Jvm.Cond.code x code maxLocals ret :: tables_1) B.pre
    have hts : ∀ w ∈ lw_tbl, w.before #[Value.ref b] s = true := k2_hts_sels lw_privs (fun w hw => hts0 w (List.mem_cons_of_mem _ hw)) lw_privs_ok
    have hml : c.maxLocals = 7 := B.maxLocals_eq (hts0 _ List.mem_cons_self)
    have X₀ : Stand p l e room_1 s m #[Value.ref b] below meth c s₁ [] 0 0 := Stand.of_body B
    have hh0 : s₁.heap = s.heap := by rw [B.state]; rfl
    have hsz : scr.slots.size = xs.length := by rw [← Array.length_toList, hlist, List.length_map]
    have hval : ∀ j : Nat, j < xs.length → scr.slots[j]? = some (.int (xs.getD j 0)) := fun j hj => by
      rw [← Array.getElem?_toList, hlist]
      simp [hj]
    have hbl : b < s.heap.size := (Array.getElem?_eq_some_iff.mp hcb).1
    have hX : va_X b xs.length (fun j => xs.getD j 0) s s.heap := ⟨scr, hcb, hof, hkn, hsz, hval⟩
    have K : W p l e room_1 s m #[Value.ref b] below meth c s₁.heap [] 0 0 (lw_Z below #[Value.ref b] s) (entryFrame m ([Value.ref b] : List Value).toArray 7) := by
      rw [hh0]
      exact whole_start l hflags hbd ⟨B.exec, B.bytes, B.returns, hml, hown, hts, hX, hbl, B.notSynchronized, hgv⟩
    obtain ⟨t, a1, o, b1, b2, b3⟩ := K s₁ rfl X₀
    exact ⟨t, o, a1, b1, b2, b3⟩
theorem lw_pre_spec {args : Array Value} {s : State} (h : (Jvm.Cond.and given_1 narrow_1).before args s = true) (hr : rest_1_c.before args s = true) : ∃ (b : Addr) (xs : List Int32), lw_P b xs args s := by
  have hs := flat_of_before _ h
  have hq := flat_of_before _ hr
  have hc : (Cond.count 1).before args s = true := hs _ (by decide +kernel)
  have harr : (Cond.arrayOf (.arg 0) .int).before args s = true := hs _ (by decide +kernel)
  have hle : (Cond.le (.length (.arg 0)) (.int 3072)).before args s = true := hs _ (by decide +kernel)
  have hlen : (Cond.isInt (.length (.arg 0))).before args s = true := hq _ (by decide +kernel)
  have hall : (Cond.all (.arg 0) (.isInt (.elem (.arg 0) (.index 0)))).before args s = true := hq _ (by decide +kernel)
  obtain ⟨b, xs, hb, hx⟩ := State.ints_of_pre rfl harr hlen hall
  have hsm : xs.length < 2 ^ 31 := hx.choose_spec.2.2.2
  have hev : (Term.length (.arg 0)).eval args s none [] s = some (.int xs.length.toInt32) := hx.length_eval hb
  have hv := Cond.le_ints hev (show (Term.int 3072).eval args s none [] s = some (.int 3072) from rfl)
  have hd : xs.length.toInt32 ≤ 3072 := by
    simpa [Cond.before, Cond.holds, hv] using hle
  have hN : xs.length ≤ 3072 := (Int32.ofNat_le_ofNat hsm (by decide)).mp (show Int32.ofNat xs.length ≤ Int32.ofNat 3072 from hd)
  exact ⟨b, xs, Cond.one_arg hc (show args[0]? = some (.ref b) from hb), hx, hN, h⟩
theorem lw_comes (l : Launch) (hflags : l.flags = flags0) : Comes l x (Jvm.Cond.code x code maxLocals ret :: tables_1) room_1 (fun tb e args s => Calls_1 tb e args s ∧ rest_1 tb e args s ∧ Pre_1 tb e args s)
    (fun _ _ args s o t => lw_Q args s o t) := by
  intro p e ha hc hk s m args below hf hfit hheap happ hpre
  obtain ⟨b, xs, hP⟩ := lw_pre_spec hpre.2.2 hpre.2.1
  obtain ⟨k, o, h1, h2, h3, hQ⟩ := lw_walk l hflags b xs p e ha hc hk s m args below hf ((Spec.applies_iff_loose hf).mp happ).1 hP trivial
  exact ⟨k, o, h1, h2, h3, hQ⟩
theorem lw_frame {s t : State} {o : Outcome} {args : Array Value} (h : Framed s o t [] 601024 7293034) :
    Framed s o t (fieldLocs frame_1_writes args s ++ arrayLocs frame_1_arrays args s ++ staticLocs frame_1_statics s) 601024 7293034 := h
theorem lw_limb (L : Cond) (hL : ∀ (args : Array Value) (s t : State), L.after args s (.returned (some (.int 1))) t = true) :
    ArmFor flags0 classFile x code maxLocals ret World_1 tables_1 room_1 Calls_1 rest_1 Pre_1
      (fun tb e a s o t => postC L tb e a s o t ∧ Framed s o t (fieldLocs frame_1_writes a s ++ arrayLocs frame_1_arrays a s ++ staticLocs frame_1_statics s) 601024 7293034) := by
  intro l hflags _ _ p e ha hc hk s m args below hf hfit hheap happ hpre
  obtain ⟨k, o, h1, h2, h3, rfl, hF⟩ := lw_comes l hflags p e ha hc hk s m args below hf hfit hheap happ hpre
  exact ⟨k, _, h1, h2, h3, hL args s _, lw_frame hF⟩
theorem i_vc : Claimed_1_1 ∧ Claimed_1_2 := ⟨lw_limb limb_1_1 (fun args s t => by simp [limb_1_1, Cond.after, Cond.holds, Cond.value]), lw_limb limb_1_2 (fun args s t => Cond.after_iff.mpr (by
  first | (rw [show limb_1_2 = Cond.eq .result (.int 1) from rfl, Cond.eq_ints (x := 1) (y := 1) rfl rfl]; simp; done) | (simp [limb_1_2, Cond.value, Term.eval]; done)))⟩

