/-! the law's walk: rows -/
def lwC (p : Program) (l : Launch) (s : State) (m : MethodId) (c : Code) (D : va_G) (ca : Nat → ClassId) (sk sv : Nat → Nat) (b L : Nat) (xs : Nat → Int32) : Prop :=
  p.tables.exec = Jvm.exec ∧ c.code = code ∧ c.maxLocals = 7 ∧ s.vm.findClass RL = some m.cls ∧ (∀ w ∈ gt, w.before #[Value.ref b] s = true) ∧ va_K D vwCl (g_tys ca) s ∧ g_X s.heap.size sk sv s ∧ va_X b L xs s s.heap ∧ b < s.heap.size ∧ sk 999 = b ∧ L ≤ 3072 ∧ (∀ y, y < g_cnt → g_mok (mt y) (g_mk y)) ∧ (∀ y, y < g_cnt → g_mchk mt g_mk g_cnt (mt y) = true)
section LW
variable {p : Program} {l : Launch} {e : Env} {s : State} {m : MethodId} {below : List Frame} {meth : Method} {c : Code} {Z : State → Prop} {D : va_G} {ca : Nat → ClassId} {sk sv : Nat → Nat} {b L : Nat} {xs : Nat → Int32} {M : gM} {cl sl pc i n : Nat} {a5 a6 : Option Value} {st as : List Value} {lo : gL} {Q : Option Value → gM → Prop}
theorem lw_ad (hsk : sk 999 = b) : g_ad s.heap.size sk 1000999 = b := by
  show (if 1000999 < 1000000 then s.heap.size + 1000999 else sk (1000999 - 1000000)) = b
  rw [if_neg (by omega)]
  exact hsk
theorem gs_sld (hx : p.tables.exec = Jvm.exec) (hb : c.code = code) (hxs : va_X b L xs s s.heap) (hbl : b < s.heap.size) (hsk : sk 999 = b) {k : Int32} (hin : vp_in k L) (hd : decode code pc = .ok (.iaload, 1)) (kk : g_W p l e room_1 s m #[Value.ref b] below meth c Z D ca s.heap.size sk false 7 (pc + 1) lo (.int (xs k.toNatClampNeg) :: st) M cl sl) : g_W p l e room_1 s m #[Value.ref b] below meth c Z D ca s.heap.size sk false 7 pc lo (.int k :: .ref 1000999 :: st) M cl sl := by
  intro H locs ls h1 h2 h3 h4
  have q := kk H locs ls h1 h2 h3 h4
  show W p l e room_1 s m #[Value.ref b] below meth c H locs cl sl Z (F0 m pc ls (.int k :: .ref (g_ad s.heap.size sk 1000999) :: st.map (g_em (g_ad s.heap.size sk))))
  rw [lw_ad hsk]
  exact va_sld hx hb hxs hbl (Nat.not_le.mpr hbl) h2 hin hd q
theorem gs_sln (hx : p.tables.exec = Jvm.exec) (hb : c.code = code) (hxs : va_X b L xs s s.heap) (hbl : b < s.heap.size) (hsk : sk 999 = b) (hd : decode code pc = .ok (.arraylength, 1)) (kk : g_W p l e room_1 s m #[Value.ref b] below meth c Z D ca s.heap.size sk false 7 (pc + 1) lo (.int (nI L) :: st) M cl sl) : g_W p l e room_1 s m #[Value.ref b] below meth c Z D ca s.heap.size sk false 7 pc lo (.ref 1000999 :: st) M cl sl := by
  intro H locs ls h1 h2 h3 h4
  have q := kk H locs ls h1 h2 h3 h4
  show W p l e room_1 s m #[Value.ref b] below meth c H locs cl sl Z (F0 m pc ls (.ref (g_ad s.heap.size sk 1000999) :: st.map (g_em (g_ad s.heap.size sk))))
  rw [lw_ad hsk]
  exact va_slen hx hb hxs hbl (Nat.not_le.mpr hbl) h2 hd q
theorem gs_widen {cl2 sl2 : Nat} (h1 : cl ≤ cl2) (h2 : sl ≤ sl2) (k : g_W p l e room_1 s m #[Value.ref b] below meth c Z D ca s.heap.size sk false 7 pc lo st M cl2 sl2) : g_W p l e room_1 s m #[Value.ref b] below meth c Z D ca s.heap.size sk false 7 pc lo st M cl sl :=
  fun H locs ls q1 q2 q3 _ => W.widen h1 h2 (k H locs ls q1 q2 q3 (fun z => nomatch z))
def argB (pc j : Nat) : Bool := decide (decode code pc = .ok (.aload_n 0, 1)) && decide (decode code (pc + 1) = .ok (.iload 4, 2)) && decide (decode code (pc + 3) = .ok (.iconst (j : Int), 1)) && decide (decode code (pc + 4) = .ok (.iadd, 1)) && decide (decode code (pc + 5) = .ok (.iaload, 1))
theorem n_ofI (j : Nat) : Int32.ofInt (j : Int) = nI j := rfl
/-- script[i + j] -/
theorem lw_arg (hC : lwC p l s m c D ca sk sv b L xs) {j : Nat} (hB : argB pc j = true) (hj : i + j < L) (kk : g_W p l e room_1 s m #[Value.ref b] below meth c Z D ca s.heap.size sk false 7 (pc + 6) [some (.ref 1000999), some (.ref 0), some (.ref 254), some (.ref 272), some (.int (nI (i))), a5, a6] (.int (xs (i + j)) :: st) M cl sl) : g_W p l e room_1 s m #[Value.ref b] below meth c Z D ca s.heap.size sk false 7 pc [some (.ref 1000999), some (.ref 0), some (.ref 254), some (.ref 272), some (.int (nI (i))), a5, a6] st M cl sl := by
  obtain ⟨hx, hb, hml, hown, hts, hK, hXg, hxs, hbl, hsk, hL, hmok, hchk⟩ := id hC
  simp only [argB, Bool.and_eq_true, decide_eq_true_eq] at hB
  obtain ⟨⟨⟨⟨d0, d1⟩, d2⟩, d3⟩, d4⟩ := hB
  refine gs_aload_n hx hb d0 (x := 1000999) rfl ?_
  refine gs_iload hx hb d1 (x := nI i) rfl ?_
  refine gs_iconst hx hb d2 ?_
  refine gs_iadd hx hb d3 ?_
  rw [n_ofI, n_add]
  refine gs_sld hx hb hxs hbl hsk (by rw [n_in (by omega) (by omega)]; exact hj) d4 ?_
  rw [n_cl (by omega)]
  exact kk
/-- a call -/
theorem lw_call (hC : lwC p l s m c D ca sk sv b L xs) {y ci a index : Nat} (hy : y < g_cnt) (hk : g_mk y = 0) (hc0 : (mt y).2.2.2.2.2.1 = (0, 0)) (hcls : (mt y).1.cls = gR ci) (hci : ci < 10) (hsh : M.1.2.1 a = (ci + 6, gN ci)) (hl : Cond.methodLink RL index (mt y).1 ∈ gt) (hna : as.length = (mt y).2.2.2.2.1 - 1) (hst : g_bud 8 st) (hcl : cl ≤ 601024) (hsl : sl ≤ 7293034) (hd : decode code pc = .ok (.invokevirtual index, 3)) (hm : gm 40 y (.ref a :: as) M Q)
    (kk : ∀ r M', Q r M' → g_W p l e room_1 s m #[Value.ref b] below meth c Z D ca s.heap.size sk false 7 (pc + 3) lo (r.toList ++ st) M' cl sl) : g_W p l e room_1 s m #[Value.ref b] below meth c Z D ca s.heap.size sk false 7 pc lo (as.reverse ++ .ref a :: st) M cl sl := by
  obtain ⟨hx, hb, hml, hown, hts, hK, hXg, hxs, hbl, hsk, hL, hmok, hchk⟩ := id hC
  have hM := g_met (l := l) (D := D) (ca := ca) (b := s.heap.size) (sk := sk) (sv := sv) (al := false) (mt := mt) (mk := g_mk) (nm := g_cnt) zj_SK hmok hchk 40 y (.ref a :: as) M Q hy hm
  rw [hc0] at hM
  have hok := hmok y hy
  rw [hk] at hok
  exact gs_callV (d := 40) (mcy := 0) (msy := 0) hx hb hml hown hts hK hXg (Nat.le_refl _) hok hM ⟨by decide, by decide⟩ hci hsh hcls hl hna hst hcl hsl hd kk
theorem LV_sx {o y : Nat} {E : gE} {I : Nat → Nat → Int32} (h : LV o y n E I) : E.2.1 o = (14, 12) := by
  obtain ⟨tt, dr, T, S, cnt, ic, U, G, tn, tp, flt, pl, tr, ⟨hX, hY, hU, hb, hoy⟩, hs⟩ := h
  exact hX.1.1
theorem LV_sy {o y : Nat} {E : gE} {I : Nat → Nat → Int32} (h : LV o y n E I) : E.2.1 y = (15, 41) := by
  obtain ⟨tt, dr, T, S, cnt, ic, U, G, tn, tp, flt, pl, tr, ⟨hX, hY, hU, hb, hoy⟩, hs⟩ := h
  exact hY.1.1
theorem LV_so {o y : Nat} {E : gE} {I : Nat → Nat → Int32} (h : LV o y n E I) : E.2.1 (y + 18) = (2, 1) := by
  obtain ⟨tt, dr, T, S, cnt, ic, U, G, tn, tp, flt, pl, tr, ⟨hX, hY, hU, hb, hoy⟩, hs⟩ := h
  exact hs
/-- what is checked of the two methods of a case -/
def lwM (k y1 y2 : Nat) : Bool := decide (y1 < g_cnt) && decide (y2 < g_cnt) && decide (g_mk y1 = 0) && decide (g_mk y2 = 0) && decide ((mt y1).2.2.2.2.2.1 = (0, 0)) && decide ((mt y2).2.2.2.2.2.1 = (0, 0)) && decide ((mt y1).1.cls = gR 8) && decide ((mt y2).1.cls = gR 9) && decide ((mt y1).2.2.2.2.1 = k + 1) && decide ((mt y2).2.2.2.2.1 = k + 1)
def boB (pc : Nat) : Bool := decide (decode code pc = .ok (.ifCond .eq 7, 3)) && decide (decode code (pc + 3) = .ok (.iconst 1, 1)) && decide (decode code (pc + 4) = .ok (.goto 4, 3)) && decide (decode code (pc + 7) = .ok (.iconst 0, 1))
def bI (x : Int32) : Nat := if x = 0 then 0 else 1
theorem bI_lt (x : Int32) : bI x < 2 := by unfold bI; split <;> omega
theorem lw_bool (hC : lwC p l s m c D ca sk sv b L xs) {x : Int32} (hB : boB pc = true) (kk : g_W p l e room_1 s m #[Value.ref b] below meth c Z D ca s.heap.size sk false 7 (pc + 8) lo (.int (nI (bI x)) :: st) M cl sl) : g_W p l e room_1 s m #[Value.ref b] below meth c Z D ca s.heap.size sk false 7 pc lo (.int x :: st) M cl sl := by
  obtain ⟨hx, hb, hml, hown, hts, hK, hXg, hxs, hbl, hsk, hL, hmok, hchk⟩ := id hC
  simp only [boB, Bool.and_eq_true, decide_eq_true_eq] at hB
  obtain ⟨⟨⟨d0, d1⟩, d2⟩, d3⟩ := hB
  refine gs_if hx hb d0 (tgt := pc + 7) (by omega) (fun z => ?_) (fun z => ?_)
  · have z : x = 0 := z
    have e9 : bI x = 0 := if_pos z
    rw [e9] at kk
    refine gs_iconst hx hb d3 ?_
    exact kk
  · have z : ¬ x = 0 := z
    have e9 : bI x = 1 := if_neg z
    rw [e9] at kk
    refine gs_iconst hx hb d1 ?_
    refine gs_goto hx hb d2 (tgt := pc + 8) (by omega) ?_
    exact kk
def lwB0 (pc i1 i2 : Nat) (o : Int) : Bool := decide (decode code pc = .ok (.aload_n 1, 1)) && decide (decode code (pc + 1) = .ok (.invokevirtual i1, 3)) && decide (decode code (pc + 4) = .ok (.aload_n 2, 1)) && decide (decode code (pc + 5) = .ok (.invokevirtual i2, 3)) && decide (decode code (pc + 8) = .ok (.if_icmp .eq o, 3)) && decide (((pc + 8 : Nat) : Int) + o = ((1822 : Nat) : Int))
theorem lw_q0 (hC : lwC p l s m c D ca sk sv b L xs) {i1 i2 y1 y2 : Nat} {o : Int} (hB : lwB0 pc i1 i2 o = true) (hM : lwM 0 y1 y2 = true) (hm1 : Cond.methodLink RL i1 (mt y1).1 ∈ gt) (hm2 : Cond.methodLink RL i2 (mt y2).1 ∈ gt) (hi : i + 6 ≤ L) (hV : LV 0 254 n M.1 M.2.1) (hP : PR (0 + 40) 0 254 n y1 y2 [] M) (hcl : cl ≤ 601024) (hsl : sl ≤ 7293034)
    (kk : ∀ M', LV 0 254 (n + 40) M'.1 M'.2.1 → g_W p l e room_1 s m #[Value.ref b] below meth c Z D ca s.heap.size sk false 7 1822 [some (.ref 1000999), some (.ref 0), some (.ref 254), some (.ref 272), some (.int (nI (i))), a5, a6] [] M' cl sl) : g_W p l e room_1 s m #[Value.ref b] below meth c Z D ca s.heap.size sk false 7 pc [some (.ref 1000999), some (.ref 0), some (.ref 254), some (.ref 272), some (.int (nI (i))), a5, a6] [] M cl sl := by
  obtain ⟨hx, hb, hml, hown, hts, hK, hXg, hxs, hbl, hsk, hL, hmok, hchk⟩ := id hC
  simp only [lwB0, Bool.and_eq_true, decide_eq_true_eq] at hB
  simp only [lwM, Bool.and_eq_true, decide_eq_true_eq] at hM
  obtain ⟨⟨⟨⟨⟨d0, dc1⟩, d2⟩, dc2⟩, dm⟩, ho⟩ := hB
  obtain ⟨⟨⟨⟨⟨⟨⟨⟨⟨hy1, hy2⟩, hk1⟩, hk2⟩, hz1⟩, hz2⟩, hs1⟩, hs2⟩, hn1⟩, hn2⟩ := hM
  refine gs_aload_n hx hb d0 (x := 0) rfl ?_
  refine lw_call (as := []) (st := []) (a := 0) (ci := 8) hC hy1 hk1 hz1 hs1 (by decide) (LV_sx hV) hm1 (by rw [hn1]; rfl) trivial hcl hsl dc1 hP (fun r M1 hq => ?_)
  obtain ⟨v, rfl, hsh, hP2⟩ := hq
  refine gs_aload_n hx hb d2 (x := 254) rfl ?_
  refine lw_call (as := []) (st := [.int v]) (a := 254) (ci := 9) hC hy2 hk2 hz2 hs2 (by decide) (by rw [hsh]; exact LV_sy hV) hm2 (by rw [hn2]; rfl) ⟨by show 1 ≤ 8; omega, trivial⟩ hcl hsl dc2 hP2 (fun r2 M2 hq2 => ?_)
  obtain ⟨rfl, hV2⟩ := hq2
  exact gs_icmp hx hb dm (tgt := 1822) ho (fun _ => kk M2 hV2) (fun z => absurd rfl z)
def lwB1 (pc i1 i2 : Nat) (o : Int) : Bool := decide (decode code pc = .ok (.aload_n 1, 1)) && argB (pc + 1) 1 && decide (decode code (pc + 7) = .ok (.invokevirtual i1, 3)) && decide (decode code (pc + 10) = .ok (.aload_n 2, 1)) && argB (pc + 11) 1 && decide (decode code (pc + 17) = .ok (.invokevirtual i2, 3)) && decide (decode code (pc + 20) = .ok (.if_icmp .eq o, 3)) && decide (((pc + 20 : Nat) : Int) + o = ((1822 : Nat) : Int))
theorem lw_q1 (hC : lwC p l s m c D ca sk sv b L xs) {i1 i2 y1 y2 : Nat} {o : Int} (hB : lwB1 pc i1 i2 o = true) (hM : lwM 1 y1 y2 = true) (hm1 : Cond.methodLink RL i1 (mt y1).1 ∈ gt) (hm2 : Cond.methodLink RL i2 (mt y2).1 ∈ gt) (hi : i + 6 ≤ L) (hV : LV 0 254 n M.1 M.2.1) (hP : PR (0 + 40) 0 254 n y1 y2 [.int (xs (i + 1))] M) (hcl : cl ≤ 601024) (hsl : sl ≤ 7293034)
    (kk : ∀ M', LV 0 254 (n + 40) M'.1 M'.2.1 → g_W p l e room_1 s m #[Value.ref b] below meth c Z D ca s.heap.size sk false 7 1822 [some (.ref 1000999), some (.ref 0), some (.ref 254), some (.ref 272), some (.int (nI (i))), a5, a6] [] M' cl sl) : g_W p l e room_1 s m #[Value.ref b] below meth c Z D ca s.heap.size sk false 7 pc [some (.ref 1000999), some (.ref 0), some (.ref 254), some (.ref 272), some (.int (nI (i))), a5, a6] [] M cl sl := by
  obtain ⟨hx, hb, hml, hown, hts, hK, hXg, hxs, hbl, hsk, hL, hmok, hchk⟩ := id hC
  simp only [lwB1, Bool.and_eq_true, decide_eq_true_eq] at hB
  simp only [lwM, Bool.and_eq_true, decide_eq_true_eq] at hM
  obtain ⟨⟨⟨⟨⟨⟨⟨d0, a1⟩, dc1⟩, d2⟩, b1⟩, dc2⟩, dm⟩, ho⟩ := hB
  obtain ⟨⟨⟨⟨⟨⟨⟨⟨⟨hy1, hy2⟩, hk1⟩, hk2⟩, hz1⟩, hz2⟩, hs1⟩, hs2⟩, hn1⟩, hn2⟩ := hM
  refine gs_aload_n hx hb d0 (x := 0) rfl ?_
  refine lw_arg hC a1 (by omega) ?_
  refine lw_call (as := [.int (xs (i + 1))]) (st := []) (a := 0) (ci := 8) hC hy1 hk1 hz1 hs1 (by decide) (LV_sx hV) hm1 (by rw [hn1]; rfl) trivial hcl hsl dc1 hP (fun r M1 hq => ?_)
  obtain ⟨v, rfl, hsh, hP2⟩ := hq
  refine gs_aload_n hx hb d2 (x := 254) rfl ?_
  refine lw_arg hC b1 (by omega) ?_
  refine lw_call (as := [.int (xs (i + 1))]) (st := [.int v]) (a := 254) (ci := 9) hC hy2 hk2 hz2 hs2 (by decide) (by rw [hsh]; exact LV_sy hV) hm2 (by rw [hn2]; rfl) ⟨by show 1 ≤ 8; omega, trivial⟩ hcl hsl dc2 hP2 (fun r2 M2 hq2 => ?_)
  obtain ⟨rfl, hV2⟩ := hq2
  exact gs_icmp hx hb dm (tgt := 1822) ho (fun _ => kk M2 hV2) (fun z => absurd rfl z)
def lwB2 (pc i1 i2 : Nat) (o : Int) : Bool := decide (decode code pc = .ok (.aload_n 1, 1)) && argB (pc + 1) 1 && argB (pc + 7) 2 && decide (decode code (pc + 13) = .ok (.invokevirtual i1, 3)) && decide (decode code (pc + 16) = .ok (.aload_n 2, 1)) && argB (pc + 17) 1 && argB (pc + 23) 2 && decide (decode code (pc + 29) = .ok (.invokevirtual i2, 3)) && decide (decode code (pc + 32) = .ok (.if_icmp .eq o, 3)) && decide (((pc + 32 : Nat) : Int) + o = ((1822 : Nat) : Int))
theorem lw_q2 (hC : lwC p l s m c D ca sk sv b L xs) {i1 i2 y1 y2 : Nat} {o : Int} (hB : lwB2 pc i1 i2 o = true) (hM : lwM 2 y1 y2 = true) (hm1 : Cond.methodLink RL i1 (mt y1).1 ∈ gt) (hm2 : Cond.methodLink RL i2 (mt y2).1 ∈ gt) (hi : i + 6 ≤ L) (hV : LV 0 254 n M.1 M.2.1) (hP : PR (0 + 40) 0 254 n y1 y2 [.int (xs (i + 1)), .int (xs (i + 2))] M) (hcl : cl ≤ 601024) (hsl : sl ≤ 7293034)
    (kk : ∀ M', LV 0 254 (n + 40) M'.1 M'.2.1 → g_W p l e room_1 s m #[Value.ref b] below meth c Z D ca s.heap.size sk false 7 1822 [some (.ref 1000999), some (.ref 0), some (.ref 254), some (.ref 272), some (.int (nI (i))), a5, a6] [] M' cl sl) : g_W p l e room_1 s m #[Value.ref b] below meth c Z D ca s.heap.size sk false 7 pc [some (.ref 1000999), some (.ref 0), some (.ref 254), some (.ref 272), some (.int (nI (i))), a5, a6] [] M cl sl := by
  obtain ⟨hx, hb, hml, hown, hts, hK, hXg, hxs, hbl, hsk, hL, hmok, hchk⟩ := id hC
  simp only [lwB2, Bool.and_eq_true, decide_eq_true_eq] at hB
  simp only [lwM, Bool.and_eq_true, decide_eq_true_eq] at hM
  obtain ⟨⟨⟨⟨⟨⟨⟨⟨⟨d0, a1⟩, a2⟩, dc1⟩, d2⟩, b1⟩, b2⟩, dc2⟩, dm⟩, ho⟩ := hB
  obtain ⟨⟨⟨⟨⟨⟨⟨⟨⟨hy1, hy2⟩, hk1⟩, hk2⟩, hz1⟩, hz2⟩, hs1⟩, hs2⟩, hn1⟩, hn2⟩ := hM
  refine gs_aload_n hx hb d0 (x := 0) rfl ?_
  refine lw_arg hC a1 (by omega) ?_
  refine lw_arg hC a2 (by omega) ?_
  refine lw_call (as := [.int (xs (i + 1)), .int (xs (i + 2))]) (st := []) (a := 0) (ci := 8) hC hy1 hk1 hz1 hs1 (by decide) (LV_sx hV) hm1 (by rw [hn1]; rfl) trivial hcl hsl dc1 hP (fun r M1 hq => ?_)
  obtain ⟨v, rfl, hsh, hP2⟩ := hq
  refine gs_aload_n hx hb d2 (x := 254) rfl ?_
  refine lw_arg hC b1 (by omega) ?_
  refine lw_arg hC b2 (by omega) ?_
  refine lw_call (as := [.int (xs (i + 1)), .int (xs (i + 2))]) (st := [.int v]) (a := 254) (ci := 9) hC hy2 hk2 hz2 hs2 (by decide) (by rw [hsh]; exact LV_sy hV) hm2 (by rw [hn2]; rfl) ⟨by show 1 ≤ 8; omega, trivial⟩ hcl hsl dc2 hP2 (fun r2 M2 hq2 => ?_)
  obtain ⟨rfl, hV2⟩ := hq2
  exact gs_icmp hx hb dm (tgt := 1822) ho (fun _ => kk M2 hV2) (fun z => absurd rfl z)
def lwB4 (pc i1 i2 : Nat) (o : Int) : Bool := decide (decode code pc = .ok (.aload_n 1, 1)) && argB (pc + 1) 1 && argB (pc + 7) 2 && argB (pc + 13) 3 && argB (pc + 19) 4 && decide (decode code (pc + 25) = .ok (.invokevirtual i1, 3)) && decide (decode code (pc + 28) = .ok (.aload_n 2, 1)) && argB (pc + 29) 1 && argB (pc + 35) 2 && argB (pc + 41) 3 && argB (pc + 47) 4 && decide (decode code (pc + 53) = .ok (.invokevirtual i2, 3)) && decide (decode code (pc + 56) = .ok (.if_icmp .eq o, 3)) && decide (((pc + 56 : Nat) : Int) + o = ((1822 : Nat) : Int))
theorem lw_q4 (hC : lwC p l s m c D ca sk sv b L xs) {i1 i2 y1 y2 : Nat} {o : Int} (hB : lwB4 pc i1 i2 o = true) (hM : lwM 4 y1 y2 = true) (hm1 : Cond.methodLink RL i1 (mt y1).1 ∈ gt) (hm2 : Cond.methodLink RL i2 (mt y2).1 ∈ gt) (hi : i + 6 ≤ L) (hV : LV 0 254 n M.1 M.2.1) (hP : PR (0 + 40) 0 254 n y1 y2 [.int (xs (i + 1)), .int (xs (i + 2)), .int (xs (i + 3)), .int (xs (i + 4))] M) (hcl : cl ≤ 601024) (hsl : sl ≤ 7293034)
    (kk : ∀ M', LV 0 254 (n + 40) M'.1 M'.2.1 → g_W p l e room_1 s m #[Value.ref b] below meth c Z D ca s.heap.size sk false 7 1822 [some (.ref 1000999), some (.ref 0), some (.ref 254), some (.ref 272), some (.int (nI (i))), a5, a6] [] M' cl sl) : g_W p l e room_1 s m #[Value.ref b] below meth c Z D ca s.heap.size sk false 7 pc [some (.ref 1000999), some (.ref 0), some (.ref 254), some (.ref 272), some (.int (nI (i))), a5, a6] [] M cl sl := by
  obtain ⟨hx, hb, hml, hown, hts, hK, hXg, hxs, hbl, hsk, hL, hmok, hchk⟩ := id hC
  simp only [lwB4, Bool.and_eq_true, decide_eq_true_eq] at hB
  simp only [lwM, Bool.and_eq_true, decide_eq_true_eq] at hM
  obtain ⟨⟨⟨⟨⟨⟨⟨⟨⟨⟨⟨⟨⟨d0, a1⟩, a2⟩, a3⟩, a4⟩, dc1⟩, d2⟩, b1⟩, b2⟩, b3⟩, b4⟩, dc2⟩, dm⟩, ho⟩ := hB
  obtain ⟨⟨⟨⟨⟨⟨⟨⟨⟨hy1, hy2⟩, hk1⟩, hk2⟩, hz1⟩, hz2⟩, hs1⟩, hs2⟩, hn1⟩, hn2⟩ := hM
  refine gs_aload_n hx hb d0 (x := 0) rfl ?_
  refine lw_arg hC a1 (by omega) ?_
  refine lw_arg hC a2 (by omega) ?_
  refine lw_arg hC a3 (by omega) ?_
  refine lw_arg hC a4 (by omega) ?_
  refine lw_call (as := [.int (xs (i + 1)), .int (xs (i + 2)), .int (xs (i + 3)), .int (xs (i + 4))]) (st := []) (a := 0) (ci := 8) hC hy1 hk1 hz1 hs1 (by decide) (LV_sx hV) hm1 (by rw [hn1]; rfl) trivial hcl hsl dc1 hP (fun r M1 hq => ?_)
  obtain ⟨v, rfl, hsh, hP2⟩ := hq
  refine gs_aload_n hx hb d2 (x := 254) rfl ?_
  refine lw_arg hC b1 (by omega) ?_
  refine lw_arg hC b2 (by omega) ?_
  refine lw_arg hC b3 (by omega) ?_
  refine lw_arg hC b4 (by omega) ?_
  refine lw_call (as := [.int (xs (i + 1)), .int (xs (i + 2)), .int (xs (i + 3)), .int (xs (i + 4))]) (st := [.int v]) (a := 254) (ci := 9) hC hy2 hk2 hz2 hs2 (by decide) (by rw [hsh]; exact LV_sy hV) hm2 (by rw [hn2]; rfl) ⟨by show 1 ≤ 8; omega, trivial⟩ hcl hsl dc2 hP2 (fun r2 M2 hq2 => ?_)
  obtain ⟨rfl, hV2⟩ := hq2
  exact gs_icmp hx hb dm (tgt := 1822) ho (fun _ => kk M2 hV2) (fun z => absurd rfl z)
def lwB5 (pc i1 i2 : Nat) (o : Int) : Bool := decide (decode code pc = .ok (.aload_n 1, 1)) && argB (pc + 1) 1 && argB (pc + 7) 2 && argB (pc + 13) 3 && argB (pc + 19) 4 && argB (pc + 25) 5 && decide (decode code (pc + 31) = .ok (.invokevirtual i1, 3)) && decide (decode code (pc + 34) = .ok (.aload_n 2, 1)) && argB (pc + 35) 1 && argB (pc + 41) 2 && argB (pc + 47) 3 && argB (pc + 53) 4 && argB (pc + 59) 5 && decide (decode code (pc + 65) = .ok (.invokevirtual i2, 3)) && decide (decode code (pc + 68) = .ok (.if_icmp .eq o, 3)) && decide (((pc + 68 : Nat) : Int) + o = ((1822 : Nat) : Int))
theorem lw_q5 (hC : lwC p l s m c D ca sk sv b L xs) {i1 i2 y1 y2 : Nat} {o : Int} (hB : lwB5 pc i1 i2 o = true) (hM : lwM 5 y1 y2 = true) (hm1 : Cond.methodLink RL i1 (mt y1).1 ∈ gt) (hm2 : Cond.methodLink RL i2 (mt y2).1 ∈ gt) (hi : i + 6 ≤ L) (hV : LV 0 254 n M.1 M.2.1) (hP : PR (0 + 40) 0 254 n y1 y2 [.int (xs (i + 1)), .int (xs (i + 2)), .int (xs (i + 3)), .int (xs (i + 4)), .int (xs (i + 5))] M) (hcl : cl ≤ 601024) (hsl : sl ≤ 7293034)
    (kk : ∀ M', LV 0 254 (n + 40) M'.1 M'.2.1 → g_W p l e room_1 s m #[Value.ref b] below meth c Z D ca s.heap.size sk false 7 1822 [some (.ref 1000999), some (.ref 0), some (.ref 254), some (.ref 272), some (.int (nI (i))), a5, a6] [] M' cl sl) : g_W p l e room_1 s m #[Value.ref b] below meth c Z D ca s.heap.size sk false 7 pc [some (.ref 1000999), some (.ref 0), some (.ref 254), some (.ref 272), some (.int (nI (i))), a5, a6] [] M cl sl := by
  obtain ⟨hx, hb, hml, hown, hts, hK, hXg, hxs, hbl, hsk, hL, hmok, hchk⟩ := id hC
  simp only [lwB5, Bool.and_eq_true, decide_eq_true_eq] at hB
  simp only [lwM, Bool.and_eq_true, decide_eq_true_eq] at hM
  obtain ⟨⟨⟨⟨⟨⟨⟨⟨⟨⟨⟨⟨⟨⟨⟨d0, a1⟩, a2⟩, a3⟩, a4⟩, a5⟩, dc1⟩, d2⟩, b1⟩, b2⟩, b3⟩, b4⟩, b5⟩, dc2⟩, dm⟩, ho⟩ := hB
  obtain ⟨⟨⟨⟨⟨⟨⟨⟨⟨hy1, hy2⟩, hk1⟩, hk2⟩, hz1⟩, hz2⟩, hs1⟩, hs2⟩, hn1⟩, hn2⟩ := hM
  refine gs_aload_n hx hb d0 (x := 0) rfl ?_
  refine lw_arg hC a1 (by omega) ?_
  refine lw_arg hC a2 (by omega) ?_
  refine lw_arg hC a3 (by omega) ?_
  refine lw_arg hC a4 (by omega) ?_
  refine lw_arg hC a5 (by omega) ?_
  refine lw_call (as := [.int (xs (i + 1)), .int (xs (i + 2)), .int (xs (i + 3)), .int (xs (i + 4)), .int (xs (i + 5))]) (st := []) (a := 0) (ci := 8) hC hy1 hk1 hz1 hs1 (by decide) (LV_sx hV) hm1 (by rw [hn1]; rfl) trivial hcl hsl dc1 hP (fun r M1 hq => ?_)
  obtain ⟨v, rfl, hsh, hP2⟩ := hq
  refine gs_aload_n hx hb d2 (x := 254) rfl ?_
  refine lw_arg hC b1 (by omega) ?_
  refine lw_arg hC b2 (by omega) ?_
  refine lw_arg hC b3 (by omega) ?_
  refine lw_arg hC b4 (by omega) ?_
  refine lw_arg hC b5 (by omega) ?_
  refine lw_call (as := [.int (xs (i + 1)), .int (xs (i + 2)), .int (xs (i + 3)), .int (xs (i + 4)), .int (xs (i + 5))]) (st := [.int v]) (a := 254) (ci := 9) hC hy2 hk2 hz2 hs2 (by decide) (by rw [hsh]; exact LV_sy hV) hm2 (by rw [hn2]; rfl) ⟨by show 1 ≤ 8; omega, trivial⟩ hcl hsl dc2 hP2 (fun r2 M2 hq2 => ?_)
  obtain ⟨rfl, hV2⟩ := hq2
  exact gs_icmp hx hb dm (tgt := 1822) ho (fun _ => kk M2 hV2) (fun z => absurd rfl z)
def lwBb (pc i1 i2 : Nat) (o : Int) : Bool := decide (decode code pc = .ok (.aload_n 1, 1)) && argB (pc + 1) 1 && argB (pc + 7) 2 && boB (pc + 13) && decide (decode code (pc + 21) = .ok (.invokevirtual i1, 3)) && decide (decode code (pc + 24) = .ok (.aload_n 2, 1)) && argB (pc + 25) 1 && argB (pc + 31) 2 && boB (pc + 37) && decide (decode code (pc + 45) = .ok (.invokevirtual i2, 3)) && decide (decode code (pc + 48) = .ok (.if_icmp .eq o, 3)) && decide (((pc + 48 : Nat) : Int) + o = ((1822 : Nat) : Int))
theorem lw_qb (hC : lwC p l s m c D ca sk sv b L xs) {i1 i2 y1 y2 : Nat} {o : Int} (hB : lwBb pc i1 i2 o = true) (hM : lwM 2 y1 y2 = true) (hm1 : Cond.methodLink RL i1 (mt y1).1 ∈ gt) (hm2 : Cond.methodLink RL i2 (mt y2).1 ∈ gt) (hi : i + 6 ≤ L) (hV : LV 0 254 n M.1 M.2.1) (hP : PR (0 + 40) 0 254 n y1 y2 [.int (xs (i + 1)), .int (nI (bI (xs (i + 2))))] M) (hcl : cl ≤ 601024) (hsl : sl ≤ 7293034)
    (kk : ∀ M', LV 0 254 (n + 40) M'.1 M'.2.1 → g_W p l e room_1 s m #[Value.ref b] below meth c Z D ca s.heap.size sk false 7 1822 [some (.ref 1000999), some (.ref 0), some (.ref 254), some (.ref 272), some (.int (nI (i))), a5, a6] [] M' cl sl) : g_W p l e room_1 s m #[Value.ref b] below meth c Z D ca s.heap.size sk false 7 pc [some (.ref 1000999), some (.ref 0), some (.ref 254), some (.ref 272), some (.int (nI (i))), a5, a6] [] M cl sl := by
  obtain ⟨hx, hb, hml, hown, hts, hK, hXg, hxs, hbl, hsk, hL, hmok, hchk⟩ := id hC
  simp only [lwBb, Bool.and_eq_true, decide_eq_true_eq] at hB
  simp only [lwM, Bool.and_eq_true, decide_eq_true_eq] at hM
  obtain ⟨⟨⟨⟨⟨⟨⟨⟨⟨⟨⟨d0, a1⟩, a2⟩, ab⟩, dc1⟩, d2⟩, b1⟩, b2⟩, bb⟩, dc2⟩, dm⟩, ho⟩ := hB
  obtain ⟨⟨⟨⟨⟨⟨⟨⟨⟨hy1, hy2⟩, hk1⟩, hk2⟩, hz1⟩, hz2⟩, hs1⟩, hs2⟩, hn1⟩, hn2⟩ := hM
  refine gs_aload_n hx hb d0 (x := 0) rfl ?_
  refine lw_arg hC a1 (by omega) ?_
  refine lw_arg hC a2 (by omega) ?_
  refine lw_bool hC ab ?_
  refine lw_call (as := [.int (xs (i + 1)), .int (nI (bI (xs (i + 2))))]) (st := []) (a := 0) (ci := 8) hC hy1 hk1 hz1 hs1 (by decide) (LV_sx hV) hm1 (by rw [hn1]; rfl) trivial hcl hsl dc1 hP (fun r M1 hq => ?_)
  obtain ⟨v, rfl, hsh, hP2⟩ := hq
  refine gs_aload_n hx hb d2 (x := 254) rfl ?_
  refine lw_arg hC b1 (by omega) ?_
  refine lw_arg hC b2 (by omega) ?_
  refine lw_bool hC bb ?_
  refine lw_call (as := [.int (xs (i + 1)), .int (nI (bI (xs (i + 2))))]) (st := [.int v]) (a := 254) (ci := 9) hC hy2 hk2 hz2 hs2 (by decide) (by rw [hsh]; exact LV_sy hV) hm2 (by rw [hn2]; rfl) ⟨by show 1 ≤ 8; omega, trivial⟩ hcl hsl dc2 hP2 (fun r2 M2 hq2 => ?_)
  obtain ⟨rfl, hV2⟩ := hq2
  exact gs_icmp hx hb dm (tgt := 1822) ho (fun _ => kk M2 hV2) (fun z => absurd rfl z)
end LW
