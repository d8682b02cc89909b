/-! calls -/
section GS8
variable {p : Program} {l : Launch} {e : Env} {R : Room} {s : State} {m : MethodId} {args : Array Value} {below : List Frame} {meth : Method} {c : Code} {Z : State → Prop}
variable {D : va_G} {ca : Nat → ClassId} {b : Nat} {sk sv : Nat → Nat} {al : Bool} {nL : Nat} {cc : ByteArray} {pc : Nat} {lo : gL} {st as : List Value} {M : gM} {cl sl d mcy msy index : Nat} {own : String} {Q : Option Value → gM → Prop} {md : gD}
theorem g_desc_n {md : gD} {k : Nat} (h : g_mok md k) {n : Nat} (hn : n = if k = 1 then md.2.2.2.2.1 else md.2.2.2.2.1 - 1) : (parseMethodDescriptor md.1.desc).map (fun d => d.parameters.length) = some n := by rw [hn]; exact h.2.2.2.2.2.1
theorem g_stk (as : List Value) (a : Nat) (st : List Value) : ((as.reverse ++ Value.ref a :: st).map (g_em (g_ad b sk))) = (as.map (g_em (g_ad b sk))).reverse ++ Value.ref (g_ad b sk a) :: st.map (g_em (g_ad b sk)) := by
  rw [List.map_append, List.map_reverse, List.map_cons]
  rfl
theorem g_room_ok {H : Heap} {ls : Array Slot} {stk : List Value} (hst : g_bud 8 st) : 2 * (F0 m pc ls stk).monitorRoom + ((st.map (g_em (g_ad b sk))).map fun v => v.category).sum ≤ 8 :=
  lv_room (by have := g_bud_cat (ad := g_ad b sk) hst; omega)
theorem gs_callV (hx : p.tables.exec = Jvm.exec) (hb : c.code = cc) (hml : c.maxLocals = nL) (hown : s.vm.findClass own = some m.cls) (hts : ∀ w ∈ gt, w.before args s = true) (hK : va_K D vwCl (g_tys ca) s) (hX : g_X b sk sv s) (hbs : b ≤ s.heap.size) {a ci : Nat} (hok : g_mok md 0)
    (hM : Met l md.1 (g_ws md) (g_rm d mcy msy) (g_Pc D ca b sk sv al (.ref a :: as) M) (g_Qc D ca b sk al mcy M Q) mcy msy (fun q => b ≤ q)) (hR : d + 4 + 1 ≤ R.frames ∧ 60 + (300 + 60 * d) ≤ R.locals) (hci : ci < 10) (hsh : M.1.2.1 a = (ci + 6, gN ci)) (hcls : md.1.cls = gR ci) (hl : Cond.methodLink own index md.1 ∈ gt) (hna : as.length = md.2.2.2.2.1 - 1) (hst : g_bud 8 st) (hc : cl + mcy ≤ R.cells) (hs : sl + msy ≤ R.slots)
    (hd : decode cc pc = .ok (.invokevirtual index, 3)) (kk : ∀ r M', Q r M' → g_W p l e R s m args below meth c Z D ca b sk al nL (pc + 3) lo (r.toList ++ st) M' (cl + mcy) (sl + msy)) : g_W p l e R s m args below meth c Z D ca b sk al nL pc lo (as.reverse ++ .ref a :: st) M cl sl := by
  intro H locs ls h1 h2 h3 h4 T hT X
  have hz := g_size h1 h4 hT X
  have hT5 := hok.2.2.2.2.1
  have hcw : CallW R s args own (gR ci) index md.1 md.2.1 md.2.2.1 md.2.2.2.1 (g_ws md) (g_rm d mcy msy) mcy msy as.length := by
    refine cwV as.length hts (g_good ?_) rfl rfl rfl ⟨hcls, hok.2.2.2.1.1, hok.2.2.2.1.2, g_desc_n hok (by rw [hna]; rfl)⟩ ⟨hR.1, by show 8 + (md.2.2.1 + 11) + (300 + 60 * d) ≤ R.locals; omega⟩
    intro w hw
    unfold wsV at hw
    rcases List.mem_append.mp hw with h | h
    · simp only [List.mem_cons, List.not_mem_nil, or_false] at h
      rcases h with rfl | rfl | rfl | rfl
      · exact hl
      · exact (hok.2.2.2.2.2.2.2.1 rfl).1
      · rw [← hcls]; exact (hok.2.2.2.2.2.2.2.1 rfl).2
      · rw [← hcls]; exact hok.2.1
    · exact g_mok_code hok w h
  have he : (g_wd ca (g_ad b sk) M)[a]? = some (g_ad b sk a, .inr (ci, g_fs (g_ad b sk) M a ci)) := by rw [g_wd_get (g_sn_lt h1.2.1 hsh), g_cell_obj hsh]
  have hrun := va_runV (l := l) (p := p) (e := e) (below := below) (meth := meth) (locs := locs) (cells := cl) (slots := sl) (H := H) (cc := cc) (Ts := gt) (b := g_ad b sk a) (As := as.map (g_em (g_ad b sk))) (rest := st.map (g_em (g_ad b sk))) (g := F0 m pc ls ((as.reverse ++ Value.ref a :: st).map (g_em (g_ad b sk)))) ⟨hx, hb, hml, hown, hts⟩ hM hcw
    ⟨g_blind, va_recv hK h1.1 (g_cl hci) he, g_pre (as := .ref a :: as) h1 h2 hbs hK hX hz⟩ rfl (by rw [List.length_map]) h3.2.1 (g_stk as a st) (g_room_ok (H := H) hst) hd ⟨hc, hs⟩
  exact gs_back hrun h2 h3 h4 hbs kk T hT X
theorem gs_callS (hx : p.tables.exec = Jvm.exec) (hb : c.code = cc) (hml : c.maxLocals = nL) (hown : s.vm.findClass own = some m.cls) (hts : ∀ w ∈ gt, w.before args s = true) (hK : va_K D vwCl (g_tys ca) s) (hX : g_X b sk sv s) (hbs : b ≤ s.heap.size) (hok : g_mok md 1)
    (hM : Met l md.1 (g_ws md) (g_rm d mcy msy) (g_Pc D ca b sk sv al as M) (g_Qc D ca b sk al mcy M Q) mcy msy (fun q => b ≤ q)) (hR : d + 4 + 1 ≤ R.frames ∧ 60 + (300 + 60 * d) ≤ R.locals) (hl : Cond.methodLink own index md.1 ∈ gt) (hna : as.length = md.2.2.2.2.1) (hst : g_bud 8 st) (hc : cl + mcy ≤ R.cells) (hs : sl + msy ≤ R.slots)
    (hd : decode cc pc = .ok (.invokestatic index, 3)) (kk : ∀ r M', Q r M' → g_W p l e R s m args below meth c Z D ca b sk al nL (pc + 3) lo (r.toList ++ st) M' (cl + mcy) (sl + msy)) : g_W p l e R s m args below meth c Z D ca b sk al nL pc lo (as.reverse ++ st) M cl sl := by
  intro H locs ls h1 h2 h3 h4 T hT X
  have hz := g_size h1 h4 hT X
  have hT5 := hok.2.2.2.2.1
  have hcw : CallB R s args own index md.1 md.2.1 md.2.2.1 md.2.2.2.1 (g_ws md) (g_rm d mcy msy) mcy msy as.length ∧ (Cond.static md.1).before args s = true := by
    refine va_cwS as.length hts (g_good ?_) rfl rfl rfl ⟨hok.2.2.2.1.1, hok.2.2.2.1.2, g_desc_n hok (by rw [hna]; rfl)⟩ ⟨hR.1, by show 8 + (md.2.2.1 + 11) + (300 + 60 * d) ≤ R.locals; omega⟩
    intro w hw
    unfold va_wsS at hw
    rcases List.mem_append.mp hw with h | h
    · simp only [List.mem_cons, List.not_mem_nil, or_false] at h
      rcases h with rfl | rfl | rfl
      · exact hl
      · exact hok.2.2.2.2.2.2.2.2.1 rfl
      · exact hok.2.1
    · exact g_mok_code hok w h
  have hrun := va_runS (l := l) (p := p) (e := e) (below := below) (meth := meth) (locs := locs) (cells := cl) (slots := sl) (H := H) (cc := cc) (Ts := gt) (As := as.map (g_em (g_ad b sk))) (rest := st.map (g_em (g_ad b sk))) (g := F0 m pc ls ((as.reverse ++ st).map (g_em (g_ad b sk)))) ⟨hx, hb, hml, hown, hts⟩ hM hcw
    ⟨g_blind, g_pre (as := as) h1 h2 hbs hK hX hz⟩ rfl (by rw [List.length_map]) h3.2.1 (by show (as.reverse ++ st).map _ = _; rw [List.map_append, List.map_reverse]) (g_room_ok (H := H) hst) hd ⟨hc, hs⟩
  exact gs_back hrun h2 h3 h4 hbs kk T hT X
theorem gs_callI (hx : p.tables.exec = Jvm.exec) (hb : c.code = cc) (hml : c.maxLocals = nL) (hown : s.vm.findClass own = some m.cls) (hts : ∀ w ∈ gt, w.before args s = true) (hK : va_K D vwCl (g_tys ca) s) (hX : g_X b sk sv s) (hbs : b ≤ s.heap.size) {a : Nat} (hok : g_mok md 2)
    (hM : Met l md.1 (g_ws md) (g_rm d mcy msy) (g_Pc D ca b sk sv al (.ref a :: as) M) (g_Qc D ca b sk al mcy M Q) mcy msy (fun q => b ≤ q)) (hR : d + 4 + 1 ≤ R.frames ∧ 60 + (300 + 60 * d) ≤ R.locals) (hl : Cond.methodLink own index md.1 ∈ gt) (hna : as.length = md.2.2.2.2.1 - 1) (hst : g_bud 8 st) (hc : cl + mcy ≤ R.cells) (hs : sl + msy ≤ R.slots)
    (hd : decode cc pc = .ok (.invokespecial index, 3)) (kk : ∀ r M', Q r M' → g_W p l e R s m args below meth c Z D ca b sk al nL (pc + 3) lo (r.toList ++ st) M' (cl + mcy) (sl + msy)) : g_W p l e R s m args below meth c Z D ca b sk al nL pc lo (as.reverse ++ .ref a :: st) M cl sl := by
  intro H locs ls h1 h2 h3 h4 T hT X
  have hz := g_size h1 h4 hT X
  have hT5 := hok.2.2.2.2.1
  obtain ⟨k1, k2, k3⟩ := hok.2.2.2.2.2.2.2.2.2 rfl
  have hcw : CallB R s args own index md.1 md.2.1 md.2.2.1 none (g_ws md) (g_rm d mcy msy) mcy msy as.length ∧ md.1.name = "<init>" ∧ (Cond.instanceMethod md.1).before args s = true :=
    cwI as.length hts (g_good (g_mok_code hok)) (ws' := gt) (by rw [← k3]) rfl rfl (hts _ hok.2.1) (hts _ hl) (hts _ k1) k2 ⟨hok.2.2.2.1.1, hok.2.2.2.1.2, g_desc_n hok (by rw [hna]; rfl)⟩ ⟨hR.1, by show 8 + (md.2.2.1 + 11) + (300 + 60 * d) ≤ R.locals; omega⟩
  have hrun := va_runI (l := l) (p := p) (e := e) (below := below) (meth := meth) (locs := locs) (cells := cl) (slots := sl) (H := H) (cc := cc) (Ts := gt) (b := g_ad b sk a) (As := as.map (g_em (g_ad b sk))) (rest := st.map (g_em (g_ad b sk))) (g := F0 m pc ls ((as.reverse ++ Value.ref a :: st).map (g_em (g_ad b sk)))) ⟨hx, hb, hml, hown, hts⟩ hM hcw
    ⟨g_blind, g_pre (as := .ref a :: as) h1 h2 hbs hK hX hz⟩ rfl (by rw [List.length_map]) h3.2.1 (g_stk as a st) (g_room_ok (H := H) hst) hd ⟨hc, hs⟩
  exact gs_back hrun h2 h3 h4 hbs kk T hT X
theorem gs_callN (hx : p.tables.exec = Jvm.exec) (hb : c.code = cc) (hml : c.maxLocals = nL) (hown : s.vm.findClass own = some m.cls) (hts : ∀ w ∈ gt, w.before args s = true) (hK : va_K D vwCl (g_tys ca) s) (hX : g_X b sk sv s) (hbs : b ≤ s.heap.size) {a : Nat} (hok : g_mok md 2)
    (hM : Met l md.1 (g_ws md) (g_rm d mcy msy) (g_Pc D ca b sk sv al (.ref a :: as) M) (g_Qc D ca b sk al mcy M Q) mcy msy (fun q => b ≤ q)) (hR : d + 4 + 1 ≤ R.frames ∧ 60 + (300 + 60 * d) ≤ R.locals) {host : String} (hl : (own, index, md.1, host) ∈ gsK) (hna : as.length = md.2.2.2.2.1 - 1) (hst : g_bud 8 st) (hc : cl + mcy ≤ R.cells) (hs : sl + msy ≤ R.slots)
    (hd : decode cc pc = .ok (.invokespecial index, 3)) (kk : ∀ r M', Q r M' → g_W p l e R s m args below meth c Z D ca b sk al nL (pc + 3) lo (r.toList ++ st) M' (cl + mcy) (sl + msy)) : g_W p l e R s m args below meth c Z D ca b sk al nL pc lo (as.reverse ++ .ref a :: st) M cl sl := by
  intro H locs ls h1 h2 h3 h4 T hT X
  have hz := g_size h1 h4 hT X
  have hT5 := hok.2.2.2.2.1
  obtain ⟨k1, k2, k3⟩ := hok.2.2.2.2.2.2.2.2.2 rfl
  have hcw : va_CN R s args own index md.1 host md.2.1 md.2.2.1 none (g_ws md) (g_rm d mcy msy) mcy msy as.length ∧ md.1.name = "<init>" ∧ (Cond.instanceMethod md.1).before args s = true :=
    ⟨va_cnB as.length hts (g_good (g_mok_code hok)) (ws' := gt) (by rw [← k3]) rfl rfl (hX.2.2.1 _ hl) (hts _ hok.2.1) ⟨hok.2.2.2.1.1, hok.2.2.2.1.2, g_desc_n hok (by rw [hna]; rfl)⟩ ⟨hR.1, by show 8 + (md.2.2.1 + 11) + (300 + 60 * d) ≤ R.locals; omega⟩, k2, hts _ k1⟩
  have hrun := va_runIN (l := l) (p := p) (e := e) (below := below) (meth := meth) (locs := locs) (cells := cl) (slots := sl) (H := H) (cc := cc) (Ts := gt) (b := g_ad b sk a) (As := as.map (g_em (g_ad b sk))) (rest := st.map (g_em (g_ad b sk))) (g := F0 m pc ls ((as.reverse ++ Value.ref a :: st).map (g_em (g_ad b sk)))) ⟨hx, hb, hml, hown, hts⟩ hM hcw
    ⟨g_blind, g_pre (as := .ref a :: as) h1 h2 hbs hK hX hz⟩ rfl (by rw [List.length_map]) h3.2.1 (g_stk as a st) (g_room_ok (H := H) hst) hd ⟨hc, hs⟩
  exact gs_back hrun h2 h3 h4 hbs kk T hT X
end GS8
