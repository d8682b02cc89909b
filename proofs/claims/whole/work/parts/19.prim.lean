/-! rows of constants, of the JDK's own small members, of returns -/
theorem g_mx : Cond.static Lib.Math.max.name ∈ gt ∧ Cond.static Lib.Math.min.name ∈ gt ∧ Cond.initialized "java/lang/Math" ∈ gt ∧ Cond.code Lib.Math.max.name Lib.Math.max.code 2 (some .int) ∈ gt ∧ Cond.code Lib.Math.min.name Lib.Math.min.code 2 (some .int) ∈ gt := by decide +kernel
theorem g_cpw : Cond.native arraycopyName ∈ gt ∧ Cond.static arraycopyName ∈ gt ∧ Cond.initialized "java/lang/System" ∈ gt := by decide +kernel
theorem g_oiw : Cond.instanceMethod Lib.objectInit ∈ gt ∧ Cond.code Lib.objectInit ⟨#[0xb1]⟩ 1 none ∈ gt := by decide +kernel
theorem g_arw : Cond.arrayClass .int ∈ gt ∧ Cond.arrayClass .long ∈ gt := by decide +kernel
theorem g_cat_sum {ad : Nat → Nat} (st : List Value) : ((st.map (g_em ad)).map fun v => v.category).sum ≤ 2 * st.length := by
  induction st with
  | nil => simp
  | cons v r ih =>
    have h : v.category ≤ 2 := by cases v <;> simp [Value.category]
    simp only [List.map_cons, List.sum_cons, List.length_cons, g_em_cat]
    omega
section GS6
variable {p : Program} {l : Launch} {e : Env} {R : Room} {s : State} {m : MethodId} {args : Array Value} {below : List Frame} {meth : Method} {c : Code} {Z : State → Prop}
variable {D : va_G} {ca : Nat → ClassId} {b : Nat} {sk sv : Nat → Nat} {al : Bool} {nL : Nat} {cc : ByteArray} {pc : Nat} {lo : gL} {st : List Value} {M : gM} {cl sl : Nat} {own : String}
theorem g_bud_cat {ad : Nat → Nat} : ∀ {n : Nat} {st : List Value}, g_bud n st → ((st.map (g_em ad)).map fun v => v.category).sum ≤ n := by
  intro n st
  induction st generalizing n with
  | nil => intro _; simp
  | cons v r ih =>
    intro h
    have h1 : v.category ≤ n := h.1
    have h2 := ih h.2
    simp only [List.map_cons, List.sum_cons, g_em_cat]
    omega
theorem gs_ldci (hx : p.tables.exec = Jvm.exec) (hb : c.code = cc) (hown : s.vm.findClass own = some m.cls) (hts : ∀ w ∈ gt, w.before args s = true) {index v : Nat} (hl : Cond.constant own index (nI v) ∈ gt) (hd : decode cc pc = .ok (.ldc index, 2)) (k : g_W p l e R s m args below meth c Z D ca b sk al nL (pc + 2) lo (.int (nI v) :: st) M cl sl) : g_W p l e R s m args below meth c Z D ca b sk al nL pc lo st M cl sl :=
  fun H locs ls h1 h2 h3 h4 => lv_ldc hx hb hown (hts _ hl) hd (k H locs ls h1 h2 h3 h4)
theorem gs_ldcwi (hx : p.tables.exec = Jvm.exec) (hb : c.code = cc) (hown : s.vm.findClass own = some m.cls) (hts : ∀ w ∈ gt, w.before args s = true) {index v : Nat} (hl : Cond.constant own index (nI v) ∈ gt) (hd : decode cc pc = .ok (.ldc_w index, 3)) (k : g_W p l e R s m args below meth c Z D ca b sk al nL (pc + 3) lo (.int (nI v) :: st) M cl sl) : g_W p l e R s m args below meth c Z D ca b sk al nL pc lo st M cl sl :=
  fun H locs ls h1 h2 h3 h4 => lv_ldcw hx hb hown (hts _ hl) hd (k H locs ls h1 h2 h3 h4)
theorem g_ad_str (j : Nat) : g_ad b sk (1000000 + j) = sk j := by
  simp only [g_ad]
  rw [if_neg (by omega), show 1000000 + j - 1000000 = j by omega]
theorem gs_ldcs (hx : p.tables.exec = Jvm.exec) (hb : c.code = cc) (hown : s.vm.findClass own = some m.cls) (hX : g_X b sk sv s) {index j : Nat} {tx : String} (hl : (own, index, tx, j) ∈ gsR) (hd : decode cc pc = .ok (.ldc index, 2)) (k : g_W p l e R s m args below meth c Z D ca b sk al nL (pc + 2) lo (.ref (1000000 + j) :: st) M cl sl) : g_W p l e R s m args below meth c Z D ca b sk al nL pc lo st M cl sl := by
  intro H locs ls h1 h2 h3 h4
  have q := k H locs ls h1 h2 h3 h4
  simp only [List.map_cons, g_em, g_ad_str] at q
  exact va_ldcS hx hb hown (hX.2.1 _ hl) hd q
theorem g_ldcW {T : State} {locs : List Loc} (X : Stand p l e R s m args below meth c T locs cl sl) (hexec : p.tables.exec = Jvm.exec) {text : String} {index : Nat} (hown : s.vm.findClass own = some m.cls) {a : Nat} (hstr : (Cond.stringRef own index text).before #[] s = true) (hval : (Term.string own index).eval #[] s none [] s = some (.ref a))
    {g : JFrame} (hg : g.method = m) (hdg : decode c.code g.pc = .ok (.ldc_w index, 3)) : ∀ target, Steps p.tables e below (T.setTop { g with pc := g.pc + 3, stack := .ref a :: g.stack }) target → Steps p.tables e below (T.setTop g) target := by
  obtain ⟨k, cf, i, a', hk, hcf, hcp, -, hr, hev'⟩ := Cond.stringRef_spec hown hstr
  cases hval.symm.trans hev'
  obtain ⟨k', hk', he⟩ := X.warmed.alike.2.2 _ _ hk
  have hr' : k'.resolved[index]? = some (some (.string a)) := by
    rcases X.warmed.entry hk hk' index with h | ⟨h, -⟩
    · rw [h]; exact hr
    · rw [hr] at h; cases h
  intro target hrest
  subst hg
  jvm_step X.here [hexec, hdg, ldc_w.wp_string (e := e) (s := T) (f := g) X.here.top hk' (by rw [he]; exact hcf) hcp hr']
  exact hrest
theorem gs_ldcws (hx : p.tables.exec = Jvm.exec) (hb : c.code = cc) (hown : s.vm.findClass own = some m.cls) (hX : g_X b sk sv s) {index j : Nat} {tx : String} (hl : (own, index, tx, j) ∈ gsR) (hd : decode cc pc = .ok (.ldc_w index, 3)) (k : g_W p l e R s m args below meth c Z D ca b sk al nL (pc + 3) lo (.ref (1000000 + j) :: st) M cl sl) : g_W p l e R s m args below meth c Z D ca b sk al nL pc lo st M cl sl := by
  intro H locs ls h1 h2 h3 h4 T hT X
  have q := k H locs ls h1 h2 h3 h4
  simp only [List.map_cons, g_em, g_ad_str] at q
  obtain ⟨t, a1, b1⟩ := q T hT X
  have hZ := hX.2.1 _ hl
  exact ⟨t, g_ldcW X hx hown (text := tx) hZ.1 hZ.2 (g := F0 m pc ls (st.map (g_em (g_ad b sk)))) rfl (by rw [hb]; exact hd) t a1, b1⟩
theorem gs_max (hx : p.tables.exec = Jvm.exec) (hb : c.code = cc) (hml : c.maxLocals = nL) (hown : s.vm.findClass own = some m.cls) (hts : ∀ w ∈ gt, w.before args s = true) {index : Nat} {x y : Int32} (hl : Cond.methodLink own index Lib.Math.max.name ∈ gt) (hf : 1 ≤ R.frames) (hR : 100 ≤ R.locals) (hst : g_bud 8 st) (hc : cl ≤ R.cells) (hs : sl ≤ R.slots) (hd : decode cc pc = .ok (.invokestatic index, 3)) (k : g_W p l e R s m args below meth c Z D ca b sk al nL (pc + 3) lo (.int (if x < y then y else x) :: st) M cl sl) : g_W p l e R s m args below meth c Z D ca b sk al nL pc lo (.int y :: .int x :: st) M cl sl :=
  fun H locs ls h1 h2 h3 h4 => va_mmax hx hb (hml.trans h3.2.1.symm) hown (hts _ hl) (hts _ g_mx.1) (hts _ g_mx.2.2.1) (hts _ g_mx.2.2.2.1) hf (by have := g_bud_cat (ad := g_ad b sk) hst; omega) hc hs hd (k H locs ls h1 h2 h3 h4)
theorem gs_min (hx : p.tables.exec = Jvm.exec) (hb : c.code = cc) (hml : c.maxLocals = nL) (hown : s.vm.findClass own = some m.cls) (hts : ∀ w ∈ gt, w.before args s = true) {index : Nat} {x y : Int32} (hl : Cond.methodLink own index Lib.Math.min.name ∈ gt) (hf : 1 ≤ R.frames) (hR : 100 ≤ R.locals) (hst : g_bud 8 st) (hc : cl ≤ R.cells) (hs : sl ≤ R.slots) (hd : decode cc pc = .ok (.invokestatic index, 3)) (k : g_W p l e R s m args below meth c Z D ca b sk al nL (pc + 3) lo (.int (if y < x then y else x) :: st) M cl sl) : g_W p l e R s m args below meth c Z D ca b sk al nL pc lo (.int y :: .int x :: st) M cl sl :=
  fun H locs ls h1 h2 h3 h4 => va_mmin hx hb (hml.trans h3.2.1.symm) hown (hts _ hl) (hts _ g_mx.2.1) (hts _ g_mx.2.2.1) (hts _ g_mx.2.2.2.2) hf (by have := g_bud_cat (ad := g_ad b sk) hst; omega) hc hs hd (k H locs ls h1 h2 h3 h4)
theorem g_nfw : nativeFrameWords "java/lang/System" "arraycopy" 5 + 11 ≤ 90 := by decide +kernel
theorem gs_copy (hx : p.tables.exec = Jvm.exec) (hb : c.code = cc) (hml : c.maxLocals = nL) (hown : s.vm.findClass own = some m.cls) (hts : ∀ w ∈ gt, w.before args s = true) (hK : va_K D vwCl (g_tys ca) s) (hbs : b ≤ s.heap.size) {index a d : Nat} {sp dp n : Int32} (hl : Cond.methodLink own index arraycopyName ∈ gt) (hf : 1 ≤ R.frames) (hR : 100 ≤ R.locals) (hst : g_bud 8 st)
    (ha : (M.1.2.1 a).1 = 1) (hdd : (M.1.2.1 d).1 = 1) (g1 : ¬ sp < 0) (g2 : ¬ dp < 0) (g3 : ¬ n < 0) (g4 : sp.toNatClampNeg + n.toNatClampNeg ≤ (M.1.2.1 a).2) (g5 : dp.toNatClampNeg + n.toNatClampNeg ≤ (M.1.2.1 d).2) (hd : decode cc pc = .ok (.invokestatic index, 3))
    (k : g_W p l e R s m args below meth c Z D ca b sk al nL (pc + 3) lo st (M.1, gU M.2.1 d (va_cpy (M.2.1 a) (M.2.1 d) sp.toNatClampNeg dp.toNatClampNeg n.toNatClampNeg), M.2.2) cl sl) : g_W p l e R s m args below meth c Z D ca b sk al nL pc lo (.int n :: .int dp :: .ref d :: .int sp :: .ref a :: st) M cl sl := by
  intro H locs ls h1 h2 h3 h4
  have e1 : (g_wd ca (g_ad b sk) M)[a]? = some (g_ad b sk a, .inl (ca 0, (M.1.2.1 a).2, .inl (M.2.1 a))) := by rw [g_wd_get (g_sn_lt1 h1.2.1 ha), g_cell_int ha]
  have e2 : (g_wd ca (g_ad b sk) M)[d]? = some (g_ad b sk d, .inl (ca 0, (M.1.2.1 d).2, .inl (M.2.1 d))) := by rw [g_wd_get (g_sn_lt1 h1.2.1 hdd), g_cell_int hdd]
  refine va_copyi hx hb (hml.trans h3.2.1.symm) hown (hts _ hl) (hts _ g_cpw.1) (hts _ g_cpw.2.1) (hts _ g_cpw.2.2) hK h1.1 (g_wd_D h1.2.1.1) h2 a d 0 0 e1 e2 rfl rfl rfl g1 g2 g3 g4 g5 (fun i hi => rfl) hf (by have := g_bud_cat (ad := g_ad b sk) hst; have := g_nfw; omega) hd (fun H1 locs1 q1 q2 q3 => ?_)
  refine k H1 locs1 ls (g_wr_set (M := M) (a := d) rfl rfl (fun q hq => g_cell_congr rfl (gU_ne hq) rfl rfl) h1.2.1 ?_ (g_S_le hbs q3)) q3 h3 h4
  rw [g_cell_int (M := (M.1, gU M.2.1 d (va_cpy (M.2.1 a) (M.2.1 d) sp.toNatClampNeg dp.toNatClampNeg n.toNatClampNeg), M.2.2)) (a := d) hdd]
  simp only [gU_eq]
  exact q1
theorem gs_oinit (hx : p.tables.exec = Jvm.exec) (hb : c.code = cc) (hml : c.maxLocals = nL) (hown : s.vm.findClass own = some m.cls) (hts : ∀ w ∈ gt, w.before args s = true) {index a : Nat} (hl : Cond.methodLink own index Lib.objectInit ∈ gt) (hf : 1 ≤ R.frames) (hR : 100 ≤ R.locals) (hst : g_bud 8 st) (hd : decode cc pc = .ok (.invokespecial index, 3)) (k : g_W p l e R s m args below meth c Z D ca b sk al nL (pc + 3) lo st M cl sl) : g_W p l e R s m args below meth c Z D ca b sk al nL pc lo (.ref a :: st) M cl sl :=
  fun H locs ls h1 h2 h3 h4 => W.objInit hx hb hown (hts _ hl) (hts _ g_oiw.1) (hts _ g_oiw.2) (g := F0 m pc ls ((Value.ref a :: st).map (g_em (g_ad b sk)))) rfl (h3.2.1.trans hml.symm) rfl hd hf (by have h8 := lv_room (m := m) (pc := pc) (ls := ls) (rest := (Value.ref a :: st).map (g_em (g_ad b sk))) (st := st.map (g_em (g_ad b sk))) (by have := g_bud_cat (ad := g_ad b sk) hst; omega); omega) (k H locs ls h1 h2 h3 h4)
end GS6
