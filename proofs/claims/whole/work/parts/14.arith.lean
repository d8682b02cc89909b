/-! rows of arithmetic, of the stack, of branches -/
section GS2
variable {p : Program} {l : Launch} {e : Env} {R : Room} {s : State} {m : MethodId} {args : Array Value} {below : List Frame} {meth : Method} {c : Code} {Z : State → Prop}
variable {D : va_G} {ca : Nat → ClassId} {b : Nat} {sk : Nat → Nat} {al : Bool} {nL : Nat} {cc : ByteArray} {pc : Nat} {lo : gL} {st : List Value} {M : gM} {cl sl : Nat}
theorem gs_iadd (hx : p.tables.exec = Jvm.exec) (hb : c.code = cc) {x y : Int32} (hd : decode cc pc = .ok (.iadd, 1)) (k : g_W p l e R s m args below meth c Z D ca b sk al nL (pc + 1) lo (.int (x + y) :: st) M cl sl) : g_W p l e R s m args below meth c Z D ca b sk al nL pc lo (.int y :: .int x :: st) M cl sl :=
  fun H locs ls h1 h2 h3 h4 => lv_iadd hx hb hd (k H locs ls h1 h2 h3 h4)
theorem gs_isub (hx : p.tables.exec = Jvm.exec) (hb : c.code = cc) {x y : Int32} (hd : decode cc pc = .ok (.isub, 1)) (k : g_W p l e R s m args below meth c Z D ca b sk al nL (pc + 1) lo (.int (x - y) :: st) M cl sl) : g_W p l e R s m args below meth c Z D ca b sk al nL pc lo (.int y :: .int x :: st) M cl sl :=
  fun H locs ls h1 h2 h3 h4 => lv_isub hx hb hd (k H locs ls h1 h2 h3 h4)
theorem gs_imul (hx : p.tables.exec = Jvm.exec) (hb : c.code = cc) {x y : Int32} (hd : decode cc pc = .ok (.imul, 1)) (k : g_W p l e R s m args below meth c Z D ca b sk al nL (pc + 1) lo (.int (x * y) :: st) M cl sl) : g_W p l e R s m args below meth c Z D ca b sk al nL pc lo (.int y :: .int x :: st) M cl sl :=
  fun H locs ls h1 h2 h3 h4 => lv_imul hx hb hd (k H locs ls h1 h2 h3 h4)
theorem gs_iand (hx : p.tables.exec = Jvm.exec) (hb : c.code = cc) {x y : Int32} (hd : decode cc pc = .ok (.iand, 1)) (k : g_W p l e R s m args below meth c Z D ca b sk al nL (pc + 1) lo (.int (x &&& y) :: st) M cl sl) : g_W p l e R s m args below meth c Z D ca b sk al nL pc lo (.int y :: .int x :: st) M cl sl :=
  fun H locs ls h1 h2 h3 h4 => lv_iand hx hb hd (k H locs ls h1 h2 h3 h4)
theorem gs_ior (hx : p.tables.exec = Jvm.exec) (hb : c.code = cc) {x y : Int32} (hd : decode cc pc = .ok (.ior, 1)) (k : g_W p l e R s m args below meth c Z D ca b sk al nL (pc + 1) lo (.int (x ||| y) :: st) M cl sl) : g_W p l e R s m args below meth c Z D ca b sk al nL pc lo (.int y :: .int x :: st) M cl sl :=
  fun H locs ls h1 h2 h3 h4 => lv_ior hx hb hd (k H locs ls h1 h2 h3 h4)
theorem gs_ixor (hx : p.tables.exec = Jvm.exec) (hb : c.code = cc) {x y : Int32} (hd : decode cc pc = .ok (.ixor, 1)) (k : g_W p l e R s m args below meth c Z D ca b sk al nL (pc + 1) lo (.int (x ^^^ y) :: st) M cl sl) : g_W p l e R s m args below meth c Z D ca b sk al nL pc lo (.int y :: .int x :: st) M cl sl :=
  fun H locs ls h1 h2 h3 h4 => lv_ixor hx hb hd (k H locs ls h1 h2 h3 h4)
theorem gs_ishl (hx : p.tables.exec = Jvm.exec) (hb : c.code = cc) {x y : Int32} (hd : decode cc pc = .ok (.ishl, 1)) (k : g_W p l e R s m args below meth c Z D ca b sk al nL (pc + 1) lo (.int (x <<< (y &&& 31)) :: st) M cl sl) : g_W p l e R s m args below meth c Z D ca b sk al nL pc lo (.int y :: .int x :: st) M cl sl :=
  fun H locs ls h1 h2 h3 h4 => lv_ishl hx hb hd (k H locs ls h1 h2 h3 h4)
theorem gs_ishr (hx : p.tables.exec = Jvm.exec) (hb : c.code = cc) {x y : Int32} (hd : decode cc pc = .ok (.ishr, 1)) (k : g_W p l e R s m args below meth c Z D ca b sk al nL (pc + 1) lo (.int (x >>> (y &&& 31)) :: st) M cl sl) : g_W p l e R s m args below meth c Z D ca b sk al nL pc lo (.int y :: .int x :: st) M cl sl :=
  fun H locs ls h1 h2 h3 h4 => lv_ishr hx hb hd (k H locs ls h1 h2 h3 h4)
theorem gs_iushr (hx : p.tables.exec = Jvm.exec) (hb : c.code = cc) {x y : Int32} (hd : decode cc pc = .ok (.iushr, 1)) (k : g_W p l e R s m args below meth c Z D ca b sk al nL (pc + 1) lo (.int (x.toUInt32 >>> (y.toUInt32 &&& Int32.toUInt32 31)).toInt32 :: st) M cl sl) : g_W p l e R s m args below meth c Z D ca b sk al nL pc lo (.int y :: .int x :: st) M cl sl :=
  fun H locs ls h1 h2 h3 h4 => lv_iushr hx hb hd rfl (k H locs ls h1 h2 h3 h4)
theorem gs_idiv (hx : p.tables.exec = Jvm.exec) (hb : c.code = cc) {x y : Int32} (hd : decode cc pc = .ok (.idiv, 1)) (hne : ¬ y = 0) (k : g_W p l e R s m args below meth c Z D ca b sk al nL (pc + 1) lo (.int (x / y) :: st) M cl sl) : g_W p l e R s m args below meth c Z D ca b sk al nL pc lo (.int y :: .int x :: st) M cl sl :=
  fun H locs ls h1 h2 h3 h4 => lv_idiv hx hb hd hne (k H locs ls h1 h2 h3 h4)
theorem gs_irem (hx : p.tables.exec = Jvm.exec) (hb : c.code = cc) {x y : Int32} (hd : decode cc pc = .ok (.irem, 1)) (hne : ¬ y = 0) (k : g_W p l e R s m args below meth c Z D ca b sk al nL (pc + 1) lo (.int (x - x / y * y) :: st) M cl sl) : g_W p l e R s m args below meth c Z D ca b sk al nL pc lo (.int y :: .int x :: st) M cl sl :=
  fun H locs ls h1 h2 h3 h4 => lv_irem hx hb hd hne (k H locs ls h1 h2 h3 h4)
theorem gs_ineg (hx : p.tables.exec = Jvm.exec) (hb : c.code = cc) {x : Int32} (hd : decode cc pc = .ok (.ineg, 1)) (k : g_W p l e R s m args below meth c Z D ca b sk al nL (pc + 1) lo (.int (-x) :: st) M cl sl) : g_W p l e R s m args below meth c Z D ca b sk al nL pc lo (.int x :: st) M cl sl :=
  fun H locs ls h1 h2 h3 h4 => lv_ineg hx hb hd (k H locs ls h1 h2 h3 h4)
theorem gs_i2l (hx : p.tables.exec = Jvm.exec) (hb : c.code = cc) {x : Int32} (hd : decode cc pc = .ok (.i2l, 1)) (k : g_W p l e R s m args below meth c Z D ca b sk al nL (pc + 1) lo (.long x.toInt64 :: st) M cl sl) : g_W p l e R s m args below meth c Z D ca b sk al nL pc lo (.int x :: st) M cl sl :=
  fun H locs ls h1 h2 h3 h4 => lv_i2l hx hb hd rfl (k H locs ls h1 h2 h3 h4)
theorem gs_l2i (hx : p.tables.exec = Jvm.exec) (hb : c.code = cc) {x : Int64} (hd : decode cc pc = .ok (.l2i, 1)) (k : g_W p l e R s m args below meth c Z D ca b sk al nL (pc + 1) lo (.int x.toInt32 :: st) M cl sl) : g_W p l e R s m args below meth c Z D ca b sk al nL pc lo (.long x :: st) M cl sl :=
  fun H locs ls h1 h2 h3 h4 => lv_l2i hx hb hd rfl (k H locs ls h1 h2 h3 h4)
theorem gs_ladd (hx : p.tables.exec = Jvm.exec) (hb : c.code = cc) {x y : Int64} (hd : decode cc pc = .ok (.ladd, 1)) (k : g_W p l e R s m args below meth c Z D ca b sk al nL (pc + 1) lo (.long (x + y) :: st) M cl sl) : g_W p l e R s m args below meth c Z D ca b sk al nL pc lo (.long y :: .long x :: st) M cl sl :=
  fun H locs ls h1 h2 h3 h4 => lv_ladd hx hb hd (k H locs ls h1 h2 h3 h4)
theorem gs_lmul (hx : p.tables.exec = Jvm.exec) (hb : c.code = cc) {x y : Int64} (hd : decode cc pc = .ok (.lmul, 1)) (k : g_W p l e R s m args below meth c Z D ca b sk al nL (pc + 1) lo (.long (x * y) :: st) M cl sl) : g_W p l e R s m args below meth c Z D ca b sk al nL pc lo (.long y :: .long x :: st) M cl sl :=
  fun H locs ls h1 h2 h3 h4 => lv_lmul hx hb hd (k H locs ls h1 h2 h3 h4)
theorem gs_lcmp (hx : p.tables.exec = Jvm.exec) (hb : c.code = cc) {x y : Int64} (hd : decode cc pc = .ok (.lcmp, 1)) (k : g_W p l e R s m args below meth c Z D ca b sk al nL (pc + 1) lo (.int (lg_cmp x y) :: st) M cl sl) : g_W p l e R s m args below meth c Z D ca b sk al nL pc lo (.long y :: .long x :: st) M cl sl :=
  fun H locs ls h1 h2 h3 h4 => W.lcmp hx hb hd (k H locs ls h1 h2 h3 h4)
theorem gs_dup (hx : p.tables.exec = Jvm.exec) (hb : c.code = cc) {v : Value} (hd : decode cc pc = .ok (.dup, 1)) (hc : v.category = 1) (k : g_W p l e R s m args below meth c Z D ca b sk al nL (pc + 1) lo (v :: v :: st) M cl sl) : g_W p l e R s m args below meth c Z D ca b sk al nL pc lo (v :: st) M cl sl :=
  fun H locs ls h1 h2 h3 h4 => lv_dup hx hb hd (by rw [g_em_cat]; exact hc) (k H locs ls h1 h2 h3 h4)
theorem gs_pop (hx : p.tables.exec = Jvm.exec) (hb : c.code = cc) {v : Value} (hd : decode cc pc = .ok (.pop, 1)) (hc : v.category = 1) (k : g_W p l e R s m args below meth c Z D ca b sk al nL (pc + 1) lo (st) M cl sl) : g_W p l e R s m args below meth c Z D ca b sk al nL pc lo (v :: st) M cl sl :=
  fun H locs ls h1 h2 h3 h4 => lv_pop hx hb hd (by rw [g_em_cat]; exact hc) (k H locs ls h1 h2 h3 h4)
theorem gs_dup2 (hx : p.tables.exec = Jvm.exec) (hb : c.code = cc) {v w : Value} (hd : decode cc pc = .ok (.dup2, 1)) (hc : v.category = 1) (hc2 : w.category = 1) (k : g_W p l e R s m args below meth c Z D ca b sk al nL (pc + 1) lo (v :: w :: v :: w :: st) M cl sl) : g_W p l e R s m args below meth c Z D ca b sk al nL pc lo (v :: w :: st) M cl sl :=
  fun H locs ls h1 h2 h3 h4 => lv_dup2_11 hx hb hd (by rw [g_em_cat]; exact hc) (by rw [g_em_cat]; exact hc2) (k H locs ls h1 h2 h3 h4)
theorem gs_goto (hx : p.tables.exec = Jvm.exec) (hb : c.code = cc) {o : Int} {tgt : Nat} (hd : decode cc pc = .ok (.goto o, 3)) (ht : (pc : Int) + o = (tgt : Int)) (k : g_W p l e R s m args below meth c Z D ca b sk al nL tgt lo st M cl sl) : g_W p l e R s m args below meth c Z D ca b sk al nL pc lo st M cl sl :=
  fun H locs ls h1 h2 h3 h4 => lv_goto hx hb hd ht (k H locs ls h1 h2 h3 h4)
theorem gs_if (hx : p.tables.exec = Jvm.exec) (hb : c.code = cc) {cd : Jvm.ClassFile.Cond} {o : Int} {tgt : Nat} {x : Int32} (hd : decode cc pc = .ok (.ifCond cd o, 3)) (ht : (pc : Int) + o = (tgt : Int)) (k1 : g_c cd x 0 → g_W p l e R s m args below meth c Z D ca b sk al nL tgt lo st M cl sl) (k2 : ¬ g_c cd x 0 → g_W p l e R s m args below meth c Z D ca b sk al nL (pc + 3) lo st M cl sl) : g_W p l e R s m args below meth c Z D ca b sk al nL pc lo (.int x :: st) M cl sl := by
  intro H locs ls h1 h2 h3 h4
  cases cd with
  | eq => exact lv_if_eq hx hb hd ht (fun z => k1 z H locs ls h1 h2 h3 h4) (fun z => k2 z H locs ls h1 h2 h3 h4)
  | ne => exact lv_if_ne hx hb hd ht (fun z => k1 z H locs ls h1 h2 h3 h4) (fun z => k2 (fun q => q z) H locs ls h1 h2 h3 h4)
  | lt => exact lv_if_lt hx hb hd ht (fun z => k1 z H locs ls h1 h2 h3 h4) (fun z => k2 z H locs ls h1 h2 h3 h4)
  | ge => exact lv_if_ge hx hb hd ht (fun z => k1 z H locs ls h1 h2 h3 h4) (fun z => k2 z H locs ls h1 h2 h3 h4)
  | gt => exact lv_if_gt hx hb hd ht (fun z => k1 z H locs ls h1 h2 h3 h4) (fun z => k2 z H locs ls h1 h2 h3 h4)
  | le => exact lv_if_le hx hb hd ht (fun z => k1 z H locs ls h1 h2 h3 h4) (fun z => k2 z H locs ls h1 h2 h3 h4)
theorem gs_icmp (hx : p.tables.exec = Jvm.exec) (hb : c.code = cc) {cd : Jvm.ClassFile.Cond} {o : Int} {tgt : Nat} {x y : Int32} (hd : decode cc pc = .ok (.if_icmp cd o, 3)) (ht : (pc : Int) + o = (tgt : Int)) (k1 : g_c cd x y → g_W p l e R s m args below meth c Z D ca b sk al nL tgt lo st M cl sl) (k2 : ¬ g_c cd x y → g_W p l e R s m args below meth c Z D ca b sk al nL (pc + 3) lo st M cl sl) : g_W p l e R s m args below meth c Z D ca b sk al nL pc lo (.int y :: .int x :: st) M cl sl := by
  intro H locs ls h1 h2 h3 h4
  cases cd with
  | eq => exact lv_icmp_eq hx hb hd ht (fun z => k1 z H locs ls h1 h2 h3 h4) (fun z => k2 z H locs ls h1 h2 h3 h4)
  | ne => exact lv_icmp_ne hx hb hd ht (fun z => k1 z H locs ls h1 h2 h3 h4) (fun z => k2 (fun q => q z) H locs ls h1 h2 h3 h4)
  | lt => exact lv_icmp_lt hx hb hd ht (fun z => k1 z H locs ls h1 h2 h3 h4) (fun z => k2 z H locs ls h1 h2 h3 h4)
  | ge => exact lv_icmp_ge hx hb hd ht (fun z => k1 z H locs ls h1 h2 h3 h4) (fun z => k2 z H locs ls h1 h2 h3 h4)
  | gt => exact lv_icmp_gt hx hb hd ht (fun z => k1 z H locs ls h1 h2 h3 h4) (fun z => k2 z H locs ls h1 h2 h3 h4)
  | le => exact lv_icmp_le hx hb hd ht (fun z => k1 z H locs ls h1 h2 h3 h4) (fun z => k2 z H locs ls h1 h2 h3 h4)
theorem gs_table (hx : p.tables.exec = Jvm.exec) (hb : c.code = cc) {d lo0 hi : Int} {os : Array Int} {len : Nat} {x : Int32} {t : Nat} {ts : List Nat} {pcs : List Nat} (hd : decode cc pc = .ok (.tableswitch d lo0 hi os, len)) (hn : os.size = ts.length) (hhi : hi - lo0 + 1 = (ts.length : Int))
    (hP : ∀ u, (x.toInt < lo0 ∨ hi < x.toInt → u = t → ∀ tgt : Nat, (pc : Int) + d = (tgt : Int) → g_W p l e R s m args below meth c Z D ca b sk al nL tgt lo st M cl sl)) (hdt : ∃ tgt : Nat, (pc : Int) + d = (tgt : Int))
    (hQ : ¬ (x.toInt < lo0 ∨ hi < x.toInt) → ∃ (o : Int) (tgt : Nat), os[(x.toInt - lo0).toNat]? = some o ∧ (pc : Int) + o = (tgt : Int) ∧ g_W p l e R s m args below meth c Z D ca b sk al nL tgt lo st M cl sl) : g_W p l e R s m args below meth c Z D ca b sk al nL pc lo (.int x :: st) M cl sl := by
  intro H locs ls h1 h2 h3 h4
  by_cases h : x.toInt < lo0 ∨ hi < x.toInt
  · obtain ⟨tgt, ht⟩ := hdt
    exact lv_tableOut hx hb hd h ht (hP t h rfl tgt ht H locs ls h1 h2 h3 h4)
  · obtain ⟨o, tgt, ho, ht, k⟩ := hQ h
    exact lv_tableIn hx hb hd (fun z => h (Or.inl z)) (fun z => h (Or.inr z)) ho ht (k H locs ls h1 h2 h3 h4)
end GS2
