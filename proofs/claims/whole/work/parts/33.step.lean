/-! the calculus, row by row, for methods that make nothing; equations that a rewriter takes -/
/-- a call, at most d deep -/
def gm (d y : Nat) (as : List Value) (M : gM) (Q : Option Value → gM → Prop) : Prop := g_m gS0 mt false d y as M Q
def gj (d : Nat) (md : gD) (Q : Option Value → gM → Prop) (k : Nat) (l : gL) (st : List Value) (M : gM) : Prop := g_J gS0 (g_m gS0 mt false d) false md Q k l st M 0 0
def gw (d : Nat) (md : gD) (rt : Option FieldType) (Q : Option Value → gM → Prop) (nk : Nat) (xs : List gX) (l : gL) (st : List Value) (M : gM) : Prop :=
  g_wp gS0 (g_m gS0 mt false d) false 0 0 rt Q (g_J gS0 (g_m gS0 mt false d) false md Q) nk xs l st M 0 0
theorem gm_mono {d d' y : Nat} {as : List Value} {M : gM} {Q Q' : Option Value → gM → Prop} (hd : d ≤ d') (hq : ∀ r M', Q r M' → Q' r M') (h : gm d y as M Q) : gm d' y as M Q' := g_m_mono d d' hd y as M Q Q' hq h
theorem gj_eq {d : Nat} {md : gD} {Q : Option Value → gM → Prop} {k : Nat} {l : gL} {st : List Value} {M : gM} : gj d md Q k l st M = g_wp gS0 (g_m gS0 mt false d) false md.2.2.2.2.2.1.1 md.2.2.2.2.2.1.2 md.2.2.2.1 Q (g_J gS0 (g_m gS0 mt false d) false md Q) (g_blk md k).2 (g_blk md k).1 l st M 0 0 :=
  g_J_eq (fun y as M Q Q' hq z => g_m_mono d d (Nat.le_refl d) y as M Q Q' hq z)
/-- a contract that names what comes back, as an equation -/
theorem gm_eq {d y : Nat} {as : List Value} {M : gM} {r0 : Option Value} {M0 : gM} (h : ∀ Q : Option Value → gM → Prop, Q r0 M0 → gm d y as M Q) (Q : Option Value → gM → Prop) : gm d y as M Q = Q r0 M0 := g_m_eq h Q
section GST
variable {d nk : Nat} {md : gD} {rt : Option FieldType} {Q : Option Value → gM → Prop} {r : List gX} {f : List Nat} {l : gL} {st : List Value} {M : gM} {E : gE} {I : Nat → Nat → Int32} {L : Nat → Nat → Int64}
theorem ws_nil : gw d md rt Q nk [] l st M = gj d md Q nk l st M := propext Iff.rfl
theorem ws_iconst {n : Int} : gw d md rt Q nk ((.iconst n, f) :: r) l st M = gw d md rt Q nk r l (.int (Int32.ofInt n) :: st) M := propext Iff.rfl
theorem ws_bipush {n : Int} : gw d md rt Q nk ((.bipush n, f) :: r) l st M = gw d md rt Q nk r l (.int (Int8.ofInt n).toInt32 :: st) M := propext Iff.rfl
theorem ws_sipush {n : Int} : gw d md rt Q nk ((.sipush n, f) :: r) l st M = gw d md rt Q nk r l (.int (Int16.ofInt n).toInt32 :: st) M := propext Iff.rfl
theorem ws_lconst {n : Fin 2} : gw d md rt Q nk ((.lconst n, f) :: r) l st M = gw d md rt Q nk r l (.long (Int64.ofNat (n : Nat)) :: st) M := propext Iff.rfl
theorem ws_ldc_i {x v p : Nat} : gw d md rt Q nk ((.ldc x, [0, v, p]) :: r) l st M = gw d md rt Q nk r l (.int (nI v) :: st) M := propext Iff.rfl
theorem ws_ldc_s {x j p : Nat} : gw d md rt Q nk ((.ldc x, [1, j, p]) :: r) l st M = gw d md rt Q nk r l (.ref (1000000 + j) :: st) M := propext Iff.rfl
theorem ws_ldc_w_i {x v p : Nat} : gw d md rt Q nk ((.ldc_w x, [0, v, p]) :: r) l st M = gw d md rt Q nk r l (.int (nI v) :: st) M := propext Iff.rfl
theorem ws_ldc_w_s {x j p : Nat} : gw d md rt Q nk ((.ldc_w x, [1, j, p]) :: r) l st M = gw d md rt Q nk r l (.ref (1000000 + j) :: st) M := propext Iff.rfl
theorem ws_iload_0 : gw d md rt Q nk ((.iload_n 0, f) :: r) l st M = g_li l 0 (fun x => gw d md rt Q nk r l (.int x :: st) M) := propext Iff.rfl
theorem ws_lload_0 : gw d md rt Q nk ((.lload_n 0, f) :: r) l st M = g_ll l 0 (fun x => gw d md rt Q nk r l (.long x :: st) M) := propext Iff.rfl
theorem ws_aload_0 : gw d md rt Q nk ((.aload_n 0, f) :: r) l st M = g_lr l 0 (fun x => gw d md rt Q nk r l (.ref x :: st) M) := propext Iff.rfl
theorem ws_istore_0 {x : Int32} : gw d md rt Q nk ((.istore_n 0, f) :: r) l (.int x :: st) M = g_st l 0 (.int x) (fun l => gw d md rt Q nk r l st M) := propext Iff.rfl
theorem ws_lstore_0 {x : Int64} : gw d md rt Q nk ((.lstore_n 0, f) :: r) l (.long x :: st) M = g_st2 l 0 (.long x) (fun l => gw d md rt Q nk r l st M) := propext Iff.rfl
theorem ws_astore_0 {x : Nat} : gw d md rt Q nk ((.astore_n 0, f) :: r) l (.ref x :: st) M = g_st l 0 (.ref x) (fun l => gw d md rt Q nk r l st M) := propext Iff.rfl
theorem ws_iload_1 : gw d md rt Q nk ((.iload_n 1, f) :: r) l st M = g_li l 1 (fun x => gw d md rt Q nk r l (.int x :: st) M) := propext Iff.rfl
theorem ws_lload_1 : gw d md rt Q nk ((.lload_n 1, f) :: r) l st M = g_ll l 1 (fun x => gw d md rt Q nk r l (.long x :: st) M) := propext Iff.rfl
theorem ws_aload_1 : gw d md rt Q nk ((.aload_n 1, f) :: r) l st M = g_lr l 1 (fun x => gw d md rt Q nk r l (.ref x :: st) M) := propext Iff.rfl
theorem ws_istore_1 {x : Int32} : gw d md rt Q nk ((.istore_n 1, f) :: r) l (.int x :: st) M = g_st l 1 (.int x) (fun l => gw d md rt Q nk r l st M) := propext Iff.rfl
theorem ws_lstore_1 {x : Int64} : gw d md rt Q nk ((.lstore_n 1, f) :: r) l (.long x :: st) M = g_st2 l 1 (.long x) (fun l => gw d md rt Q nk r l st M) := propext Iff.rfl
theorem ws_astore_1 {x : Nat} : gw d md rt Q nk ((.astore_n 1, f) :: r) l (.ref x :: st) M = g_st l 1 (.ref x) (fun l => gw d md rt Q nk r l st M) := propext Iff.rfl
theorem ws_iload_2 : gw d md rt Q nk ((.iload_n 2, f) :: r) l st M = g_li l 2 (fun x => gw d md rt Q nk r l (.int x :: st) M) := propext Iff.rfl
theorem ws_lload_2 : gw d md rt Q nk ((.lload_n 2, f) :: r) l st M = g_ll l 2 (fun x => gw d md rt Q nk r l (.long x :: st) M) := propext Iff.rfl
theorem ws_aload_2 : gw d md rt Q nk ((.aload_n 2, f) :: r) l st M = g_lr l 2 (fun x => gw d md rt Q nk r l (.ref x :: st) M) := propext Iff.rfl
theorem ws_istore_2 {x : Int32} : gw d md rt Q nk ((.istore_n 2, f) :: r) l (.int x :: st) M = g_st l 2 (.int x) (fun l => gw d md rt Q nk r l st M) := propext Iff.rfl
theorem ws_lstore_2 {x : Int64} : gw d md rt Q nk ((.lstore_n 2, f) :: r) l (.long x :: st) M = g_st2 l 2 (.long x) (fun l => gw d md rt Q nk r l st M) := propext Iff.rfl
theorem ws_astore_2 {x : Nat} : gw d md rt Q nk ((.astore_n 2, f) :: r) l (.ref x :: st) M = g_st l 2 (.ref x) (fun l => gw d md rt Q nk r l st M) := propext Iff.rfl
theorem ws_iload_3 : gw d md rt Q nk ((.iload_n 3, f) :: r) l st M = g_li l 3 (fun x => gw d md rt Q nk r l (.int x :: st) M) := propext Iff.rfl
theorem ws_lload_3 : gw d md rt Q nk ((.lload_n 3, f) :: r) l st M = g_ll l 3 (fun x => gw d md rt Q nk r l (.long x :: st) M) := propext Iff.rfl
theorem ws_aload_3 : gw d md rt Q nk ((.aload_n 3, f) :: r) l st M = g_lr l 3 (fun x => gw d md rt Q nk r l (.ref x :: st) M) := propext Iff.rfl
theorem ws_istore_3 {x : Int32} : gw d md rt Q nk ((.istore_n 3, f) :: r) l (.int x :: st) M = g_st l 3 (.int x) (fun l => gw d md rt Q nk r l st M) := propext Iff.rfl
theorem ws_lstore_3 {x : Int64} : gw d md rt Q nk ((.lstore_n 3, f) :: r) l (.long x :: st) M = g_st2 l 3 (.long x) (fun l => gw d md rt Q nk r l st M) := propext Iff.rfl
theorem ws_astore_3 {x : Nat} : gw d md rt Q nk ((.astore_n 3, f) :: r) l (.ref x :: st) M = g_st l 3 (.ref x) (fun l => gw d md rt Q nk r l st M) := propext Iff.rfl
theorem ws_iload {k : Nat} : gw d md rt Q nk ((.iload k, f) :: r) l st M = g_li l k (fun x => gw d md rt Q nk r l (.int x :: st) M) := propext Iff.rfl
theorem ws_aload {k : Nat} : gw d md rt Q nk ((.aload k, f) :: r) l st M = g_lr l k (fun x => gw d md rt Q nk r l (.ref x :: st) M) := propext Iff.rfl
theorem ws_istore {x : Int32} {k : Nat} : gw d md rt Q nk ((.istore k, f) :: r) l (.int x :: st) M = g_st l k (.int x) (fun l => gw d md rt Q nk r l st M) := propext Iff.rfl
theorem ws_astore {x : Nat} {k : Nat} : gw d md rt Q nk ((.astore k, f) :: r) l (.ref x :: st) M = g_st l k (.ref x) (fun l => gw d md rt Q nk r l st M) := propext Iff.rfl
theorem ws_iinc {k : Nat} {n : Int} : gw d md rt Q nk ((.iinc k n, f) :: r) l st M = g_li l k (fun x => g_st l k (.int (x + Int32.ofInt n)) (fun l => gw d md rt Q nk r l st M)) := propext Iff.rfl
theorem ws_iadd {x y : Int32} : gw d md rt Q nk ((.iadd, f) :: r) l (.int y :: .int x :: st) M = gw d md rt Q nk r l (.int (x + y) :: st) M := propext Iff.rfl
theorem ws_isub {x y : Int32} : gw d md rt Q nk ((.isub, f) :: r) l (.int y :: .int x :: st) M = gw d md rt Q nk r l (.int (x - y) :: st) M := propext Iff.rfl
theorem ws_imul {x y : Int32} : gw d md rt Q nk ((.imul, f) :: r) l (.int y :: .int x :: st) M = gw d md rt Q nk r l (.int (x * y) :: st) M := propext Iff.rfl
theorem ws_iand {x y : Int32} : gw d md rt Q nk ((.iand, f) :: r) l (.int y :: .int x :: st) M = gw d md rt Q nk r l (.int (x &&& y) :: st) M := propext Iff.rfl
theorem ws_ior {x y : Int32} : gw d md rt Q nk ((.ior, f) :: r) l (.int y :: .int x :: st) M = gw d md rt Q nk r l (.int (x ||| y) :: st) M := propext Iff.rfl
theorem ws_ixor {x y : Int32} : gw d md rt Q nk ((.ixor, f) :: r) l (.int y :: .int x :: st) M = gw d md rt Q nk r l (.int (x ^^^ y) :: st) M := propext Iff.rfl
theorem ws_ishl {x y : Int32} : gw d md rt Q nk ((.ishl, f) :: r) l (.int y :: .int x :: st) M = gw d md rt Q nk r l (.int (x <<< (y &&& 31)) :: st) M := propext Iff.rfl
theorem ws_ishr {x y : Int32} : gw d md rt Q nk ((.ishr, f) :: r) l (.int y :: .int x :: st) M = gw d md rt Q nk r l (.int (x >>> (y &&& 31)) :: st) M := propext Iff.rfl
theorem ws_iushr {x y : Int32} : gw d md rt Q nk ((.iushr, f) :: r) l (.int y :: .int x :: st) M = gw d md rt Q nk r l (.int (x.toUInt32 >>> (y.toUInt32 &&& Int32.toUInt32 31)).toInt32 :: st) M := propext Iff.rfl
theorem ws_idiv {x y : Int32} : gw d md rt Q nk ((.idiv, f) :: r) l (.int y :: .int x :: st) M = (¬ y = 0 ∧ gw d md rt Q nk r l (.int (x / y) :: st) M) := propext Iff.rfl
theorem ws_irem {x y : Int32} : gw d md rt Q nk ((.irem, f) :: r) l (.int y :: .int x :: st) M = (¬ y = 0 ∧ gw d md rt Q nk r l (.int (x - x / y * y) :: st) M) := propext Iff.rfl
theorem ws_ineg {x : Int32} : gw d md rt Q nk ((.ineg, f) :: r) l (.int x :: st) M = gw d md rt Q nk r l (.int (-x) :: st) M := propext Iff.rfl
theorem ws_i2l {x : Int32} : gw d md rt Q nk ((.i2l, f) :: r) l (.int x :: st) M = gw d md rt Q nk r l (.long x.toInt64 :: st) M := propext Iff.rfl
theorem ws_l2i {x : Int64} : gw d md rt Q nk ((.l2i, f) :: r) l (.long x :: st) M = gw d md rt Q nk r l (.int x.toInt32 :: st) M := propext Iff.rfl
theorem ws_ladd {x y : Int64} : gw d md rt Q nk ((.ladd, f) :: r) l (.long y :: .long x :: st) M = gw d md rt Q nk r l (.long (x + y) :: st) M := propext Iff.rfl
theorem ws_lmul {x y : Int64} : gw d md rt Q nk ((.lmul, f) :: r) l (.long y :: .long x :: st) M = gw d md rt Q nk r l (.long (x * y) :: st) M := propext Iff.rfl
theorem ws_lcmp {x y : Int64} : gw d md rt Q nk ((.lcmp, f) :: r) l (.long y :: .long x :: st) M = gw d md rt Q nk r l (.int (lg_cmp x y) :: st) M := propext Iff.rfl
theorem ws_dup_i {x : Int32} : gw d md rt Q nk ((.dup, f) :: r) l (.int x :: st) M = gw d md rt Q nk r l (.int x :: .int x :: st) M := by apply propext; exact ⟨fun h => h.2, fun h => ⟨rfl, h⟩⟩
theorem ws_pop_i {x : Int32} : gw d md rt Q nk ((.pop, f) :: r) l (.int x :: st) M = gw d md rt Q nk r l st M := by apply propext; exact ⟨fun h => h.2, fun h => ⟨rfl, h⟩⟩
theorem ws_dup_r {x : Nat} : gw d md rt Q nk ((.dup, f) :: r) l (.ref x :: st) M = gw d md rt Q nk r l (.ref x :: .ref x :: st) M := by apply propext; exact ⟨fun h => h.2, fun h => ⟨rfl, h⟩⟩
theorem ws_pop_r {x : Nat} : gw d md rt Q nk ((.pop, f) :: r) l (.ref x :: st) M = gw d md rt Q nk r l st M := by apply propext; exact ⟨fun h => h.2, fun h => ⟨rfl, h⟩⟩
theorem ws_dup2 {x : Int32} {a : Nat} : gw d md rt Q nk ((.dup2, f) :: r) l (.int x :: .ref a :: st) M = gw d md rt Q nk r l (.int x :: .ref a :: .int x :: .ref a :: st) M := by apply propext; exact ⟨fun h => h.2.2, fun h => ⟨rfl, rfl, h⟩⟩
theorem ws_if_eq {x : Int32} {o : Int} {t : Nat} : gw d md rt Q nk ((.ifCond .eq o, [t]) :: r) l (.int x :: st) M = ((x = 0 → gj d md Q t l st M) ∧ (¬ (x = 0) → gw d md rt Q nk r l st M)) := propext Iff.rfl
theorem ws_icmp_eq {x y : Int32} {o : Int} {t : Nat} : gw d md rt Q nk ((.if_icmp .eq o, [t]) :: r) l (.int y :: .int x :: st) M = ((x = y → gj d md Q t l st M) ∧ (¬ (x = y) → gw d md rt Q nk r l st M)) := propext Iff.rfl
theorem ws_if_ne {x : Int32} {o : Int} {t : Nat} : gw d md rt Q nk ((.ifCond .ne o, [t]) :: r) l (.int x :: st) M = ((¬ x = 0 → gj d md Q t l st M) ∧ (¬ (¬ x = 0) → gw d md rt Q nk r l st M)) := propext Iff.rfl
theorem ws_icmp_ne {x y : Int32} {o : Int} {t : Nat} : gw d md rt Q nk ((.if_icmp .ne o, [t]) :: r) l (.int y :: .int x :: st) M = ((¬ x = y → gj d md Q t l st M) ∧ (¬ (¬ x = y) → gw d md rt Q nk r l st M)) := propext Iff.rfl
theorem ws_if_lt {x : Int32} {o : Int} {t : Nat} : gw d md rt Q nk ((.ifCond .lt o, [t]) :: r) l (.int x :: st) M = ((x < 0 → gj d md Q t l st M) ∧ (¬ (x < 0) → gw d md rt Q nk r l st M)) := propext Iff.rfl
theorem ws_icmp_lt {x y : Int32} {o : Int} {t : Nat} : gw d md rt Q nk ((.if_icmp .lt o, [t]) :: r) l (.int y :: .int x :: st) M = ((x < y → gj d md Q t l st M) ∧ (¬ (x < y) → gw d md rt Q nk r l st M)) := propext Iff.rfl
theorem ws_if_ge {x : Int32} {o : Int} {t : Nat} : gw d md rt Q nk ((.ifCond .ge o, [t]) :: r) l (.int x :: st) M = ((0 ≤ x → gj d md Q t l st M) ∧ (¬ (0 ≤ x) → gw d md rt Q nk r l st M)) := propext Iff.rfl
theorem ws_icmp_ge {x y : Int32} {o : Int} {t : Nat} : gw d md rt Q nk ((.if_icmp .ge o, [t]) :: r) l (.int y :: .int x :: st) M = ((y ≤ x → gj d md Q t l st M) ∧ (¬ (y ≤ x) → gw d md rt Q nk r l st M)) := propext Iff.rfl
theorem ws_if_gt {x : Int32} {o : Int} {t : Nat} : gw d md rt Q nk ((.ifCond .gt o, [t]) :: r) l (.int x :: st) M = ((0 < x → gj d md Q t l st M) ∧ (¬ (0 < x) → gw d md rt Q nk r l st M)) := propext Iff.rfl
theorem ws_icmp_gt {x y : Int32} {o : Int} {t : Nat} : gw d md rt Q nk ((.if_icmp .gt o, [t]) :: r) l (.int y :: .int x :: st) M = ((y < x → gj d md Q t l st M) ∧ (¬ (y < x) → gw d md rt Q nk r l st M)) := propext Iff.rfl
theorem ws_if_le {x : Int32} {o : Int} {t : Nat} : gw d md rt Q nk ((.ifCond .le o, [t]) :: r) l (.int x :: st) M = ((x ≤ 0 → gj d md Q t l st M) ∧ (¬ (x ≤ 0) → gw d md rt Q nk r l st M)) := propext Iff.rfl
theorem ws_icmp_le {x y : Int32} {o : Int} {t : Nat} : gw d md rt Q nk ((.if_icmp .le o, [t]) :: r) l (.int y :: .int x :: st) M = ((x ≤ y → gj d md Q t l st M) ∧ (¬ (x ≤ y) → gw d md rt Q nk r l st M)) := propext Iff.rfl
theorem ws_goto {o : Int} {t : Nat} : gw d md rt Q nk ((.goto o, [t]) :: r) l st M = gj d md Q t l st M := propext Iff.rfl
theorem ws_table {x : Int32} {dd lo hi : Int} {os : Array Int} {t : Nat} {ts : List Nat} : gw d md rt Q nk ((.tableswitch dd lo hi os, (t :: ts)) :: r) l (.int x :: st) M = (((x.toInt < lo ∨ hi < x.toInt) → gj d md Q t l st M) ∧ (¬ (x.toInt < lo ∨ hi < x.toInt) → ∃ u, ts[(x.toInt - lo).toNat]? = some u ∧ gj d md Q u l st M)) := propext Iff.rfl
theorem ws_get_0 {x ci k p a : Nat} : gw d md rt Q nk ((.getfield x, [ci, k, 0, p]) :: r) l (.ref a :: st) (E, I, L) = (E.2.1 a = (ci + 6, gN ci) ∧ gw d md rt Q nk r l (.int (I a k) :: st) (E, I, L)) := propext Iff.rfl
theorem ws_get_1 {x ci k p a : Nat} : gw d md rt Q nk ((.getfield x, [ci, k, 1, p]) :: r) l (.ref a :: st) (E, I, L) = (E.2.1 a = (ci + 6, gN ci) ∧ gw d md rt Q nk r l (.int (I a k) :: st) (E, I, L)) := propext Iff.rfl
theorem ws_get_2 {x ci k p a : Nat} : gw d md rt Q nk ((.getfield x, [ci, k, 2, p]) :: r) l (.ref a :: st) (E, I, L) = (E.2.1 a = (ci + 6, gN ci) ∧ gw d md rt Q nk r l (.long (L a k) :: st) (E, I, L)) := propext Iff.rfl
theorem ws_get_3 {x ci k p a : Nat} : gw d md rt Q nk ((.getfield x, [ci, k, 3, p]) :: r) l (.ref a :: st) (E, I, L) = (E.2.1 a = (ci + 6, gN ci) ∧ g_op (E.2.2 a k) (fun q => gw d md rt Q nk r l (.ref q :: st) (E, I, L))) := propext Iff.rfl
theorem ws_put_0 {x ci k p a : Nat} {v : Int32} : gw d md rt Q nk ((.putfield x, [ci, k, 0, p]) :: r) l (.int v :: .ref a :: st) (E, I, L) = (E.2.1 a = (ci + 6, gN ci) ∧ gw d md rt Q nk r l st (E, gU I a (upd (I a) k v), L)) := propext Iff.rfl
theorem ws_put_1 {x ci k p a : Nat} {v : Int32} : gw d md rt Q nk ((.putfield x, [ci, k, 1, p]) :: r) l (.int v :: .ref a :: st) (E, I, L) = (E.2.1 a = (ci + 6, gN ci) ∧ (v = 0 ∨ v = 1) ∧ gw d md rt Q nk r l st (E, gU I a (upd (I a) k v), L)) := propext Iff.rfl
theorem ws_put_2 {x ci k p a : Nat} {v : Int64} : gw d md rt Q nk ((.putfield x, [ci, k, 2, p]) :: r) l (.long v :: .ref a :: st) (E, I, L) = (E.2.1 a = (ci + 6, gN ci) ∧ gw d md rt Q nk r l st (E, I, gU L a (vp_updL (L a) k v))) := propext Iff.rfl
theorem ws_put_3 {x ci k p a v : Nat} : gw d md rt Q nk ((.putfield x, [ci, k, 3, p]) :: r) l (.ref v :: .ref a :: st) (E, I, L) = (E.2.1 a = (ci + 6, gN ci) ∧ gw d md rt Q nk r l st ((E.1, E.2.1, gU E.2.2 a (gU (E.2.2 a) k (some v))), I, L)) := propext Iff.rfl
theorem ws_iaload {a : Nat} {i : Int32} : gw d md rt Q nk ((.iaload, f) :: r) l (.int i :: .ref a :: st) (E, I, L) = ((E.2.1 a).1 = 1 ∧ vp_in i (E.2.1 a).2 ∧ gw d md rt Q nk r l (.int (I a i.toNatClampNeg) :: st) (E, I, L)) := propext Iff.rfl
theorem ws_laload {a : Nat} {i : Int32} : gw d md rt Q nk ((.laload, f) :: r) l (.int i :: .ref a :: st) (E, I, L) = ((E.2.1 a).1 = 2 ∧ vp_in i (E.2.1 a).2 ∧ gw d md rt Q nk r l (.long (L a i.toNatClampNeg) :: st) (E, I, L)) := propext Iff.rfl
theorem ws_aaload {a : Nat} {i : Int32} : gw d md rt Q nk ((.aaload, f) :: r) l (.int i :: .ref a :: st) (E, I, L) = ((3 ≤ (E.2.1 a).1 ∧ (E.2.1 a).1 ≤ 5) ∧ vp_in i (E.2.1 a).2 ∧ g_op (E.2.2 a i.toNatClampNeg) (fun q => gw d md rt Q nk r l (.ref q :: st) (E, I, L))) := propext Iff.rfl
theorem ws_iastore {a : Nat} {i x : Int32} : gw d md rt Q nk ((.iastore, f) :: r) l (.int x :: .int i :: .ref a :: st) (E, I, L) = ((E.2.1 a).1 = 1 ∧ vp_in i (E.2.1 a).2 ∧ gw d md rt Q nk r l st (E, gU I a (upd (I a) i.toNatClampNeg x), L)) := propext Iff.rfl
theorem ws_lastore {a : Nat} {i : Int32} {x : Int64} : gw d md rt Q nk ((.lastore, f) :: r) l (.long x :: .int i :: .ref a :: st) (E, I, L) = ((E.2.1 a).1 = 2 ∧ vp_in i (E.2.1 a).2 ∧ gw d md rt Q nk r l st (E, I, gU L a (vp_updL (L a) i.toNatClampNeg x))) := propext Iff.rfl
theorem ws_alen {a : Nat} : gw d md rt Q nk ((.arraylength, f) :: r) l (.ref a :: st) (E, I, L) = ((1 ≤ (E.2.1 a).1 ∧ (E.2.1 a).1 ≤ 2) ∧ gw d md rt Q nk r l (.int (nI (E.2.1 a).2) :: st) (E, I, L)) := propext Iff.rfl
theorem ws_ret_int {v : Int32} : gw d md (some .int) Q nk ((.ireturn, f) :: r) l [.int v] M = Q (some (.int v)) M := by apply propext; exact ⟨fun h => h.2.2.2, fun h => ⟨Or.inl rfl, rfl, rfl, h⟩⟩
theorem ws_ret_boolean {v : Int32} : gw d md (some .boolean) Q nk ((.ireturn, f) :: r) l [.int v] M = ((v = 0 ∨ v = 1) ∧ Q (some (.int v)) M) := by apply propext; exact ⟨fun h => ⟨h.1.elim (fun z => by simp at z) (fun z => z.2), h.2.2.2⟩, fun h => ⟨Or.inr ⟨rfl, h.1⟩, rfl, rfl, h.2⟩⟩
theorem ws_ret_long {v : Int64} : gw d md (some .long) Q nk ((.lreturn, f) :: r) l [.long v] M = Q (some (.long v)) M := by apply propext; exact ⟨fun h => h.2.2.2, fun h => ⟨rfl, rfl, rfl, h⟩⟩
theorem ws_ret_ref {v : Nat} {n : String} : gw d md (some (.object n)) Q nk ((.areturn, f) :: r) l [.ref v] M = Q (some (.ref v)) M := by apply propext; exact ⟨fun h => h.2.2.2, fun h => ⟨⟨n, rfl⟩, rfl, rfl, h⟩⟩
theorem ws_ret_void : gw d md none Q nk ((.return_, f) :: r) l [] M = Q none M := by apply propext; exact ⟨fun h => h.2.2.2, fun h => ⟨rfl, rfl, rfl, h⟩⟩
theorem ws_iv_0 {x y ci p b : Nat} : gw d md rt Q nk ((.invokevirtual x, [0, y, 0, ci, 0, 0, p]) :: r) l (.ref b :: st) M = (M.1.2.1 b = (ci + 6, gN ci) ∧ g_bud 8 st ∧ gm d y [.ref b] M (fun v M' => gw d md rt Q nk r l (v.toList ++ st) M')) := by apply propext; exact ⟨fun h => ⟨h.1, h.2.1, h.2.2.2.2.2⟩, fun h => ⟨h.1, h.2.1, Nat.le_refl 0, Nat.le_refl 0, rfl, h.2.2⟩⟩
theorem ws_iv_1 {x y ci p b : Nat} {v1 : Value} : gw d md rt Q nk ((.invokevirtual x, [0, y, 1, ci, 0, 0, p]) :: r) l (v1 :: .ref b :: st) M = (M.1.2.1 b = (ci + 6, gN ci) ∧ g_bud 8 st ∧ gm d y [.ref b, v1] M (fun v M' => gw d md rt Q nk r l (v.toList ++ st) M')) := by apply propext; exact ⟨fun h => ⟨h.1, h.2.1, h.2.2.2.2.2⟩, fun h => ⟨h.1, h.2.1, Nat.le_refl 0, Nat.le_refl 0, rfl, h.2.2⟩⟩
theorem ws_iv_2 {x y ci p b : Nat} {v1 v2 : Value} : gw d md rt Q nk ((.invokevirtual x, [0, y, 2, ci, 0, 0, p]) :: r) l (v2 :: v1 :: .ref b :: st) M = (M.1.2.1 b = (ci + 6, gN ci) ∧ g_bud 8 st ∧ gm d y [.ref b, v1, v2] M (fun v M' => gw d md rt Q nk r l (v.toList ++ st) M')) := by apply propext; exact ⟨fun h => ⟨h.1, h.2.1, h.2.2.2.2.2⟩, fun h => ⟨h.1, h.2.1, Nat.le_refl 0, Nat.le_refl 0, rfl, h.2.2⟩⟩
theorem ws_iv_3 {x y ci p b : Nat} {v1 v2 v3 : Value} : gw d md rt Q nk ((.invokevirtual x, [0, y, 3, ci, 0, 0, p]) :: r) l (v3 :: v2 :: v1 :: .ref b :: st) M = (M.1.2.1 b = (ci + 6, gN ci) ∧ g_bud 8 st ∧ gm d y [.ref b, v1, v2, v3] M (fun v M' => gw d md rt Q nk r l (v.toList ++ st) M')) := by apply propext; exact ⟨fun h => ⟨h.1, h.2.1, h.2.2.2.2.2⟩, fun h => ⟨h.1, h.2.1, Nat.le_refl 0, Nat.le_refl 0, rfl, h.2.2⟩⟩
theorem ws_iv_4 {x y ci p b : Nat} {v1 v2 v3 v4 : Value} : gw d md rt Q nk ((.invokevirtual x, [0, y, 4, ci, 0, 0, p]) :: r) l (v4 :: v3 :: v2 :: v1 :: .ref b :: st) M = (M.1.2.1 b = (ci + 6, gN ci) ∧ g_bud 8 st ∧ gm d y [.ref b, v1, v2, v3, v4] M (fun v M' => gw d md rt Q nk r l (v.toList ++ st) M')) := by apply propext; exact ⟨fun h => ⟨h.1, h.2.1, h.2.2.2.2.2⟩, fun h => ⟨h.1, h.2.1, Nat.le_refl 0, Nat.le_refl 0, rfl, h.2.2⟩⟩
theorem ws_iv_5 {x y ci p b : Nat} {v1 v2 v3 v4 v5 : Value} : gw d md rt Q nk ((.invokevirtual x, [0, y, 5, ci, 0, 0, p]) :: r) l (v5 :: v4 :: v3 :: v2 :: v1 :: .ref b :: st) M = (M.1.2.1 b = (ci + 6, gN ci) ∧ g_bud 8 st ∧ gm d y [.ref b, v1, v2, v3, v4, v5] M (fun v M' => gw d md rt Q nk r l (v.toList ++ st) M')) := by apply propext; exact ⟨fun h => ⟨h.1, h.2.1, h.2.2.2.2.2⟩, fun h => ⟨h.1, h.2.1, Nat.le_refl 0, Nat.le_refl 0, rfl, h.2.2⟩⟩
theorem ws_is_1 {x y p : Nat} {v1 : Value} : gw d md rt Q nk ((.invokestatic x, [1, y, 1, 0, 0, p]) :: r) l (v1 :: st) M = (g_bud 8 st ∧ gm d y [v1] M (fun v M' => gw d md rt Q nk r l (v.toList ++ st) M')) := by apply propext; exact ⟨fun h => ⟨h.1, h.2.2.2.2⟩, fun h => ⟨h.1, Nat.le_refl 0, Nat.le_refl 0, rfl, h.2⟩⟩
theorem ws_is_2 {x y p : Nat} {v1 v2 : Value} : gw d md rt Q nk ((.invokestatic x, [1, y, 2, 0, 0, p]) :: r) l (v2 :: v1 :: st) M = (g_bud 8 st ∧ gm d y [v1, v2] M (fun v M' => gw d md rt Q nk r l (v.toList ++ st) M')) := by apply propext; exact ⟨fun h => ⟨h.1, h.2.2.2.2⟩, fun h => ⟨h.1, Nat.le_refl 0, Nat.le_refl 0, rfl, h.2⟩⟩
theorem ws_is_3 {x y p : Nat} {v1 v2 v3 : Value} : gw d md rt Q nk ((.invokestatic x, [1, y, 3, 0, 0, p]) :: r) l (v3 :: v2 :: v1 :: st) M = (g_bud 8 st ∧ gm d y [v1, v2, v3] M (fun v M' => gw d md rt Q nk r l (v.toList ++ st) M')) := by apply propext; exact ⟨fun h => ⟨h.1, h.2.2.2.2⟩, fun h => ⟨h.1, Nat.le_refl 0, Nat.le_refl 0, rfl, h.2⟩⟩
theorem ws_is_4 {x y p : Nat} {v1 v2 v3 v4 : Value} : gw d md rt Q nk ((.invokestatic x, [1, y, 4, 0, 0, p]) :: r) l (v4 :: v3 :: v2 :: v1 :: st) M = (g_bud 8 st ∧ gm d y [v1, v2, v3, v4] M (fun v M' => gw d md rt Q nk r l (v.toList ++ st) M')) := by apply propext; exact ⟨fun h => ⟨h.1, h.2.2.2.2⟩, fun h => ⟨h.1, Nat.le_refl 0, Nat.le_refl 0, rfl, h.2⟩⟩
theorem ws_is_5 {x y p : Nat} {v1 v2 v3 v4 v5 : Value} : gw d md rt Q nk ((.invokestatic x, [1, y, 5, 0, 0, p]) :: r) l (v5 :: v4 :: v3 :: v2 :: v1 :: st) M = (g_bud 8 st ∧ gm d y [v1, v2, v3, v4, v5] M (fun v M' => gw d md rt Q nk r l (v.toList ++ st) M')) := by apply propext; exact ⟨fun h => ⟨h.1, h.2.2.2.2⟩, fun h => ⟨h.1, Nat.le_refl 0, Nat.le_refl 0, rfl, h.2⟩⟩
theorem ws_slen {x p b : Nat} : gw d md rt Q nk ((.invokevirtual x, [8, p]) :: r) l (.ref b :: st) M = (1000000 ≤ b ∧ g_bud 8 st ∧ 0 < gS0.1 (b - 1000000) ∧ gw d md rt Q nk r l (.int (nI (gS0.1 (b - 1000000))) :: st) M) := propext Iff.rfl
theorem ws_schar {x p b : Nat} {i : Int32} : gw d md rt Q nk ((.invokevirtual x, [9, p]) :: r) l (.int i :: .ref b :: st) M = (1000000 ≤ b ∧ g_bud 8 st ∧ vp_in i (gS0.1 (b - 1000000)) ∧ gw d md rt Q nk r l (.int (gS0.2 (b - 1000000) i.toNatClampNeg) :: st) M) := propext Iff.rfl
theorem ws_max {z p : Nat} {x y : Int32} : gw d md rt Q nk ((.invokestatic z, [5, p]) :: r) l (.int y :: .int x :: st) M = (g_bud 8 st ∧ gw d md rt Q nk r l (.int (if x < y then y else x) :: st) M) := by apply propext; exact ⟨fun h => ⟨h.1, h.2.2.2⟩, fun h => ⟨h.1, Nat.le_refl 0, Nat.le_refl 0, h.2⟩⟩
theorem ws_min {z p : Nat} {x y : Int32} : gw d md rt Q nk ((.invokestatic z, [6, p]) :: r) l (.int y :: .int x :: st) M = (g_bud 8 st ∧ gw d md rt Q nk r l (.int (if y < x then y else x) :: st) M) := by apply propext; exact ⟨fun h => ⟨h.1, h.2.2.2⟩, fun h => ⟨h.1, Nat.le_refl 0, Nat.le_refl 0, h.2⟩⟩
theorem ws_copy {z p a d' : Nat} {sp dp n : Int32} : gw d md rt Q nk ((.invokestatic z, [7, p]) :: r) l (.int n :: .int dp :: .ref d' :: .int sp :: .ref a :: st) (E, I, L) = (g_bud 8 st ∧ (E.2.1 a).1 = 1 ∧ (E.2.1 d').1 = 1 ∧ ¬ sp < 0 ∧ ¬ dp < 0 ∧ ¬ n < 0 ∧ sp.toNatClampNeg + n.toNatClampNeg ≤ (E.2.1 a).2 ∧ dp.toNatClampNeg + n.toNatClampNeg ≤ (E.2.1 d').2 ∧ gw d md rt Q nk r l st (E, gU I d' (va_cpy (I a) (I d') sp.toNatClampNeg dp.toNatClampNeg n.toNatClampNeg), L)) := propext Iff.rfl
end GST
theorem go_some {q : Nat} {k : Nat → Prop} : g_op (some q) k = k q := propext Iff.rfl
theorem g_li_0 {x : Int32} {l : gL} {k : Int32 → Prop} : g_li (some (.int x) :: l) 0 k = k x := propext Iff.rfl
theorem g_li_1 {x : Option Value} {l : gL} {k : Int32 → Prop} : g_li (x :: l) 1 k = g_li l 0 k := propext Iff.rfl
theorem g_li_2 {x : Option Value} {l : gL} {k : Int32 → Prop} : g_li (x :: l) 2 k = g_li l 1 k := propext Iff.rfl
theorem g_li_3 {x : Option Value} {l : gL} {k : Int32 → Prop} : g_li (x :: l) 3 k = g_li l 2 k := propext Iff.rfl
theorem g_li_4 {x : Option Value} {l : gL} {k : Int32 → Prop} : g_li (x :: l) 4 k = g_li l 3 k := propext Iff.rfl
theorem g_li_5 {x : Option Value} {l : gL} {k : Int32 → Prop} : g_li (x :: l) 5 k = g_li l 4 k := propext Iff.rfl
theorem g_li_6 {x : Option Value} {l : gL} {k : Int32 → Prop} : g_li (x :: l) 6 k = g_li l 5 k := propext Iff.rfl
theorem g_li_7 {x : Option Value} {l : gL} {k : Int32 → Prop} : g_li (x :: l) 7 k = g_li l 6 k := propext Iff.rfl
theorem g_li_8 {x : Option Value} {l : gL} {k : Int32 → Prop} : g_li (x :: l) 8 k = g_li l 7 k := propext Iff.rfl
theorem g_li_9 {x : Option Value} {l : gL} {k : Int32 → Prop} : g_li (x :: l) 9 k = g_li l 8 k := propext Iff.rfl
theorem g_li_10 {x : Option Value} {l : gL} {k : Int32 → Prop} : g_li (x :: l) 10 k = g_li l 9 k := propext Iff.rfl
theorem g_li_11 {x : Option Value} {l : gL} {k : Int32 → Prop} : g_li (x :: l) 11 k = g_li l 10 k := propext Iff.rfl
theorem g_li_12 {x : Option Value} {l : gL} {k : Int32 → Prop} : g_li (x :: l) 12 k = g_li l 11 k := propext Iff.rfl
theorem g_li_13 {x : Option Value} {l : gL} {k : Int32 → Prop} : g_li (x :: l) 13 k = g_li l 12 k := propext Iff.rfl
theorem g_li_14 {x : Option Value} {l : gL} {k : Int32 → Prop} : g_li (x :: l) 14 k = g_li l 13 k := propext Iff.rfl
theorem g_li_15 {x : Option Value} {l : gL} {k : Int32 → Prop} : g_li (x :: l) 15 k = g_li l 14 k := propext Iff.rfl
theorem g_li_16 {x : Option Value} {l : gL} {k : Int32 → Prop} : g_li (x :: l) 16 k = g_li l 15 k := propext Iff.rfl
theorem g_li_17 {x : Option Value} {l : gL} {k : Int32 → Prop} : g_li (x :: l) 17 k = g_li l 16 k := propext Iff.rfl
theorem g_li_18 {x : Option Value} {l : gL} {k : Int32 → Prop} : g_li (x :: l) 18 k = g_li l 17 k := propext Iff.rfl
theorem g_li_19 {x : Option Value} {l : gL} {k : Int32 → Prop} : g_li (x :: l) 19 k = g_li l 18 k := propext Iff.rfl
theorem g_ll_0 {x : Int64} {l : gL} {k : Int64 → Prop} : g_ll (some (.long x) :: l) 0 k = k x := propext Iff.rfl
theorem g_ll_1 {x : Option Value} {l : gL} {k : Int64 → Prop} : g_ll (x :: l) 1 k = g_ll l 0 k := propext Iff.rfl
theorem g_ll_2 {x : Option Value} {l : gL} {k : Int64 → Prop} : g_ll (x :: l) 2 k = g_ll l 1 k := propext Iff.rfl
theorem g_ll_3 {x : Option Value} {l : gL} {k : Int64 → Prop} : g_ll (x :: l) 3 k = g_ll l 2 k := propext Iff.rfl
theorem g_ll_4 {x : Option Value} {l : gL} {k : Int64 → Prop} : g_ll (x :: l) 4 k = g_ll l 3 k := propext Iff.rfl
theorem g_ll_5 {x : Option Value} {l : gL} {k : Int64 → Prop} : g_ll (x :: l) 5 k = g_ll l 4 k := propext Iff.rfl
theorem g_ll_6 {x : Option Value} {l : gL} {k : Int64 → Prop} : g_ll (x :: l) 6 k = g_ll l 5 k := propext Iff.rfl
theorem g_ll_7 {x : Option Value} {l : gL} {k : Int64 → Prop} : g_ll (x :: l) 7 k = g_ll l 6 k := propext Iff.rfl
theorem g_ll_8 {x : Option Value} {l : gL} {k : Int64 → Prop} : g_ll (x :: l) 8 k = g_ll l 7 k := propext Iff.rfl
theorem g_ll_9 {x : Option Value} {l : gL} {k : Int64 → Prop} : g_ll (x :: l) 9 k = g_ll l 8 k := propext Iff.rfl
theorem g_lr_0 {x : Nat} {l : gL} {k : Nat → Prop} : g_lr (some (.ref x) :: l) 0 k = k x := propext Iff.rfl
theorem g_lr_1 {x : Option Value} {l : gL} {k : Nat → Prop} : g_lr (x :: l) 1 k = g_lr l 0 k := propext Iff.rfl
theorem g_lr_2 {x : Option Value} {l : gL} {k : Nat → Prop} : g_lr (x :: l) 2 k = g_lr l 1 k := propext Iff.rfl
theorem g_lr_3 {x : Option Value} {l : gL} {k : Nat → Prop} : g_lr (x :: l) 3 k = g_lr l 2 k := propext Iff.rfl
theorem g_lr_4 {x : Option Value} {l : gL} {k : Nat → Prop} : g_lr (x :: l) 4 k = g_lr l 3 k := propext Iff.rfl
theorem g_lr_5 {x : Option Value} {l : gL} {k : Nat → Prop} : g_lr (x :: l) 5 k = g_lr l 4 k := propext Iff.rfl
theorem g_lr_6 {x : Option Value} {l : gL} {k : Nat → Prop} : g_lr (x :: l) 6 k = g_lr l 5 k := propext Iff.rfl
theorem g_lr_7 {x : Option Value} {l : gL} {k : Nat → Prop} : g_lr (x :: l) 7 k = g_lr l 6 k := propext Iff.rfl
theorem g_lr_8 {x : Option Value} {l : gL} {k : Nat → Prop} : g_lr (x :: l) 8 k = g_lr l 7 k := propext Iff.rfl
theorem g_lr_9 {x : Option Value} {l : gL} {k : Nat → Prop} : g_lr (x :: l) 9 k = g_lr l 8 k := propext Iff.rfl
theorem g_st_0 {x : Option Value} {v : Value} {l : gL} {k : gL → Prop} : g_st (x :: l) 0 v k = k (some v :: l) := by simp [g_st, g_lb]
theorem g_st_1i {x : Int32} {v : Value} {l : gL} {k : gL → Prop} : g_st (some (.int x) :: l) 1 v k = g_st l 0 v (fun l => k (some (.int x) :: l)) := by simp [g_st, g_lb, Value.category]
theorem g_st_1r {x : Nat} {v : Value} {l : gL} {k : gL → Prop} : g_st (some (.ref x) :: l) 1 v k = g_st l 0 v (fun l => k (some (.ref x) :: l)) := by simp [g_st, g_lb, Value.category]
theorem g_st_1n  {v : Value} {l : gL} {k : gL → Prop} : g_st (none :: l) 1 v k = g_st l 0 v (fun l => k (none :: l)) := by simp [g_st, g_lb, Value.category]
theorem g_st_1o {y : Option Int32} {v : Value} {l : gL} {k : gL → Prop} : g_st (y.map Value.int :: l) 1 v k = g_st l 0 v (fun l => k (y.map Value.int :: l)) := by cases y <;> simp [g_st, g_lb, Value.category]
theorem g_st_2 {x : Option Value} {v : Value} {l : gL} {k : gL → Prop} : g_st (x :: l) 2 v k = g_st l 1 v (fun l => k (x :: l)) := by simp [g_st, g_lb]; intros; omega
theorem g_st_3 {x : Option Value} {v : Value} {l : gL} {k : gL → Prop} : g_st (x :: l) 3 v k = g_st l 2 v (fun l => k (x :: l)) := by simp [g_st, g_lb]; intros; omega
theorem g_st_4 {x : Option Value} {v : Value} {l : gL} {k : gL → Prop} : g_st (x :: l) 4 v k = g_st l 3 v (fun l => k (x :: l)) := by simp [g_st, g_lb]; intros; omega
theorem g_st_5 {x : Option Value} {v : Value} {l : gL} {k : gL → Prop} : g_st (x :: l) 5 v k = g_st l 4 v (fun l => k (x :: l)) := by simp [g_st, g_lb]; intros; omega
theorem g_st_6 {x : Option Value} {v : Value} {l : gL} {k : gL → Prop} : g_st (x :: l) 6 v k = g_st l 5 v (fun l => k (x :: l)) := by simp [g_st, g_lb]; intros; omega
theorem g_st_7 {x : Option Value} {v : Value} {l : gL} {k : gL → Prop} : g_st (x :: l) 7 v k = g_st l 6 v (fun l => k (x :: l)) := by simp [g_st, g_lb]; intros; omega
theorem g_st_8 {x : Option Value} {v : Value} {l : gL} {k : gL → Prop} : g_st (x :: l) 8 v k = g_st l 7 v (fun l => k (x :: l)) := by simp [g_st, g_lb]; intros; omega
theorem g_st_9 {x : Option Value} {v : Value} {l : gL} {k : gL → Prop} : g_st (x :: l) 9 v k = g_st l 8 v (fun l => k (x :: l)) := by simp [g_st, g_lb]; intros; omega
theorem g_st_10 {x : Option Value} {v : Value} {l : gL} {k : gL → Prop} : g_st (x :: l) 10 v k = g_st l 9 v (fun l => k (x :: l)) := by simp [g_st, g_lb]; intros; omega
theorem g_st_11 {x : Option Value} {v : Value} {l : gL} {k : gL → Prop} : g_st (x :: l) 11 v k = g_st l 10 v (fun l => k (x :: l)) := by simp [g_st, g_lb]; intros; omega
theorem g_st_12 {x : Option Value} {v : Value} {l : gL} {k : gL → Prop} : g_st (x :: l) 12 v k = g_st l 11 v (fun l => k (x :: l)) := by simp [g_st, g_lb]; intros; omega
theorem g_st_13 {x : Option Value} {v : Value} {l : gL} {k : gL → Prop} : g_st (x :: l) 13 v k = g_st l 12 v (fun l => k (x :: l)) := by simp [g_st, g_lb]; intros; omega
theorem g_st_14 {x : Option Value} {v : Value} {l : gL} {k : gL → Prop} : g_st (x :: l) 14 v k = g_st l 13 v (fun l => k (x :: l)) := by simp [g_st, g_lb]; intros; omega
theorem g_st_15 {x : Option Value} {v : Value} {l : gL} {k : gL → Prop} : g_st (x :: l) 15 v k = g_st l 14 v (fun l => k (x :: l)) := by simp [g_st, g_lb]; intros; omega
theorem g_st_16 {x : Option Value} {v : Value} {l : gL} {k : gL → Prop} : g_st (x :: l) 16 v k = g_st l 15 v (fun l => k (x :: l)) := by simp [g_st, g_lb]; intros; omega
theorem g_st_17 {x : Option Value} {v : Value} {l : gL} {k : gL → Prop} : g_st (x :: l) 17 v k = g_st l 16 v (fun l => k (x :: l)) := by simp [g_st, g_lb]; intros; omega
theorem g_st_18 {x : Option Value} {v : Value} {l : gL} {k : gL → Prop} : g_st (x :: l) 18 v k = g_st l 17 v (fun l => k (x :: l)) := by simp [g_st, g_lb]; intros; omega
theorem g_st_19 {x : Option Value} {v : Value} {l : gL} {k : gL → Prop} : g_st (x :: l) 19 v k = g_st l 18 v (fun l => k (x :: l)) := by simp [g_st, g_lb]; intros; omega
theorem g_st2_1 {x : Nat} {y z : Option Value} {v : Value} {l : gL} {k : gL → Prop} : g_st2 (some (.ref x) :: y :: z :: l) 1 v k = k (some (.ref x) :: some v :: none :: l) := by simp [g_st2, g_lb, Value.category]
theorem gN_0 : gN 0 = 9 := rfl
theorem gN_1 : gN 1 = 18 := rfl
theorem gN_2 : gN 2 = 6 := rfl
theorem gN_3 : gN 3 = 5 := rfl
theorem gN_4 : gN 4 = 14 := rfl
theorem gN_5 : gN 5 = 3 := rfl
theorem gN_6 : gN 6 = 8 := rfl
theorem gN_7 : gN 7 = 20 := rfl
theorem gN_8 : gN 8 = 12 := rfl
theorem gN_9 : gN 9 = 41 := rfl
theorem to_some {v : Value} {st : List Value} : (some v).toList ++ st = v :: st := rfl
theorem to_none {st : List Value} : (none : Option Value).toList ++ st = st := rfl
theorem ci_m2 : Int32.ofInt (-2) = (-2) := by decide
theorem ci_m1 : Int32.ofInt (-1) = (-1) := by decide
theorem ci_0 : Int32.ofInt (0) = nI 0 := by decide
theorem ci_1 : Int32.ofInt (1) = nI 1 := by decide
theorem ci_2 : Int32.ofInt (2) = nI 2 := by decide
theorem ci_3 : Int32.ofInt (3) = nI 3 := by decide
theorem ci_4 : Int32.ofInt (4) = nI 4 := by decide
theorem ci_5 : Int32.ofInt (5) = nI 5 := by decide
theorem cb_m2 : (Int8.ofInt (-2)).toInt32 = (-2) := by decide
theorem cb_6 : (Int8.ofInt (6)).toInt32 = nI 6 := by decide
theorem cb_7 : (Int8.ofInt (7)).toInt32 = nI 7 := by decide
theorem cb_8 : (Int8.ofInt (8)).toInt32 = nI 8 := by decide
theorem cb_9 : (Int8.ofInt (9)).toInt32 = nI 9 := by decide
theorem cb_10 : (Int8.ofInt (10)).toInt32 = nI 10 := by decide
theorem cb_11 : (Int8.ofInt (11)).toInt32 = nI 11 := by decide
theorem cb_12 : (Int8.ofInt (12)).toInt32 = nI 12 := by decide
theorem cb_13 : (Int8.ofInt (13)).toInt32 = nI 13 := by decide
theorem cb_16 : (Int8.ofInt (16)).toInt32 = nI 16 := by decide
theorem cb_20 : (Int8.ofInt (20)).toInt32 = nI 20 := by decide
theorem cb_24 : (Int8.ofInt (24)).toInt32 = nI 24 := by decide
theorem cb_27 : (Int8.ofInt (27)).toInt32 = nI 27 := by decide
theorem cb_30 : (Int8.ofInt (30)).toInt32 = nI 30 := by decide
theorem cb_32 : (Int8.ofInt (32)).toInt32 = nI 32 := by decide
theorem cb_40 : (Int8.ofInt (40)).toInt32 = nI 40 := by decide
theorem cb_41 : (Int8.ofInt (41)).toInt32 = nI 41 := by decide
theorem cb_42 : (Int8.ofInt (42)).toInt32 = nI 42 := by decide
theorem cb_48 : (Int8.ofInt (48)).toInt32 = nI 48 := by decide
theorem cb_57 : (Int8.ofInt (57)).toInt32 = nI 57 := by decide
theorem cb_59 : (Int8.ofInt (59)).toInt32 = nI 59 := by decide
theorem cb_60 : (Int8.ofInt (60)).toInt32 = nI 60 := by decide
theorem cb_63 : (Int8.ofInt (63)).toInt32 = nI 63 := by decide
theorem cb_74 : (Int8.ofInt (74)).toInt32 = nI 74 := by decide
theorem cb_75 : (Int8.ofInt (75)).toInt32 = nI 75 := by decide
theorem cb_80 : (Int8.ofInt (80)).toInt32 = nI 80 := by decide
theorem cb_90 : (Int8.ofInt (90)).toInt32 = nI 90 := by decide
theorem cb_97 : (Int8.ofInt (97)).toInt32 = nI 97 := by decide
theorem cb_99 : (Int8.ofInt (99)).toInt32 = nI 99 := by decide
theorem cb_100 : (Int8.ofInt (100)).toInt32 = nI 100 := by decide
theorem cb_120 : (Int8.ofInt (120)).toInt32 = nI 120 := by decide
theorem cb_122 : (Int8.ofInt (122)).toInt32 = nI 122 := by decide
theorem cs_130 : (Int16.ofInt (130)).toInt32 = nI 130 := by decide
theorem cs_150 : (Int16.ofInt (150)).toInt32 = nI 150 := by decide
theorem cs_162 : (Int16.ofInt (162)).toInt32 = nI 162 := by decide
theorem cs_180 : (Int16.ofInt (180)).toInt32 = nI 180 := by decide
theorem cs_190 : (Int16.ofInt (190)).toInt32 = nI 190 := by decide
theorem cs_202 : (Int16.ofInt (202)).toInt32 = nI 202 := by decide
theorem cs_214 : (Int16.ofInt (214)).toInt32 = nI 214 := by decide
theorem cs_230 : (Int16.ofInt (230)).toInt32 = nI 230 := by decide
theorem cs_255 : (Int16.ofInt (255)).toInt32 = nI 255 := by decide
theorem cs_262 : (Int16.ofInt (262)).toInt32 = nI 262 := by decide
theorem cs_358 : (Int16.ofInt (358)).toInt32 = nI 358 := by decide
theorem cs_410 : (Int16.ofInt (410)).toInt32 = nI 410 := by decide
theorem cs_786 : (Int16.ofInt (786)).toInt32 = nI 786 := by decide
theorem cs_900 : (Int16.ofInt (900)).toInt32 = nI 900 := by decide
theorem cs_2882 : (Int16.ofInt (2882)).toInt32 = nI 2882 := by decide
theorem cs_3144 : (Int16.ofInt (3144)).toInt32 = nI 3144 := by decide
theorem cs_4096 : (Int16.ofInt (4096)).toInt32 = nI 4096 := by decide
theorem ci_m8 : Int32.ofInt (-8) = (-8) := by decide
theorem gb_n {n : Nat} : g_bud n [] = True := propext ⟨fun _ => trivial, fun _ => trivial⟩
theorem gb_i1 {x : Int32} {st : List Value} : g_bud 1 (.int x :: st) = g_bud 0 st := propext ⟨fun h => h.2, fun h => ⟨(show (1 : Nat) ≤ 1 by decide), h⟩⟩
theorem gb_r1 {x : Nat} {st : List Value} : g_bud 1 (.ref x :: st) = g_bud 0 st := propext ⟨fun h => h.2, fun h => ⟨(show (1 : Nat) ≤ 1 by decide), h⟩⟩
theorem gb_i2 {x : Int32} {st : List Value} : g_bud 2 (.int x :: st) = g_bud 1 st := propext ⟨fun h => h.2, fun h => ⟨(show (1 : Nat) ≤ 2 by decide), h⟩⟩
theorem gb_r2 {x : Nat} {st : List Value} : g_bud 2 (.ref x :: st) = g_bud 1 st := propext ⟨fun h => h.2, fun h => ⟨(show (1 : Nat) ≤ 2 by decide), h⟩⟩
theorem gb_l2 {x : Int64} {st : List Value} : g_bud 2 (.long x :: st) = g_bud 0 st := propext ⟨fun h => h.2, fun h => ⟨(show (2 : Nat) ≤ 2 by decide), h⟩⟩
theorem gb_i3 {x : Int32} {st : List Value} : g_bud 3 (.int x :: st) = g_bud 2 st := propext ⟨fun h => h.2, fun h => ⟨(show (1 : Nat) ≤ 3 by decide), h⟩⟩
theorem gb_r3 {x : Nat} {st : List Value} : g_bud 3 (.ref x :: st) = g_bud 2 st := propext ⟨fun h => h.2, fun h => ⟨(show (1 : Nat) ≤ 3 by decide), h⟩⟩
theorem gb_l3 {x : Int64} {st : List Value} : g_bud 3 (.long x :: st) = g_bud 1 st := propext ⟨fun h => h.2, fun h => ⟨(show (2 : Nat) ≤ 3 by decide), h⟩⟩
theorem gb_i4 {x : Int32} {st : List Value} : g_bud 4 (.int x :: st) = g_bud 3 st := propext ⟨fun h => h.2, fun h => ⟨(show (1 : Nat) ≤ 4 by decide), h⟩⟩
theorem gb_r4 {x : Nat} {st : List Value} : g_bud 4 (.ref x :: st) = g_bud 3 st := propext ⟨fun h => h.2, fun h => ⟨(show (1 : Nat) ≤ 4 by decide), h⟩⟩
theorem gb_l4 {x : Int64} {st : List Value} : g_bud 4 (.long x :: st) = g_bud 2 st := propext ⟨fun h => h.2, fun h => ⟨(show (2 : Nat) ≤ 4 by decide), h⟩⟩
theorem gb_i5 {x : Int32} {st : List Value} : g_bud 5 (.int x :: st) = g_bud 4 st := propext ⟨fun h => h.2, fun h => ⟨(show (1 : Nat) ≤ 5 by decide), h⟩⟩
theorem gb_r5 {x : Nat} {st : List Value} : g_bud 5 (.ref x :: st) = g_bud 4 st := propext ⟨fun h => h.2, fun h => ⟨(show (1 : Nat) ≤ 5 by decide), h⟩⟩
theorem gb_l5 {x : Int64} {st : List Value} : g_bud 5 (.long x :: st) = g_bud 3 st := propext ⟨fun h => h.2, fun h => ⟨(show (2 : Nat) ≤ 5 by decide), h⟩⟩
theorem gb_i6 {x : Int32} {st : List Value} : g_bud 6 (.int x :: st) = g_bud 5 st := propext ⟨fun h => h.2, fun h => ⟨(show (1 : Nat) ≤ 6 by decide), h⟩⟩
theorem gb_r6 {x : Nat} {st : List Value} : g_bud 6 (.ref x :: st) = g_bud 5 st := propext ⟨fun h => h.2, fun h => ⟨(show (1 : Nat) ≤ 6 by decide), h⟩⟩
theorem gb_l6 {x : Int64} {st : List Value} : g_bud 6 (.long x :: st) = g_bud 4 st := propext ⟨fun h => h.2, fun h => ⟨(show (2 : Nat) ≤ 6 by decide), h⟩⟩
theorem gb_i7 {x : Int32} {st : List Value} : g_bud 7 (.int x :: st) = g_bud 6 st := propext ⟨fun h => h.2, fun h => ⟨(show (1 : Nat) ≤ 7 by decide), h⟩⟩
theorem gb_r7 {x : Nat} {st : List Value} : g_bud 7 (.ref x :: st) = g_bud 6 st := propext ⟨fun h => h.2, fun h => ⟨(show (1 : Nat) ≤ 7 by decide), h⟩⟩
theorem gb_l7 {x : Int64} {st : List Value} : g_bud 7 (.long x :: st) = g_bud 5 st := propext ⟨fun h => h.2, fun h => ⟨(show (2 : Nat) ≤ 7 by decide), h⟩⟩
theorem gb_i8 {x : Int32} {st : List Value} : g_bud 8 (.int x :: st) = g_bud 7 st := propext ⟨fun h => h.2, fun h => ⟨(show (1 : Nat) ≤ 8 by decide), h⟩⟩
theorem gb_r8 {x : Nat} {st : List Value} : g_bud 8 (.ref x :: st) = g_bud 7 st := propext ⟨fun h => h.2, fun h => ⟨(show (1 : Nat) ≤ 8 by decide), h⟩⟩
theorem gb_l8 {x : Int64} {st : List Value} : g_bud 8 (.long x :: st) = g_bud 6 st := propext ⟨fun h => h.2, fun h => ⟨(show (2 : Nat) ≤ 8 by decide), h⟩⟩
