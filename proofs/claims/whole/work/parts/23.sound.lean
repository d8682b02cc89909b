theorem g_i1_inv {st : List Value} {k : Int32 → List Value → Prop} (h : g_i1 st k) : ∃ x r, st = .int x :: r ∧ k x r := by
  unfold g_i1 at h
  split at h
  · exact ⟨_, _, rfl, h⟩
  · exact h.elim
theorem g_i2_inv {st : List Value} {k : Int32 → Int32 → List Value → Prop} (h : g_i2 st k) : ∃ x y r, st = .int y :: .int x :: r ∧ k x y r := by
  unfold g_i2 at h
  split at h
  · exact ⟨_, _, _, rfl, h⟩
  · exact h.elim
theorem g_l1_inv {st : List Value} {k : Int64 → List Value → Prop} (h : g_l1 st k) : ∃ x r, st = .long x :: r ∧ k x r := by
  unfold g_l1 at h
  split at h
  · exact ⟨_, _, rfl, h⟩
  · exact h.elim
theorem g_l2_inv {st : List Value} {k : Int64 → Int64 → List Value → Prop} (h : g_l2 st k) : ∃ x y r, st = .long y :: .long x :: r ∧ k x y r := by
  unfold g_l2 at h
  split at h
  · exact ⟨_, _, _, rfl, h⟩
  · exact h.elim
theorem g_r1_inv {st : List Value} {k : Nat → List Value → Prop} (h : g_r1 st k) : ∃ x r, st = .ref x :: r ∧ k x r := by
  unfold g_r1 at h
  split at h
  · exact ⟨_, _, rfl, h⟩
  · exact h.elim
theorem g_ra_inv {st : List Value} {k : Nat → Nat → List Value → Prop} (h : g_ra st k) : ∃ x y r, st = .ref y :: .ref x :: r ∧ k x y r := by
  unfold g_ra at h
  split at h
  · exact ⟨_, _, _, rfl, h⟩
  · exact h.elim
theorem g_ri_inv {st : List Value} {k : Nat → Int32 → List Value → Prop} (h : g_ri st k) : ∃ x y r, st = .int y :: .ref x :: r ∧ k x y r := by
  unfold g_ri at h
  split at h
  · exact ⟨_, _, _, rfl, h⟩
  · exact h.elim
theorem g_rl_inv {st : List Value} {k : Nat → Int64 → List Value → Prop} (h : g_rl st k) : ∃ x y r, st = .long y :: .ref x :: r ∧ k x y r := by
  unfold g_rl at h
  split at h
  · exact ⟨_, _, _, rfl, h⟩
  · exact h.elim
theorem g_rii_inv {st : List Value} {k : Nat → Int32 → Int32 → List Value → Prop} (h : g_rii st k) : ∃ x y z r, st = .int z :: .int y :: .ref x :: r ∧ k x y z r := by
  unfold g_rii at h
  split at h
  · exact ⟨_, _, _, _, rfl, h⟩
  · exact h.elim
theorem g_ril_inv {st : List Value} {k : Nat → Int32 → Int64 → List Value → Prop} (h : g_ril st k) : ∃ x y z r, st = .long z :: .int y :: .ref x :: r ∧ k x y z r := by
  unfold g_ril at h
  split at h
  · exact ⟨_, _, _, _, rfl, h⟩
  · exact h.elim
theorem g_rir_inv {st : List Value} {k : Nat → Int32 → Nat → List Value → Prop} (h : g_rir st k) : ∃ x y z r, st = .ref z :: .int y :: .ref x :: r ∧ k x y z r := by
  unfold g_rir at h
  split at h
  · exact ⟨_, _, _, _, rfl, h⟩
  · exact h.elim
theorem g_cp_inv {st : List Value} {k : Nat → Int32 → Nat → Int32 → Int32 → List Value → Prop} (h : g_cp st k) : ∃ a b c d e r, st = .int e :: .int d :: .ref c :: .int b :: .ref a :: r ∧ k a b c d e r := by
  unfold g_cp at h
  split at h
  · exact ⟨_, _, _, _, _, _, rfl, h⟩
  · exact h.elim
theorem g_v1_inv {st : List Value} {k : Value → List Value → Prop} (h : g_v1 st k) : ∃ x r, st = x :: r ∧ k x r := by
  unfold g_v1 at h
  split at h
  · exact ⟨_, _, rfl, h⟩
  · exact h.elim
theorem g_v2_inv {st : List Value} {k : Value → Value → List Value → Prop} (h : g_v2 st k) : ∃ x y r, st = x :: y :: r ∧ k x y r := by
  unfold g_v2 at h
  split at h
  · exact ⟨_, _, _, rfl, h⟩
  · exact h.elim
theorem g_op_inv {o : Option Nat} {k : Nat → Prop} (h : g_op o k) : ∃ q, o = some q ∧ k q := by
  unfold g_op at h
  split at h
  · exact ⟨_, rfl, h⟩
  · exact h.elim
theorem g_tc_int {ty : FieldType} (h : g_tc ty = 0) : ty = .int := by cases ty <;> simp [g_tc] at h <;> rfl
theorem g_tc_bool {ty : FieldType} (h : g_tc ty = 1) : ty = .boolean := by cases ty <;> simp [g_tc] at h <;> rfl
theorem g_tc_lng {ty : FieldType} (h : g_tc ty = 2) : ty = .long := by cases ty <;> simp [g_tc] at h <;> rfl
theorem g_tc_r2 {t tc : Nat} (h : t = tc) (hle : t ≤ 3) (n2 : tc = 2 → False) (n3 : tc = 3 → False) : t = 0 ∨ t = 1 := by
  subst h
  have a : ¬ t = 2 := n2
  have b : ¬ t = 3 := n3
  omega
theorem g_tc_r3 {t tc : Nat} (h : t = tc) (hle : t ≤ 3) (n0 : tc = 0 → False) (n1 : tc = 1 → False) (n2 : tc = 2 → False) : t = 3 := by
  subst h
  have a : ¬ t = 0 := n0
  have b : ¬ t = 1 := n1
  have c : ¬ t = 2 := n2
  omega
theorem g_split {n : Nat} {st rest : List Value} (h : st.drop n = rest) : st = ((st.take n).reverse).reverse ++ rest := by rw [List.reverse_reverse, ← h, List.take_append_drop]
theorem g_split5 {n : Nat} {st : List Value} (h : (st.take n).length = n) : st = ((st.take n).reverse).reverse ++ st.drop n := by rw [List.reverse_reverse, List.take_append_drop]
/-! a method's rows are its code's: a check that the kernel runs; the calculus is sound over the machine -/
def g_has (i : Nat) (w : Cond) : Bool := decide (lw_tbl[i]? = some w) && goodWord w
theorem g_has_mem {i : Nat} {w : Cond} (h : g_has i w = true) : w ∈ gt := by
  simp only [g_has, Bool.and_eq_true, decide_eq_true_eq] at h
  exact gt_mem i h.1 h.2
def g_tg (pcs : List Nat) (pc : Nat) (o : Int) (t : Nat) : Bool := match pcs[t]? with
  | some q => decide ((pc : Int) + o = (q : Int))
  | none => false
theorem g_tg_ok {pcs : List Nat} {pc t : Nat} {o : Int} (h : g_tg pcs pc o t = true) : ∃ q : Nat, pcs[t]? = some q ∧ (pc : Int) + o = (q : Int) := by
  unfold g_tg at h
  split at h
  · exact ⟨_, ‹_›, of_decide_eq_true h⟩
  · cases h
def g_tgs (pcs : List Nat) (pc : Nat) : List Int → List Nat → Bool
  | [], [] => true
  | o :: os, t :: ts => g_tg pcs pc o t && g_tgs pcs pc os ts
  | _, _ => false
theorem g_tgs_ok {pcs : List Nat} {pc : Nat} : ∀ {os : List Int} {ts : List Nat}, g_tgs pcs pc os ts = true → os.length = ts.length ∧ ∀ (j : Nat) (o : Int), os[j]? = some o → ∃ t q : Nat, ts[j]? = some t ∧ pcs[t]? = some q ∧ (pc : Int) + o = (q : Int) := by
  intro os
  induction os with
  | nil =>
    intro ts h
    cases ts with
    | nil => exact ⟨rfl, fun j o h => by simp at h⟩
    | cons t ts => simp [g_tgs] at h
  | cons o os ih =>
    intro ts h
    cases ts with
    | nil => simp [g_tgs] at h
    | cons t ts =>
      simp only [g_tgs, Bool.and_eq_true] at h
      obtain ⟨h1, h2⟩ := ih h.2
      refine ⟨by simp [h1], fun j o' hj => ?_⟩
      cases j with
      | zero =>
        simp at hj
        subst hj
        obtain ⟨q, q1, q2⟩ := g_tg_ok h.1
        exact ⟨t, q, rfl, q1, q2⟩
      | succ j => exact h2 j o' (by simpa using hj)
def g_strok (own : String) (x j p : Nat) : Bool := match gsR[p]? with
  | some q => q.1 == own && q.2.1 == x && q.2.2.2 == j
  | none => false
theorem g_strok_ok {own : String} {x j p : Nat} (h : g_strok own x j p = true) : ∃ tx, (own, x, tx, j) ∈ gsR := by
  unfold g_strok at h
  split at h
  · rename_i q hq
    simp only [Bool.and_eq_true, beq_iff_eq] at h
    obtain ⟨⟨rfl, rfl⟩, rfl⟩ := h
    exact ⟨q.2.2.1, List.mem_of_getElem? hq⟩
  · cases h
def g_nstok (own : String) (x p : Nat) (y : MethodName) : Bool := match gsK[p]? with
  | some q => q.1 == own && q.2.1 == x && decide (q.2.2.1 = y)
  | none => false
theorem g_nstok_ok {own : String} {x p : Nat} {y : MethodName} (h : g_nstok own x p y = true) : ∃ host, (own, x, y, host) ∈ gsK := by
  unfold g_nstok at h
  split at h
  · rename_i q hq
    simp only [Bool.and_eq_true, beq_iff_eq, decide_eq_true_eq] at h
    obtain ⟨⟨rfl, rfl⟩, rfl⟩ := h
    exact ⟨q.2.2.2, List.mem_of_getElem? hq⟩
  · cases h
/-- a callee: which method, of which kind, with so many arguments, making so many cells and slots -/
def g_cal (mt : Nat → gD) (mk : Nat → Nat) (nm k y n mcy msy : Nat) : Bool := decide (y < nm) && mk y == k && (mt y).2.2.2.2.1 == n && (mt y).2.2.2.2.2.1.1 == mcy && (mt y).2.2.2.2.2.1.2 == msy
theorem g_cal_ok {mt : Nat → gD} {mk : Nat → Nat} {nm k y n mcy msy : Nat} (h : g_cal mt mk nm k y n mcy msy = true) : y < nm ∧ mk y = k ∧ (mt y).2.2.2.2.1 = n ∧ (mt y).2.2.2.2.2.1.1 = mcy ∧ (mt y).2.2.2.2.2.1.2 = msy := by
  simp only [g_cal, Bool.and_eq_true, beq_iff_eq, decide_eq_true_eq] at h
  exact ⟨h.1.1.1.1, h.1.1.1.2, h.1.1.2, h.1.2, h.2⟩
def g_ok (mt : Nat → gD) (mk : Nat → Nat) (nm : Nat) (own name : String) (pcs : List Nat) (pc len : Nat) (i : Instr) (f : List Nat) : Bool := match i with
  | .iconst _ => len == 1
  | .lconst _ => len == 1
  | .bipush _ => len == 2
  | .sipush _ => len == 3
  | .ldc x => len == 2 && (match f with
    | [0, v, p] => g_has p (.constant own x (nI v))
    | [1, j, p] => g_strok own x j p
    | _ => false)
  | .ldc_w x => len == 3 && (match f with
    | [0, v, p] => g_has p (.constant own x (nI v))
    | [1, j, p] => g_strok own x j p
    | _ => false)
  | .iload_n _ => len == 1
  | .lload_n _ => len == 1
  | .aload_n _ => len == 1
  | .istore_n _ => len == 1
  | .lstore_n _ => len == 1
  | .astore_n _ => len == 1
  | .iload _ => len == 2
  | .aload _ => len == 2
  | .istore _ => len == 2
  | .astore _ => len == 2
  | .iinc _ _ => len == 3
  | .iadd => len == 1
  | .isub => len == 1
  | .imul => len == 1
  | .iand => len == 1
  | .ior => len == 1
  | .ixor => len == 1
  | .idiv => len == 1
  | .irem => len == 1
  | .ishl => len == 1
  | .ishr => len == 1
  | .iushr => len == 1
  | .ineg => len == 1
  | .i2l => len == 1
  | .l2i => len == 1
  | .ladd => len == 1
  | .lmul => len == 1
  | .lcmp => len == 1
  | .dup => len == 1
  | .dup2 => len == 1
  | .pop => len == 1
  | .iaload => len == 1
  | .laload => len == 1
  | .aaload => len == 1
  | .iastore => len == 1
  | .lastore => len == 1
  | .aastore => len == 1
  | .arraylength => len == 1
  | .ireturn => len == 1
  | .lreturn => len == 1
  | .areturn => len == 1
  | .return_ => len == 1
  | .ifCond _ o => len == 3 && (match f with
    | [t] => g_tg pcs pc o t
    | _ => false)
  | .if_icmp _ o => len == 3 && (match f with
    | [t] => g_tg pcs pc o t
    | _ => false)
  | .goto o => len == 3 && (match f with
    | [t] => g_tg pcs pc o t
    | _ => false)
  | .tableswitch d lo hi os => (match f with
    | t :: ts => g_tg pcs pc d t && g_tgs pcs pc os.toList ts && decide (hi - lo + 1 = (ts.length : Int))
    | _ => false)
  | .getfield x => len == 3 && (match f with
    | [ci, k, tc, p] => decide (ci < 10) && decide (k < gN ci) && g_has p (.fieldLink own x (gR ci) (gT ci k).2.1 (gT ci k).2.2.1) && g_tc (gTy ci k) == tc
    | _ => false)
  | .putfield x => len == 3 && (match f with
    | [ci, k, tc, p] => decide (ci < 10) && decide (k < gN ci) && g_has p (.fieldLink own x (gR ci) (gT ci k).2.1 (gT ci k).2.2.1) && g_tc (gTy ci k) == tc && (!(gT ci k).2.2.2 || (name == "<init>" && gR ci == own))
    | _ => false)
  | .newarray t => len == 2 && ((decide (t = .int) && decide (f = [1])) || (decide (t = .long) && decide (f = [2])))
  | .anewarray x => len == 3 && (match f with
    | [kd, p] => decide (3 ≤ kd) && decide (kd ≤ 5) && g_has p (.classLink own x (gR (g_ac kd)))
    | _ => false)
  | .new x => len == 3 && (match f with
    | [ci, p1, p2, p3] => decide (ci < 10) && g_has p1 (.classLink own x (gR ci)) && g_has p2 (.instantiable (gR ci) (gN ci)) && g_has p3 (.initialized (gR ci))
    | _ => false)
  | .invokevirtual x => len == 3 && (match f with
    | [0, y, n, ci, mcy, msy, p] => g_cal mt mk nm 0 y (n + 1) mcy msy && decide (ci < 10) && (mt y).1.cls == gR ci && g_has p (.methodLink own x (mt y).1)
    | [8, p] => g_has p (.methodLink own x yJ0_length_8abf5)
    | [9, p] => g_has p (.methodLink own x yJ0_charAt_5068e)
    | _ => false)
  | .invokestatic x => len == 3 && (match f with
    | [1, y, n, mcy, msy, p] => g_cal mt mk nm 1 y n mcy msy && g_has p (.methodLink own x (mt y).1)
    | [5, p] => g_has p (.methodLink own x Lib.Math.max.name)
    | [6, p] => g_has p (.methodLink own x Lib.Math.min.name)
    | [7, p] => g_has p (.methodLink own x arraycopyName)
    | _ => false)
  | .invokespecial x => len == 3 && (match f with
    | [2, y, n, mcy, msy, p] => g_cal mt mk nm 2 y (n + 1) mcy msy && g_has p (.methodLink own x (mt y).1)
    | [3, y, n, mcy, msy, p] => g_cal mt mk nm 2 y (n + 1) mcy msy && g_nstok own x p (mt y).1
    | [4, p] => g_has p (.methodLink own x Lib.objectInit)
    | _ => false)
  | _ => false
def g_end (i : Instr) : Bool := match i with
  | .goto _ => true
  | .tableswitch _ _ _ _ => true
  | .ireturn => true
  | .lreturn => true
  | .areturn => true
  | .return_ => true
  | _ => false
def g_chk (mt : Nat → gD) (mk : Nat → Nat) (nm : Nat) (own name : String) (cc : ByteArray) (pcs : List Nat) (nk : Nat) : List gX → Nat → Bool
  | [], pc => decide (pcs[nk]? = some pc)
  | (i, f) :: r, pc => match decode cc pc with
    | .ok (j, len) => decide (j = i) && g_ok mt mk nm own name pcs pc len i f && (g_end i || g_chk mt mk nm own name cc pcs nk r (pc + len))
    | .error _ => false
theorem g_chk_cons {mt : Nat → gD} {mk : Nat → Nat} {nm : Nat} {own name : String} {cc : ByteArray} {pcs : List Nat} {nk : Nat} {i : Instr} {f : List Nat} {r : List gX} {pc : Nat} (h : g_chk mt mk nm own name cc pcs nk ((i, f) :: r) pc = true) :
    ∃ len, decode cc pc = .ok (i, len) ∧ g_ok mt mk nm own name pcs pc len i f = true ∧ (g_end i = true ∨ g_chk mt mk nm own name cc pcs nk r (pc + len) = true) := by
  unfold g_chk at h
  split at h
  · rename_i j len hd
    simp only [Bool.and_eq_true, decide_eq_true_eq, Bool.or_eq_true] at h
    obtain ⟨⟨rfl, h2⟩, h3⟩ := h
    exact ⟨len, hd, h2, h3⟩
  · cases h
section GSA
variable {p : Program} {l : Launch} {e : Env} {R : Room} {s : State} {m : MethodId} {args : Array Value} {below : List Frame} {meth : Method} {c : Code}
variable {D : va_G} {ca : Nat → ClassId} {b : Nat} {sk sv : Nat → Nat} {al : Bool} {nL : Nat} {cc : ByteArray} {own : String} {mt : Nat → gD} {mk : Nat → Nat} {nm d mc ms : Nat} {rt : Option FieldType} {Q : Option Value → gM → Prop} {M0 : gM} {C : gC} {P : gP} {pcs : List Nat} {nk : Nat}
set_option maxHeartbeats 4000000 in
theorem g_block (hx : p.tables.exec = Jvm.exec) (hb : c.code = cc) (hml : c.maxLocals = nL) (hown : s.vm.findClass own = some m.cls) (hts : ∀ w ∈ gt, w.before args s = true) (hr : meth.sig.returnType = rt) (hlk : meth.locks = false) (hK : va_K D vwCl (g_tys ca) s) (hX : g_X b sk sv s) (hbs : b ≤ s.heap.size) (hSK : g_SK l b sk sv) (hM0 : al = true → s.heap.size = b + M0.1.1)
    (hR1 : R.frames = d + 5) (hR2 : R.locals = 360 + 60 * d) (hR3 : R.cells = mc) (hR4 : R.slots = ms) (hmok : ∀ y, y < nm → g_mok (mt y) (mk y))
    (hC : ∀ y as M Q, y < nm → C y as M Q → Met l (mt y).1 (g_ws (mt y)) (g_rm d (mt y).2.2.2.2.2.1.1 (mt y).2.2.2.2.2.1.2) (g_Pc D ca b sk sv al as M) (g_Qc D ca b sk al (mt y).2.2.2.2.2.1.1 M Q) (mt y).2.2.2.2.2.1.1 (mt y).2.2.2.2.2.1.2 (fun q => b ≤ q))
    (hP : ∀ k lo st M cl sl, cl ≤ mc → sl ≤ ms → P k lo st M cl sl → ∀ pc, pcs[k]? = some pc → g_W p l e R s m args below meth c (MQ below (g_Qc D ca b sk al mc M0 Q) args s mc ms (fun q => b ≤ q)) D ca b sk al nL pc lo st M cl sl) :
    ∀ (xs : List gX) (pc : Nat) (lo : gL) (st : List Value) (M : gM) (cl sl : Nat), g_chk mt mk nm own meth.name cc pcs nk xs pc = true → cl ≤ mc → sl ≤ ms → g_wp gS0 C al mc ms rt Q P nk xs lo st M cl sl → g_W p l e R s m args below meth c (MQ below (g_Qc D ca b sk al mc M0 Q) args s mc ms (fun q => b ≤ q)) D ca b sk al nL pc lo st M cl sl := by
  intro xs
  induction xs with
  | nil =>
    intro pc lo st M cl sl hk hcl hsl h
    exact hP _ _ _ _ _ _ hcl hsl h pc (of_decide_eq_true hk)
  | cons x r ih =>
    obtain ⟨i, f⟩ := x
    intro pc lo st M cl sl hk hcl hsl h
    obtain ⟨len, hd, hok, hk2⟩ := g_chk_cons hk
    clear hk
    cases i with
    | iconst n =>
      have hl : len = 1 := by simpa [g_ok] using hok
      subst hl
      have hk3 := hk2.resolve_left (by simp [g_end])
      exact gs_iconst hx hb hd (ih _ _ _ _ _ _ hk3 hcl hsl h)
    | lconst n =>
      have hl : len = 1 := by simpa [g_ok] using hok
      subst hl
      have hk3 := hk2.resolve_left (by simp [g_end])
      exact gs_lconst hx hb hd (ih _ _ _ _ _ _ hk3 hcl hsl h)
    | bipush n =>
      have hl : len = 2 := by simpa [g_ok] using hok
      subst hl
      have hk3 := hk2.resolve_left (by simp [g_end])
      exact gs_bipush hx hb hd (ih _ _ _ _ _ _ hk3 hcl hsl h)
    | sipush n =>
      have hl : len = 3 := by simpa [g_ok] using hok
      subst hl
      have hk3 := hk2.resolve_left (by simp [g_end])
      exact gs_sipush hx hb hd (ih _ _ _ _ _ _ hk3 hcl hsl h)
    | ldc x =>
      have hk3 := hk2.resolve_left (by simp [g_end])
      simp only [g_wp] at h
      split at h
      · simp only [g_ok, Bool.and_eq_true, beq_iff_eq] at hok
        obtain ⟨rfl, ho⟩ := hok
        exact gs_ldci hx hb hown hts (g_has_mem ho) hd (ih _ _ _ _ _ _ hk3 hcl hsl h)
      · simp only [g_ok, Bool.and_eq_true, beq_iff_eq] at hok
        obtain ⟨rfl, ho⟩ := hok
        obtain ⟨tx, ho⟩ := g_strok_ok ho
        exact gs_ldcs hx hb hown hX ho hd (ih _ _ _ _ _ _ hk3 hcl hsl h)
      · exact h.elim
    | ldc_w x =>
      have hk3 := hk2.resolve_left (by simp [g_end])
      simp only [g_wp] at h
      split at h
      · simp only [g_ok, Bool.and_eq_true, beq_iff_eq] at hok
        obtain ⟨rfl, ho⟩ := hok
        exact gs_ldcwi hx hb hown hts (g_has_mem ho) hd (ih _ _ _ _ _ _ hk3 hcl hsl h)
      · simp only [g_ok, Bool.and_eq_true, beq_iff_eq] at hok
        obtain ⟨rfl, ho⟩ := hok
        obtain ⟨tx, ho⟩ := g_strok_ok ho
        exact gs_ldcws hx hb hown hX ho hd (ih _ _ _ _ _ _ hk3 hcl hsl h)
      · exact h.elim
    | iload_n n =>
      have hl : len = 1 := by simpa [g_ok] using hok
      subst hl
      have hk3 := hk2.resolve_left (by simp [g_end])
      obtain ⟨x, hg, h⟩ := g_li_inv h
      exact gs_iload_n hx hb hd hg (ih _ _ _ _ _ _ hk3 hcl hsl h)
    | iload n =>
      have hl : len = 2 := by simpa [g_ok] using hok
      subst hl
      have hk3 := hk2.resolve_left (by simp [g_end])
      obtain ⟨x, hg, h⟩ := g_li_inv h
      exact gs_iload hx hb hd hg (ih _ _ _ _ _ _ hk3 hcl hsl h)
    | lload_n n =>
      have hl : len = 1 := by simpa [g_ok] using hok
      subst hl
      have hk3 := hk2.resolve_left (by simp [g_end])
      obtain ⟨x, hg, h⟩ := g_ll_inv h
      exact gs_lload_n hx hb hd hg (ih _ _ _ _ _ _ hk3 hcl hsl h)
    | aload_n n =>
      have hl : len = 1 := by simpa [g_ok] using hok
      subst hl
      have hk3 := hk2.resolve_left (by simp [g_end])
      obtain ⟨x, hg, h⟩ := g_lr_inv h
      exact gs_aload_n hx hb hd hg (ih _ _ _ _ _ _ hk3 hcl hsl h)
    | aload n =>
      have hl : len = 2 := by simpa [g_ok] using hok
      subst hl
      have hk3 := hk2.resolve_left (by simp [g_end])
      obtain ⟨x, hg, h⟩ := g_lr_inv h
      exact gs_aload hx hb hd hg (ih _ _ _ _ _ _ hk3 hcl hsl h)
    | istore_n n =>
      have hl : len = 1 := by simpa [g_ok] using hok
      subst hl
      have hk3 := hk2.resolve_left (by simp [g_end])
      obtain ⟨x, st2, rfl, h⟩ := g_i1_inv h
      exact gs_istore_n hx hb hd (g_st_m (fun _ z => ih _ _ _ _ _ _ hk3 hcl hsl z) h)
    | istore n =>
      have hl : len = 2 := by simpa [g_ok] using hok
      subst hl
      have hk3 := hk2.resolve_left (by simp [g_end])
      obtain ⟨x, st2, rfl, h⟩ := g_i1_inv h
      exact gs_istore hx hb hd (g_st_m (fun _ z => ih _ _ _ _ _ _ hk3 hcl hsl z) h)
    | astore_n n =>
      have hl : len = 1 := by simpa [g_ok] using hok
      subst hl
      have hk3 := hk2.resolve_left (by simp [g_end])
      obtain ⟨x, st2, rfl, h⟩ := g_r1_inv h
      exact gs_astore_n hx hb hd (g_st_m (fun _ z => ih _ _ _ _ _ _ hk3 hcl hsl z) h)
    | astore n =>
      have hl : len = 2 := by simpa [g_ok] using hok
      subst hl
      have hk3 := hk2.resolve_left (by simp [g_end])
      obtain ⟨x, st2, rfl, h⟩ := g_r1_inv h
      exact gs_astore hx hb hd (g_st_m (fun _ z => ih _ _ _ _ _ _ hk3 hcl hsl z) h)
    | lstore_n n =>
      have hl : len = 1 := by simpa [g_ok] using hok
      subst hl
      have hk3 := hk2.resolve_left (by simp [g_end])
      obtain ⟨x, st2, rfl, h⟩ := g_l1_inv h
      exact gs_lstore_n hx hb hd (g_st2_m (fun _ z => ih _ _ _ _ _ _ hk3 hcl hsl z) h)
    | iinc k n =>
      have hl : len = 3 := by simpa [g_ok] using hok
      subst hl
      have hk3 := hk2.resolve_left (by simp [g_end])
      obtain ⟨x, hg, h⟩ := g_li_inv h
      exact gs_iinc hx hb hd hg (g_st_m (fun _ z => ih _ _ _ _ _ _ hk3 hcl hsl z) h)
    | iadd =>
      have hl : len = 1 := by simpa [g_ok] using hok
      subst hl
      have hk3 := hk2.resolve_left (by simp [g_end])
      obtain ⟨x, y, st2, rfl, h⟩ := g_i2_inv h
      exact gs_iadd hx hb hd (ih _ _ _ _ _ _ hk3 hcl hsl h)
    | isub =>
      have hl : len = 1 := by simpa [g_ok] using hok
      subst hl
      have hk3 := hk2.resolve_left (by simp [g_end])
      obtain ⟨x, y, st2, rfl, h⟩ := g_i2_inv h
      exact gs_isub hx hb hd (ih _ _ _ _ _ _ hk3 hcl hsl h)
    | imul =>
      have hl : len = 1 := by simpa [g_ok] using hok
      subst hl
      have hk3 := hk2.resolve_left (by simp [g_end])
      obtain ⟨x, y, st2, rfl, h⟩ := g_i2_inv h
      exact gs_imul hx hb hd (ih _ _ _ _ _ _ hk3 hcl hsl h)
    | iand =>
      have hl : len = 1 := by simpa [g_ok] using hok
      subst hl
      have hk3 := hk2.resolve_left (by simp [g_end])
      obtain ⟨x, y, st2, rfl, h⟩ := g_i2_inv h
      exact gs_iand hx hb hd (ih _ _ _ _ _ _ hk3 hcl hsl h)
    | ior =>
      have hl : len = 1 := by simpa [g_ok] using hok
      subst hl
      have hk3 := hk2.resolve_left (by simp [g_end])
      obtain ⟨x, y, st2, rfl, h⟩ := g_i2_inv h
      exact gs_ior hx hb hd (ih _ _ _ _ _ _ hk3 hcl hsl h)
    | ixor =>
      have hl : len = 1 := by simpa [g_ok] using hok
      subst hl
      have hk3 := hk2.resolve_left (by simp [g_end])
      obtain ⟨x, y, st2, rfl, h⟩ := g_i2_inv h
      exact gs_ixor hx hb hd (ih _ _ _ _ _ _ hk3 hcl hsl h)
    | ishl =>
      have hl : len = 1 := by simpa [g_ok] using hok
      subst hl
      have hk3 := hk2.resolve_left (by simp [g_end])
      obtain ⟨x, y, st2, rfl, h⟩ := g_i2_inv h
      exact gs_ishl hx hb hd (ih _ _ _ _ _ _ hk3 hcl hsl h)
    | ishr =>
      have hl : len = 1 := by simpa [g_ok] using hok
      subst hl
      have hk3 := hk2.resolve_left (by simp [g_end])
      obtain ⟨x, y, st2, rfl, h⟩ := g_i2_inv h
      exact gs_ishr hx hb hd (ih _ _ _ _ _ _ hk3 hcl hsl h)
    | iushr =>
      have hl : len = 1 := by simpa [g_ok] using hok
      subst hl
      have hk3 := hk2.resolve_left (by simp [g_end])
      obtain ⟨x, y, st2, rfl, h⟩ := g_i2_inv h
      exact gs_iushr hx hb hd (ih _ _ _ _ _ _ hk3 hcl hsl h)
    | idiv =>
      have hl : len = 1 := by simpa [g_ok] using hok
      subst hl
      have hk3 := hk2.resolve_left (by simp [g_end])
      obtain ⟨x, y, st2, rfl, h⟩ := g_i2_inv h
      exact gs_idiv hx hb hd h.1 (ih _ _ _ _ _ _ hk3 hcl hsl h.2)
    | irem =>
      have hl : len = 1 := by simpa [g_ok] using hok
      subst hl
      have hk3 := hk2.resolve_left (by simp [g_end])
      obtain ⟨x, y, st2, rfl, h⟩ := g_i2_inv h
      exact gs_irem hx hb hd h.1 (ih _ _ _ _ _ _ hk3 hcl hsl h.2)
    | ineg =>
      have hl : len = 1 := by simpa [g_ok] using hok
      subst hl
      have hk3 := hk2.resolve_left (by simp [g_end])
      obtain ⟨x, st2, rfl, h⟩ := g_i1_inv h
      exact gs_ineg hx hb hd (ih _ _ _ _ _ _ hk3 hcl hsl h)
    | i2l =>
      have hl : len = 1 := by simpa [g_ok] using hok
      subst hl
      have hk3 := hk2.resolve_left (by simp [g_end])
      obtain ⟨x, st2, rfl, h⟩ := g_i1_inv h
      exact gs_i2l hx hb hd (ih _ _ _ _ _ _ hk3 hcl hsl h)
    | l2i =>
      have hl : len = 1 := by simpa [g_ok] using hok
      subst hl
      have hk3 := hk2.resolve_left (by simp [g_end])
      obtain ⟨x, st2, rfl, h⟩ := g_l1_inv h
      exact gs_l2i hx hb hd (ih _ _ _ _ _ _ hk3 hcl hsl h)
    | ladd =>
      have hl : len = 1 := by simpa [g_ok] using hok
      subst hl
      have hk3 := hk2.resolve_left (by simp [g_end])
      obtain ⟨x, y, st2, rfl, h⟩ := g_l2_inv h
      exact gs_ladd hx hb hd (ih _ _ _ _ _ _ hk3 hcl hsl h)
    | lmul =>
      have hl : len = 1 := by simpa [g_ok] using hok
      subst hl
      have hk3 := hk2.resolve_left (by simp [g_end])
      obtain ⟨x, y, st2, rfl, h⟩ := g_l2_inv h
      exact gs_lmul hx hb hd (ih _ _ _ _ _ _ hk3 hcl hsl h)
    | lcmp =>
      have hl : len = 1 := by simpa [g_ok] using hok
      subst hl
      have hk3 := hk2.resolve_left (by simp [g_end])
      obtain ⟨x, y, st2, rfl, h⟩ := g_l2_inv h
      exact gs_lcmp hx hb hd (ih _ _ _ _ _ _ hk3 hcl hsl h)
    | dup =>
      have hl : len = 1 := by simpa [g_ok] using hok
      subst hl
      have hk3 := hk2.resolve_left (by simp [g_end])
      obtain ⟨x, st2, rfl, h⟩ := g_v1_inv h
      exact gs_dup hx hb hd h.1 (ih _ _ _ _ _ _ hk3 hcl hsl h.2)
    | pop =>
      have hl : len = 1 := by simpa [g_ok] using hok
      subst hl
      have hk3 := hk2.resolve_left (by simp [g_end])
      obtain ⟨x, st2, rfl, h⟩ := g_v1_inv h
      exact gs_pop hx hb hd h.1 (ih _ _ _ _ _ _ hk3 hcl hsl h.2)
    | dup2 =>
      have hl : len = 1 := by simpa [g_ok] using hok
      subst hl
      have hk3 := hk2.resolve_left (by simp [g_end])
      obtain ⟨x, y, st2, rfl, h⟩ := g_v2_inv h
      exact gs_dup2 hx hb hd h.1 h.2.1 (ih _ _ _ _ _ _ hk3 hcl hsl h.2.2)
    | ifCond o t =>
      have hk3 := hk2.resolve_left (by simp [g_end])
      simp only [g_wp] at h
      split at h
      · simp only [g_ok, Bool.and_eq_true, beq_iff_eq] at hok
        obtain ⟨rfl, ho⟩ := hok
        obtain ⟨q, q1, q2⟩ := g_tg_ok ho
        obtain ⟨x, st2, rfl, h⟩ := g_i1_inv h
        exact gs_if hx hb hd q2 (fun z => hP _ _ _ _ _ _ hcl hsl (h.1 z) q q1) (fun z => ih _ _ _ _ _ _ hk3 hcl hsl (h.2 z))
      · exact h.elim
    | if_icmp o t =>
      have hk3 := hk2.resolve_left (by simp [g_end])
      simp only [g_wp] at h
      split at h
      · simp only [g_ok, Bool.and_eq_true, beq_iff_eq] at hok
        obtain ⟨rfl, ho⟩ := hok
        obtain ⟨q, q1, q2⟩ := g_tg_ok ho
        obtain ⟨x, y, st2, rfl, h⟩ := g_i2_inv h
        exact gs_icmp hx hb hd q2 (fun z => hP _ _ _ _ _ _ hcl hsl (h.1 z) q q1) (fun z => ih _ _ _ _ _ _ hk3 hcl hsl (h.2 z))
      · exact h.elim
    | goto t =>
      simp only [g_wp] at h
      split at h
      · simp only [g_ok, Bool.and_eq_true, beq_iff_eq] at hok
        obtain ⟨rfl, ho⟩ := hok
        obtain ⟨q, q1, q2⟩ := g_tg_ok ho
        exact gs_goto hx hb hd q2 (hP _ _ _ _ _ _ hcl hsl h q q1)
      · exact h.elim
    | tableswitch dd lo0 hi os =>
      simp only [g_wp] at h
      split at h
      · simp only [g_ok, Bool.and_eq_true, decide_eq_true_eq] at hok
        obtain ⟨⟨ho, ht⟩, hhi⟩ := hok
        obtain ⟨q, q1, q2⟩ := g_tg_ok ho
        obtain ⟨hn, ht⟩ := g_tgs_ok ht
        obtain ⟨x, st2, rfl, h⟩ := g_i1_inv h
        refine gs_table (t := 0) (pcs := pcs) hx hb hd (by simpa using hn) hhi (fun u z _ tgt htg => hP _ _ _ _ _ _ hcl hsl (h.1 z) tgt (by rw [q1]; congr 1; omega)) ⟨q, q2⟩ (fun z => ?_)
        have hlt : (x.toInt - lo0).toNat < os.toList.length := by rw [hn]; omega
        obtain ⟨t', q', z1, z2, z3⟩ := ht (x.toInt - lo0).toNat _ (List.getElem?_eq_getElem hlt)
        obtain ⟨u, hu, hPu⟩ := h.2 z
        obtain rfl : u = t' := Option.some.inj (hu.symm.trans z1)
        exact ⟨_, q', by rw [← Array.getElem?_toList, List.getElem?_eq_getElem hlt], z3, hP _ _ _ _ _ _ hcl hsl hPu q' z2⟩
      · exact h.elim
    | getfield x =>
      have hk3 := hk2.resolve_left (by simp [g_end])
      simp only [g_wp] at h
      split at h
      · simp only [g_ok, Bool.and_eq_true, beq_iff_eq, decide_eq_true_eq] at hok
        obtain ⟨rfl, ⟨⟨ho1, ho2⟩, ho3⟩, ho4⟩ := hok
        obtain ⟨a, st2, rfl, h⟩ := g_r1_inv h
        obtain ⟨h1, h2⟩ := h
        have hle := g_tc_le ho1 ho2
        split at h2
        · exact gs_get hx hb hown hts hK ho1 ho2 h1 (g_has_mem ho3) (v := .long _) (g_fv_l ho4) hd (ih _ _ _ _ _ _ hk3 hcl hsl h2)
        · obtain ⟨q, hq, h2⟩ := g_op_inv h2
          exact gs_get hx hb hown hts hK ho1 ho2 h1 (g_has_mem ho3) (v := .ref q) (by rw [g_fv_r ho4, hq]; rfl) hd (ih _ _ _ _ _ _ hk3 hcl hsl h2)
        · rename_i n2 n3
          exact gs_get hx hb hown hts hK ho1 ho2 h1 (g_has_mem ho3) (v := .int _) (g_fv_i (g_tc_r2 ho4 hle n2 n3)) hd (ih _ _ _ _ _ _ hk3 hcl hsl h2)
      · exact h.elim
    | putfield x =>
      have hk3 := hk2.resolve_left (by simp [g_end])
      simp only [g_wp] at h
      split at h
      · simp only [g_ok, Bool.and_eq_true, beq_iff_eq, decide_eq_true_eq, Bool.or_eq_true, Bool.not_eq_true'] at hok
        obtain ⟨rfl, ⟨⟨⟨ho1, ho2⟩, ho3⟩, ho4⟩, ho5⟩ := hok
        have hle := g_tc_le ho1 ho2
        split at h
        · obtain ⟨a, v, st2, rfl, h⟩ := g_ri_inv h
          have hty := g_tc_int ho4
          exact gs_put hx hb hown hts hK hbs ho1 ho2 h.1 (g_has_mem ho3) ho5 (v := .int v) (M' := g_pi M a _ v) (by rw [hty]; exact g_narrow_i v) rfl rfl g_pi_ne (g_pi_fs (Or.inl ho4)) hd (ih _ _ _ _ _ _ hk3 hcl hsl h.2)
        · obtain ⟨a, v, st2, rfl, h⟩ := g_ri_inv h
          have hty := g_tc_bool ho4
          exact gs_put hx hb hown hts hK hbs ho1 ho2 h.1 (g_has_mem ho3) ho5 (v := .int v) (M' := g_pi M a _ v) (by rw [hty]; exact g_narrow_z h.2.1) rfl rfl g_pi_ne (g_pi_fs (Or.inr ho4)) hd (ih _ _ _ _ _ _ hk3 hcl hsl h.2.2)
        · obtain ⟨a, v, st2, rfl, h⟩ := g_rl_inv h
          have hty := g_tc_lng ho4
          exact gs_put hx hb hown hts hK hbs ho1 ho2 h.1 (g_has_mem ho3) ho5 (v := .long v) (M' := g_pl M a _ v) (by rw [hty]; exact g_narrow_l v) rfl rfl g_pl_ne (g_pl_fs ho4) hd (ih _ _ _ _ _ _ hk3 hcl hsl h.2)
        · rename_i n0 n1 n2
          obtain ⟨a, v, st2, rfl, h⟩ := g_ra_inv h
          have h3 := g_tc_r3 ho4 hle n0 n1 n2
          exact gs_put hx hb hown hts hK hbs ho1 ho2 h.1 (g_has_mem ho3) ho5 (v := .ref v) (M' := g_pr M a _ (some v)) (g_narrow_r h3 _) rfl rfl g_pr_ne (g_pr_fs h3) hd (ih _ _ _ _ _ _ hk3 hcl hsl h.2)
      · exact h.elim
    | iaload =>
      have hl : len = 1 := by simpa [g_ok] using hok
      subst hl
      have hk3 := hk2.resolve_left (by simp [g_end])
      obtain ⟨a, v, st2, rfl, h⟩ := g_ri_inv h
      exact gs_iaload hx hb hK h.1 h.2.1 hd (ih _ _ _ _ _ _ hk3 hcl hsl h.2.2)
    | laload =>
      have hl : len = 1 := by simpa [g_ok] using hok
      subst hl
      have hk3 := hk2.resolve_left (by simp [g_end])
      obtain ⟨a, v, st2, rfl, h⟩ := g_ri_inv h
      exact gs_laload hx hb hK h.1 h.2.1 hd (ih _ _ _ _ _ _ hk3 hcl hsl h.2.2)
    | aaload =>
      have hl : len = 1 := by simpa [g_ok] using hok
      subst hl
      have hk3 := hk2.resolve_left (by simp [g_end])
      obtain ⟨a, v, st2, rfl, h⟩ := g_ri_inv h
      obtain ⟨q, hq, h3⟩ := g_op_inv h.2.2
      exact gs_aaload hx hb hK h.1 h.2.1 hq hd (ih _ _ _ _ _ _ hk3 hcl hsl h3)
    | iastore =>
      have hl : len = 1 := by simpa [g_ok] using hok
      subst hl
      have hk3 := hk2.resolve_left (by simp [g_end])
      obtain ⟨a, v, z, st2, rfl, h⟩ := g_rii_inv h
      exact gs_iastore hx hb hK hbs h.1 h.2.1 hd (ih _ _ _ _ _ _ hk3 hcl hsl h.2.2)
    | lastore =>
      have hl : len = 1 := by simpa [g_ok] using hok
      subst hl
      have hk3 := hk2.resolve_left (by simp [g_end])
      obtain ⟨a, v, z, st2, rfl, h⟩ := g_ril_inv h
      exact gs_lastore hx hb hK hbs h.1 h.2.1 hd (ih _ _ _ _ _ _ hk3 hcl hsl h.2.2)
    | aastore =>
      have hl : len = 1 := by simpa [g_ok] using hok
      subst hl
      have hk3 := hk2.resolve_left (by simp [g_end])
      obtain ⟨a, v, z, st2, rfl, h⟩ := g_rir_inv h
      exact gs_aastore hx hb hK hbs h.1 h.2.1 h.2.2.1 hd (ih _ _ _ _ _ _ hk3 hcl hsl h.2.2.2)
    | arraylength =>
      have hl : len = 1 := by simpa [g_ok] using hok
      subst hl
      have hk3 := hk2.resolve_left (by simp [g_end])
      obtain ⟨a, st2, rfl, h⟩ := g_r1_inv h
      exact gs_alen hx hb hK h.1 hd (ih _ _ _ _ _ _ hk3 hcl hsl h.2)
    | newarray t =>
      have hk3 := hk2.resolve_left (by simp [g_end])
      simp only [g_wp] at h
      split at h
      · obtain ⟨n, st2, rfl, h⟩ := g_i1_inv h
        obtain ⟨h1, h2, h3, h4, h5, h6, h7⟩ := h
        simp only [g_ok, Bool.and_eq_true, beq_iff_eq, decide_eq_true_eq, Bool.or_eq_true, List.cons.injEq, and_true] at hok
        obtain ⟨rfl, ⟨rfl, rfl⟩ | ⟨rfl, rfl⟩⟩ := hok
        · exact gs_newi hx hb hts hK g_arw.1 h1 h2 h3 h4 (hR3 ▸ h5) (hR4 ▸ h6) hd (ih _ _ _ _ _ _ hk3 h5 h6 h7)
        · exact gs_newl hx hb hts hK g_arw.2 h1 h2 h3 h4 (hR3 ▸ h5) (hR4 ▸ h6) hd (ih _ _ _ _ _ _ hk3 h5 h6 h7)
      · exact h.elim
    | anewarray x =>
      have hk3 := hk2.resolve_left (by simp [g_end])
      simp only [g_wp] at h
      split at h
      · obtain ⟨n, st2, rfl, h⟩ := g_i1_inv h
        obtain ⟨h1, h2, h3, h4, h5, h6, h7⟩ := h
        simp only [g_ok, Bool.and_eq_true, beq_iff_eq, decide_eq_true_eq] at hok
        obtain ⟨rfl, ⟨o1, o2⟩, o3⟩ := hok
        obtain ⟨k, hk4, rfl⟩ := g_kd ⟨o1, o2⟩
        exact gs_newq hx hb hown hts hK hk4 (g_has_mem o3) (hX.2.2.2.1 k hk4) h1 h2 h3 h4 (hR3 ▸ h5) (hR4 ▸ h6) hd (ih _ _ _ _ _ _ hk3 h5 h6 h7)
      · exact h.elim
    | new x =>
      have hk3 := hk2.resolve_left (by simp [g_end])
      simp only [g_wp] at h
      split at h
      · obtain ⟨h1, h2, h5, h6, h7⟩ := h
        simp only [g_ok, Bool.and_eq_true, beq_iff_eq, decide_eq_true_eq] at hok
        obtain ⟨rfl, ⟨⟨o1, o2⟩, o3⟩, o4⟩ := hok
        exact gs_new hx hb hown hts hK o1 (g_has_mem o2) (g_has_mem o3) (g_has_mem o4) h1 h2 (hR3 ▸ h5) (hR4 ▸ h6) hd (ih _ _ _ _ _ _ hk3 h5 h6 h7)
      · exact h.elim
    | ireturn =>
      have hl : len = 1 := by simpa [g_ok] using hok
      subst hl
      simp only [g_wp] at h
      split at h
      · obtain ⟨h1, rfl, rfl, h4⟩ := h
        exact gs_ireturn hx hb hlk hr h1 hM0 hbs h4 hd
      · exact h.elim
    | lreturn =>
      have hl : len = 1 := by simpa [g_ok] using hok
      subst hl
      simp only [g_wp] at h
      split at h
      · obtain ⟨h1, rfl, rfl, h4⟩ := h
        exact gs_lreturn hx hb hlk (hr.trans h1) hM0 hbs h4 hd
      · exact h.elim
    | areturn =>
      have hl : len = 1 := by simpa [g_ok] using hok
      subst hl
      simp only [g_wp] at h
      split at h
      · obtain ⟨⟨n, h1⟩, rfl, rfl, h4⟩ := h
        exact gs_areturn hx hb hlk (hr.trans h1) hM0 hbs h4 hd
      · exact h.elim
    | return_ =>
      have hl : len = 1 := by simpa [g_ok] using hok
      subst hl
      simp only [g_wp] at h
      split at h
      · obtain ⟨h1, rfl, rfl, h4⟩ := h
        exact gs_vreturn hx hb hlk (hr.trans h1) hM0 hbs h4 hd
      · exact h.elim
    | invokevirtual x =>
      have hk3 := hk2.resolve_left (by simp [g_end])
      simp only [g_wp] at h
      split at h
      · simp only [g_ok, Bool.and_eq_true, beq_iff_eq, decide_eq_true_eq] at hok
        obtain ⟨rfl, ⟨⟨o1, o2⟩, o3⟩, o4⟩ := hok
        obtain ⟨c1, c2, c3, rfl, rfl⟩ := g_cal_ok o1
        obtain ⟨a, st2, hst, h⟩ := g_r1_inv h
        obtain ⟨h1, h2, h3, h4, h5, h6⟩ := h
        rw [g_split hst]
        exact gs_callV hx hb hml hown hts hK hX hbs (c2 ▸ hmok _ c1) (hC _ _ _ _ c1 h6) ⟨by omega, by omega⟩ o2 h1 o3 (g_has_mem o4) (by rw [List.length_reverse, h5, c3]; rfl) h2 (hR3 ▸ h3) (hR4 ▸ h4) hd (fun r M' z => ih _ _ _ _ _ _ hk3 h3 h4 z)
      · simp only [g_ok, Bool.and_eq_true, beq_iff_eq] at hok
        obtain ⟨rfl, o1⟩ := hok
        obtain ⟨a, st2, rfl, h⟩ := g_r1_inv h
        exact gs_slen hx hb hml hown hts hX hbs hSK h.1 h.2.2.1 ⟨by omega, by omega⟩ (g_has_mem o1) h.2.1 (hR3 ▸ hcl) (hR4 ▸ hsl) hd (ih _ _ _ _ _ _ hk3 hcl hsl h.2.2.2)
      · simp only [g_ok, Bool.and_eq_true, beq_iff_eq] at hok
        obtain ⟨rfl, o1⟩ := hok
        obtain ⟨a, i, st2, rfl, h⟩ := g_ri_inv h
        exact gs_schar hx hb hml hown hts hX hbs hSK h.1 h.2.2.1 ⟨by omega, by omega⟩ (g_has_mem o1) h.2.1 (hR3 ▸ hcl) (hR4 ▸ hsl) hd (ih _ _ _ _ _ _ hk3 hcl hsl h.2.2.2)
      · exact h.elim
    | invokestatic x =>
      have hk3 := hk2.resolve_left (by simp [g_end])
      simp only [g_wp] at h
      split at h
      · simp only [g_ok, Bool.and_eq_true, beq_iff_eq, decide_eq_true_eq] at hok
        obtain ⟨rfl, o1, o4⟩ := hok
        obtain ⟨c1, c2, c3, rfl, rfl⟩ := g_cal_ok o1
        obtain ⟨h2, h3, h4, h5, h6⟩ := h
        rw [g_split5 h5]
        exact gs_callS hx hb hml hown hts hK hX hbs (c2 ▸ hmok _ c1) (hC _ _ _ _ c1 h6) ⟨by omega, by omega⟩ (g_has_mem o4) (by rw [List.length_reverse, h5, c3]) h2 (hR3 ▸ h3) (hR4 ▸ h4) hd (fun r M' z => ih _ _ _ _ _ _ hk3 h3 h4 z)
      · simp only [g_ok, Bool.and_eq_true, beq_iff_eq] at hok
        obtain ⟨rfl, o1⟩ := hok
        obtain ⟨x1, y1, st2, rfl, h⟩ := g_i2_inv h
        exact gs_max hx hb hml hown hts (g_has_mem o1) (by omega) (by omega) h.1 (hR3 ▸ h.2.1) (hR4 ▸ h.2.2.1) hd (ih _ _ _ _ _ _ hk3 hcl hsl h.2.2.2)
      · simp only [g_ok, Bool.and_eq_true, beq_iff_eq] at hok
        obtain ⟨rfl, o1⟩ := hok
        obtain ⟨x1, y1, st2, rfl, h⟩ := g_i2_inv h
        exact gs_min hx hb hml hown hts (g_has_mem o1) (by omega) (by omega) h.1 (hR3 ▸ h.2.1) (hR4 ▸ h.2.2.1) hd (ih _ _ _ _ _ _ hk3 hcl hsl h.2.2.2)
      · simp only [g_ok, Bool.and_eq_true, beq_iff_eq] at hok
        obtain ⟨rfl, o1⟩ := hok
        obtain ⟨a1, a2, a3, a4, a5, st2, rfl, h⟩ := g_cp_inv h
        obtain ⟨g0, g1, g2, g3, g4, g5, g6, g7, g8⟩ := h
        exact gs_copy hx hb hml hown hts hK hbs (g_has_mem o1) (by omega) (by omega) g0 g1 g2 g3 g4 g5 g6 g7 hd (ih _ _ _ _ _ _ hk3 hcl hsl g8)
      · exact h.elim
    | invokespecial x =>
      have hk3 := hk2.resolve_left (by simp [g_end])
      simp only [g_wp] at h
      split at h
      · simp only [g_ok, Bool.and_eq_true, beq_iff_eq, decide_eq_true_eq] at hok
        obtain ⟨rfl, o1, o4⟩ := hok
        obtain ⟨c1, c2, c3, rfl, rfl⟩ := g_cal_ok o1
        have o5 := g_has_mem o4
        obtain ⟨a, st2, hst, h⟩ := g_r1_inv h
        obtain ⟨h2, h3, h4, h5, h6⟩ := h
        rw [g_split hst]
        exact gs_callI hx hb hml hown hts hK hX hbs (c2 ▸ hmok _ c1) (hC _ _ _ _ c1 h6) ⟨by omega, by omega⟩ o5 (by rw [List.length_reverse, h5, c3]; rfl) h2 (hR3 ▸ h3) (hR4 ▸ h4) hd (fun r M' z => by
          obtain ⟨rfl, z⟩ := z
          exact ih _ _ _ _ _ _ hk3 h3 h4 z)
      · simp only [g_ok, Bool.and_eq_true, beq_iff_eq, decide_eq_true_eq] at hok
        obtain ⟨rfl, o1, o4⟩ := hok
        obtain ⟨c1, c2, c3, rfl, rfl⟩ := g_cal_ok o1
        obtain ⟨host, o5⟩ := g_nstok_ok o4
        obtain ⟨a, st2, hst, h⟩ := g_r1_inv h
        obtain ⟨h2, h3, h4, h5, h6⟩ := h
        rw [g_split hst]
        exact gs_callN hx hb hml hown hts hK hX hbs (c2 ▸ hmok _ c1) (hC _ _ _ _ c1 h6) ⟨by omega, by omega⟩ o5 (by rw [List.length_reverse, h5, c3]; rfl) h2 (hR3 ▸ h3) (hR4 ▸ h4) hd (fun r M' z => by
          obtain ⟨rfl, z⟩ := z
          exact ih _ _ _ _ _ _ hk3 h3 h4 z)
      · simp only [g_ok, Bool.and_eq_true, beq_iff_eq] at hok
        obtain ⟨rfl, o1⟩ := hok
        obtain ⟨a, st2, rfl, h⟩ := g_r1_inv h
        exact gs_oinit hx hb hml hown hts (g_has_mem o1) (by omega) (by omega) h.1 hd (ih _ _ _ _ _ _ hk3 hcl hsl h.2)
      · exact h.elim
    | _ =>
      exact h.elim
end GSA
