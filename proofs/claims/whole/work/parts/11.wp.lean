/-! The calculus: what must hold at an instruction so that the run comes to Q, or to a block's begin that P names. -/
/-- what lies on a stack is n words at most -/
def g_bud : Nat → List Value → Prop
  | _, [] => True
  | n, v :: st => v.category ≤ n ∧ g_bud (n - v.category) st
def g_get (l : gL) (i : Nat) : Option Value := l.getD i none
def g_lb (l : gL) (i : Nat) : Bool := match i with
  | 0 => false
  | j + 1 => match l.getD j none with
    | some v => v.category == 2
    | none => false
def g_li (l : gL) (i : Nat) (k : Int32 → Prop) : Prop := match g_get l i with
  | some (.int x) => k x
  | _ => False
def g_ll (l : gL) (i : Nat) (k : Int64 → Prop) : Prop := match g_get l i with
  | some (.long x) => k x
  | _ => False
def g_lr (l : gL) (i : Nat) (k : Nat → Prop) : Prop := match g_get l i with
  | some (.ref x) => k x
  | _ => False
def g_st (l : gL) (i : Nat) (v : Value) (k : gL → Prop) : Prop := i < l.length ∧ g_lb l i = false ∧ k (l.set i (some v))
def g_st2 (l : gL) (i : Nat) (v : Value) (k : gL → Prop) : Prop := i + 1 < l.length ∧ g_lb l i = false ∧ k ((l.set i (some v)).set (i + 1) none)
def g_i1 (st : List Value) (k : Int32 → List Value → Prop) : Prop := match st with
  | .int x :: r => k x r
  | _ => False
def g_i2 (st : List Value) (k : Int32 → Int32 → List Value → Prop) : Prop := match st with
  | .int y :: .int x :: r => k x y r
  | _ => False
def g_l1 (st : List Value) (k : Int64 → List Value → Prop) : Prop := match st with
  | .long x :: r => k x r
  | _ => False
def g_l2 (st : List Value) (k : Int64 → Int64 → List Value → Prop) : Prop := match st with
  | .long y :: .long x :: r => k x y r
  | _ => False
def g_r1 (st : List Value) (k : Nat → List Value → Prop) : Prop := match st with
  | .ref a :: r => k a r
  | _ => False
def g_ra (st : List Value) (k : Nat → Nat → List Value → Prop) : Prop := match st with
  | .ref v :: .ref a :: r => k a v r
  | _ => False
def g_ri (st : List Value) (k : Nat → Int32 → List Value → Prop) : Prop := match st with
  | .int i :: .ref a :: r => k a i r
  | _ => False
def g_rl (st : List Value) (k : Nat → Int64 → List Value → Prop) : Prop := match st with
  | .long i :: .ref a :: r => k a i r
  | _ => False
def g_rii (st : List Value) (k : Nat → Int32 → Int32 → List Value → Prop) : Prop := match st with
  | .int x :: .int i :: .ref a :: r => k a i x r
  | _ => False
def g_ril (st : List Value) (k : Nat → Int32 → Int64 → List Value → Prop) : Prop := match st with
  | .long x :: .int i :: .ref a :: r => k a i x r
  | _ => False
def g_rir (st : List Value) (k : Nat → Int32 → Nat → List Value → Prop) : Prop := match st with
  | .ref x :: .int i :: .ref a :: r => k a i x r
  | _ => False
def g_cp (st : List Value) (k : Nat → Int32 → Nat → Int32 → Int32 → List Value → Prop) : Prop := match st with
  | .int n :: .int dp :: .ref d :: .int sp :: .ref a :: r => k a sp d dp n r
  | _ => False
def g_v1 (st : List Value) (k : Value → List Value → Prop) : Prop := match st with
  | v :: r => k v r
  | _ => False
def g_v2 (st : List Value) (k : Value → Value → List Value → Prop) : Prop := match st with
  | v :: w :: r => k v w r
  | _ => False
def g_op (o : Option Nat) (k : Nat → Prop) : Prop := match o with
  | some q => k q
  | none => False
def g_c (o : Jvm.ClassFile.Cond) (x y : Int32) : Prop := match o with
  | .eq => x = y
  | .ne => ¬ x = y
  | .lt => x < y
  | .ge => y ≤ x
  | .gt => y < x
  | .le => x ≤ y
def gU {α : Type} (I : Nat → α) (a : Nat) (f : α) : Nat → α := fun q => if q = a then f else I q
def g_pi (M : gM) (a k : Nat) (v : Int32) : gM := (M.1, gU M.2.1 a (upd (M.2.1 a) k v), M.2.2)
def g_pl (M : gM) (a k : Nat) (v : Int64) : gM := (M.1, M.2.1, gU M.2.2 a (vp_updL (M.2.2 a) k v))
def g_pr (M : gM) (a k : Nat) (v : Option Nat) : gM := ((M.1.1, M.1.2.1, gU M.1.2.2 a (gU (M.1.2.2 a) k v)), M.2)
def g_nw (M : gM) (kd n : Nat) : gM := ((M.1.1 + 1, gU M.1.2.1 M.1.1 (kd, n), gU M.1.2.2 M.1.1 (fun _ => none)), gU M.2.1 M.1.1 (fun _ => 0), gU M.2.2 M.1.1 (fun _ => 0))
/-- which class's objects an array of references takes -/
def g_ac (kd : Nat) : Nat := match kd with
  | 3 => 6 | 4 => 1 | _ => 5
/-- the lengths and chars of the constant strings -/
abbrev gS : Type := (Nat → Nat) × (Nat → Nat → Int32)
def g_wp (S : gS) (C : gC) (al : Bool) (mc ms : Nat) (rt : Option FieldType) (Q : Option Value → gM → Prop) (P : gP) (nk : Nat) : List gX → gL → List Value → gM → Nat → Nat → Prop
  | [], l, st, M, c, s => P nk l st M c s
  | (i, f) :: r, l, st, M, c, s => match i with
    | .iconst n => g_wp S C al mc ms rt Q P nk r l (.int (Int32.ofInt n) :: st) M c s
    | .bipush n => g_wp S C al mc ms rt Q P nk r l (.int (Int8.ofInt n).toInt32 :: st) M c s
    | .sipush n => g_wp S C al mc ms rt Q P nk r l (.int (Int16.ofInt n).toInt32 :: st) M c s
    | .lconst n => g_wp S C al mc ms rt Q P nk r l (.long (Int64.ofNat (n : Nat)) :: st) M c s
    | .ldc _ => match f with
      | [0, v, _] => g_wp S C al mc ms rt Q P nk r l (.int (nI v) :: st) M c s
      | [1, j, _] => g_wp S C al mc ms rt Q P nk r l (.ref (1000000 + j) :: st) M c s
      | _ => False
    | .ldc_w _ => match f with
      | [0, v, _] => g_wp S C al mc ms rt Q P nk r l (.int (nI v) :: st) M c s
      | [1, j, _] => g_wp S C al mc ms rt Q P nk r l (.ref (1000000 + j) :: st) M c s
      | _ => False
    | .iload_n k => g_li l k (fun x => g_wp S C al mc ms rt Q P nk r l (.int x :: st) M c s)
    | .iload k => g_li l k (fun x => g_wp S C al mc ms rt Q P nk r l (.int x :: st) M c s)
    | .lload_n k => g_ll l k (fun x => g_wp S C al mc ms rt Q P nk r l (.long x :: st) M c s)
    | .aload_n k => g_lr l k (fun x => g_wp S C al mc ms rt Q P nk r l (.ref x :: st) M c s)
    | .aload k => g_lr l k (fun x => g_wp S C al mc ms rt Q P nk r l (.ref x :: st) M c s)
    | .istore_n k => g_i1 st (fun x st => g_st l k (.int x) (fun l => g_wp S C al mc ms rt Q P nk r l st M c s))
    | .istore k => g_i1 st (fun x st => g_st l k (.int x) (fun l => g_wp S C al mc ms rt Q P nk r l st M c s))
    | .lstore_n k => g_l1 st (fun x st => g_st2 l k (.long x) (fun l => g_wp S C al mc ms rt Q P nk r l st M c s))
    | .astore_n k => g_r1 st (fun x st => g_st l k (.ref x) (fun l => g_wp S C al mc ms rt Q P nk r l st M c s))
    | .astore k => g_r1 st (fun x st => g_st l k (.ref x) (fun l => g_wp S C al mc ms rt Q P nk r l st M c s))
    | .iinc k n => g_li l k (fun x => g_st l k (.int (x + Int32.ofInt n)) (fun l => g_wp S C al mc ms rt Q P nk r l st M c s))
    | .iadd => g_i2 st (fun x y st => g_wp S C al mc ms rt Q P nk r l (.int (x + y) :: st) M c s)
    | .isub => g_i2 st (fun x y st => g_wp S C al mc ms rt Q P nk r l (.int (x - y) :: st) M c s)
    | .imul => g_i2 st (fun x y st => g_wp S C al mc ms rt Q P nk r l (.int (x * y) :: st) M c s)
    | .iand => g_i2 st (fun x y st => g_wp S C al mc ms rt Q P nk r l (.int (x &&& y) :: st) M c s)
    | .ior => g_i2 st (fun x y st => g_wp S C al mc ms rt Q P nk r l (.int (x ||| y) :: st) M c s)
    | .ixor => g_i2 st (fun x y st => g_wp S C al mc ms rt Q P nk r l (.int (x ^^^ y) :: st) M c s)
    | .idiv => g_i2 st (fun x y st => ¬ y = 0 ∧ g_wp S C al mc ms rt Q P nk r l (.int (x / y) :: st) M c s)
    | .irem => g_i2 st (fun x y st => ¬ y = 0 ∧ g_wp S C al mc ms rt Q P nk r l (.int (x - x / y * y) :: st) M c s)
    | .ishl => g_i2 st (fun x y st => g_wp S C al mc ms rt Q P nk r l (.int (x <<< (y &&& 31)) :: st) M c s)
    | .ishr => g_i2 st (fun x y st => g_wp S C al mc ms rt Q P nk r l (.int (x >>> (y &&& 31)) :: st) M c s)
    | .iushr => g_i2 st (fun x y st => g_wp S C al mc ms rt Q P nk r l (.int (x.toUInt32 >>> (y.toUInt32 &&& Int32.toUInt32 31)).toInt32 :: st) M c s)
    | .ineg => g_i1 st (fun x st => g_wp S C al mc ms rt Q P nk r l (.int (-x) :: st) M c s)
    | .i2l => g_i1 st (fun x st => g_wp S C al mc ms rt Q P nk r l (.long x.toInt64 :: st) M c s)
    | .l2i => g_l1 st (fun x st => g_wp S C al mc ms rt Q P nk r l (.int x.toInt32 :: st) M c s)
    | .ladd => g_l2 st (fun x y st => g_wp S C al mc ms rt Q P nk r l (.long (x + y) :: st) M c s)
    | .lmul => g_l2 st (fun x y st => g_wp S C al mc ms rt Q P nk r l (.long (x * y) :: st) M c s)
    | .lcmp => g_l2 st (fun x y st => g_wp S C al mc ms rt Q P nk r l (.int (lg_cmp x y) :: st) M c s)
    | .dup => g_v1 st (fun v st => v.category = 1 ∧ g_wp S C al mc ms rt Q P nk r l (v :: v :: st) M c s)
    | .dup2 => g_v2 st (fun v w st => v.category = 1 ∧ w.category = 1 ∧ g_wp S C al mc ms rt Q P nk r l (v :: w :: v :: w :: st) M c s)
    | .pop => g_v1 st (fun v st => v.category = 1 ∧ g_wp S C al mc ms rt Q P nk r l st M c s)
    | .ifCond o _ => match f with
      | [t] => g_i1 st (fun x st => (g_c o x 0 → P t l st M c s) ∧ (¬ g_c o x 0 → g_wp S C al mc ms rt Q P nk r l st M c s))
      | _ => False
    | .if_icmp o _ => match f with
      | [t] => g_i2 st (fun x y st => (g_c o x y → P t l st M c s) ∧ (¬ g_c o x y → g_wp S C al mc ms rt Q P nk r l st M c s))
      | _ => False
    | .goto _ => match f with
      | [t] => P t l st M c s
      | _ => False
    | .tableswitch _ lo hi _ => match f with
      | t :: ts => g_i1 st (fun x st => ((x.toInt < lo ∨ hi < x.toInt) → P t l st M c s) ∧ (¬ (x.toInt < lo ∨ hi < x.toInt) → ∃ u, ts[(x.toInt - lo).toNat]? = some u ∧ P u l st M c s))
      | _ => False
    | .getfield _ => match f with
      | [ci, k, tc, _] => g_r1 st (fun a st => M.1.2.1 a = (ci + 6, gN ci) ∧ match tc with
        | 2 => g_wp S C al mc ms rt Q P nk r l (.long (M.2.2 a k) :: st) M c s
        | 3 => g_op (M.1.2.2 a k) (fun q => g_wp S C al mc ms rt Q P nk r l (.ref q :: st) M c s)
        | _ => g_wp S C al mc ms rt Q P nk r l (.int (M.2.1 a k) :: st) M c s)
      | _ => False
    | .putfield _ => match f with
      | [ci, k, tc, _] => match tc with
        | 0 => g_ri st (fun a x st => M.1.2.1 a = (ci + 6, gN ci) ∧ g_wp S C al mc ms rt Q P nk r l st (g_pi M a k x) c s)
        | 1 => g_ri st (fun a x st => M.1.2.1 a = (ci + 6, gN ci) ∧ (x = 0 ∨ x = 1) ∧ g_wp S C al mc ms rt Q P nk r l st (g_pi M a k x) c s)
        | 2 => g_rl st (fun a x st => M.1.2.1 a = (ci + 6, gN ci) ∧ g_wp S C al mc ms rt Q P nk r l st (g_pl M a k x) c s)
        | _ => g_ra st (fun a v st => M.1.2.1 a = (ci + 6, gN ci) ∧ g_wp S C al mc ms rt Q P nk r l st (g_pr M a k (some v)) c s)
      | _ => False
    | .iaload => g_ri st (fun a i st => (M.1.2.1 a).1 = 1 ∧ vp_in i (M.1.2.1 a).2 ∧ g_wp S C al mc ms rt Q P nk r l (.int (M.2.1 a i.toNatClampNeg) :: st) M c s)
    | .laload => g_ri st (fun a i st => (M.1.2.1 a).1 = 2 ∧ vp_in i (M.1.2.1 a).2 ∧ g_wp S C al mc ms rt Q P nk r l (.long (M.2.2 a i.toNatClampNeg) :: st) M c s)
    | .aaload => g_ri st (fun a i st => (3 ≤ (M.1.2.1 a).1 ∧ (M.1.2.1 a).1 ≤ 5) ∧ vp_in i (M.1.2.1 a).2 ∧ g_op (M.1.2.2 a i.toNatClampNeg) (fun q => g_wp S C al mc ms rt Q P nk r l (.ref q :: st) M c s))
    | .iastore => g_rii st (fun a i x st => (M.1.2.1 a).1 = 1 ∧ vp_in i (M.1.2.1 a).2 ∧ g_wp S C al mc ms rt Q P nk r l st (g_pi M a i.toNatClampNeg x) c s)
    | .lastore => g_ril st (fun a i x st => (M.1.2.1 a).1 = 2 ∧ vp_in i (M.1.2.1 a).2 ∧ g_wp S C al mc ms rt Q P nk r l st (g_pl M a i.toNatClampNeg x) c s)
    | .aastore => g_rir st (fun a i x st => (3 ≤ (M.1.2.1 a).1 ∧ (M.1.2.1 a).1 ≤ 5) ∧ vp_in i (M.1.2.1 a).2 ∧ M.1.2.1 x = (g_ac (M.1.2.1 a).1 + 6, gN (g_ac (M.1.2.1 a).1)) ∧ g_wp S C al mc ms rt Q P nk r l st (g_pr M a i.toNatClampNeg (some x)) c s)
    | .arraylength => g_r1 st (fun a st => (1 ≤ (M.1.2.1 a).1 ∧ (M.1.2.1 a).1 ≤ 2) ∧ g_wp S C al mc ms rt Q P nk r l (.int (nI (M.1.2.1 a).2) :: st) M c s)
    | .newarray _ => match f with
      | [kd] => g_i1 st (fun n st => al = true ∧ M.1.1 + 1 ≤ 1000000 ∧ ¬ n < 0 ∧ n.toNatClampNeg ≤ 10000 ∧ c + 1 ≤ mc ∧ s + n.toNatClampNeg ≤ ms ∧ g_wp S C al mc ms rt Q P nk r l (.ref M.1.1 :: st) (g_nw M kd n.toNatClampNeg) (c + 1) (s + n.toNatClampNeg))
      | _ => False
    | .anewarray _ => match f with
      | [kd, _] => g_i1 st (fun n st => al = true ∧ M.1.1 + 1 ≤ 1000000 ∧ ¬ n < 0 ∧ n.toNatClampNeg ≤ 10000 ∧ c + 1 ≤ mc ∧ s + n.toNatClampNeg ≤ ms ∧ g_wp S C al mc ms rt Q P nk r l (.ref M.1.1 :: st) (g_nw M kd n.toNatClampNeg) (c + 1) (s + n.toNatClampNeg))
      | _ => False
    | .new _ => match f with
      | [ci, _, _, _] => al = true ∧ M.1.1 + 1 ≤ 1000000 ∧ c + 1 ≤ mc ∧ s + gN ci ≤ ms ∧ g_wp S C al mc ms rt Q P nk r l (.ref M.1.1 :: st) (g_nw M (ci + 6) (gN ci)) (c + 1) (s + gN ci)
      | _ => False
    | .ireturn => match st with
      | [.int v] => (rt = some .int ∨ (rt = some .boolean ∧ (v = 0 ∨ v = 1))) ∧ c = mc ∧ s = ms ∧ Q (some (.int v)) M
      | _ => False
    | .lreturn => match st with
      | [.long v] => rt = some .long ∧ c = mc ∧ s = ms ∧ Q (some (.long v)) M
      | _ => False
    | .areturn => match st with
      | [.ref v] => (∃ n, rt = some (.object n)) ∧ c = mc ∧ s = ms ∧ Q (some (.ref v)) M
      | _ => False
    | .return_ => match st with
      | [] => rt = none ∧ c = mc ∧ s = ms ∧ Q none M
      | _ => False
    | .invokevirtual _ => match f with
      | [0, y, n, ci, mcy, msy, _] => g_r1 (st.drop n) (fun b st' => M.1.2.1 b = (ci + 6, gN ci) ∧ g_bud 8 st' ∧ c + mcy ≤ mc ∧ s + msy ≤ ms ∧ (st.take n).length = n ∧ C y (.ref b :: (st.take n).reverse) M (fun v M' => g_wp S C al mc ms rt Q P nk r l (v.toList ++ st') M' (c + mcy) (s + msy)))
      | [8, _] => g_r1 st (fun b st' => 1000000 ≤ b ∧ g_bud 8 st' ∧ 0 < S.1 (b - 1000000) ∧ g_wp S C al mc ms rt Q P nk r l (.int (nI (S.1 (b - 1000000))) :: st') M c s)
      | [9, _] => g_ri st (fun b i st' => 1000000 ≤ b ∧ g_bud 8 st' ∧ vp_in i (S.1 (b - 1000000)) ∧ g_wp S C al mc ms rt Q P nk r l (.int (S.2 (b - 1000000) i.toNatClampNeg) :: st') M c s)
      | _ => False
    | .invokestatic _ => match f with
      | [1, y, n, mcy, msy, _] => g_bud 8 (st.drop n) ∧ c + mcy ≤ mc ∧ s + msy ≤ ms ∧ (st.take n).length = n ∧ C y (st.take n).reverse M (fun v M' => g_wp S C al mc ms rt Q P nk r l (v.toList ++ st.drop n) M' (c + mcy) (s + msy))
      | [5, _] => g_i2 st (fun x y st => g_bud 8 st ∧ c ≤ mc ∧ s ≤ ms ∧ g_wp S C al mc ms rt Q P nk r l (.int (if x < y then y else x) :: st) M c s)
      | [6, _] => g_i2 st (fun x y st => g_bud 8 st ∧ c ≤ mc ∧ s ≤ ms ∧ g_wp S C al mc ms rt Q P nk r l (.int (if y < x then y else x) :: st) M c s)
      | [7, _] => g_cp st (fun a sp d dp n st => g_bud 8 st ∧ (M.1.2.1 a).1 = 1 ∧ (M.1.2.1 d).1 = 1 ∧ ¬ sp < 0 ∧ ¬ dp < 0 ∧ ¬ n < 0 ∧ sp.toNatClampNeg + n.toNatClampNeg ≤ (M.1.2.1 a).2 ∧ dp.toNatClampNeg + n.toNatClampNeg ≤ (M.1.2.1 d).2 ∧ g_wp S C al mc ms rt Q P nk r l st (M.1, gU M.2.1 d (va_cpy (M.2.1 a) (M.2.1 d) sp.toNatClampNeg dp.toNatClampNeg n.toNatClampNeg), M.2.2) c s)
      | _ => False
    | .invokespecial _ => match f with
      | [2, y, n, mcy, msy, _] => g_r1 (st.drop n) (fun b st' => g_bud 8 st' ∧ c + mcy ≤ mc ∧ s + msy ≤ ms ∧ (st.take n).length = n ∧ C y (.ref b :: (st.take n).reverse) M (fun v M' => v = none ∧ g_wp S C al mc ms rt Q P nk r l st' M' (c + mcy) (s + msy)))
      | [3, y, n, mcy, msy, _] => g_r1 (st.drop n) (fun b st' => g_bud 8 st' ∧ c + mcy ≤ mc ∧ s + msy ≤ ms ∧ (st.take n).length = n ∧ C y (.ref b :: (st.take n).reverse) M (fun v M' => v = none ∧ g_wp S C al mc ms rt Q P nk r l st' M' (c + mcy) (s + msy)))
      | [4, _] => g_r1 st (fun _ st' => g_bud 8 st' ∧ g_wp S C al mc ms rt Q P nk r l st' M c s)
      | _ => False
    | _ => False
def g_blk (md : gD) (k : Nat) : List gX × Nat := md.2.2.2.2.2.2.2.getD k ([], 0)
/-- the least condition at the begin of a block -/
def g_J (S : gS) (C : gC) (al : Bool) (md : gD) (Q : Option Value → gM → Prop) : gP := fun k l st M c s =>
  ∀ P : gP, (∀ k l st M c s, g_wp S C al md.2.2.2.2.2.1.1 md.2.2.2.2.2.1.2 md.2.2.2.1 Q P (g_blk md k).2 (g_blk md k).1 l st M c s → P k l st M c s) → P k l st M c s
/-- what must hold so that a method's call comes to Q; d bounds how deep the calls go -/
def g_m (S : gS) (mt : Nat → gD) (al : Bool) : Nat → gC
  | 0, _, _, _, _ => False
  | d + 1, y, as, M, Q => as.length = (mt y).2.2.2.2.1 ∧ as.length ≤ (mt y).2.2.1 ∧ (as.all fun v => v.category == 1) = true ∧ g_J S (g_m S mt al d) al (mt y) Q 0 (as.map some ++ List.replicate ((mt y).2.2.1 - as.length) none) [] M 0 0
