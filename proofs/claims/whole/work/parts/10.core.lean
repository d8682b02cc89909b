/-! THE CORE: a memory by small numbers, and a calculus of weakest conditions over the bytecode that runs on it. -/
/-- every word of the tables that a callee may take over -/
def gt : List Cond := lw_tbl.filter goodWord
theorem gt_mem {w : Cond} (i : Nat) (h : lw_tbl[i]? = some w) (hg : goodWord w = true) : w ∈ gt := List.mem_filter.mpr ⟨List.mem_of_getElem? h, hg⟩
theorem gt_good {w : Cond} (h : w ∈ gt) : (w.onTables && w.keeps) = true ∨ ∃ ty, w = .arrayClass ty := good_of_word (List.mem_filter.mp h).2
/-- next free number, shapes (kind, length), references -/
abbrev gE : Type := Nat × (Nat → Nat × Nat) × (Nat → Nat → Option Nat)
/-- the whole memory: the shapes, the ints, the longs -/
abbrev gM : Type := gE × (Nat → Nat → Int32) × (Nat → Nat → Int64)
/-- locals by their slots -/
abbrev gL : Type := List (Option Value)
/-- an instruction, and what it links to -/
abbrev gX : Type := Instr × List Nat
abbrev gC : Type := Nat → List Value → gM → (Option Value → gM → Prop) → Prop
abbrev gP : Type := Nat → gL → List Value → gM → Nat → Nat → Prop
/-- a method: name, code, locals, return type, number of arguments, cells and slots that it makes, where its blocks begin, its blocks -/
abbrev gD : Type := MethodName × ByteArray × Nat × Option FieldType × Nat × (Nat × Nat) × List Nat × List (List gX × Nat)
def gN (c : Nat) : Nat := match c with
  | 0 => 9 | 1 => 18 | 2 => 6 | 3 => 5 | 4 => 14 | 5 => 3 | 6 => 8 | 7 => 20 | 8 => 12 | 9 => 41 | _ => 0
def gR (c : Nat) : String := match c with
  | 0 => RX1 | 1 => RX2 | 2 => RX3 | 3 => RX4 | 4 => RX5 | 5 => RX6 | 6 => RX7 | 7 => RX8 | 8 => RX9 | _ => RX10
def gT (c : Nat) : u_T := match c with
  | 0 => TX1 | 1 => TX2 | 2 => TX3 | 3 => TX4 | 4 => TX5 | 5 => TX6 | 6 => TX7 | 7 => TX8 | 8 => TX9 | _ => TX10
def gTy (c : Nat) : Nat → FieldType := match c with
  | 0 => tyX1 | 1 => tyX2 | 2 => tyX3 | 3 => tyX4 | 4 => tyX5 | 5 => tyX6 | 6 => tyX7 | 7 => tyX8 | 8 => tyX9 | _ => tyX10
theorem g_cl {c : Nat} (h : c < 10) : vwCl[c]? = some (gR c, gT c, gN c) := by
  rcases c with _ | _ | _ | _ | _ | _ | _ | _ | _ | _ | c
  all_goals first | rfl | omega
theorem g_nm {c : Nat} (h : c < 10) : ∀ a, a < gN c → ∀ b, b < gN c → a ≠ b → (gT c a).2.1 ≠ (gT c b).2.1 := by
  rcases c with _ | _ | _ | _ | _ | _ | _ | _ | _ | _ | c
  · exact nmX1
  · exact nmX2
  · exact nmX3
  · exact nmX4
  · exact nmX5
  · exact nmX6
  · exact nmX7
  · exact nmX8
  · exact nmX9
  · exact nmX10
  · omega
theorem g_ty {c : Nat} (h : c < 10) : ∀ k, k < gN c → parseFieldDescriptor (gT c k).2.2.1 = some (gTy c k) := by
  rcases c with _ | _ | _ | _ | _ | _ | _ | _ | _ | _ | c
  · exact tyX1_ok
  · exact tyX2_ok
  · exact tyX3_ok
  · exact tyX4_ok
  · exact tyX5_ok
  · exact tyX6_ok
  · exact tyX7_ok
  · exact tyX8_ok
  · exact tyX9_ok
  · exact tyX10_ok
  · omega
def g_words (c : Nat) : List Cond := u_ws (gR c) (gT c) (gN c)
theorem g_in_b : (List.range 10).all (fun c => (g_words c).all (fun w => gt.contains w)) = true := by decide +kernel
theorem g_in {c : Nat} (h : c < 10) : ∀ w ∈ u_ws (gR c) (gT c) (gN c), w ∈ gt := by
  intro w hw
  have h1 := List.all_eq_true.mp (List.all_eq_true.mp g_in_b c (List.mem_range.mpr h)) w hw
  simpa using h1
theorem g_own_b : (List.range 10).all (fun c => (List.range (gN c)).all (fun k => (gT c k).1 == gR c)) = true := by decide +kernel
theorem g_own {c k : Nat} (h : c < 10) (hk : k < gN c) : (gT c k).1 = gR c := by
  have h1 := List.all_eq_true.mp (List.all_eq_true.mp g_own_b c (List.mem_range.mpr h)) k (List.mem_range.mpr hk)
  simpa using h1
/-! the world out of the memory -/
/-- where a number's cell lies: the made ones from b on, the constant strings where they are -/
def g_ad (b : Nat) (sk : Nat → Nat) (a : Nat) : Nat := if a < 1000000 then b + a else sk (a - 1000000)
def g_em (ad : Nat → Nat) : Value → Value
  | .ref a => .ref (ad a)
  | v => v
def g_fv (ad : Nat → Nat) (M : gM) (a c k : Nat) : Value := match gTy c k with
  | .int => .int (M.2.1 a k)
  | .boolean => .int (M.2.1 a k)
  | .long => .long (M.2.2 a k)
  | _ => va_rf ((M.1.2.2 a k).map ad)
def g_fs (ad : Nat → Nat) (M : gM) (a c : Nat) : List Value := (List.range (gN c)).map (g_fv ad M a c)
def g_cell (ca : Nat → ClassId) (ad : Nat → Nat) (M : gM) (a : Nat) : va_E := match M.1.2.1 a with
  | (0, _) => .inr (0, [])
  | (1, n) => .inl (ca 0, n, .inl (M.2.1 a))
  | (2, n) => .inl (ca 1, n, .inr (.inl (M.2.2 a)))
  | (k + 3, n) => if k < 3 then .inl (ca (k + 2), n, .inr (.inr (.inr (.inr (fun i => (M.1.2.2 a i).map ad))))) else .inr (k - 3, g_fs ad M a (k - 3))
def g_wd (ca : Nat → ClassId) (ad : Nat → Nat) (M : gM) : va_W := (List.range M.1.1).map (fun a => (ad a, g_cell ca ad M a))
/-- the shapes are of made numbers alone -/
def g_sn (M : gM) : Prop := M.1.1 ≤ 1000000 ∧ ∀ a, (M.1.2.1 a).1 ≠ 0 → a < M.1.1
theorem g_wd_get {ca : Nat → ClassId} {ad : Nat → Nat} {M : gM} {a : Nat} (h : a < M.1.1) : (g_wd ca ad M)[a]? = some (ad a, g_cell ca ad M a) := by
  simp [g_wd, h]
theorem g_wd_set {ca : Nat → ClassId} {ad : Nat → Nat} {M M' : gM} {a : Nat} (hn : M'.1.1 = M.1.1) (h : ∀ q, q ≠ a → g_cell ca ad M' q = g_cell ca ad M q) : (g_wd ca ad M).set a (ad a, g_cell ca ad M' a) = g_wd ca ad M' := by
  apply List.ext_getElem?
  intro i
  rw [List.getElem?_set]
  by_cases hi : a = i
  · subst hi
    by_cases hl : a < M.1.1
    · simp [g_wd, hl, hn]
    · simp [g_wd, hl, hn]
  · rw [if_neg hi]
    by_cases hl : i < M.1.1
    · simp [g_wd, hl, hn, h i (fun z => hi z.symm)]
    · simp [g_wd, hl, hn]
theorem g_wd_push {ca : Nat → ClassId} {ad : Nat → Nat} {M M' : gM} (hn : M'.1.1 = M.1.1 + 1) (h : ∀ q, q < M.1.1 → g_cell ca ad M' q = g_cell ca ad M q) : g_wd ca ad M ++ [(ad M.1.1, g_cell ca ad M' M.1.1)] = g_wd ca ad M' := by
  unfold g_wd
  rw [hn, List.range_succ, List.map_append]
  congr 1
  apply List.map_congr_left
  intro q hq
  rw [h q (List.mem_range.mp hq)]
theorem g_wd_D {ca : Nat → ClassId} {b : Nat} {sk : Nat → Nat} {M : gM} (h : M.1.1 ≤ 1000000) : va_D (fun q => b ≤ q) (g_wd ca (g_ad b sk) M) := by
  have key : ∀ (k : Nat) (q : Nat × va_E), (g_wd ca (g_ad b sk) M)[k]? = some q → k < M.1.1 ∧ q.1 = b + k := by
    intro k q hq
    by_cases hk : k < M.1.1
    · rw [g_wd_get hk] at hq
      cases hq
      exact ⟨hk, by simp [g_ad]; omega⟩
    · simp [g_wd, hk] at hq
  refine ⟨fun i j p q hi hj e => ?_, fun k q hk => ?_⟩
  · have h1 := key i p hi
    have h2 := key j q hj
    omega
  · have h1 := key k q hk
    show b ≤ q.1
    omega
