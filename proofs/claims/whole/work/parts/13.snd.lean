/-! The calculus is sound over the machine: rows without the heap first. -/
def g_tys (ca : Nat → ClassId) : List (ClassId × FieldType) := [(ca 0, .int), (ca 1, .long), (ca 2, .object RX7), (ca 3, .object RX2), (ca 4, .object RX6)]
/-- the heap holds the memory -/
def g_wr (D : va_G) (ca : Nat → ClassId) (b : Nat) (sk : Nat → Nat) (M : gM) (H : Heap) : Prop :=
  va_P D vwCl (g_wd ca (g_ad b sk) M) H ∧ g_sn M ∧ b ≤ H.size
/-- the frame holds the locals -/
def g_lc (ad : Nat → Nat) (ls : Array Slot) (nL : Nat) (l : gL) : Prop := l.length = nL ∧ ls.size = nL ∧ lv_wf ls ∧ ∀ (i : Nat) (v : Value), l[i]? = some (some v) → ls[i]? = some (Slot.val (g_em ad v))
def g_al (ad : Nat → Nat) (l : gL) : List (Nat × Value) := (List.range l.length).filterMap (fun i => (l.getD i none).map (fun v => (i, g_em ad v)))
theorem g_get_some {l : gL} {i : Nat} {v : Value} (h : g_get l i = some v) : l[i]? = some (some v) := by
  unfold g_get at h
  rw [List.getD_eq_getElem?_getD] at h
  cases hi : l[i]? with
  | none => rw [hi] at h; simp at h
  | some w => rw [hi] at h; simp at h; rw [h]
theorem g_al_mem {ad : Nat → Nat} {l : gL} {i : Nat} {w : Value} : (i, w) ∈ g_al ad l ↔ ∃ v, l[i]? = some (some v) ∧ w = g_em ad v := by
  unfold g_al
  rw [List.mem_filterMap]
  constructor
  · rintro ⟨j, hj, h⟩
    cases hv : l.getD j none with
    | none => rw [hv] at h; cases h
    | some v =>
      rw [hv] at h
      simp at h
      obtain ⟨rfl, rfl⟩ := h
      exact ⟨v, g_get_some hv, rfl⟩
  · rintro ⟨v, hv, rfl⟩
    have hl : i < l.length := (List.getElem?_eq_some_iff.mp hv).1
    exact ⟨i, List.mem_range.mpr hl, by rw [List.getD_eq_getElem?_getD, hv]; rfl⟩
theorem g_lc_has {ad : Nat → Nat} {ls : Array Slot} {nL : Nat} {l : gL} (h : g_lc ad ls nL l) : lv_has ls nL (g_al ad l) := by
  refine ⟨h.2.1, h.2.2.1, fun q hq => ?_⟩
  obtain ⟨i, w⟩ := q
  obtain ⟨v, hv, rfl⟩ := g_al_mem.mp hq
  exact h.2.2.2 i v hv
theorem g_lc_get {ad : Nat → Nat} {ls : Array Slot} {nL : Nat} {l : gL} (h : g_lc ad ls nL l) {i : Nat} {v : Value} (hv : g_get l i = some v) : ls[i]? = some (.val (g_em ad v)) := h.2.2.2 i v (g_get_some hv)
theorem g_em_cat (ad : Nat → Nat) (v : Value) : (g_em ad v).category = v.category := by cases v <;> rfl
theorem g_lb_no {l : gL} {i j : Nat} {w : Value} (hb : g_lb l i = false) (hj : l[j]? = some (some w)) (h : j + 1 = i) : ¬ w.category = 2 := by
  subst h
  intro hc
  simp only [g_lb] at hb
  rw [List.getD_eq_getElem?_getD, hj] at hb
  simp [hc] at hb
theorem g_lc_set {ad : Nat → Nat} {ls ls' : Array Slot} {nL : Nat} {l : gL} {i : Nat} {v : Value} (h : g_lc ad ls nL l) (hi : i < l.length) (hb : g_lb l i = false)
    (h' : lv_has ls' nL ((i, g_em ad v) :: (g_al ad l).filter (fun q => !(q.1 == i) && !(q.1 + 1 == i && q.2.category == 2)))) : g_lc ad ls' nL (l.set i (some v)) := by
  refine ⟨by rw [List.length_set]; exact h.1, h'.1, h'.2.1, fun j w hw => ?_⟩
  rw [List.getElem?_set] at hw
  by_cases hj : i = j
  · subst hj
    rw [if_pos rfl, if_pos hi] at hw
    cases hw
    exact h'.2.2 (i, g_em ad v) List.mem_cons_self
  · rw [if_neg hj] at hw
    refine h'.2.2 (j, g_em ad w) (List.mem_cons_of_mem _ (List.mem_filter.mpr ⟨g_al_mem.mpr ⟨w, hw, rfl⟩, ?_⟩))
    have h1 : ¬ j = i := fun z => hj z.symm
    by_cases h2 : j + 1 = i
    · have h3 := g_lb_no hb hw h2
      simp [h1, g_em_cat, h3]
    · simp [h1, h2]
theorem g_lc_set2 {ad : Nat → Nat} {ls ls' : Array Slot} {nL : Nat} {l : gL} {i : Nat} {v : Value} (h : g_lc ad ls nL l) (hi : i + 1 < l.length) (hb : g_lb l i = false)
    (h' : lv_has ls' nL ((i, g_em ad v) :: (g_al ad l).filter (fun q => !(q.1 == i) && (!(q.1 == i + 1) && !(q.1 + 1 == i && q.2.category == 2))))) : g_lc ad ls' nL ((l.set i (some v)).set (i + 1) none) := by
  refine ⟨by rw [List.length_set, List.length_set]; exact h.1, h'.1, h'.2.1, fun j w hw => ?_⟩
  rw [List.getElem?_set] at hw
  by_cases hj1 : i + 1 = j
  · rw [if_pos hj1] at hw
    split at hw <;> cases hw
  rw [if_neg hj1, List.getElem?_set] at hw
  by_cases hj : i = j
  · subst hj
    rw [if_pos rfl, if_pos (by omega)] at hw
    cases hw
    exact h'.2.2 (i, g_em ad v) List.mem_cons_self
  · rw [if_neg hj] at hw
    refine h'.2.2 (j, g_em ad w) (List.mem_cons_of_mem _ (List.mem_filter.mpr ⟨g_al_mem.mpr ⟨w, hw, rfl⟩, ?_⟩))
    have h1 : ¬ j = i := fun z => hj z.symm
    have h0 : ¬ j = i + 1 := fun z => hj1 z.symm
    by_cases h2 : j + 1 = i
    · have h3 := g_lb_no hb hw h2
      simp [h1, h0, g_em_cat, h3]
    · simp [h1, h0, h2]
section GS
variable {p : Program} {l : Launch} {e : Env} {R : Room} {s : State} {m : MethodId} {args : Array Value} {below : List Frame} {meth : Method} {c : Code} {Z : State → Prop}
variable {D : va_G} {ca : Nat → ClassId} {b : Nat} {sk : Nat → Nat} {al : Bool} {nL : Nat} {cc : ByteArray} {pc : Nat} {lo : gL} {st : List Value} {M : gM} {cl sl : Nat}
/-- the machine comes to Z from here, whatever heap and frame hold the memory and the locals -/
def g_W (p : Program) (l : Launch) (e : Env) (R : Room) (s : State) (m : MethodId) (args : Array Value) (below : List Frame) (meth : Method) (c : Code) (Z : State → Prop) (D : va_G) (ca : Nat → ClassId) (b : Nat) (sk : Nat → Nat) (al : Bool) (nL : Nat) (pc : Nat) (lo : gL) (st : List Value) (M : gM) (cl sl : Nat) : Prop :=
  ∀ (H : Heap) (locs : List Loc) (ls : Array Slot), g_wr D ca b sk M H → va_S (fun q => b ≤ q) s.heap H locs → g_lc (g_ad b sk) ls nL lo → (al = true → s.heap.size + cl = b + M.1.1) → W p l e R s m args below meth c H locs cl sl Z (F0 m pc ls (st.map (g_em (g_ad b sk))))
theorem gs_iconst (hx : p.tables.exec = Jvm.exec) (hb : c.code = cc) {n : Int} (hd : decode cc pc = .ok (.iconst n, 1)) (k : g_W p l e R s m args below meth c Z D ca b sk al nL (pc + 1) lo (.int (Int32.ofInt n) :: st) M cl sl) : g_W p l e R s m args below meth c Z D ca b sk al nL pc lo st M cl sl :=
  fun H locs ls h1 h2 h3 h4 => lv_iconst hx hb hd rfl (k H locs ls h1 h2 h3 h4)
theorem gs_bipush (hx : p.tables.exec = Jvm.exec) (hb : c.code = cc) {n : Int} (hd : decode cc pc = .ok (.bipush n, 2)) (k : g_W p l e R s m args below meth c Z D ca b sk al nL (pc + 2) lo (.int (Int8.ofInt n).toInt32 :: st) M cl sl) : g_W p l e R s m args below meth c Z D ca b sk al nL pc lo st M cl sl :=
  fun H locs ls h1 h2 h3 h4 => lv_bipush hx hb hd rfl (k H locs ls h1 h2 h3 h4)
theorem gs_sipush (hx : p.tables.exec = Jvm.exec) (hb : c.code = cc) {n : Int} (hd : decode cc pc = .ok (.sipush n, 3)) (k : g_W p l e R s m args below meth c Z D ca b sk al nL (pc + 3) lo (.int (Int16.ofInt n).toInt32 :: st) M cl sl) : g_W p l e R s m args below meth c Z D ca b sk al nL pc lo st M cl sl :=
  fun H locs ls h1 h2 h3 h4 => lv_sipush hx hb hd rfl (k H locs ls h1 h2 h3 h4)
theorem gs_lconst (hx : p.tables.exec = Jvm.exec) (hb : c.code = cc) {n : Fin 2} (hd : decode cc pc = .ok (.lconst n, 1)) (k : g_W p l e R s m args below meth c Z D ca b sk al nL (pc + 1) lo (.long (Int64.ofNat (n : Nat)) :: st) M cl sl) : g_W p l e R s m args below meth c Z D ca b sk al nL pc lo st M cl sl :=
  fun H locs ls h1 h2 h3 h4 => lv_lconst hx hb hd rfl (k H locs ls h1 h2 h3 h4)
theorem g_li_inv {lo : gL} {i : Nat} {k : Int32 → Prop} (h : g_li lo i k) : ∃ x, g_get lo i = some (.int x) ∧ k x := by
  unfold g_li at h
  split at h
  · exact ⟨_, ‹_›, h⟩
  · exact h.elim
theorem g_ll_inv {lo : gL} {i : Nat} {k : Int64 → Prop} (h : g_ll lo i k) : ∃ x, g_get lo i = some (.long x) ∧ k x := by
  unfold g_ll at h
  split at h
  · exact ⟨_, ‹_›, h⟩
  · exact h.elim
theorem g_lr_inv {lo : gL} {i : Nat} {k : Nat → Prop} (h : g_lr lo i k) : ∃ x, g_get lo i = some (.ref x) ∧ k x := by
  unfold g_lr at h
  split at h
  · exact ⟨_, ‹_›, h⟩
  · exact h.elim
theorem gs_iload_n (hx : p.tables.exec = Jvm.exec) (hb : c.code = cc) {n : Fin 4} {x : Int32} (hd : decode cc pc = .ok (.iload_n n, 1)) (hg : g_get lo n = some (.int x)) (k : g_W p l e R s m args below meth c Z D ca b sk al nL (pc + 1) lo (.int x :: st) M cl sl) : g_W p l e R s m args below meth c Z D ca b sk al nL pc lo st M cl sl :=
  fun H locs ls h1 h2 h3 h4 => lv_iload_n hx hb hd rfl (g_lc_get h3 hg) (k H locs ls h1 h2 h3 h4)
theorem gs_iload (hx : p.tables.exec = Jvm.exec) (hb : c.code = cc) {n : Nat} {x : Int32} (hd : decode cc pc = .ok (.iload n, 2)) (hg : g_get lo n = some (.int x)) (k : g_W p l e R s m args below meth c Z D ca b sk al nL (pc + 2) lo (.int x :: st) M cl sl) : g_W p l e R s m args below meth c Z D ca b sk al nL pc lo st M cl sl :=
  fun H locs ls h1 h2 h3 h4 => lv_iload hx hb hd (g_lc_get h3 hg) (k H locs ls h1 h2 h3 h4)
theorem gs_lload_n (hx : p.tables.exec = Jvm.exec) (hb : c.code = cc) {n : Fin 4} {x : Int64} (hd : decode cc pc = .ok (.lload_n n, 1)) (hg : g_get lo n = some (.long x)) (k : g_W p l e R s m args below meth c Z D ca b sk al nL (pc + 1) lo (.long x :: st) M cl sl) : g_W p l e R s m args below meth c Z D ca b sk al nL pc lo st M cl sl :=
  fun H locs ls h1 h2 h3 h4 => lv_lload_n hx hb hd rfl (g_lc_get h3 hg) (k H locs ls h1 h2 h3 h4)
theorem gs_aload_n (hx : p.tables.exec = Jvm.exec) (hb : c.code = cc) {n : Fin 4} {x : Nat} (hd : decode cc pc = .ok (.aload_n n, 1)) (hg : g_get lo n = some (.ref x)) (k : g_W p l e R s m args below meth c Z D ca b sk al nL (pc + 1) lo (.ref x :: st) M cl sl) : g_W p l e R s m args below meth c Z D ca b sk al nL pc lo st M cl sl :=
  fun H locs ls h1 h2 h3 h4 => lv_aload_n hx hb hd rfl (g_lc_get h3 hg) (k H locs ls h1 h2 h3 h4)
theorem gs_aload (hx : p.tables.exec = Jvm.exec) (hb : c.code = cc) {n : Nat} {x : Nat} (hd : decode cc pc = .ok (.aload n, 2)) (hg : g_get lo n = some (.ref x)) (k : g_W p l e R s m args below meth c Z D ca b sk al nL (pc + 2) lo (.ref x :: st) M cl sl) : g_W p l e R s m args below meth c Z D ca b sk al nL pc lo st M cl sl :=
  fun H locs ls h1 h2 h3 h4 => lv_aload hx hb hd (g_lc_get h3 hg) (k H locs ls h1 h2 h3 h4)
theorem gs_istore_n (hx : p.tables.exec = Jvm.exec) (hb : c.code = cc) {n : Fin 4} {x : Int32} (hd : decode cc pc = .ok (.istore_n n, 1)) (hk : g_st lo n (.int x) (fun lo => g_W p l e R s m args below meth c Z D ca b sk al nL (pc + 1) lo st M cl sl)) : g_W p l e R s m args below meth c Z D ca b sk al nL pc lo (.int x :: st) M cl sl :=
  fun H locs ls h1 h2 h3 h4 => lv_istore_n hx hb hd rfl (g_lc_has h3) (h3.1 ▸ hk.1) rfl (fun ls' h' => hk.2.2 H locs ls' h1 h2 (g_lc_set (v := .int x) h3 hk.1 hk.2.1 h') h4)
theorem gs_istore (hx : p.tables.exec = Jvm.exec) (hb : c.code = cc) {n : Nat} {x : Int32} (hd : decode cc pc = .ok (.istore n, 2)) (hk : g_st lo n (.int x) (fun lo => g_W p l e R s m args below meth c Z D ca b sk al nL (pc + 2) lo st M cl sl)) : g_W p l e R s m args below meth c Z D ca b sk al nL pc lo (.int x :: st) M cl sl :=
  fun H locs ls h1 h2 h3 h4 => lv_istore hx hb hd (g_lc_has h3) (h3.1 ▸ hk.1) rfl (fun ls' h' => hk.2.2 H locs ls' h1 h2 (g_lc_set (v := .int x) h3 hk.1 hk.2.1 h') h4)
theorem gs_lstore_n (hx : p.tables.exec = Jvm.exec) (hb : c.code = cc) {n : Fin 4} {x : Int64} (hd : decode cc pc = .ok (.lstore_n n, 1)) (hk : g_st2 lo n (.long x) (fun lo => g_W p l e R s m args below meth c Z D ca b sk al nL (pc + 1) lo st M cl sl)) : g_W p l e R s m args below meth c Z D ca b sk al nL pc lo (.long x :: st) M cl sl :=
  fun H locs ls h1 h2 h3 h4 => lv_lstore_n hx hb hd rfl (g_lc_has h3) (h3.1 ▸ hk.1) rfl (fun ls' h' => hk.2.2 H locs ls' h1 h2 (g_lc_set2 (v := .long x) h3 hk.1 hk.2.1 h') h4)
theorem gs_astore_n (hx : p.tables.exec = Jvm.exec) (hb : c.code = cc) {n : Fin 4} {x : Nat} (hd : decode cc pc = .ok (.astore_n n, 1)) (hk : g_st lo n (.ref x) (fun lo => g_W p l e R s m args below meth c Z D ca b sk al nL (pc + 1) lo st M cl sl)) : g_W p l e R s m args below meth c Z D ca b sk al nL pc lo (.ref x :: st) M cl sl :=
  fun H locs ls h1 h2 h3 h4 => lv_astore_n hx hb hd rfl (g_lc_has h3) (h3.1 ▸ hk.1) rfl (fun ls' h' => hk.2.2 H locs ls' h1 h2 (g_lc_set (v := .ref x) h3 hk.1 hk.2.1 h') h4)
theorem gs_astore (hx : p.tables.exec = Jvm.exec) (hb : c.code = cc) {n : Nat} {x : Nat} (hd : decode cc pc = .ok (.astore n, 2)) (hk : g_st lo n (.ref x) (fun lo => g_W p l e R s m args below meth c Z D ca b sk al nL (pc + 2) lo st M cl sl)) : g_W p l e R s m args below meth c Z D ca b sk al nL pc lo (.ref x :: st) M cl sl :=
  fun H locs ls h1 h2 h3 h4 => lv_astore hx hb hd (g_lc_has h3) (h3.1 ▸ hk.1) rfl (fun ls' h' => hk.2.2 H locs ls' h1 h2 (g_lc_set (v := .ref x) h3 hk.1 hk.2.1 h') h4)
theorem gs_iinc (hx : p.tables.exec = Jvm.exec) (hb : c.code = cc) {i : Nat} {n : Int} {x : Int32} (hd : decode cc pc = .ok (.iinc i n, 3)) (hg : g_get lo i = some (.int x)) (hk : g_st lo i (.int (x + Int32.ofInt n)) (fun lo => g_W p l e R s m args below meth c Z D ca b sk al nL (pc + 3) lo st M cl sl)) : g_W p l e R s m args below meth c Z D ca b sk al nL pc lo st M cl sl := by
  intro H locs ls h1 h2 h3 h4
  obtain ⟨k, hk1⟩ := List.getElem?_of_mem (g_al_mem (ad := g_ad b sk).mpr ⟨_, g_get_some hg, rfl⟩)
  exact lv_iinc hx hb hd (g_lc_has h3) hk1 rfl (h3.1 ▸ hk.1) rfl (fun ls' h' => hk.2.2 H locs ls' h1 h2 (g_lc_set (v := .int (x + Int32.ofInt n)) h3 hk.1 hk.2.1 h') h4)
end GS
