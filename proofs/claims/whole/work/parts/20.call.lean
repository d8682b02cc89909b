/-! rows of returns and calls -/
def g_Pc (D : va_G) (ca : Nat → ClassId) (b : Nat) (sk sv : Nat → Nat) (al : Bool) (as : List Value) (M : gM) : Array Value → State → Prop :=
  va_Pc (as.map (g_em (g_ad b sk))) (fun U => g_wr D ca b sk M U.heap ∧ va_K D vwCl (g_tys ca) U ∧ g_X b sk sv U ∧ (al = true → U.heap.size = b + M.1.1))
def g_Qc (D : va_G) (ca : Nat → ClassId) (b : Nat) (sk : Nat → Nat) (al : Bool) (mc : Nat) (M : gM) (Q : Option Value → gM → Prop) : Array Value → State → Outcome → State → Prop := fun _ st oc t =>
  ∃ (r : Option Value) (M' : gM), oc = .returned (r.map (g_em (g_ad b sk))) ∧ Q r M' ∧ g_wr D ca b sk M' t.heap ∧ (∀ q, q < b → t.heap[q]? = st.heap[q]?) ∧ st.heap.size ≤ t.heap.size ∧ (al = true → M'.1.1 = M.1.1 + mc)
/-- the room of a call d deep -/
def g_rm (d mc ms : Nat) : Room := { frames := d + 4, cells := mc, slots := ms, locals := 300 + 60 * d }
theorem g_blind {D : va_G} {ca : Nat → ClassId} {b : Nat} {sk sv : Nat → Nat} {al : Bool} {as : List Value} {M : gM} : FrameBlind (g_Pc D ca b sk sv al as M) := fun a U g mk q =>
  ⟨q.1, q.2.1, va_K.moved (u := U) (U := U.calling g mk a) (Vm.Alike.refl U.vm) q.2.2.1, g_X_move (s := U) (U := U.calling g mk a) q.2.2.2.1 (State.WarmedH.refl U) (fun _ _ => rfl), q.2.2.2.2⟩
theorem g_good {ws : List Cond} (h : ∀ w ∈ ws, w ∈ gt) : GoodIn gt ws := fun w hw => ⟨h w hw, gt_good (h w hw)⟩
/-- a method's words: its own code, and all that the tables say -/
abbrev g_ws (md : gD) : List Cond := Cond.code md.1 md.2.1 md.2.2.1 md.2.2.2.1 :: gt
/-- what the tables say of a method: 0 an instance's, 1 a static one, 2 a constructor -/
def g_mok (md : gD) (k : Nat) : Prop :=
  Cond.code md.1 md.2.1 md.2.2.1 md.2.2.2.1 ∈ gt ∧ Cond.initialized md.1.cls ∈ gt ∧ plainName md.1.cls = true ∧ (md.1.cls ≠ "java/lang/invoke/MethodHandle" ∧ md.1.cls ≠ "java/lang/invoke/VarHandle") ∧ md.2.2.1 ≤ 41 ∧
  (parseMethodDescriptor md.1.desc).map (fun d => d.parameters.length) = some (if k = 1 then md.2.2.2.2.1 else md.2.2.2.2.1 - 1) ∧ (k ≠ 1 → 1 ≤ md.2.2.2.2.1) ∧
  (k = 0 → Cond.instanceMethod md.1 ∈ gt ∧ Cond.selects md.1.cls md.1 md.1 ∈ gt) ∧ (k = 1 → Cond.static md.1 ∈ gt) ∧ (k = 2 → Cond.instanceMethod md.1 ∈ gt ∧ md.1.name = "<init>" ∧ md.2.2.2.1 = none)
theorem g_mok_code {md : gD} {k : Nat} (h : g_mok md k) : ∀ w ∈ g_ws md, w ∈ gt := fun w hw => by
  rcases List.mem_cons.mp hw with rfl | h1
  · exact h.1
  · exact h1
section GS7
variable {p : Program} {l : Launch} {e : Env} {R : Room} {s : State} {m : MethodId} {args : Array Value} {below : List Frame} {meth : Method} {c : Code} {Z : State → Prop}
variable {D : va_G} {ca : Nat → ClassId} {b : Nat} {sk sv : Nat → Nat} {al : Bool} {nL : Nat} {cc : ByteArray} {pc : Nat} {lo : gL} {st : List Value} {M M0 : gM} {cl sl : Nat} {own : String} {Q : Option Value → gM → Prop}
theorem g_fin {H : Heap} {locs : List Loc} {t : State} (r : Option Value) (h1 : g_wr D ca b sk M H) (h2 : va_S (fun q => b ≤ q) s.heap H locs) (h4 : al = true → s.heap.size + cl = b + M.1.1) (hM0 : al = true → s.heap.size = b + M0.1.1) (hbs : b ≤ s.heap.size) (hQ : Q r M) (ht : t.heap = H) : g_Qc D ca b sk al cl M0 Q args s (.returned (r.map (g_em (g_ad b sk)))) t := by
  refine ⟨r, M, rfl, hQ, by rw [ht]; exact h1, fun q hq => by rw [ht]; exact h2.2.1 q (by omega) (by omega), by rw [ht]; exact h2.1, fun h => ?_⟩
  have := h4 h
  have := hM0 h
  omega
theorem gs_ireturn (hx : p.tables.exec = Jvm.exec) (hb : c.code = cc) (hlk : meth.locks = false) {rt : Option FieldType} (hr : meth.sig.returnType = rt) {v : Int32} (hrt : rt = some .int ∨ (rt = some .boolean ∧ (v = 0 ∨ v = 1))) (hM0 : al = true → s.heap.size = b + M0.1.1) (hbs : b ≤ s.heap.size) (hQ : Q (some (.int v)) M) (hd : decode cc pc = .ok (.ireturn, 1)) :
    g_W p l e R s m args below meth c (MQ below (g_Qc D ca b sk al cl M0 Q) args s cl sl (fun q => b ≤ q)) D ca b sk al nL pc lo [.int v] M cl sl := by
  intro H locs ls h1 h2 h3 h4
  rcases hrt with rfl | ⟨rfl, hv⟩
  · exact W.iret hx hb hr (fun t ht hW => g_fin (some (.int v)) h1 h2 h4 hM0 hbs hQ ht) h2.2.2 hd hlk
  · exact W.zret hx hb hr (g_narrow_z hv).1 (fun t ht hW => g_fin (some (.int v)) h1 h2 h4 hM0 hbs hQ ht) h2.2.2 hd hlk
theorem gs_lreturn (hx : p.tables.exec = Jvm.exec) (hb : c.code = cc) (hlk : meth.locks = false) (hr : meth.sig.returnType = some .long) {v : Int64} (hM0 : al = true → s.heap.size = b + M0.1.1) (hbs : b ≤ s.heap.size) (hQ : Q (some (.long v)) M) (hd : decode cc pc = .ok (.lreturn, 1)) :
    g_W p l e R s m args below meth c (MQ below (g_Qc D ca b sk al cl M0 Q) args s cl sl (fun q => b ≤ q)) D ca b sk al nL pc lo [.long v] M cl sl := by
  intro H locs ls h1 h2 h3 h4
  exact W.lret hx hb hr (fun t ht hW => g_fin (some (.long v)) h1 h2 h4 hM0 hbs hQ ht) h2.2.2 hd hlk
theorem gs_areturn (hx : p.tables.exec = Jvm.exec) (hb : c.code = cc) (hlk : meth.locks = false) {n : String} (hr : meth.sig.returnType = some (.object n)) {v : Nat} (hM0 : al = true → s.heap.size = b + M0.1.1) (hbs : b ≤ s.heap.size) (hQ : Q (some (.ref v)) M) (hd : decode cc pc = .ok (.areturn, 1)) :
    g_W p l e R s m args below meth c (MQ below (g_Qc D ca b sk al cl M0 Q) args s cl sl (fun q => b ≤ q)) D ca b sk al nL pc lo [.ref v] M cl sl := by
  intro H locs ls h1 h2 h3 h4
  exact W.aret hx hb hr (Or.inl ⟨n, rfl⟩) (Or.inr ⟨_, rfl⟩) (fun t ht hW => g_fin (some (.ref v)) h1 h2 h4 hM0 hbs hQ ht) h2.2.2 hd hlk
theorem gs_vreturn (hx : p.tables.exec = Jvm.exec) (hb : c.code = cc) (hlk : meth.locks = false) (hr : meth.sig.returnType = none) (hM0 : al = true → s.heap.size = b + M0.1.1) (hbs : b ≤ s.heap.size) (hQ : Q none M) (hd : decode cc pc = .ok (.return_, 1)) :
    g_W p l e R s m args below meth c (MQ below (g_Qc D ca b sk al cl M0 Q) args s cl sl (fun q => b ≤ q)) D ca b sk al nL pc lo [] M cl sl := by
  intro H locs ls h1 h2 h3 h4
  exact W.vret hx hb hr (fun t ht hW => g_fin none h1 h2 h4 hM0 hbs hQ ht) h2.2.2 hd hlk
/-- behind a call: what came back -/
theorem gs_back {H : Heap} {locs : List Loc} {ls : Array Slot} {rest : List Value} {mcy msy : Nat} {a : Array Value} {stk : List Value} (hr : va_Run p l e R s m args below meth c H locs cl sl mcy msy (F0 m pc ls stk) (rest.map (g_em (g_ad b sk))) (g_Qc D ca b sk al mcy M Q a) (fun q => b ≤ q)) (h2 : va_S (fun q => b ≤ q) s.heap H locs) (h3 : g_lc (g_ad b sk) ls nL lo) (h4 : al = true → s.heap.size + cl = b + M.1.1) (hbs : b ≤ s.heap.size)
    (kk : ∀ r M', Q r M' → g_W p l e R s m args below meth c Z D ca b sk al nL (pc + 3) lo (r.toList ++ rest) M' (cl + mcy) (sl + msy)) : W p l e R s m args below meth c H locs cl sl Z (F0 m pc ls stk) := by
  intro T hT X
  obtain ⟨v, st₀, t, T', L, h0, X', hL, e1, e2, ⟨r, M', hv, hq, hw, hk, hz, ha⟩, stp⟩ := hr T hT X
  cases hv
  rw [h0] at hk hz
  have hS : va_S (fun q => b ≤ q) s.heap T'.heap (locs ++ L) := by
    refine ⟨Nat.le_trans h2.1 (by rw [e1]; exact hz), fun q q1 q2 => ?_, fun q hq => ?_⟩
    · have q3 : q < b := Nat.lt_of_not_le q2
      rw [e1, hk q q3]
      exact h2.2.1 q q1 q2
    · rcases List.mem_append.mp hq with h | h
      · exact h2.2.2 q h
      · exact hL q h
  obtain ⟨t2, a1, b1⟩ := kk r M' hq T'.heap (locs ++ L) ls (by rw [e1]; exact hw) hS h3 (fun h => by have := h4 h; have := ha h; omega) T' rfl X'
  refine ⟨t2, stp t2 ?_, b1⟩
  have he : (r.map (g_em (g_ad b sk))).toList ++ rest.map (g_em (g_ad b sk)) = (r.toList ++ rest).map (g_em (g_ad b sk)) := by cases r <;> rfl
  rw [he]
  exact a1
theorem g_pre {H : Heap} {as : List Value} {locs : List Loc} (h1 : g_wr D ca b sk M H) (h2 : va_S (fun q => b ≤ q) s.heap H locs) (hbs : b ≤ s.heap.size) (hK : va_K D vwCl (g_tys ca) s) (hX : g_X b sk sv s) (hz : al = true → H.size = b + M.1.1) : ∀ U : State, U.heap = H → s.WarmedH U.vm → g_Pc D ca b sk sv al as M (as.map (g_em (g_ad b sk))).toArray U :=
  fun U hU hW => ⟨rfl, by rw [hU]; exact h1, va_K.moved hW.alike hK, g_X_move hX hW (fun q hq => by rw [hU]; exact h2.2.1 q (by omega) (by omega)), by rw [hU]; exact hz⟩
theorem g_size {H : Heap} {locs : List Loc} {T : State} (h1 : g_wr D ca b sk M H) (h4 : al = true → s.heap.size + cl = b + M.1.1) (hT : T.heap = H) (X : Stand p l e R s m args below meth c T locs cl sl) : al = true → H.size = b + M.1.1 := by
  intro hal
  have q1 := g_wr_le h1
  have q2 := X.heapSize
  have q3 := h4 hal
  rw [hT] at q2
  omega
end GS7
