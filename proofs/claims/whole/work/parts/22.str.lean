/-! calls on constant strings -/
def g_rs : Room := { frames := 3, cells := 0, slots := 0, locals := 200 }
def g_QS (v : Int32) : Array Value → State → Outcome → State → Prop := fun _ st oc t => oc = .returned (some (.int v)) ∧ t.heap = st.heap
def g_PS (b : Nat) (sk sv : Nat → Nat) (as : List Value) : Array Value → State → Prop := va_Pc as (fun U => g_X b sk sv U)
abbrev g_wl : List Cond := Cond.code yJ0_length_8abf5 cJ0_length_8abf5 1 (some .int) :: gt
abbrev g_wc : List Cond := Cond.code yJ0_charAt_5068e cJ0_charAt_5068e 2 (some .char) :: gt
/-- the JDK's length() and charAt(), over the constant strings -/
def g_SK (l : Launch) (b : Nat) (sk sv : Nat → Nat) : Prop :=
  (∀ j, j < gsN → Met l yJ0_length_8abf5 g_wl g_rs (g_PS b sk sv [.ref (sk j)]) (g_QS (nI (gS0.1 j))) 0 0 (fun _ => False)) ∧
  (∀ j i, j < gsN → vp_in i (gS0.1 j) → Met l yJ0_charAt_5068e g_wc g_rs (g_PS b sk sv [.ref (sk j), .int i]) (g_QS (gS0.2 j i.toNatClampNeg)) 0 0 (fun _ => False))
theorem g_strw : Cond.code yJ0_length_8abf5 cJ0_length_8abf5 1 (some .int) ∈ gt ∧ Cond.code yJ0_charAt_5068e cJ0_charAt_5068e 2 (some .char) ∈ gt ∧ Cond.initialized "java/lang/String" ∈ gt ∧ Cond.instanceMethod yJ0_length_8abf5 ∈ gt ∧ Cond.instanceMethod yJ0_charAt_5068e ∈ gt ∧ Cond.selects "java/lang/String" yJ0_length_8abf5 yJ0_length_8abf5 ∈ gt ∧ Cond.selects "java/lang/String" yJ0_charAt_5068e yJ0_charAt_5068e ∈ gt := by decide +kernel
theorem g_blindS {b : Nat} {sk sv : Nat → Nat} {as : List Value} : FrameBlind (g_PS b sk sv as) := fun a U g mk q =>
  ⟨q.1, g_X_move (s := U) (U := U.calling g mk a) q.2 (State.WarmedH.refl U) (fun _ _ => rfl)⟩
theorem gsN_lt {j : Nat} (h : 0 < gS0.1 j) : j < gsN := by
  rcases Nat.lt_or_ge j gsN with h1 | h1
  · exact h1
  · exfalso
    have h2 : gS0.1 j = 0 := by
      show gsL.getD j 0 = 0
      rw [List.getD_eq_getElem?_getD, List.getElem?_eq_none (by exact h1)]
      rfl
    omega
section GS9
variable {p : Program} {l : Launch} {e : Env} {R : Room} {s : State} {m : MethodId} {args : Array Value} {below : List Frame} {meth : Method} {c : Code} {Z : State → Prop}
variable {D : va_G} {ca : Nat → ClassId} {b : Nat} {sk sv : Nat → Nat} {al : Bool} {nL : Nat} {cc : ByteArray} {pc : Nat} {lo : gL} {st as : List Value} {M : gM} {cl sl d index : Nat} {own : String}
theorem gs_backS {H : Heap} {locs : List Loc} {ls : Array Slot} {rest : List Value} {a : Array Value} {stk : List Value} {v : Int32} (hr : va_Run p l e R s m args below meth c H locs cl sl 0 0 (F0 m pc ls stk) (rest.map (g_em (g_ad b sk))) (g_QS v a) (fun _ => False)) (h1 : g_wr D ca b sk M H) (h2 : va_S (fun q => b ≤ q) s.heap H locs) (h3 : g_lc (g_ad b sk) ls nL lo) (h4 : al = true → s.heap.size + cl = b + M.1.1)
    (kk : g_W p l e R s m args below meth c Z D ca b sk al nL (pc + 3) lo (.int v :: rest) M cl sl) : W p l e R s m args below meth c H locs cl sl Z (F0 m pc ls stk) := by
  intro T hT X
  obtain ⟨v', st₀, t, T', L, h0, X', hL, e1, e2, ⟨hv, hw⟩, stp⟩ := hr T hT X
  cases hv
  have hL0 : L = [] := by
    cases L with
    | nil => rfl
    | cons q r => exact (hL q List.mem_cons_self).elim
  subst hL0
  rw [List.append_nil] at X'
  have hH : T'.heap = H := by rw [e1, hw, h0]
  obtain ⟨t2, a1, b1⟩ := kk H locs ls h1 h2 h3 h4 T' hH X'
  exact ⟨t2, stp t2 a1, b1⟩
theorem gs_slen (hx : p.tables.exec = Jvm.exec) (hb : c.code = cc) (hml : c.maxLocals = nL) (hown : s.vm.findClass own = some m.cls) (hts : ∀ w ∈ gt, w.before args s = true) (hX : g_X b sk sv s) (hbs : b ≤ s.heap.size) (hSK : g_SK l b sk sv) {a : Nat} (ha : 1000000 ≤ a) (hj : 0 < gS0.1 (a - 1000000)) (hR : 4 ≤ R.frames ∧ 300 ≤ R.locals) (hl : Cond.methodLink own index yJ0_length_8abf5 ∈ gt) (hst : g_bud 8 st) (hc : cl ≤ R.cells) (hs : sl ≤ R.slots)
    (hd : decode cc pc = .ok (.invokevirtual index, 3)) (kk : g_W p l e R s m args below meth c Z D ca b sk al nL (pc + 3) lo (.int (nI (gS0.1 (a - 1000000))) :: st) M cl sl) : g_W p l e R s m args below meth c Z D ca b sk al nL pc lo (.ref a :: st) M cl sl := by
  intro H locs ls h1 h2 h3 h4
  have hjN := gsN_lt hj
  have had : g_ad b sk a = sk (a - 1000000) := by simp only [g_ad]; rw [if_neg (by omega)]
  have hcw : CallW R s args own "java/lang/String" index yJ0_length_8abf5 cJ0_length_8abf5 1 (some .int) g_wl g_rs 0 0 0 := by
    refine cwV 0 hts (g_good ?_) rfl rfl rfl ⟨rfl, by decide, by decide, by decide +kernel⟩ ⟨hR.1, by show 8 + (1 + 11) + 200 ≤ R.locals; omega⟩
    intro w hw
    unfold wsV at hw
    rcases List.mem_append.mp hw with h | h
    · simp only [List.mem_cons, List.not_mem_nil, or_false] at h
      rcases h with rfl | rfl | rfl | rfl
      · exact hl
      · exact g_strw.2.2.2.1
      · exact g_strw.2.2.2.2.2.1
      · exact g_strw.2.2.1
    · rcases List.mem_cons.mp h with rfl | h
      · exact g_strw.1
      · exact h
  have hrun := va_runV (l := l) (p := p) (e := e) (below := below) (meth := meth) (locs := locs) (cells := cl) (slots := sl) (H := H) (cc := cc) (Ts := gt) (b := sk (a - 1000000)) (As := []) (rest := st.map (g_em (g_ad b sk))) (g := F0 m pc ls ((Value.ref a :: st).map (g_em (g_ad b sk)))) ⟨hx, hb, hml, hown, hts⟩ (hSK.1 _ hjN) hcw
    ⟨g_blindS, vk_recv hX.1 hjN h2, fun U hU hW => ⟨rfl, g_X_move hX hW (fun q hq => by rw [hU]; exact h2.2.1 q (by omega) (by omega))⟩⟩ rfl rfl h3.2.1 (by show (Value.ref a :: st).map _ = _; rw [List.map_cons]; simp only [g_em, had]; rfl) (g_room_ok (H := H) hst) hd ⟨hc, hs⟩
  exact gs_backS hrun h1 h2 h3 h4 kk
theorem gs_schar (hx : p.tables.exec = Jvm.exec) (hb : c.code = cc) (hml : c.maxLocals = nL) (hown : s.vm.findClass own = some m.cls) (hts : ∀ w ∈ gt, w.before args s = true) (hX : g_X b sk sv s) (hbs : b ≤ s.heap.size) (hSK : g_SK l b sk sv) {a : Nat} {i : Int32} (ha : 1000000 ≤ a) (hi : vp_in i (gS0.1 (a - 1000000))) (hR : 4 ≤ R.frames ∧ 300 ≤ R.locals) (hl : Cond.methodLink own index yJ0_charAt_5068e ∈ gt) (hst : g_bud 8 st) (hc : cl ≤ R.cells) (hs : sl ≤ R.slots)
    (hd : decode cc pc = .ok (.invokevirtual index, 3)) (kk : g_W p l e R s m args below meth c Z D ca b sk al nL (pc + 3) lo (.int (gS0.2 (a - 1000000) i.toNatClampNeg) :: st) M cl sl) : g_W p l e R s m args below meth c Z D ca b sk al nL pc lo (.int i :: .ref a :: st) M cl sl := by
  intro H locs ls h1 h2 h3 h4
  have hjN : a - 1000000 < gsN := gsN_lt (by have := vp_in_iff.mp hi; omega)
  have had : g_ad b sk a = sk (a - 1000000) := by simp only [g_ad]; rw [if_neg (by omega)]
  have hcw : CallW R s args own "java/lang/String" index yJ0_charAt_5068e cJ0_charAt_5068e 2 (some .char) g_wc g_rs 0 0 1 := by
    refine cwV 1 hts (g_good ?_) rfl rfl rfl ⟨rfl, by decide, by decide, by decide +kernel⟩ ⟨hR.1, by show 8 + (2 + 11) + 200 ≤ R.locals; omega⟩
    intro w hw
    unfold wsV at hw
    rcases List.mem_append.mp hw with h | h
    · simp only [List.mem_cons, List.not_mem_nil, or_false] at h
      rcases h with rfl | rfl | rfl | rfl
      · exact hl
      · exact g_strw.2.2.2.2.1
      · exact g_strw.2.2.2.2.2.2
      · exact g_strw.2.2.1
    · rcases List.mem_cons.mp h with rfl | h
      · exact g_strw.2.1
      · exact h
  have hrun := va_runV (l := l) (p := p) (e := e) (below := below) (meth := meth) (locs := locs) (cells := cl) (slots := sl) (H := H) (cc := cc) (Ts := gt) (b := sk (a - 1000000)) (As := [.int i]) (rest := st.map (g_em (g_ad b sk))) (g := F0 m pc ls ((Value.int i :: Value.ref a :: st).map (g_em (g_ad b sk)))) ⟨hx, hb, hml, hown, hts⟩ (hSK.2 _ i hjN hi) hcw
    ⟨g_blindS, vk_recv hX.1 hjN h2, fun U hU hW => ⟨rfl, g_X_move hX hW (fun q hq => by rw [hU]; exact h2.2.1 q (by omega) (by omega))⟩⟩ rfl rfl h3.2.1 (by show (Value.int i :: Value.ref a :: st).map _ = _; rw [List.map_cons, List.map_cons]; simp only [g_em, had]; rfl) (g_room_ok (H := H) hst) hd ⟨hc, hs⟩
  exact gs_backS hrun h1 h2 h3 h4 kk
end GS9
