/-! the JDK's own length() and charAt(), over the constant strings -/
theorem dJ0_length_8abf5_0 : decode cJ0_length_8abf5 0 = .ok (.aload_n 0, 1) := by decide +kernel
theorem dJ0_length_8abf5_1 : decode cJ0_length_8abf5 1 = .ok (.getfield 9, 3) := by decide +kernel
theorem dJ0_length_8abf5_4 : decode cJ0_length_8abf5 4 = .ok (.arraylength, 1) := by decide +kernel
theorem dJ0_length_8abf5_5 : decode cJ0_length_8abf5 5 = .ok (.aload_n 0, 1) := by decide +kernel
theorem dJ0_length_8abf5_6 : decode cJ0_length_8abf5 6 = .ok (.invokevirtual 335, 3) := by decide +kernel
theorem dJ0_length_8abf5_9 : decode cJ0_length_8abf5 9 = .ok (.ishr, 1) := by decide +kernel
theorem dJ0_length_8abf5_10 : decode cJ0_length_8abf5 10 = .ok (.ireturn, 1) := by decide +kernel
theorem dJ0_charAt_5068e_0 : decode cJ0_charAt_5068e 0 = .ok (.aload_n 0, 1) := by decide +kernel
theorem dJ0_charAt_5068e_1 : decode cJ0_charAt_5068e 1 = .ok (.invokevirtual 492, 3) := by decide +kernel
theorem dJ0_charAt_5068e_4 : decode cJ0_charAt_5068e 4 = .ok (.ifCond .eq 12, 3) := by decide +kernel
theorem dJ0_charAt_5068e_7 : decode cJ0_charAt_5068e 7 = .ok (.aload_n 0, 1) := by decide +kernel
theorem dJ0_charAt_5068e_8 : decode cJ0_charAt_5068e 8 = .ok (.getfield 9, 3) := by decide +kernel
theorem dJ0_charAt_5068e_11 : decode cJ0_charAt_5068e 11 = .ok (.iload_n 1, 1) := by decide +kernel
theorem dJ0_charAt_5068e_12 : decode cJ0_charAt_5068e 12 = .ok (.invokestatic 495, 3) := by decide +kernel
theorem dJ0_charAt_5068e_15 : decode cJ0_charAt_5068e 15 = .ok (.ireturn, 1) := by decide +kernel
theorem dJ0_charAt_5068e_16 : decode cJ0_charAt_5068e 16 = .ok (.aload_n 0, 1) := by decide +kernel
theorem dJ0_charAt_5068e_17 : decode cJ0_charAt_5068e 17 = .ok (.getfield 9, 3) := by decide +kernel
theorem dJ0_charAt_5068e_20 : decode cJ0_charAt_5068e 20 = .ok (.iload_n 1, 1) := by decide +kernel
theorem dJ0_charAt_5068e_21 : decode cJ0_charAt_5068e 21 = .ok (.invokestatic 498, 3) := by decide +kernel
theorem dJ0_charAt_5068e_24 : decode cJ0_charAt_5068e 24 = .ok (.ireturn, 1) := by decide +kernel
theorem dJ0_coder_7d493_0 : decode cJ0_coder_7d493 0 = .ok (.getstatic 38, 3) := by decide +kernel
theorem dJ0_coder_7d493_3 : decode cJ0_coder_7d493 3 = .ok (.ifCond .eq 10, 3) := by decide +kernel
theorem dJ0_coder_7d493_6 : decode cJ0_coder_7d493 6 = .ok (.aload_n 0, 1) := by decide +kernel
theorem dJ0_coder_7d493_7 : decode cJ0_coder_7d493 7 = .ok (.getfield 15, 3) := by decide +kernel
theorem dJ0_coder_7d493_10 : decode cJ0_coder_7d493 10 = .ok (.goto 4, 3) := by decide +kernel
theorem dJ0_coder_7d493_13 : decode cJ0_coder_7d493 13 = .ok (.iconst 1, 1) := by decide +kernel
theorem dJ0_coder_7d493_14 : decode cJ0_coder_7d493 14 = .ok (.ireturn, 1) := by decide +kernel
theorem dJ0_isLatin1_aae02_0 : decode cJ0_isLatin1_aae02 0 = .ok (.getstatic 38, 3) := by decide +kernel
theorem dJ0_isLatin1_aae02_3 : decode cJ0_isLatin1_aae02 3 = .ok (.ifCond .eq 14, 3) := by decide +kernel
theorem dJ0_isLatin1_aae02_6 : decode cJ0_isLatin1_aae02 6 = .ok (.aload_n 0, 1) := by decide +kernel
theorem dJ0_isLatin1_aae02_7 : decode cJ0_isLatin1_aae02 7 = .ok (.getfield 15, 3) := by decide +kernel
theorem dJ0_isLatin1_aae02_10 : decode cJ0_isLatin1_aae02 10 = .ok (.ifCond .ne 7, 3) := by decide +kernel
theorem dJ0_isLatin1_aae02_13 : decode cJ0_isLatin1_aae02 13 = .ok (.iconst 1, 1) := by decide +kernel
theorem dJ0_isLatin1_aae02_14 : decode cJ0_isLatin1_aae02 14 = .ok (.goto 4, 3) := by decide +kernel
theorem dJ0_isLatin1_aae02_17 : decode cJ0_isLatin1_aae02 17 = .ok (.iconst 0, 1) := by decide +kernel
theorem dJ0_isLatin1_aae02_18 : decode cJ0_isLatin1_aae02 18 = .ok (.ireturn, 1) := by decide +kernel
theorem dJ0_checkIndex_df160_0 : decode cJ0_checkIndex_df160 0 = .ok (.iload_n 0, 1) := by decide +kernel
theorem dJ0_checkIndex_df160_1 : decode cJ0_checkIndex_df160 1 = .ok (.iload_n 1, 1) := by decide +kernel
theorem dJ0_checkIndex_df160_2 : decode cJ0_checkIndex_df160 2 = .ok (.getstatic 1053, 3) := by decide +kernel
theorem dJ0_checkIndex_df160_5 : decode cJ0_checkIndex_df160 5 = .ok (.invokestatic 1059, 3) := by decide +kernel
theorem dJ0_checkIndex_df160_8 : decode cJ0_checkIndex_df160 8 = .ok (.pop, 1) := by decide +kernel
theorem dJ0_checkIndex_df160_9 : decode cJ0_checkIndex_df160 9 = .ok (.return_, 1) := by decide +kernel
theorem dJ1_charAt_3b067_0 : decode cJ1_charAt_3b067 0 = .ok (.iload_n 1, 1) := by decide +kernel
theorem dJ1_charAt_3b067_1 : decode cJ1_charAt_3b067 1 = .ok (.aload_n 0, 1) := by decide +kernel
theorem dJ1_charAt_3b067_2 : decode cJ1_charAt_3b067 2 = .ok (.arraylength, 1) := by decide +kernel
theorem dJ1_charAt_3b067_3 : decode cJ1_charAt_3b067 3 = .ok (.invokestatic 9, 3) := by decide +kernel
theorem dJ1_charAt_3b067_6 : decode cJ1_charAt_3b067 6 = .ok (.aload_n 0, 1) := by decide +kernel
theorem dJ1_charAt_3b067_7 : decode cJ1_charAt_3b067 7 = .ok (.iload_n 1, 1) := by decide +kernel
theorem dJ1_charAt_3b067_8 : decode cJ1_charAt_3b067 8 = .ok (.baload, 1) := by decide +kernel
theorem dJ1_charAt_3b067_9 : decode cJ1_charAt_3b067 9 = .ok (.sipush 255, 3) := by decide +kernel
theorem dJ1_charAt_3b067_12 : decode cJ1_charAt_3b067 12 = .ok (.iand, 1) := by decide +kernel
theorem dJ1_charAt_3b067_13 : decode cJ1_charAt_3b067 13 = .ok (.i2c, 1) := by decide +kernel
theorem dJ1_charAt_3b067_14 : decode cJ1_charAt_3b067 14 = .ok (.ireturn, 1) := by decide +kernel
theorem dJ3_checkIndex_8e157_0 : decode cJ3_checkIndex_8e157 0 = .ok (.iload_n 0, 1) := by decide +kernel
theorem dJ3_checkIndex_8e157_1 : decode cJ3_checkIndex_8e157 1 = .ok (.ifCond .lt 8, 3) := by decide +kernel
theorem dJ3_checkIndex_8e157_4 : decode cJ3_checkIndex_8e157 4 = .ok (.iload_n 0, 1) := by decide +kernel
theorem dJ3_checkIndex_8e157_5 : decode cJ3_checkIndex_8e157 5 = .ok (.iload_n 1, 1) := by decide +kernel
theorem dJ3_checkIndex_8e157_6 : decode cJ3_checkIndex_8e157 6 = .ok (.if_icmp .lt 10, 3) := by decide +kernel
theorem dJ3_checkIndex_8e157_9 : decode cJ3_checkIndex_8e157 9 = .ok (.aload_n 2, 1) := by decide +kernel
theorem dJ3_checkIndex_8e157_10 : decode cJ3_checkIndex_8e157 10 = .ok (.iload_n 0, 1) := by decide +kernel
theorem dJ3_checkIndex_8e157_11 : decode cJ3_checkIndex_8e157 11 = .ok (.iload_n 1, 1) := by decide +kernel
theorem dJ3_checkIndex_8e157_12 : decode cJ3_checkIndex_8e157 12 = .ok (.invokestatic 95, 3) := by decide +kernel
theorem dJ3_checkIndex_8e157_15 : decode cJ3_checkIndex_8e157 15 = .ok (.athrow, 1) := by decide +kernel
theorem dJ3_checkIndex_8e157_16 : decode cJ3_checkIndex_8e157 16 = .ok (.iload_n 0, 1) := by decide +kernel
theorem dJ3_checkIndex_8e157_17 : decode cJ3_checkIndex_8e157 17 = .ok (.ireturn, 1) := by decide +kernel
abbrev zj_ws (y : MethodName) (cc : ByteArray) (n : Nat) (r : Option FieldType) : List Cond := Cond.code y cc n r :: gt
abbrev zj_rm (f k : Nat) : Room := { frames := f, cells := 0, slots := 0, locals := k }
def zj_Q0 : Array Value → State → Outcome → State → Prop := fun _ st oc t => oc = .returned none ∧ t.heap = st.heap
theorem zj_w1 : Cond.fieldLink RJ0 38 "java/lang/String" "COMPACT_STRINGS" "Z" ∈ gt ∧ Cond.fieldLink RJ0 15 "java/lang/String" "coder" "B" ∈ gt ∧ Cond.fieldLink RJ0 9 "java/lang/String" "value" "[B" ∈ gt ∧ Cond.fieldLink RJ0 1053 "jdk/internal/util/Preconditions" "SIOOBE_FORMATTER" "Ljava/util/function/BiFunction;" ∈ gt ∧ Cond.initialized RJ0 ∈ gt ∧ Cond.initialized RJ1 ∈ gt ∧ Cond.initialized RJ3 ∈ gt := by decide +kernel
theorem zj_w2 : Cond.methodLink RJ0 335 yJ0_coder_7d493 ∈ gt ∧ Cond.instanceMethod yJ0_coder_7d493 ∈ gt ∧ Cond.selects RJ0 yJ0_coder_7d493 yJ0_coder_7d493 ∈ gt ∧ Cond.code yJ0_coder_7d493 cJ0_coder_7d493 1 (some .byte) ∈ gt := by decide +kernel
theorem zj_w3 : Cond.methodLink RJ0 492 yJ0_isLatin1_aae02 ∈ gt ∧ Cond.instanceMethod yJ0_isLatin1_aae02 ∈ gt ∧ Cond.selects RJ0 yJ0_isLatin1_aae02 yJ0_isLatin1_aae02 ∈ gt ∧ Cond.code yJ0_isLatin1_aae02 cJ0_isLatin1_aae02 1 (some .boolean) ∈ gt := by decide +kernel
theorem zj_w4 : Cond.methodLink RJ0 495 yJ1_charAt_3b067 ∈ gt ∧ Cond.static yJ1_charAt_3b067 ∈ gt ∧ Cond.code yJ1_charAt_3b067 cJ1_charAt_3b067 2 (some .char) ∈ gt := by decide +kernel
theorem zj_w5 : Cond.methodLink RJ1 9 yJ0_checkIndex_df160 ∈ gt ∧ Cond.static yJ0_checkIndex_df160 ∈ gt ∧ Cond.code yJ0_checkIndex_df160 cJ0_checkIndex_df160 2 none ∈ gt := by decide +kernel
theorem zj_w6 : Cond.methodLink RJ0 1059 yJ3_checkIndex_8e157 ∈ gt ∧ Cond.static yJ3_checkIndex_8e157 ∈ gt ∧ Cond.code yJ3_checkIndex_8e157 cJ3_checkIndex_8e157 3 (some .int) ∈ gt := by decide +kernel
section ZJ
variable {p : Program} {l : Launch} {e : Env} {R : Room} {s : State} {m : MethodId} {args : Array Value} {below : List Frame} {meth : Method} {c : Code} {Z : State → Prop} {H : Heap} {locs : List Loc} {ls : Array Slot} {rest stk : List Value} {pc cl sl b : Nat} {sk sv : Nat → Nat} {own : String} {index : Nat} {y : MethodName} {cc : ByteArray} {maxL mc ms : Nat} {r : Option FieldType} {rm : Room}
theorem zj_back {a : Array Value} {v : Int32} (hr : va_Run p l e R s m args below meth c H locs cl sl 0 0 (F0 m pc ls stk) rest (g_QS v a) (fun _ => False)) (kk : W p l e R s m args below meth c H locs cl sl Z (F0 m (pc + 3) ls (.int v :: rest))) : W p l e R s m args below meth c H locs cl sl Z (F0 m pc ls stk) := by
  intro T hT X
  obtain ⟨v', st0, t, T', L, h0, X', hL, e1, e2, ⟨hv, hw⟩, stp⟩ := hr T hT X
  cases hv
  have hL0 : L = [] := by
    cases L with
    | nil => rfl
    | cons q r => exact (hL q List.mem_cons_self).elim
  subst hL0
  rw [List.append_nil] at X'
  have hH : T'.heap = H := by rw [e1, hw, h0]
  obtain ⟨t2, a1, b1⟩ := kk T' hH X'
  exact ⟨t2, stp t2 a1, b1⟩
theorem zj_back0 {a : Array Value} (hr : va_Run p l e R s m args below meth c H locs cl sl 0 0 (F0 m pc ls stk) rest (zj_Q0 a) (fun _ => False)) (kk : W p l e R s m args below meth c H locs cl sl Z (F0 m (pc + 3) ls rest)) : W p l e R s m args below meth c H locs cl sl Z (F0 m pc ls stk) := by
  intro T hT X
  obtain ⟨v', st0, t, T', L, h0, X', hL, e1, e2, ⟨hv, hw⟩, stp⟩ := hr T hT X
  cases hv
  have hL0 : L = [] := by
    cases L with
    | nil => rfl
    | cons q r => exact (hL q List.mem_cons_self).elim
  subst hL0
  rw [List.append_nil] at X'
  have hH : T'.heap = H := by rw [e1, hw, h0]
  obtain ⟨t2, a1, b1⟩ := kk T' hH X'
  exact ⟨t2, stp t2 a1, b1⟩
theorem zj_cwS (n : Nat) (hts : ∀ w ∈ gt, w.before args s = true) (w1 : Cond.methodLink own index y ∈ gt) (w2 : Cond.static y ∈ gt) (w3 : Cond.initialized y.cls ∈ gt) (w4 : Cond.code y cc maxL r ∈ gt) (hrc : rm.cells = mc) (hrs : rm.slots = ms)
    (hd : y.cls ≠ "java/lang/invoke/MethodHandle" ∧ y.cls ≠ "java/lang/invoke/VarHandle" ∧ (parseMethodDescriptor y.desc).map (fun d => d.parameters.length) = some n) (hR : rm.frames + 1 ≤ R.frames ∧ 8 + (maxL + 11) + rm.locals ≤ R.locals) :
    CallB R s args own index y cc maxL r (zj_ws y cc maxL r) rm mc ms n ∧ (Cond.static y).before args s = true := by
  refine va_cwS n hts (g_good ?_) rfl hrc hrs hd hR
  intro w hw
  unfold va_wsS at hw
  rcases List.mem_append.mp hw with h | h
  · simp only [List.mem_cons, List.not_mem_nil, or_false] at h
    rcases h with rfl | rfl | rfl
    · exact w1
    · exact w2
    · exact w3
  · rcases List.mem_cons.mp h with rfl | h
    · exact w4
    · exact h
theorem zj_cwV (n : Nat) (hts : ∀ w ∈ gt, w.before args s = true) (w1 : Cond.methodLink own index y ∈ gt) (w2 : Cond.instanceMethod y ∈ gt) (w5 : Cond.selects y.cls y y ∈ gt) (w3 : Cond.initialized y.cls ∈ gt) (w4 : Cond.code y cc maxL r ∈ gt) (hrc : rm.cells = mc) (hrs : rm.slots = ms)
    (hd : y.cls ≠ "java/lang/invoke/MethodHandle" ∧ y.cls ≠ "java/lang/invoke/VarHandle" ∧ (parseMethodDescriptor y.desc).map (fun d => d.parameters.length) = some n) (hR : rm.frames + 1 ≤ R.frames ∧ 8 + (maxL + 11) + rm.locals ≤ R.locals) :
    CallW R s args own y.cls index y cc maxL r (zj_ws y cc maxL r) rm mc ms n := by
  refine cwV n hts (g_good ?_) rfl hrc hrs ⟨rfl, hd.1, hd.2.1, hd.2.2⟩ hR
  intro w hw
  unfold wsV at hw
  rcases List.mem_append.mp hw with h | h
  · simp only [List.mem_cons, List.not_mem_nil, or_false] at h
    rcases h with rfl | rfl | rfl | rfl
    · exact w1
    · exact w2
    · exact w5
    · exact w3
  · rcases List.mem_cons.mp h with rfl | h
    · exact w4
    · exact h
end ZJ
section ZJ2
variable {l : Launch} {b : Nat} {sk sv : Nat → Nat}
theorem zj_blind {as : List Value} : FrameBlind (va_Pc as (fun _ => True)) := fun a U g mk q => ⟨q.1, trivial⟩
/-- Preconditions.checkIndex -/
theorem zj_pre {i n : Int32} {f : Value} (hf : f = .null ∨ ∃ t, f = .ref t) (h0 : ¬ i < 0) (h1 : i < n) : Met l yJ3_checkIndex_8e157 (zj_ws yJ3_checkIndex_8e157 cJ3_checkIndex_8e157 3 (some .int)) (zj_rm 0 0) (va_Pc [.int i, .int n, f] (fun _ => True)) (g_QS i) 0 0 (fun _ => False) := by
  refine va_MetF (cc := cJ3_checkIndex_8e157) (maxL := 3) (ret := some .int) (by decide +kernel) rfl ?_
  intro p e s m args below meth c s₁ B hml hv
  obtain ⟨rfl, -⟩ := hv
  have hx := B.exec
  have hb := B.bytes
  have hr := B.returns
  have hlocks := B.notSynchronized
  rcases hf with rfl | ⟨t, rfl⟩
  all_goals
    rw [lg_entry_eq]
    refine lv_iload_n hx hb dJ3_checkIndex_8e157_0 rfl rfl ?_
    refine lv_if_lt hx hb dJ3_checkIndex_8e157_1 (tgt := 9) (by decide) (fun z => absurd z h0) (fun _ => ?_)
    refine lv_iload_n hx hb dJ3_checkIndex_8e157_4 rfl rfl ?_
    refine lv_iload_n hx hb dJ3_checkIndex_8e157_5 rfl rfl ?_
    refine lv_icmp_lt hx hb dJ3_checkIndex_8e157_6 (tgt := 16) (by decide) (fun _ => ?_) (fun z => absurd h1 z)
    refine lv_iload_n hx hb dJ3_checkIndex_8e157_16 rfl rfl ?_
    exact W.iret hx hb hr (fun t ht hW => ⟨rfl, ht⟩) (fun q hq => nomatch hq) dJ3_checkIndex_8e157_17 hlocks
theorem zj_PSb {as : List Value} : FrameBlind (g_PS b sk sv as) := g_blindS
/-- String.checkIndex -/
theorem zj_chk {i n : Int32} (h0 : ¬ i < 0) (h1 : i < n) : Met l yJ0_checkIndex_df160 (zj_ws yJ0_checkIndex_df160 cJ0_checkIndex_df160 2 none) (zj_rm 1 40) (g_PS b sk sv [.int i, .int n]) zj_Q0 0 0 (fun _ => False) := by
  refine va_MetF (cc := cJ0_checkIndex_df160) (maxL := 2) (ret := none) (by decide +kernel) rfl ?_
  intro p e s m args below meth c s₁ B hml hv
  obtain ⟨rfl, hX⟩ := hv
  have hx := B.exec
  have hb := B.bytes
  have hr := B.returns
  have hlocks := B.notSynchronized
  have hts0 := atoms_spec (ws := zj_ws yJ0_checkIndex_df160 cJ0_checkIndex_df160 2 none) B.pre
  have hts : ∀ w ∈ gt, w.before #[Value.int i, Value.int n] s = true := fun w h => hts0 w (List.mem_cons_of_mem _ h)
  have hown : s.vm.findClass RJ0 = some m.cls := findClass_of_methodNamed B.named
  have hS : va_S (fun q => b ≤ q) s.heap s.heap [] := va_S.rf
  rw [lg_entry_eq]
  refine lv_iload_n hx hb dJ0_checkIndex_df160_0 rfl rfl ?_
  refine lv_iload_n hx hb dJ0_checkIndex_df160_1 rfl rfl ?_
  obtain ⟨f, hf, hz⟩ : ∃ f : Value, (f = .null ∨ ∃ t, f = .ref t) ∧ va_Z "jdk/internal/util/Preconditions" "SIOOBE_FORMATTER" "Ljava/util/function/BiFunction;" f (fun q => b ≤ q) s s.heap := by
    rcases hX.2.2.2.2.2.1 with h | ⟨t, h⟩
    · exact ⟨_, Or.inl rfl, h⟩
    · exact ⟨_, Or.inr ⟨t, rfl⟩, h⟩
  refine va_gets hx hb hz hS hown (hts _ zj_w1.2.2.2.1) (fun _ h => h) dJ0_checkIndex_df160_2 ?_
  have hcw := zj_cwS (R := zj_rm 1 40) (own := RJ0) (index := 1059) (y := yJ3_checkIndex_8e157) (cc := cJ3_checkIndex_8e157) (maxL := 3) (r := some .int) (rm := zj_rm 0 0) 3 hts zj_w6.1 zj_w6.2.1 zj_w1.2.2.2.2.2.2 zj_w6.2.2 rfl rfl ⟨by decide, by decide, by decide +kernel⟩ ⟨by decide, by decide⟩
  refine zj_back (va_runS (l := l) (As := [.int i, .int n, f]) (rest := []) ⟨hx, hb, hml, hown, hts⟩ (zj_pre hf h0 h1) hcw ⟨zj_blind, fun U _ _ => ⟨rfl, trivial⟩⟩ rfl rfl rfl rfl (lv_room (by decide)) dJ0_checkIndex_df160_5 ⟨by decide, by decide⟩) ?_
  refine lv_pop hx hb dJ0_checkIndex_df160_8 rfl ?_
  exact W.vret hx hb hr (fun t ht hW => ⟨rfl, ht⟩) (fun q hq => nomatch hq) dJ0_checkIndex_df160_9 hlocks
/-- every char of a constant is below 128 -/
theorem zj_all : ∀ j, j < gsN → gsL.getD j 0 < 100 ∧ ∀ k, k < gsL.getD j 0 → (((((gsB.getD j []).getD k 0) &&& (Int16.ofInt 255).toInt32).toUInt32 % 65536).toInt32 = (gsB.getD j []).getD k 0 ∧ narrow .char (.int ((gsB.getD j []).getD k 0)) = .int ((gsB.getD j []).getD k 0)) := by decide +kernel
/-- StringLatin1.charAt -/
theorem zj_lat {j : Nat} {i : Int32} (hj : j < gsN) (hi : vp_in i (gS0.1 j)) : Met l yJ1_charAt_3b067 (zj_ws yJ1_charAt_3b067 cJ1_charAt_3b067 2 (some .char)) (zj_rm 2 80) (g_PS b sk sv [.ref (sv j), .int i]) (g_QS (gS0.2 j i.toNatClampNeg)) 0 0 (fun _ => False) := by
  refine va_MetF (cc := cJ1_charAt_3b067) (maxL := 2) (ret := some .char) (by decide +kernel) rfl ?_
  intro p e s m args below meth c s₁ B hml hv
  obtain ⟨rfl, hX⟩ := hv
  have hx := B.exec
  have hb := B.bytes
  have hr := B.returns
  have hlocks := B.notSynchronized
  have hts0 := atoms_spec (ws := zj_ws yJ1_charAt_3b067 cJ1_charAt_3b067 2 (some .char)) B.pre
  have hts : ∀ w ∈ gt, w.before #[Value.ref (sv j), Value.int i] s = true := fun w h => hts0 w (List.mem_cons_of_mem _ h)
  have hown : s.vm.findClass RJ1 = some m.cls := findClass_of_methodNamed B.named
  have hS : va_S (fun q => b ≤ q) s.heap s.heap [] := va_S.rf
  have hT := (hX.1.1 j hj).2.2.2
  obtain ⟨hL, hA⟩ := zj_all j hj
  obtain ⟨k, hk, rfl⟩ := vp_in_of hi (by show gsL.getD j 0 < _; omega)
  have hk : k < gsL.getD j 0 := hk
  rw [lg_entry_eq]
  refine lv_iload_n hx hb dJ1_charAt_3b067_0 rfl rfl ?_
  refine lv_aload_n hx hb dJ1_charAt_3b067_1 rfl rfl ?_
  refine va_tlen hx hb hT hS rfl dJ1_charAt_3b067_2 ?_
  have hcw := zj_cwS (R := zj_rm 2 80) (own := RJ1) (index := 9) (y := yJ0_checkIndex_df160) (cc := cJ0_checkIndex_df160) (maxL := 2) (r := none) (rm := zj_rm 1 40) 2 hts zj_w5.1 zj_w5.2.1 zj_w1.2.2.2.2.1 zj_w5.2.2 rfl rfl ⟨by decide, by decide, by decide +kernel⟩ ⟨by decide, by decide⟩
  refine zj_back0 (va_runS (l := l) (As := [.int (nI k), .int (Int32.ofNat (gsL.getD j 0))]) (rest := []) ⟨hx, hb, hml, hown, hts⟩ (zj_chk (b := b) (sk := sk) (sv := sv) (nI_pos (by omega)) (nI_lt hk (by omega))) hcw ⟨zj_PSb, fun U hU hW => ⟨rfl, g_X_move hX hW (fun q _ => by rw [hU])⟩⟩ rfl rfl rfl rfl (lv_room (by decide)) dJ1_charAt_3b067_3 ⟨by decide, by decide⟩) ?_
  refine lv_aload_n hx hb dJ1_charAt_3b067_6 rfl rfl ?_
  refine lv_iload_n hx hb dJ1_charAt_3b067_7 rfl rfl ?_
  refine va_tb hx hb hT hS hi (v := .int ((gsB.getD j []).getD k 0)) (by show Value.int _ = _; rw [nI_clamp (by omega)]) dJ1_charAt_3b067_8 ?_
  refine lv_sipush hx hb dJ1_charAt_3b067_9 rfl ?_
  refine lv_iand hx hb dJ1_charAt_3b067_12 ?_
  refine lv_i2c hx hb dJ1_charAt_3b067_13 (hA k hk).1 ?_
  refine W.zret hx hb hr (hA k hk).2 (fun t ht hW => ⟨?_, ht⟩) (fun q hq => nomatch hq) dJ1_charAt_3b067_14 hlocks
  show Outcome.returned (some (Value.int ((gsB.getD j []).getD k 0))) = .returned (some (.int ((gsB.getD j []).getD (nI k).toNatClampNeg 0)))
  rw [nI_clamp (by omega)]
/-- isLatin1 -/
theorem zj_isl {j : Nat} (hj : j < gsN) : Met l yJ0_isLatin1_aae02 (zj_ws yJ0_isLatin1_aae02 cJ0_isLatin1_aae02 1 (some .boolean)) (zj_rm 0 0) (g_PS b sk sv [.ref (sk j)]) (g_QS 1) 0 0 (fun _ => False) := by
  refine va_MetF (cc := cJ0_isLatin1_aae02) (maxL := 1) (ret := some .boolean) (by decide +kernel) rfl ?_
  intro p e s m args below meth c s₁ B hml hv
  obtain ⟨rfl, hX⟩ := hv
  have hx := B.exec
  have hb := B.bytes
  have hr := B.returns
  have hlocks := B.notSynchronized
  have hts0 := atoms_spec (ws := zj_ws yJ0_isLatin1_aae02 cJ0_isLatin1_aae02 1 (some .boolean)) B.pre
  have hts : ∀ w ∈ gt, w.before #[Value.ref (sk j)] s = true := fun w h => hts0 w (List.mem_cons_of_mem _ h)
  have hown : s.vm.findClass RJ0 = some m.cls := findClass_of_methodNamed B.named
  have hS : va_S (fun q => b ≤ q) s.heap s.heap [] := va_S.rf
  rw [lg_entry_eq]
  refine va_gets hx hb hX.2.2.2.2.1 hS hown (hts _ zj_w1.1) (fun _ h => h) dJ0_isLatin1_aae02_0 ?_
  refine lv_if_eq hx hb dJ0_isLatin1_aae02_3 (tgt := 17) (by decide) (fun z => absurd z (by decide)) (fun _ => ?_)
  refine lv_aload_n hx hb dJ0_isLatin1_aae02_6 rfl rfl ?_
  refine vk_getf hx hb (hX.1.1 j hj).2.1 hS hown (hts _ zj_w1.2.1) (fun _ h => h) dJ0_isLatin1_aae02_7 ?_
  refine lv_if_ne hx hb dJ0_isLatin1_aae02_10 (tgt := 17) (by decide) (fun z => absurd rfl z) (fun _ => ?_)
  refine lv_iconst hx hb dJ0_isLatin1_aae02_13 (v := 1) rfl ?_
  refine lv_goto hx hb dJ0_isLatin1_aae02_14 (tgt := 18) (by decide) ?_
  exact W.zret hx hb hr rfl (fun t ht hW => ⟨rfl, ht⟩) (fun q hq => nomatch hq) dJ0_isLatin1_aae02_18 hlocks
/-- coder -/
theorem zj_cod {j : Nat} (hj : j < gsN) : Met l yJ0_coder_7d493 (zj_ws yJ0_coder_7d493 cJ0_coder_7d493 1 (some .byte)) (zj_rm 0 0) (g_PS b sk sv [.ref (sk j)]) (g_QS 0) 0 0 (fun _ => False) := by
  refine va_MetF (cc := cJ0_coder_7d493) (maxL := 1) (ret := some .byte) (by decide +kernel) rfl ?_
  intro p e s m args below meth c s₁ B hml hv
  obtain ⟨rfl, hX⟩ := hv
  have hx := B.exec
  have hb := B.bytes
  have hr := B.returns
  have hlocks := B.notSynchronized
  have hts0 := atoms_spec (ws := zj_ws yJ0_coder_7d493 cJ0_coder_7d493 1 (some .byte)) B.pre
  have hts : ∀ w ∈ gt, w.before #[Value.ref (sk j)] s = true := fun w h => hts0 w (List.mem_cons_of_mem _ h)
  have hown : s.vm.findClass RJ0 = some m.cls := findClass_of_methodNamed B.named
  have hS : va_S (fun q => b ≤ q) s.heap s.heap [] := va_S.rf
  rw [lg_entry_eq]
  refine va_gets hx hb hX.2.2.2.2.1 hS hown (hts _ zj_w1.1) (fun _ h => h) dJ0_coder_7d493_0 ?_
  refine lv_if_eq hx hb dJ0_coder_7d493_3 (tgt := 13) (by decide) (fun z => absurd z (by decide)) (fun _ => ?_)
  refine lv_aload_n hx hb dJ0_coder_7d493_6 rfl rfl ?_
  refine vk_getf hx hb (hX.1.1 j hj).2.1 hS hown (hts _ zj_w1.2.1) (fun _ h => h) dJ0_coder_7d493_7 ?_
  refine lv_goto hx hb dJ0_coder_7d493_10 (tgt := 14) (by decide) ?_
  exact W.zret hx hb hr rfl (fun t ht hW => ⟨rfl, ht⟩) (fun q hq => nomatch hq) dJ0_coder_7d493_14 hlocks
theorem zj_sk {j : Nat} {s : State} {H : Heap} {locs : List Loc} (hX : g_X b sk sv s) (hj : j < gsN) (hS : va_S (fun q => b ≤ q) s.heap H locs) : ∃ cellB : Cell, H[sk j]? = some cellB ∧ cellB.vm.isStatics = false ∧ s.vm.findClass RJ0 = some cellB.cls := vk_recv hX.1 hj hS
/-- length -/
theorem zj_len {j : Nat} (hj : j < gsN) : Met l yJ0_length_8abf5 g_wl g_rs (g_PS b sk sv [.ref (sk j)]) (g_QS (nI (gS0.1 j))) 0 0 (fun _ => False) := by
  refine va_MetF (cc := cJ0_length_8abf5) (maxL := 1) (ret := some .int) (by decide +kernel) rfl ?_
  intro p e s m args below meth c s₁ B hml hv
  obtain ⟨rfl, hX⟩ := hv
  have hx := B.exec
  have hb := B.bytes
  have hr := B.returns
  have hlocks := B.notSynchronized
  have hts0 := atoms_spec (ws := g_wl) B.pre
  have hts : ∀ w ∈ gt, w.before #[Value.ref (sk j)] s = true := fun w h => hts0 w (List.mem_cons_of_mem _ h)
  have hown : s.vm.findClass RJ0 = some m.cls := findClass_of_methodNamed B.named
  have hS : va_S (fun q => b ≤ q) s.heap s.heap [] := va_S.rf
  obtain ⟨hL, -⟩ := zj_all j hj
  rw [lg_entry_eq]
  refine lv_aload_n hx hb dJ0_length_8abf5_0 rfl rfl ?_
  refine vk_getf hx hb (hX.1.1 j hj).2.2.1 hS hown (hts _ zj_w1.2.2.1) (fun _ h => h) dJ0_length_8abf5_1 ?_
  refine va_tlen hx hb (hX.1.1 j hj).2.2.2 hS rfl dJ0_length_8abf5_4 ?_
  refine lv_aload_n hx hb dJ0_length_8abf5_5 rfl rfl ?_
  have hcw := zj_cwV (R := g_rs) (own := RJ0) (index := 335) (y := yJ0_coder_7d493) (cc := cJ0_coder_7d493) (maxL := 1) (r := some .byte) (rm := zj_rm 0 0) 0 hts zj_w2.1 zj_w2.2.1 zj_w2.2.2.1 zj_w1.2.2.2.2.1 zj_w2.2.2.2 rfl rfl ⟨by decide, by decide, by decide +kernel⟩ ⟨by decide, by decide⟩
  refine zj_back (va_runV (l := l) (b := sk j) (As := []) (rest := [.int (Int32.ofNat (gsL.getD j 0))]) ⟨hx, hb, hml, hown, hts⟩ (zj_cod (b := b) (sk := sk) (sv := sv) hj) hcw ⟨zj_PSb, zj_sk hX hj hS, fun U hU hW => ⟨rfl, g_X_move hX hW (fun q _ => by rw [hU])⟩⟩ rfl rfl rfl rfl (lv_room (by show 1 + 0 ≤ 8; omega)) dJ0_length_8abf5_6 ⟨by decide, by decide⟩) ?_
  refine lv_ishr hx hb dJ0_length_8abf5_9 ?_
  have e9 : Int32.ofNat (gsL.getD j 0) >>> ((0 : Int32) &&& 31) = nI (gsL.getD j 0) := by
    have h := n_shr (a := gsL.getD j 0) (q := 0) (by omega) (by omega)
    rw [Nat.pow_zero, Nat.div_one] at h
    exact h
  rw [e9]
  exact W.iret hx hb hr (fun t ht hW => ⟨rfl, ht⟩) (fun q hq => nomatch hq) dJ0_length_8abf5_10 hlocks
/-- charAt -/
theorem zj_cha {j : Nat} {i : Int32} (hj : j < gsN) (hi : vp_in i (gS0.1 j)) : Met l yJ0_charAt_5068e g_wc g_rs (g_PS b sk sv [.ref (sk j), .int i]) (g_QS (gS0.2 j i.toNatClampNeg)) 0 0 (fun _ => False) := by
  refine va_MetF (cc := cJ0_charAt_5068e) (maxL := 2) (ret := some .char) (by decide +kernel) rfl ?_
  intro p e s m args below meth c s₁ B hml hv
  obtain ⟨rfl, hX⟩ := hv
  have hx := B.exec
  have hb := B.bytes
  have hr := B.returns
  have hlocks := B.notSynchronized
  have hts0 := atoms_spec (ws := g_wc) B.pre
  have hts : ∀ w ∈ gt, w.before #[Value.ref (sk j), Value.int i] s = true := fun w h => hts0 w (List.mem_cons_of_mem _ h)
  have hown : s.vm.findClass RJ0 = some m.cls := findClass_of_methodNamed B.named
  have hS : va_S (fun q => b ≤ q) s.heap s.heap [] := va_S.rf
  obtain ⟨hL, hA⟩ := zj_all j hj
  rw [lg_entry_eq]
  refine lv_aload_n hx hb dJ0_charAt_5068e_0 rfl rfl ?_
  have hcw := zj_cwV (R := g_rs) (own := RJ0) (index := 492) (y := yJ0_isLatin1_aae02) (cc := cJ0_isLatin1_aae02) (maxL := 1) (r := some .boolean) (rm := zj_rm 0 0) 0 hts zj_w3.1 zj_w3.2.1 zj_w3.2.2.1 zj_w1.2.2.2.2.1 zj_w3.2.2.2 rfl rfl ⟨by decide, by decide, by decide +kernel⟩ ⟨by decide, by decide⟩
  refine zj_back (va_runV (l := l) (b := sk j) (As := []) (rest := []) ⟨hx, hb, hml, hown, hts⟩ (zj_isl (b := b) (sk := sk) (sv := sv) hj) hcw ⟨zj_PSb, zj_sk hX hj hS, fun U hU hW => ⟨rfl, g_X_move hX hW (fun q _ => by rw [hU])⟩⟩ rfl rfl rfl rfl (lv_room (by decide)) dJ0_charAt_5068e_1 ⟨by decide, by decide⟩) ?_
  refine lv_if_eq hx hb dJ0_charAt_5068e_4 (tgt := 16) (by decide) (fun z => absurd z (by decide)) (fun _ => ?_)
  refine lv_aload_n hx hb dJ0_charAt_5068e_7 rfl rfl ?_
  refine vk_getf hx hb (hX.1.1 j hj).2.2.1 hS hown (hts _ zj_w1.2.2.1) (fun _ h => h) dJ0_charAt_5068e_8 ?_
  refine lv_iload_n hx hb dJ0_charAt_5068e_11 rfl rfl ?_
  have hcw2 := zj_cwS (R := g_rs) (own := RJ0) (index := 495) (y := yJ1_charAt_3b067) (cc := cJ1_charAt_3b067) (maxL := 2) (r := some .char) (rm := zj_rm 2 80) 2 hts zj_w4.1 zj_w4.2.1 zj_w1.2.2.2.2.2.1 zj_w4.2.2 rfl rfl ⟨by decide, by decide, by decide +kernel⟩ ⟨by decide, by decide⟩
  refine zj_back (va_runS (l := l) (As := [.ref (sv j), .int i]) (rest := []) ⟨hx, hb, hml, hown, hts⟩ (zj_lat (b := b) (sk := sk) (sv := sv) hj hi) hcw2 ⟨zj_PSb, fun U hU hW => ⟨rfl, g_X_move hX hW (fun q _ => by rw [hU])⟩⟩ rfl rfl rfl rfl (lv_room (by decide)) dJ0_charAt_5068e_12 ⟨by decide, by decide⟩) ?_
  obtain ⟨k, hk, rfl⟩ := vp_in_of hi (by show gsL.getD j 0 < _; omega)
  have hk : k < gsL.getD j 0 := hk
  have en : narrow .char (.int (gS0.2 j (nI k).toNatClampNeg)) = .int (gS0.2 j (nI k).toNatClampNeg) := by
    show narrow .char (.int ((gsB.getD j []).getD (nI k).toNatClampNeg 0)) = .int ((gsB.getD j []).getD (nI k).toNatClampNeg 0)
    rw [nI_clamp (by omega)]
    exact (hA k hk).2
  exact W.zret hx hb hr en (fun t ht hW => ⟨rfl, ht⟩) (fun q hq => nomatch hq) dJ0_charAt_5068e_15 hlocks
theorem zj_SK : g_SK l b sk sv := ⟨fun j hj => zj_len hj, fun j i hj hi => zj_cha hj hi⟩
end ZJ2
