/-! the start: what stands outside the made world; the classes -/
theorem st_ao : ∀ k, k < 3 → Cond.arrayOver (.object (gR (g_ac (k + 3)))) ∈ lw_tbl := by
  intro k hk
  match k, hk with
  | 0, _ => exact lwH_ok st_n5.1
  | 1, _ => exact lwH_ok st_n5.2.1
  | 2, _ => exact lwH_ok st_n5.2.2
  | k + 3, h => exact absurd h (by omega)
theorem st_OF {o n d : String} {v v' : Value} {t : Nat} {A : Nat → Prop} {U : State} {H : Heap} (h : va_OF o n d v t A U H) (h' : va_OF o n d v' t A U H) : v = v' := by
  obtain ⟨cf, k, i, f, cell, h1, h2, h3, h4, h5, h6⟩ := h
  obtain ⟨cf', k', i', f', cell', g1, g2, g3, g4, g5, g6⟩ := h'
  have e := Option.some.inj (h1.symm.trans g1)
  simp only [Prod.mk.injEq] at e
  obtain ⟨rfl, rfl, rfl, rfl⟩ := e
  cases Option.some.inj (h3.symm.trans g3)
  exact Option.some.inj (h5.symm.trans g5)
theorem st_T {ty : FieldType} {t N N' : Nat} {f f' : Nat → Value} {A : Nat → Prop} {U : State} {H : Heap} (h : va_T ty t N f A U H) (h' : va_T ty t N' f' A U H) (hN : N < 2147483648) (hN' : N' < 2147483648) : N = N' ∧ ∀ k, k < N → f k = f' k := by
  obtain ⟨cell, h1, h2, h3, h4, h5, h6, h7⟩ := h
  obtain ⟨cell', g1, g2, g3, g4, g5, g6, g7⟩ := h'
  cases Option.some.inj (h1.symm.trans g1)
  have e : N = N' := by
    have := h5.symm.trans g5
    rwa [show Int32.ofNat N = nI N from rfl, show Int32.ofNat N' = nI N' from rfl, n_eq hN hN'] at this
  subst e
  exact ⟨rfl, fun k hk => Option.some.inj ((h6 k hk).symm.trans (g6 k hk))⟩
section ST
variable {s : State} {b : Nat}
theorem st_X (hts0 : ∀ w ∈ lw_tbl, w.before #[Value.ref b] s = true) (hs : NT9.before #[Value.ref b] s = true) : ∃ sk sv, g_X s.heap.size sk sv s ∧ sk 999 = b := by
  have hA : ∀ a, a < s.heap.size → ¬ (fun q => s.heap.size ≤ q) a := fun a h => Nat.not_le.mpr h
  have h0 : ∀ i, ∃ q : Nat × Nat, i < 24 → (tmS i).eval #[Value.ref b] s none [] s = some (.ref q.1) ∧ va_O "java/lang/String" q.1 (fun q => s.heap.size ≤ q) s s.heap ∧ va_OF "java/lang/String" "coder" "B" (.int 0) q.1 (fun q => s.heap.size ≤ q) s s.heap ∧ va_OF "java/lang/String" "value" "[B" (.ref q.2) q.1 (fun q => s.heap.size ≤ q) s s.heap ∧ va_T .byte q.2 (gsL.getD i 0) (fun j => .int ((gsB.getD i []).getD j 0)) (fun q => s.heap.size ≤ q) s s.heap := by
    intro i
    by_cases hi : i < 24
    · have h1 := List.all_eq_true.mp st_n1 i (List.mem_range.mpr hi)
      simp only [Bool.and_eq_true] at h1
      obtain ⟨⟨⟨⟨c1, c2⟩, c3⟩, c4⟩, c5⟩ := h1
      have hl := (zj_all i hi).1
      obtain ⟨adK, adV, hv, he⟩ := vk_Sof (args := #[Value.ref b]) (s := s) (N := 1) (tm := fun _ => tmS i) (len := [gsL.getD i 0]) (byt := [gsB.getD i []]) (A := fun q => s.heap.size ≤ q)
        (fun k hk => by
          have : k = 0 := by omega
          subst this
          show gsL.getD i 0 < 2 ^ 31
          omega)
        (fun k _ => nw_ok c1 hs) (fun k _ => nw_ok c2 hs) (fun k _ => nw_ok c3 hs)
        (fun k hk => by
          have : k = 0 := by omega
          subst this
          exact nw_ok c4 hs)
        (fun k hk j hj => by
          have : k = 0 := by omega
          subst this
          exact nw_ok (List.all_eq_true.mp c5 j (List.mem_range.mpr hj)) hs)
        (fun k j hk hj hne => absurd hne (by omega)) hA
      exact ⟨(adK 0, adV 0), fun _ => ⟨he 0 (by omega), hv.1 0 (by omega)⟩⟩
    · exact ⟨(0, 0), fun h => absurd h hi⟩
  obtain ⟨ad, had⟩ := Classical.axiomOfChoice h0
  have e9 : ∀ i, i < 24 → (if i = 999 then b else (ad i).1) = (ad i).1 := fun i hi => if_neg (by omega)
  refine ⟨fun j => if j = 999 then b else (ad j).1, fun j => (ad j).2, ⟨⟨fun i hi => ?_, fun i j hi hj e => ?_⟩, fun q hq => ?_, fun q hq => ?_, fun k hk => ?_, ?_, ?_, ?_, ?_, fun w hw => va_Nw.of (gsD_on w hw) (hts0 w (by obtain ⟨i, h⟩ := allI_ok st_n8 w hw; exact lwH_ok h))⟩, if_pos rfl⟩
  · have hi : i < 24 := hi
    show va_O "java/lang/String" (if i = 999 then b else (ad i).1) _ _ _ ∧ va_OF "java/lang/String" "coder" "B" (.int 0) (if i = 999 then b else (ad i).1) _ _ _ ∧ va_OF "java/lang/String" "value" "[B" (.ref (ad i).2) (if i = 999 then b else (ad i).1) _ _ _ ∧ _
    rw [e9 i hi]
    exact (had i hi).2
  · have hi : i < 24 := hi
    have hj : j < 24 := hj
    have e : (if i = 999 then b else (ad i).1) = (if j = 999 then b else (ad j).1) := e
    rw [e9 i hi, e9 j hj] at e
    obtain ⟨-, -, -, v1, t1⟩ := had i hi
    obtain ⟨-, -, -, v2, t2⟩ := had j hj
    rw [e] at v1
    have e2 := st_OF v1 v2
    simp only [Value.ref.injEq] at e2
    rw [e2] at t1
    have l1 := (zj_all i hi).1
    have l2 := (zj_all j hj).1
    obtain ⟨e3, e4⟩ := st_T t1 t2 (by omega) (by omega)
    exact st_inj i hi j hj e3 (fun k hk => by have := e4 k hk; simpa using this)
  · obtain ⟨i1, h1⟩ := allI_ok st_n2 q hq
    obtain ⟨i2, h2⟩ := allI_ok st_n3 q hq
    simp only [Bool.and_eq_true, Bool.or_eq_true, decide_eq_true_eq] at h2
    have h1 : Cond.stringRef q.1 q.2.1 q.2.2.1 ∈ lw_tbl := lwH_ok h1
    show vk_R q.1 q.2.1 q.2.2.1 (if q.2.2.2 = 999 then b else (ad q.2.2.2).1) s
    rw [e9 _ h2.1]
    refine vk_R.of (A := #[Value.ref b]) (hts0 _ h1) ?_
    rcases h2.2 with h3 | h3
    · have := (had _ h2.1).1
      unfold tmS at this
      rw [← h3] at this
      exact this
    · exact va_eqR (nw_ok h3 hs) (had _ h2.1).1
  · obtain ⟨i1, h1⟩ := allI_ok st_n4 q hq
    exact va_Nw.of (A := #[Value.ref b]) rfl (hts0 _ (lwH_ok h1))
  · exact va_AO.of (A := #[Value.ref b]) (hts0 _ (st_ao k hk))
  · exact va_Zof (hts0 _ st_n6.1) (hts0 _ st_n6.2.2.2.2.1) (va_eqt (nw_ok st_n7.1 hs)) hA
  · exact va_Zqof (hts0 _ st_n6.2.1) (hts0 _ st_n6.2.2.2.2.2.1) (nw_ok st_n7.2.1 hs) hA
  · exact vx_Zqof (hts0 _ st_n6.2.2.1) (hts0 _ st_n6.2.2.2.2.2.2) (nw_ok st_n7.2.2.1 hs) hA
  · exact vx_Zqof (hts0 _ st_n6.2.2.2.1) (hts0 _ st_n6.2.2.2.2.2.2) (nw_ok st_n7.2.2.2 hs) hA
theorem st_K (hts0 : ∀ w ∈ lw_tbl, w.before #[Value.ref b] s = true) : ∃ (D : va_G) (ca : Nat → ClassId), va_K D vwCl (g_tys ca) s := by
  have hts : ∀ w ∈ gt, w.before #[Value.ref b] s = true := fun w h => hts0 w (List.mem_filter.mp h).1
  have h0 : ∀ c, ∃ q : ClassId × (Nat → Nat), c < 10 → u_Kn s (gR c) (gT c) (gN c) q.1 q.2 := by
    intro c
    by_cases hc : c < 10
    · obtain ⟨i1, h1⟩ := allI_ok st_n9 c (List.mem_range.mpr hc)
      obtain ⟨cC, iS, h⟩ := u_known (C := gR c) (T := gT c) (N := gN c) (n := gN c) hts (g_in hc) (hts _ (g_has_mem h1))
      exact ⟨(cC, iS), fun _ => h⟩
    · exact ⟨(0, fun _ => 0), fun h => absurd h hc⟩
  obtain ⟨q, hq⟩ := Classical.axiomOfChoice h0
  obtain ⟨c0, k0, p0, a0, b0, d0⟩ := Cond.arrayClass_spec (hts _ g_arw.1)
  obtain ⟨c1, k1, p1, a1, b1, d1⟩ := Cond.arrayClass_spec (hts _ g_arw.2)
  have ao : ∀ k, k < 3 → (Cond.arrayOver (.object (gR (g_ac (k + 3))))).before #[Value.ref b] s = true := fun k hk => hts0 _ (st_ao k hk)
  obtain ⟨p2, c2, k2, f2, -, a2, b2, d2⟩ := Cond.arrayOver_spec (ao 0 (by omega))
  obtain ⟨p3, c3, k3, f3, -, a3, b3, d3⟩ := Cond.arrayOver_spec (ao 1 (by omega))
  obtain ⟨p4, c4, k4, f4, -, a4, b4, d4⟩ := Cond.arrayOver_spec (ao 2 (by omega))
  refine ⟨(fun c => (q c).1, fun c => (q c).2), fun k => match k with | 0 => c0 | 1 => c1 | 2 => c2 | 3 => c3 | _ => c4, fun c z hz => ?_, fun k z hz => ?_⟩
  · by_cases hc : c < 10
    · rw [g_cl hc] at hz
      cases hz
      exact hq c hc
    · have : vwCl[c]? = none := List.getElem?_eq_none (by show 10 ≤ c; omega)
      rw [this] at hz
      cases hz
  · match k, hz with
    | 0, hz => obtain rfl : (c0, FieldType.int) = z := Option.some.inj hz; exact ⟨fun n z => ⟨(fun k h => by cases h), k0, b0, p0, d0⟩, a0⟩
    | 1, hz => obtain rfl : (c1, FieldType.long) = z := Option.some.inj hz; exact ⟨fun n z => ⟨(fun k h => by cases h), k1, b1, p1, d1⟩, a1⟩
    | 2, hz => obtain rfl : (c2, FieldType.object RX7) = z := Option.some.inj hz; exact ⟨fun n z => ⟨(fun k h => by cases h), k2, a2, p2, b2⟩, k2, p2, a2, b2, f2, d2⟩
    | 3, hz => obtain rfl : (c3, FieldType.object RX2) = z := Option.some.inj hz; exact ⟨fun n z => ⟨(fun k h => by cases h), k3, a3, p3, b3⟩, k3, p3, a3, b3, f3, d3⟩
    | 4, hz => obtain rfl : (c4, FieldType.object RX6) = z := Option.some.inj hz; exact ⟨fun n z => ⟨(fun k h => by cases h), k4, a4, p4, b4⟩, k4, p4, a4, b4, f4, d4⟩
    | k + 5, hz => exact absurd hz (by simp [g_tys])
end ST
