/-! rows that make cells -/
theorem g_tc_b : (List.range 10).all (fun c => (List.range (gN c)).all (fun k => decide (g_tc (gTy c k) ≤ 3))) = true := by decide +kernel
theorem g_tc_le {c k : Nat} (h : c < 10) (hk : k < gN c) : g_tc (gTy c k) ≤ 3 := by
  have h1 := List.all_eq_true.mp (List.all_eq_true.mp g_tc_b c (List.mem_range.mpr h)) k (List.mem_range.mpr hk)
  simpa using h1
section GS5
variable {p : Program} {l : Launch} {e : Env} {R : Room} {s : State} {m : MethodId} {args : Array Value} {below : List Frame} {meth : Method} {c : Code} {Z : State → Prop}
variable {D : va_G} {ca : Nat → ClassId} {b : Nat} {sk : Nat → Nat} {al : Bool} {nL : Nat} {cc : ByteArray} {pc : Nat} {lo : gL} {st : List Value} {M : gM} {cl sl : Nat} {own : String}
theorem g_wr_le {H : Heap} (h : g_wr D ca b sk M H) : b + M.1.1 ≤ H.size := by
  cases hn : M.1.1 with
  | zero => have := h.2.2; omega
  | succ k =>
    have h1 := (h.1 k _ (g_wd_get (by omega))).lt
    have h2 := h.2.1.1
    simp only [g_ad] at h1
    rw [if_pos (by omega)] at h1
    omega
theorem g_ad_nx {M : gM} (h : M.1.1 + 1 ≤ 1000000) : g_ad b sk M.1.1 = b + M.1.1 := by
  simp only [g_ad]
  rw [if_pos (by omega)]
theorem g_sn_nw {M : gM} {kd n : Nat} (h : g_sn M) (h1 : M.1.1 + 1 ≤ 1000000) : g_sn (g_nw M kd n) := by
  refine ⟨h1, fun a ha => ?_⟩
  show a < M.1.1 + 1
  by_cases hq : a = M.1.1
  · omega
  · have h2 : (g_nw M kd n).1.2.1 a = M.1.2.1 a := gU_ne hq
    rw [h2] at ha
    have := h.2 a ha
    omega
theorem g_nw_old {ad : Nat → Nat} {M : gM} {kd n : Nat} : ∀ q, q < M.1.1 → g_cell ca ad (g_nw M kd n) q = g_cell ca ad M q := fun q h => g_cell_congr (gU_ne (Nat.ne_of_lt h)) (gU_ne (Nat.ne_of_lt h)) (gU_ne (Nat.ne_of_lt h)) (gU_ne (Nat.ne_of_lt h))
/-- the heap with one cell more holds the memory with one number more -/
theorem g_wr_push {H H1 : Heap} {kd n : Nat} (h1 : g_wr D ca b sk M H) (hm : M.1.1 + 1 ≤ 1000000) (hz : H.size = b + M.1.1) (z1 : H1.size = H.size + 1) (o1 : ∀ q, q < H.size → H1[q]? = H[q]?) (hc : va_at D vwCl (H.size, g_cell ca (g_ad b sk) (g_nw M kd n) M.1.1) H1) : g_wr D ca b sk (g_nw M kd n) H1 := by
  refine ⟨?_, g_sn_nw h1.2.1 hm, by have := h1.2.2; omega⟩
  rw [← g_wd_push (M := M) (M' := g_nw M kd n) rfl g_nw_old]
  refine (h1.1.kept (fun k x hx => o1 x.1 ((h1.1 k x hx).lt))).app (fun k x hx => ?_)
  have hk : k < 1 := (List.getElem?_eq_some_iff.mp hx).1
  rw [show k = 0 by omega] at hx
  cases hx
  rw [g_ad_nx hm, ← hz]
  exact hc
theorem g_S_push {H H1 : Heap} {locs : List Loc} (h2 : va_S (fun q => b ≤ q) s.heap H locs) (z1 : H1.size = H.size + 1) (o1 : ∀ q, q < H.size → H1[q]? = H[q]?) : va_S (fun q => b ≤ q) s.heap H1 locs :=
  ⟨Nat.le_trans h2.1 (by omega), fun x q1 q2 => (o1 x (Nat.lt_of_lt_of_le q1 h2.1)).trans (h2.2.1 x q1 q2), h2.2.2⟩
theorem gs_new (hx : p.tables.exec = Jvm.exec) (hb : c.code = cc) (hown : s.vm.findClass own = some m.cls) (hts : ∀ w ∈ gt, w.before args s = true) (hK : va_K D vwCl (g_tys ca) s) {ci index : Nat} (hci : ci < 10) (hl1 : Cond.classLink own index (gR ci) ∈ gt) (hl2 : Cond.instantiable (gR ci) (gN ci) ∈ gt) (hl3 : Cond.initialized (gR ci) ∈ gt) (hal : al = true) (hm : M.1.1 + 1 ≤ 1000000) (hc : cl + 1 ≤ R.cells) (hs : sl + gN ci ≤ R.slots)
    (hd : decode cc pc = .ok (.new index, 3)) (kk : g_W p l e R s m args below meth c Z D ca b sk al nL (pc + 3) lo (.ref M.1.1 :: st) (g_nw M (ci + 6) (gN ci)) (cl + 1) (sl + gN ci)) : g_W p l e R s m args below meth c Z D ca b sk al nL pc lo st M cl sl := by
  intro H locs ls h1 h2 h3 h4 T hT X
  have hz : H.size = b + M.1.1 := by
    have q1 := g_wr_le h1
    have q2 := X.heapSize
    have q3 := h4 hal
    rw [hT] at q2
    omega
  have hKn := hK.1 ci _ (g_cl hci)
  refine W.newcK hx hb hown (hts _ hl1) (hts _ hl2) (hts _ hl3) (g := F0 m pc ls (st.map (g_em (g_ad b sk)))) rfl hd hc hs hKn.2.1 rfl (fun H1 kC hkC e1 z1 o1 => ?_) T hT X
  have hcell : g_cell ca (g_ad b sk) (g_nw M (ci + 6) (gN ci)) M.1.1 = .inr (ci, g_fs (g_ad b sk) (g_nw M (ci + 6) (gN ci)) M.1.1 ci) := g_cell_obj gU_eq
  have hg : g_wr D ca b sk (g_nw M (ci + 6) (gN ci)) H1 := by
    refine g_wr_push h1 hm hz z1 o1 ?_
    rw [hcell]
    refine ⟨_, g_cl hci, (u_born (gTy ci) hts (g_in hci) hKn hkC e1 (g_ty hci)).to (fun j hj => ?_)⟩
    have hv : vp_V (g_fs (g_ad b sk) (g_nw M (ci + 6) (gN ci)) M.1.1 ci) j = g_fv (g_ad b sk) (g_nw M (ci + 6) (gN ci)) M.1.1 ci j := by
      unfold vp_V
      rw [List.getD_eq_getElem?_getD, g_fs_get hj]
      rfl
    rw [hv]
    have htc := g_tc_le hci hj
    have i0 : (g_nw M (ci + 6) (gN ci)).2.1 M.1.1 j = 0 := by simp [g_nw, gU]
    have l0 : (g_nw M (ci + 6) (gN ci)).2.2 M.1.1 j = 0 := by simp [g_nw, gU]
    have r0 : (g_nw M (ci + 6) (gN ci)).1.2.2 M.1.1 j = none := by simp [g_nw, gU]
    unfold g_fv
    rw [i0, l0, r0]
    cases hty : gTy ci j <;> rw [hty] at htc <;> first | rfl | (simp [g_tc] at htc)
  have he : F0 m (pc + 3) ls (Value.ref H.size :: st.map (g_em (g_ad b sk))) = F0 m (pc + 3) ls ((Value.ref M.1.1 :: st).map (g_em (g_ad b sk))) := by
    simp only [List.map_cons, g_em]
    rw [g_ad_nx hm, hz]
  have hgoal := kk H1 locs ls hg (g_S_push h2 z1 o1) h3 (fun _ => by have := h4 hal; show s.heap.size + (cl + 1) = b + (M.1.1 + 1); omega)
  rw [← he] at hgoal
  exact hgoal
theorem gs_newi (hx : p.tables.exec = Jvm.exec) (hb : c.code = cc) (hts : ∀ w ∈ gt, w.before args s = true) (hK : va_K D vwCl (g_tys ca) s) {n : Int32} (hl1 : Cond.arrayClass .int ∈ gt) (hal : al = true) (hm : M.1.1 + 1 ≤ 1000000) (hn : ¬ n < 0) (hn2 : n.toNatClampNeg ≤ 10000) (hc : cl + 1 ≤ R.cells) (hs : sl + n.toNatClampNeg ≤ R.slots)
    (hd : decode cc pc = .ok (.newarray .int, 2)) (kk : g_W p l e R s m args below meth c Z D ca b sk al nL (pc + 2) lo (.ref M.1.1 :: st) (g_nw M 1 n.toNatClampNeg) (cl + 1) (sl + n.toNatClampNeg)) : g_W p l e R s m args below meth c Z D ca b sk al nL pc lo (.int n :: st) M cl sl := by
  intro H locs ls h1 h2 h3 h4 T hT X
  have hz : H.size = b + M.1.1 := by
    have q1 := g_wr_le h1
    have q2 := X.heapSize
    have q3 := h4 hal
    rw [hT] at q2
    omega
  refine va_newaK (atype := .int) hx hb (hts _ hl1) (g := F0 m pc ls ((Value.int n :: st).map (g_em (g_ad b sk)))) rfl hd rfl hn rfl (by show n.toNatClampNeg * 4 ≤ _; omega) hc hs rfl (fun H1 cA e1 z1 o1 hAr hNm => ?_) T hT X
  have hcA : ca 0 = cA := by
    have h5 := (hK.2 0 (ca 0, .int) rfl).2
    have h6 : s.vm.findClass ("[" ++ FieldType.int.toString) = some (ca 0) := h5
    exact Option.some.inj (h6.symm.trans hNm)
  have hcell : g_cell ca (g_ad b sk) (g_nw M 1 n.toNatClampNeg) M.1.1 = .inl (ca 0, n.toNatClampNeg, .inl (fun _ => 0)) := by
    have e2 : (g_nw M 1 n.toNatClampNeg).1.2.1 M.1.1 = (1, n.toNatClampNeg) := gU_eq
    have e3 : (g_nw M 1 n.toNatClampNeg).2.1 M.1.1 = (fun _ => 0) := gU_eq
    rw [g_cell_int (by rw [e2]), e2, e3]
  have hg : g_wr D ca b sk (g_nw M 1 n.toNatClampNeg) H1 := by
    refine g_wr_push h1 hm hz z1 o1 ?_
    rw [hcell, hcA]
    exact e1
  have he : F0 m (pc + 2) ls (Value.ref H.size :: st.map (g_em (g_ad b sk))) = F0 m (pc + 2) ls ((Value.ref M.1.1 :: st).map (g_em (g_ad b sk))) := by
    simp only [List.map_cons, g_em]
    rw [g_ad_nx hm, hz]
  have hgoal := kk H1 locs ls hg (g_S_push h2 z1 o1) h3 (fun _ => by have := h4 hal; show s.heap.size + (cl + 1) = b + (M.1.1 + 1); omega)
  rw [← he] at hgoal
  exact hgoal
theorem gs_newl (hx : p.tables.exec = Jvm.exec) (hb : c.code = cc) (hts : ∀ w ∈ gt, w.before args s = true) (hK : va_K D vwCl (g_tys ca) s) {n : Int32} (hl1 : Cond.arrayClass .long ∈ gt) (hal : al = true) (hm : M.1.1 + 1 ≤ 1000000) (hn : ¬ n < 0) (hn2 : n.toNatClampNeg ≤ 10000) (hc : cl + 1 ≤ R.cells) (hs : sl + n.toNatClampNeg ≤ R.slots)
    (hd : decode cc pc = .ok (.newarray .long, 2)) (kk : g_W p l e R s m args below meth c Z D ca b sk al nL (pc + 2) lo (.ref M.1.1 :: st) (g_nw M 2 n.toNatClampNeg) (cl + 1) (sl + n.toNatClampNeg)) : g_W p l e R s m args below meth c Z D ca b sk al nL pc lo (.int n :: st) M cl sl := by
  intro H locs ls h1 h2 h3 h4 T hT X
  have hz : H.size = b + M.1.1 := by
    have q1 := g_wr_le h1
    have q2 := X.heapSize
    have q3 := h4 hal
    rw [hT] at q2
    omega
  refine va_newaK (atype := .long) hx hb (hts _ hl1) (g := F0 m pc ls ((Value.int n :: st).map (g_em (g_ad b sk)))) rfl hd rfl hn rfl (by show n.toNatClampNeg * 8 ≤ _; omega) hc hs rfl (fun H1 cA e1 z1 o1 hAr hNm => ?_) T hT X
  have hcA : ca 1 = cA := by
    have h5 := (hK.2 1 (ca 1, .long) rfl).2
    have h6 : s.vm.findClass ("[" ++ FieldType.long.toString) = some (ca 1) := h5
    exact Option.some.inj (h6.symm.trans hNm)
  have hcell : g_cell ca (g_ad b sk) (g_nw M 2 n.toNatClampNeg) M.1.1 = .inl (ca 1, n.toNatClampNeg, .inr (.inl (fun _ => 0))) := by
    have e2 : (g_nw M 2 n.toNatClampNeg).1.2.1 M.1.1 = (2, n.toNatClampNeg) := gU_eq
    have e3 : (g_nw M 2 n.toNatClampNeg).2.2 M.1.1 = (fun _ => 0) := gU_eq
    rw [g_cell_long (by rw [e2]), e2, e3]
  have hg : g_wr D ca b sk (g_nw M 2 n.toNatClampNeg) H1 := by
    refine g_wr_push h1 hm hz z1 o1 ?_
    rw [hcell, hcA]
    exact e1
  have he : F0 m (pc + 2) ls (Value.ref H.size :: st.map (g_em (g_ad b sk))) = F0 m (pc + 2) ls ((Value.ref M.1.1 :: st).map (g_em (g_ad b sk))) := by
    simp only [List.map_cons, g_em]
    rw [g_ad_nx hm, hz]
  have hgoal := kk H1 locs ls hg (g_S_push h2 z1 o1) h3 (fun _ => by have := h4 hal; show s.heap.size + (cl + 1) = b + (M.1.1 + 1); omega)
  rw [← he] at hgoal
  exact hgoal
theorem gs_newq (hx : p.tables.exec = Jvm.exec) (hb : c.code = cc) (hown : s.vm.findClass own = some m.cls) (hts : ∀ w ∈ gt, w.before args s = true) (hK : va_K D vwCl (g_tys ca) s) {n : Int32} {k index : Nat} (hk : k < 3) (hl1 : Cond.classLink own index (gR (g_ac (k + 3))) ∈ gt) (hov : va_AO (gR (g_ac (k + 3))) s) (hal : al = true) (hm : M.1.1 + 1 ≤ 1000000) (hn : ¬ n < 0) (hn2 : n.toNatClampNeg ≤ 10000) (hc : cl + 1 ≤ R.cells) (hs : sl + n.toNatClampNeg ≤ R.slots)
    (hd : decode cc pc = .ok (.anewarray index, 3)) (kk : g_W p l e R s m args below meth c Z D ca b sk al nL (pc + 3) lo (.ref M.1.1 :: st) (g_nw M (k + 3) n.toNatClampNeg) (cl + 1) (sl + n.toNatClampNeg)) : g_W p l e R s m args below meth c Z D ca b sk al nL pc lo (.int n :: st) M cl sl := by
  intro H locs ls h1 h2 h3 h4 T hT X
  have hz : H.size = b + M.1.1 := by
    have q1 := g_wr_le h1
    have q2 := X.heapSize
    have q3 := h4 hal
    rw [hT] at q2
    omega
  refine W.anew hx hb hown (hts _ hl1) (va_AO.use hov) (g := F0 m pc ls ((Value.int n :: st).map (g_em (g_ad b sk)))) rfl hd rfl hn (by omega) hc hs (fun cA kA comp f1 f2 f3 f4 => ?_) T hT X
  generalize hH1 : H.push ({ cls := cA, slots := Array.replicate n.toNatClampNeg .null, vm := .none } : Cell) = H1
  have z1 : H1.size = H.size + 1 := by rw [← hH1, Array.size_push]
  have e1 : H1[H.size]? = some (arrV cA n.toNatClampNeg (fun _ => .null)) := by rw [← hH1, Array.getElem?_push_size, ← arrV_new]
  have o1 : ∀ q : Nat, q < H.size → H1[q]? = H[q]? := fun q hq => by rw [← hH1, Array.getElem?_push, if_neg (Nat.ne_of_lt hq)]
  have hcA : ca (k + 2) = cA := by
    obtain ⟨kA', comp', -, -, -, h6⟩ := (hK.2 (k + 2) _ (g_tys_at hk)).2
    exact Option.some.inj (h6.symm.trans f1)
  have hcell : g_cell ca (g_ad b sk) (g_nw M (k + 3) n.toNatClampNeg) M.1.1 = .inl (ca (k + 2), n.toNatClampNeg, .inr (.inr (.inr (.inr (fun _ => none))))) := by
    have e2 : (g_nw M (k + 3) n.toNatClampNeg).1.2.1 M.1.1 = (k + 3, n.toNatClampNeg) := gU_eq
    have e3 : (g_nw M (k + 3) n.toNatClampNeg).1.2.2 M.1.1 = (fun _ => none) := gU_eq
    rw [g_cell_ref hk (by rw [e2]), e2, e3]
    rfl
  have hg : g_wr D ca b sk (g_nw M (k + 3) n.toNatClampNeg) H1 := by
    refine g_wr_push h1 hm hz z1 o1 ?_
    rw [hcell, hcA]
    exact e1
  have he : F0 m (pc + 3) ls (Value.ref H.size :: st.map (g_em (g_ad b sk))) = F0 m (pc + 3) ls ((Value.ref M.1.1 :: st).map (g_em (g_ad b sk))) := by
    simp only [List.map_cons, g_em]
    rw [g_ad_nx hm, hz]
  have hgoal := kk H1 locs ls hg (g_S_push h2 z1 o1) h3 (fun _ => by have := h4 hal; show s.heap.size + (cl + 1) = b + (M.1.1 + 1); omega)
  rw [← he] at hgoal
  exact hgoal
end GS5
