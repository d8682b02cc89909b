/-! rows that write the heap -/
theorem g_narrow_i (v : Int32) : narrow .int (.int v) = .int v ∧ fits .int (.int v) = true := ⟨rfl, rfl⟩
theorem g_narrow_z {v : Int32} (h : v = 0 ∨ v = 1) : narrow .boolean (.int v) = .int v ∧ fits .boolean (.int v) = true := by
  rcases h with rfl | rfl <;> exact ⟨by decide, by decide⟩
theorem g_narrow_l (v : Int64) : narrow .long (.long v) = .long v ∧ fits .long (.long v) = true := ⟨rfl, rfl⟩
theorem g_narrow_r {ty : FieldType} (h : g_tc ty = 3) (a : Nat) : narrow ty (.ref a) = .ref a ∧ fits ty (.ref a) = true := by
  cases ty <;> simp [g_tc] at h <;> exact ⟨rfl, rfl⟩
section GS4
variable {p : Program} {l : Launch} {e : Env} {R : Room} {s : State} {m : MethodId} {args : Array Value} {below : List Frame} {meth : Method} {c : Code} {Z : State → Prop}
variable {D : va_G} {ca : Nat → ClassId} {b : Nat} {sk : Nat → Nat} {al : Bool} {nL : Nat} {cc : ByteArray} {pc : Nat} {lo : gL} {st : List Value} {M : gM} {cl sl : Nat} {own : String}
theorem g_S_le {H : Heap} {locs : List Loc} (h1 : b ≤ s.heap.size) (h2 : va_S (fun q => b ≤ q) s.heap H locs) : b ≤ H.size := Nat.le_trans h1 h2.1
/-- a field is written: the memory M' instead of M -/
theorem gs_put (hx : p.tables.exec = Jvm.exec) (hb : c.code = cc) (hown : s.vm.findClass own = some m.cls) (hts : ∀ w ∈ gt, w.before args s = true) (hK : va_K D vwCl (g_tys ca) s) (hbs : b ≤ s.heap.size) {a ci k index : Nat} (hci : ci < 10) (hk : k < gN ci) (hsh : M.1.2.1 a = (ci + 6, gN ci)) (hlink : Cond.fieldLink own index (gR ci) (gT ci k).2.1 (gT ci k).2.2.1 ∈ gt)
    (hfin : (gT ci k).2.2.2 = false ∨ (meth.name = "<init>" ∧ gR ci = own)) {v : Value} (hn : narrow (gTy ci k) (g_em (g_ad b sk) v) = g_em (g_ad b sk) v ∧ fits (gTy ci k) (g_em (g_ad b sk) v) = true) {M' : gM} (hM1 : M'.1.1 = M.1.1) (hM2 : M'.1.2.1 = M.1.2.1) (hne : ∀ q, q ≠ a → g_cell ca (g_ad b sk) M' q = g_cell ca (g_ad b sk) M q) (hfs : (g_fs (g_ad b sk) M a ci).set k (g_em (g_ad b sk) v) = g_fs (g_ad b sk) M' a ci)
    (hd : decode cc pc = .ok (.putfield index, 3)) (kk : g_W p l e R s m args below meth c Z D ca b sk al nL (pc + 3) lo st M' cl sl) : g_W p l e R s m args below meth c Z D ca b sk al nL pc lo (v :: .ref a :: st) M cl sl := by
  intro H locs ls h1 h2 h3 h4
  have hlt : a < M.1.1 := g_sn_lt h1.2.1 hsh
  have he : (g_wd ca (g_ad b sk) M)[a]? = some (g_ad b sk a, .inr (ci, g_fs (g_ad b sk) M a ci)) := by rw [g_wd_get hlt, g_cell_obj hsh]
  have hsh' : M'.1.2.1 a = (ci + 6, gN ci) := by rw [hM2]; exact hsh
  have fin : ∀ (H1 : Heap) (locs1 : List Loc), va_P D vwCl ((g_wd ca (g_ad b sk) M).set a (g_ad b sk a, .inr (ci, (g_fs (g_ad b sk) M a ci).set k (g_em (g_ad b sk) v)))) H1 → va_D (fun q => b ≤ q) ((g_wd ca (g_ad b sk) M).set a (g_ad b sk a, .inr (ci, (g_fs (g_ad b sk) M a ci).set k (g_em (g_ad b sk) v)))) → va_S (fun q => b ≤ q) s.heap H1 locs1 → W p l e R s m args below meth c H1 locs1 cl sl Z (F0 m (pc + 3) ls (st.map (g_em (g_ad b sk)))) := by
    intro H1 locs1 q1 _ q3
    rw [hfs, ← g_cell_obj (ca := ca) hsh'] at q1
    exact kk H1 locs1 ls (g_wr_set hM1 hM2 hne h1.2.1 q1 (g_S_le hbs q3)) q3 h3 (by rw [hM1]; exact h4)
  rcases hfin with hf | ⟨hf, hf2⟩
  · exact va_put hx hb hts (g_in hci) (gTy ci) (g_ty hci) (g_nm hci) hown hK h1.1 (g_wd_D h1.2.1.1) h2 a he (g_cl hci) k hk (hts _ hlink) (fun x hx => by rw [g_own hci hk] at hx; exact hx) hf (g_ty hci k hk) hn.1 hn.2 (by rw [g_fs_len]; exact hk) hd fin
  · by_cases hq : (gT ci k).2.2.2 = true
    · exact va_putF hx hb hts (g_in hci) (gTy ci) (g_ty hci) (g_nm hci) hown hK h1.1 (g_wd_D h1.2.1.1) h2 a he (g_cl hci) k hk (hts _ hlink) (fun x hx => by rw [g_own hci hk] at hx; exact hx) hq hf ((g_own hci hk).trans hf2) (g_ty hci k hk) hn.1 hn.2 (by rw [g_fs_len]; exact hk) hd fin
    · exact va_put hx hb hts (g_in hci) (gTy ci) (g_ty hci) (g_nm hci) hown hK h1.1 (g_wd_D h1.2.1.1) h2 a he (g_cl hci) k hk (hts _ hlink) (fun x hx => by rw [g_own hci hk] at hx; exact hx) (by simpa using hq) (g_ty hci k hk) hn.1 hn.2 (by rw [g_fs_len]; exact hk) hd fin
theorem gs_iaload (hx : p.tables.exec = Jvm.exec) (hb : c.code = cc) (hK : va_K D vwCl (g_tys ca) s) {a : Nat} {i : Int32} (hsh : (M.1.2.1 a).1 = 1) (hi : vp_in i (M.1.2.1 a).2) (hd : decode cc pc = .ok (.iaload, 1)) (kk : g_W p l e R s m args below meth c Z D ca b sk al nL (pc + 1) lo (.int (M.2.1 a i.toNatClampNeg) :: st) M cl sl) : g_W p l e R s m args below meth c Z D ca b sk al nL pc lo (.int i :: .ref a :: st) M cl sl := by
  intro H locs ls h1 h2 h3 h4
  have hlt : a < M.1.1 := g_sn_lt1 h1.2.1 hsh
  exact va_iald hx hb hK h1.1 a 0 (by rw [g_wd_get hlt, g_cell_int hsh]) rfl hi hd (kk H locs ls h1 h2 h3 h4)
theorem gs_laload (hx : p.tables.exec = Jvm.exec) (hb : c.code = cc) (hK : va_K D vwCl (g_tys ca) s) {a : Nat} {i : Int32} (hsh : (M.1.2.1 a).1 = 2) (hi : vp_in i (M.1.2.1 a).2) (hd : decode cc pc = .ok (.laload, 1)) (kk : g_W p l e R s m args below meth c Z D ca b sk al nL (pc + 1) lo (.long (M.2.2 a i.toNatClampNeg) :: st) M cl sl) : g_W p l e R s m args below meth c Z D ca b sk al nL pc lo (.int i :: .ref a :: st) M cl sl := by
  intro H locs ls h1 h2 h3 h4
  have hlt : a < M.1.1 := g_sn_lt1 h1.2.1 hsh
  exact va_lald hx hb hK h1.1 a 1 (by rw [g_wd_get hlt, g_cell_long hsh]) rfl hi hd (kk H locs ls h1 h2 h3 h4)
theorem g_kd {n : Nat} (h : 3 ≤ n ∧ n ≤ 5) : ∃ k, k < 3 ∧ n = k + 3 := ⟨n - 3, by omega, by omega⟩
theorem g_tys_at {k : Nat} (h : k < 3) : (g_tys ca)[k + 2]? = some (ca (k + 2), .object (gR (g_ac (k + 3)))) := by
  rcases k with _ | _ | _ | k
  · rfl
  · rfl
  · rfl
  · omega
theorem gs_aaload (hx : p.tables.exec = Jvm.exec) (hb : c.code = cc) (hK : va_K D vwCl (g_tys ca) s) {a q : Nat} {i : Int32} (hsh : 3 ≤ (M.1.2.1 a).1 ∧ (M.1.2.1 a).1 ≤ 5) (hi : vp_in i (M.1.2.1 a).2) (hq : M.1.2.2 a i.toNatClampNeg = some q) (hd : decode cc pc = .ok (.aaload, 1)) (kk : g_W p l e R s m args below meth c Z D ca b sk al nL (pc + 1) lo (.ref q :: st) M cl sl) : g_W p l e R s m args below meth c Z D ca b sk al nL pc lo (.int i :: .ref a :: st) M cl sl := by
  intro H locs ls h1 h2 h3 h4
  obtain ⟨k, hk, he⟩ := g_kd hsh
  have hlt : a < M.1.1 := g_sn_lt1 h1.2.1 he
  refine va_aldq hx hb hK h1.1 a (k + 2) (by rw [g_wd_get hlt, g_cell_ref hk he]) (g_tys_at hk) hi hd ?_
  show W p l e R s m args below meth c H locs cl sl Z (F0 m (pc + 1) ls (va_rf ((M.1.2.2 a i.toNatClampNeg).map (g_ad b sk)) :: _))
  rw [hq]
  exact kk H locs ls h1 h2 h3 h4
theorem gs_iastore (hx : p.tables.exec = Jvm.exec) (hb : c.code = cc) (hK : va_K D vwCl (g_tys ca) s) (hbs : b ≤ s.heap.size) {a : Nat} {i x : Int32} (hsh : (M.1.2.1 a).1 = 1) (hi : vp_in i (M.1.2.1 a).2) (hd : decode cc pc = .ok (.iastore, 1)) (kk : g_W p l e R s m args below meth c Z D ca b sk al nL (pc + 1) lo st (g_pi M a i.toNatClampNeg x) cl sl) : g_W p l e R s m args below meth c Z D ca b sk al nL pc lo (.int x :: .int i :: .ref a :: st) M cl sl := by
  intro H locs ls h1 h2 h3 h4
  have hlt : a < M.1.1 := g_sn_lt1 h1.2.1 hsh
  refine va_iast hx hb hK h1.1 (g_wd_D h1.2.1.1) h2 a 0 (by rw [g_wd_get hlt, g_cell_int hsh]) rfl hi hd (fun H1 locs1 q1 q2 q3 => ?_)
  refine kk H1 locs1 ls (g_wr_set (M := M) (a := a) rfl rfl g_pi_ne h1.2.1 ?_ (g_S_le hbs q3)) q3 h3 h4
  rw [g_cell_int (M := g_pi M a i.toNatClampNeg x) (a := a) hsh]
  have e1 : (g_pi M a i.toNatClampNeg x).2.1 a = upd (M.2.1 a) i.toNatClampNeg x := gU_eq
  rw [e1]
  exact q1
theorem gs_lastore (hx : p.tables.exec = Jvm.exec) (hb : c.code = cc) (hK : va_K D vwCl (g_tys ca) s) (hbs : b ≤ s.heap.size) {a : Nat} {i : Int32} {x : Int64} (hsh : (M.1.2.1 a).1 = 2) (hi : vp_in i (M.1.2.1 a).2) (hd : decode cc pc = .ok (.lastore, 1)) (kk : g_W p l e R s m args below meth c Z D ca b sk al nL (pc + 1) lo st (g_pl M a i.toNatClampNeg x) cl sl) : g_W p l e R s m args below meth c Z D ca b sk al nL pc lo (.long x :: .int i :: .ref a :: st) M cl sl := by
  intro H locs ls h1 h2 h3 h4
  have hlt : a < M.1.1 := g_sn_lt1 h1.2.1 hsh
  refine va_last hx hb hK h1.1 (g_wd_D h1.2.1.1) h2 a 1 (by rw [g_wd_get hlt, g_cell_long hsh]) rfl hi hd (fun H1 locs1 q1 q2 q3 => ?_)
  refine kk H1 locs1 ls (g_wr_set (M := M) (a := a) rfl rfl g_pl_ne h1.2.1 ?_ (g_S_le hbs q3)) q3 h3 h4
  rw [g_cell_long (M := g_pl M a i.toNatClampNeg x) (a := a) hsh]
  have e1 : (g_pl M a i.toNatClampNeg x).2.2 a = vp_updL (M.2.2 a) i.toNatClampNeg x := gU_eq
  rw [e1]
  exact q1
theorem g_ac_lt (n : Nat) : g_ac n < 10 := by
  unfold g_ac
  split <;> omega
theorem gs_aastore (hx : p.tables.exec = Jvm.exec) (hb : c.code = cc) (hK : va_K D vwCl (g_tys ca) s) (hbs : b ≤ s.heap.size) {a x : Nat} {i : Int32} (hsh : 3 ≤ (M.1.2.1 a).1 ∧ (M.1.2.1 a).1 ≤ 5) (hi : vp_in i (M.1.2.1 a).2) (hxs : M.1.2.1 x = (g_ac (M.1.2.1 a).1 + 6, gN (g_ac (M.1.2.1 a).1))) (hd : decode cc pc = .ok (.aastore, 1)) (kk : g_W p l e R s m args below meth c Z D ca b sk al nL (pc + 1) lo st (g_pr M a i.toNatClampNeg (some x)) cl sl) : g_W p l e R s m args below meth c Z D ca b sk al nL pc lo (.ref x :: .int i :: .ref a :: st) M cl sl := by
  intro H locs ls h1 h2 h3 h4
  obtain ⟨k, hk, he⟩ := g_kd hsh
  have hlt : a < M.1.1 := g_sn_lt1 h1.2.1 he
  rw [he] at hxs
  have hlx : x < M.1.1 := g_sn_lt h1.2.1 hxs
  refine va_astq (r := (gR (g_ac (k + 3)), gT (g_ac (k + 3)), gN (g_ac (k + 3)))) hx hb hK h1.1 (g_wd_D h1.2.1.1) h2 a (k + 2) x (g_ac (k + 3)) (by rw [g_wd_get hlt, g_cell_ref hk he]) (g_tys_at hk) (by rw [g_wd_get hlx, g_cell_obj hxs]) (g_cl (g_ac_lt _)) hi hd (fun H1 locs1 q1 q2 q3 => ?_)
  refine kk H1 locs1 ls (g_wr_set (M := M) (a := a) rfl rfl g_pr_ne h1.2.1 ?_ (g_S_le hbs q3)) q3 h3 h4
  rw [g_cell_ref (M := g_pr M a i.toNatClampNeg (some x)) (a := a) hk he]
  have e1 : (fun j => ((g_pr M a i.toNatClampNeg (some x)).1.2.2 a j).map (g_ad b sk)) = va_up (fun j => (M.1.2.2 a j).map (g_ad b sk)) i.toNatClampNeg (some (g_ad b sk x)) := by
    funext j
    by_cases hj : j = i.toNatClampNeg
    · simp [g_pr, gU, va_up, hj]
    · simp [g_pr, gU, va_up, hj]
  rw [e1]
  exact q1
theorem gs_alen (hx : p.tables.exec = Jvm.exec) (hb : c.code = cc) (hK : va_K D vwCl (g_tys ca) s) {a : Nat} (hsh : 1 ≤ (M.1.2.1 a).1 ∧ (M.1.2.1 a).1 ≤ 2) (hd : decode cc pc = .ok (.arraylength, 1)) (kk : g_W p l e R s m args below meth c Z D ca b sk al nL (pc + 1) lo (.int (nI (M.1.2.1 a).2) :: st) M cl sl) : g_W p l e R s m args below meth c Z D ca b sk al nL pc lo (.ref a :: st) M cl sl := by
  intro H locs ls h1 h2 h3 h4
  rcases (show (M.1.2.1 a).1 = 1 ∨ (M.1.2.1 a).1 = 2 by omega) with h | h
  · exact va_alen (x := ((M.1.2.1 a).2, .inl (M.2.1 a))) hx hb hK h1.1 a 0 (by rw [g_wd_get (g_sn_lt1 h1.2.1 h), g_cell_int h]) rfl rfl hd (kk H locs ls h1 h2 h3 h4)
  · exact va_alen (x := ((M.1.2.1 a).2, .inr (.inl (M.2.2 a)))) hx hb hK h1.1 a 1 (by rw [g_wd_get (g_sn_lt1 h1.2.1 h), g_cell_long h]) rfl rfl hd (kk H locs ls h1 h2 h3 h4)
end GS4
