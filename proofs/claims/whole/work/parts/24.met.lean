/-! a method's condition gives its contract -/
def g_mall (mt : Nat → gD) (mk : Nat → Nat) (nm : Nat) (md : gD) : List Nat → Nat → Bool
  | [], _ => true
  | pc :: r, k => g_chk mt mk nm md.1.cls md.1.name md.2.1 md.2.2.2.2.2.2.1 (g_blk md k).2 (g_blk md k).1 pc && g_mall mt mk nm md r (k + 1)
theorem g_mall_at {mt : Nat → gD} {mk : Nat → Nat} {nm : Nat} {md : gD} : ∀ {pcs : List Nat} {k0 : Nat}, g_mall mt mk nm md pcs k0 = true → ∀ (j pc : Nat), pcs[j]? = some pc → g_chk mt mk nm md.1.cls md.1.name md.2.1 md.2.2.2.2.2.2.1 (g_blk md (k0 + j)).2 (g_blk md (k0 + j)).1 pc = true := by
  intro pcs
  induction pcs with
  | nil => intro k0 _ j pc h; simp at h
  | cons p r ih =>
    intro k0 h j pc hj
    simp only [g_mall, Bool.and_eq_true] at h
    cases j with
    | zero =>
      simp at hj
      subst hj
      exact h.1
    | succ j =>
      have := ih h.2 j pc (by simpa using hj)
      rwa [show k0 + 1 + j = k0 + (j + 1) by omega] at this
/-- all that is checked of a method by the kernel -/
def g_mchk (mt : Nat → gD) (mk : Nat → Nat) (nm : Nat) (md : gD) : Bool := decide (md.2.2.2.2.2.2.1[0]? = some 0) && g_mall mt mk nm md md.2.2.2.2.2.2.1 0
theorem g_args {ad : Nat → Nat} : ∀ (as : List Value) (k : Nat), (as.all fun v => v.category == 1) = true → ∀ (i : Nat) (v : Value), as[i]? = some v → (k + i, g_em ad v) ∈ lv_args k (as.map (g_em ad)) := by
  intro as
  induction as with
  | nil => intro k _ i v h; simp at h
  | cons a r ih =>
    intro k hc i v h
    simp only [List.all_cons, Bool.and_eq_true, beq_iff_eq] at hc
    simp only [List.map_cons, lv_args, g_em_cat, hc.1]
    cases i with
    | zero =>
      simp at h
      subst h
      exact List.mem_cons_self
    | succ i =>
      have := ih (k + 1) hc.2 i v (by simpa using h)
      rw [show k + (i + 1) = k + 1 + i by omega]
      exact List.mem_cons_of_mem _ this
theorem g_sl_len {ad : Nat → Nat} : ∀ (as : List Value), (as.all fun v => v.category == 1) = true → (lg_sl (as.map (g_em ad))).length = as.length := by
  intro as
  induction as with
  | nil => intro _; rfl
  | cons a r ih =>
    intro hc
    simp only [List.all_cons, Bool.and_eq_true, beq_iff_eq] at hc
    have h1 := ih hc.2
    unfold lg_sl at h1 ⊢
    simp only [List.map_cons, List.flatMap_cons, g_em_cat, hc.1, List.length_append, h1, List.length_cons]
    simp
    omega
theorem g_loc {ad : Nat → Nat} {as : List Value} {n : Nat} (hc : (as.all fun v => v.category == 1) = true) (hn : as.length ≤ n) : g_lc ad ((lg_sl (as.map (g_em ad)) ++ List.replicate (n - (lg_sl (as.map (g_em ad))).length) Slot.unset).toArray) n (as.map some ++ List.replicate (n - as.length) none) := by
  have h := lv_entry (as.map (g_em ad)) (n := n) (by rw [g_sl_len as hc]; exact hn)
  refine ⟨by simp; omega, h.1, h.2.1, fun i v hv => ?_⟩
  have hi : as[i]? = some v := by
    rw [List.getElem?_append] at hv
    split at hv
    · rw [List.getElem?_map] at hv
      cases h1 : as[i]? with
      | none => rw [h1] at hv; cases hv
      | some w => rw [h1] at hv; simp at hv; rw [hv]
    · rw [List.getElem?_replicate] at hv
      split at hv <;> simp at hv
  have h2 := h.2.2 _ (g_args (ad := ad) as 0 hc i v hi)
  simpa using h2
theorem g_met {l : Launch} {D : va_G} {ca : Nat → ClassId} {b : Nat} {sk sv : Nat → Nat} {al : Bool} {mt : Nat → gD} {mk : Nat → Nat} {nm : Nat} (hSK : g_SK l b sk sv) (hmok : ∀ y, y < nm → g_mok (mt y) (mk y)) (hchk : ∀ y, y < nm → g_mchk mt mk nm (mt y) = true) :
    ∀ (d y : Nat) (as : List Value) (M : gM) (Q : Option Value → gM → Prop), y < nm → g_m gS0 mt al d y as M Q → Met l (mt y).1 (g_ws (mt y)) (g_rm d (mt y).2.2.2.2.2.1.1 (mt y).2.2.2.2.2.1.2) (g_Pc D ca b sk sv al as M) (g_Qc D ca b sk al (mt y).2.2.2.2.2.1.1 M Q) (mt y).2.2.2.2.2.1.1 (mt y).2.2.2.2.2.1.2 (fun q => b ≤ q) := by
  intro d
  induction d with
  | zero => intro y as M Q _ h; exact h.elim
  | succ d ih =>
    intro y as M Q hy h
    obtain ⟨ha1, ha2, ha3, hJ⟩ := h
    have hok := hmok y hy
    have hck := hchk y hy
    simp only [g_mchk, Bool.and_eq_true, decide_eq_true_eq] at hck
    refine Met.ofW (cc := (mt y).2.1) (maxL := (mt y).2.2.1) (ret := (mt y).2.2.2.1) hok.2.2.1 rfl ?_
    intro p e s m args below meth c s₁ B hml hv
    obtain ⟨hargs, hw, hK, hX, hsz⟩ := hv
    have hts0 := atoms_spec (ws := g_ws (mt y)) B.pre
    have hts : ∀ w ∈ gt, w.before args s = true := fun w h => hts0 w (List.mem_cons_of_mem _ h)
    have hown : s.vm.findClass (mt y).1.cls = some m.cls := findClass_of_methodNamed B.named
    have hname : meth.name = (mt y).1.name := (name_of_methodNamed B.named B.method).1
    have hbs : b ≤ s.heap.size := hw.2.2
    have key := hJ (fun k lo st M' cl sl => cl ≤ (mt y).2.2.2.2.2.1.1 → sl ≤ (mt y).2.2.2.2.2.1.2 → ∀ pc, (mt y).2.2.2.2.2.2.1[k]? = some pc → g_W p l e (headSpec (g_ws (mt y)) (g_rm (d + 1) (mt y).2.2.2.2.2.1.1 (mt y).2.2.2.2.2.1.2)).room s m args below meth c (MQ below (g_Qc D ca b sk al (mt y).2.2.2.2.2.1.1 M Q) args s (mt y).2.2.2.2.2.1.1 (mt y).2.2.2.2.2.1.2 (fun q => b ≤ q)) D ca b sk al (mt y).2.2.1 pc lo st M' cl sl)
      (fun k lo st M' cl sl hwp hcl hsl pc hpc => by
        have hc1 := g_mall_at hck.2 k pc hpc
        rw [Nat.zero_add] at hc1
        refine g_block (d := d) (mt := mt) (mk := mk) (nm := nm) (nk := (g_blk (mt y) k).2) (pcs := (mt y).2.2.2.2.2.2.1) (own := (mt y).1.cls) (rt := (mt y).2.2.2.1) (C := g_m gS0 mt al d) B.exec B.bytes hml hown hts B.returns B.notSynchronized hK hX hbs hSK hsz ?_ ?_ rfl rfl hmok (fun y' as' M' Q' hy' h' => ih y' as' M' Q' hy' h') ?_ (g_blk (mt y) k).1 pc lo st M' cl sl (by rw [hname]; exact hc1) hcl hsl hwp
        · show d + 1 + 4 = d + 5
          omega
        · show 300 + 60 * (d + 1) = 360 + 60 * d
          omega
        · intro k lo st M' cl sl g1 g2 g3 pc g4
          exact g3 g1 g2 pc g4)
      (Nat.zero_le _) (Nat.zero_le _) 0 hck.1
    rw [hargs, lg_entry_eq]
    rw [hargs] at key
    exact key s.heap [] _ hw va_S.rf (g_loc ha3 ha2) (fun h => by have := hsz h; omega)
