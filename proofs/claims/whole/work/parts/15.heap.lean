/-! rows of the heap -/
theorem g_cell_congr {ca : Nat → ClassId} {ad : Nat → Nat} {M M' : gM} {q : Nat} (h1 : M'.1.2.1 q = M.1.2.1 q) (h2 : M'.2.1 q = M.2.1 q) (h3 : M'.2.2 q = M.2.2 q) (h4 : M'.1.2.2 q = M.1.2.2 q) : g_cell ca ad M' q = g_cell ca ad M q := by
  unfold g_cell g_fs
  have hf : ∀ c, g_fv ad M' q c = g_fv ad M q c := by
    intro c
    funext k
    unfold g_fv
    rw [h2, h3, h4]
  rw [h1, h2, h3, h4]
  simp only [hf]
theorem g_cell_obj {ca : Nat → ClassId} {ad : Nat → Nat} {M : gM} {a ci n : Nat} (h : M.1.2.1 a = (ci + 6, n)) : g_cell ca ad M a = .inr (ci, g_fs ad M a ci) := by
  unfold g_cell
  rw [h]
  show (if ci + 3 < 3 then _ else _) = _
  rw [if_neg (by omega)]
  rw [show ci + 3 - 3 = ci by omega]
theorem g_sh_eta {M : gM} {a k : Nat} (h : (M.1.2.1 a).1 = k) : M.1.2.1 a = (k, (M.1.2.1 a).2) := by rw [← h]
theorem g_cell_int {ca : Nat → ClassId} {ad : Nat → Nat} {M : gM} {a : Nat} (h : (M.1.2.1 a).1 = 1) : g_cell ca ad M a = .inl (ca 0, (M.1.2.1 a).2, .inl (M.2.1 a)) := by
  unfold g_cell
  rw [g_sh_eta h]
theorem g_cell_long {ca : Nat → ClassId} {ad : Nat → Nat} {M : gM} {a : Nat} (h : (M.1.2.1 a).1 = 2) : g_cell ca ad M a = .inl (ca 1, (M.1.2.1 a).2, .inr (.inl (M.2.2 a))) := by
  unfold g_cell
  rw [g_sh_eta h]
theorem g_cell_ref {ca : Nat → ClassId} {ad : Nat → Nat} {M : gM} {a k : Nat} (hk : k < 3) (h : (M.1.2.1 a).1 = k + 3) : g_cell ca ad M a = .inl (ca (k + 2), (M.1.2.1 a).2, .inr (.inr (.inr (.inr (fun i => (M.1.2.2 a i).map ad))))) := by
  unfold g_cell
  rw [g_sh_eta h]
  show (if k < 3 then _ else _) = _
  rw [if_pos hk]
theorem gU_eq {α : Type} {I : Nat → α} {a : Nat} {f : α} : gU I a f a = f := by simp [gU]
theorem gU_ne {α : Type} {I : Nat → α} {a q : Nat} {f : α} (h : q ≠ a) : gU I a f q = I q := by simp [gU, h]
theorem g_pi_ne {ca : Nat → ClassId} {ad : Nat → Nat} {M : gM} {a k : Nat} {v : Int32} : ∀ q, q ≠ a → g_cell ca ad (g_pi M a k v) q = g_cell ca ad M q := fun q h => g_cell_congr rfl (gU_ne h) rfl rfl
theorem g_pl_ne {ca : Nat → ClassId} {ad : Nat → Nat} {M : gM} {a k : Nat} {v : Int64} : ∀ q, q ≠ a → g_cell ca ad (g_pl M a k v) q = g_cell ca ad M q := fun q h => g_cell_congr rfl rfl (gU_ne h) rfl
theorem g_pr_ne {ca : Nat → ClassId} {ad : Nat → Nat} {M : gM} {a k : Nat} {v : Option Nat} : ∀ q, q ≠ a → g_cell ca ad (g_pr M a k v) q = g_cell ca ad M q := fun q h => g_cell_congr rfl rfl rfl (gU_ne h)
/-- what a field's value is, by its type -/
def g_tc (ty : FieldType) : Nat := match ty with
  | .int => 0 | .boolean => 1 | .long => 2 | .object _ => 3 | .array _ => 3 | _ => 4
theorem g_fs_len {ad : Nat → Nat} {M : gM} {a c : Nat} : (g_fs ad M a c).length = gN c := by simp [g_fs]
theorem g_fs_get {ad : Nat → Nat} {M : gM} {a c k : Nat} (h : k < gN c) : (g_fs ad M a c)[k]? = some (g_fv ad M a c k) := by simp [g_fs, h]
theorem g_fs_set {ad : Nat → Nat} {M M' : gM} {a c k : Nat} (h : ∀ j, j ≠ k → g_fv ad M' a c j = g_fv ad M a c j) : (g_fs ad M a c).set k (g_fv ad M' a c k) = g_fs ad M' a c := by
  apply List.ext_getElem?
  intro i
  rw [List.getElem?_set, g_fs_len]
  by_cases hi : k = i
  · subst hi
    by_cases hl : k < gN c
    · rw [if_pos rfl, if_pos hl, g_fs_get hl]
    · rw [if_pos rfl, if_neg hl]
      simp [g_fs, hl]
  · rw [if_neg hi]
    by_cases hl : i < gN c
    · rw [g_fs_get hl, g_fs_get hl, h i (fun z => hi z.symm)]
    · simp [g_fs, hl]
theorem g_fv_i {ad : Nat → Nat} {M : gM} {a c k : Nat} (h : g_tc (gTy c k) = 0 ∨ g_tc (gTy c k) = 1) : g_fv ad M a c k = .int (M.2.1 a k) := by
  unfold g_fv
  cases hty : gTy c k <;> rw [hty] at h <;> simp_all [g_tc]
theorem g_fv_l {ad : Nat → Nat} {M : gM} {a c k : Nat} (h : g_tc (gTy c k) = 2) : g_fv ad M a c k = .long (M.2.2 a k) := by
  unfold g_fv
  cases hty : gTy c k <;> rw [hty] at h <;> simp_all [g_tc]
theorem g_fv_r {ad : Nat → Nat} {M : gM} {a c k : Nat} (h : g_tc (gTy c k) = 3) : g_fv ad M a c k = va_rf ((M.1.2.2 a k).map ad) := by
  unfold g_fv
  cases hty : gTy c k <;> rw [hty] at h <;> simp_all [g_tc]
theorem g_fv_congr {ad : Nat → Nat} {M M' : gM} {a c j : Nat} (h2 : M'.2.1 a j = M.2.1 a j) (h3 : M'.2.2 a j = M.2.2 a j) (h4 : M'.1.2.2 a j = M.1.2.2 a j) : g_fv ad M' a c j = g_fv ad M a c j := by
  unfold g_fv
  rw [h2, h3, h4]
theorem g_pi_fs {ad : Nat → Nat} {M : gM} {a c k : Nat} {v : Int32} (h : g_tc (gTy c k) = 0 ∨ g_tc (gTy c k) = 1) : (g_fs ad M a c).set k (.int v) = g_fs ad (g_pi M a k v) a c := by
  have h1 : g_fv ad (g_pi M a k v) a c k = .int v := by rw [g_fv_i h]; simp [g_pi, gU, upd]
  rw [← h1]
  exact g_fs_set (fun j hj => g_fv_congr (by simp [g_pi, gU, upd, hj]) rfl rfl)
theorem g_pl_fs {ad : Nat → Nat} {M : gM} {a c k : Nat} {v : Int64} (h : g_tc (gTy c k) = 2) : (g_fs ad M a c).set k (.long v) = g_fs ad (g_pl M a k v) a c := by
  have h1 : g_fv ad (g_pl M a k v) a c k = .long v := by rw [g_fv_l h]; simp [g_pl, gU, vp_updL]
  rw [← h1]
  exact g_fs_set (fun j hj => g_fv_congr rfl (by simp [g_pl, gU, vp_updL, hj]) rfl)
theorem g_pr_fs {ad : Nat → Nat} {M : gM} {a c k v : Nat} (h : g_tc (gTy c k) = 3) : (g_fs ad M a c).set k (.ref (ad v)) = g_fs ad (g_pr M a k (some v)) a c := by
  have h1 : g_fv ad (g_pr M a k (some v)) a c k = .ref (ad v) := by rw [g_fv_r h]; simp [g_pr, gU, va_rf]
  rw [← h1]
  exact g_fs_set (fun j hj => g_fv_congr rfl rfl (by simp [g_pr, gU, hj]))
section GS3
variable {p : Program} {l : Launch} {e : Env} {R : Room} {s : State} {m : MethodId} {args : Array Value} {below : List Frame} {meth : Method} {c : Code} {Z : State → Prop}
variable {D : va_G} {ca : Nat → ClassId} {b : Nat} {sk : Nat → Nat} {al : Bool} {nL : Nat} {cc : ByteArray} {pc : Nat} {lo : gL} {st : List Value} {M : gM} {cl sl : Nat} {own : String}
theorem g_sn_lt {M : gM} (h : g_sn M) {a k n : Nat} (hs : M.1.2.1 a = (k + 1, n)) : a < M.1.1 := h.2 a (by rw [hs]; simp)
theorem g_sn_lt1 {M : gM} (h : g_sn M) {a k : Nat} (hs : (M.1.2.1 a).1 = k + 1) : a < M.1.1 := h.2 a (by rw [hs]; simp)
theorem gs_get (hx : p.tables.exec = Jvm.exec) (hb : c.code = cc) (hown : s.vm.findClass own = some m.cls) (hts : ∀ w ∈ gt, w.before args s = true) (hK : va_K D vwCl (g_tys ca) s) {a ci k index : Nat} (hci : ci < 10) (hk : k < gN ci) (hsh : M.1.2.1 a = (ci + 6, gN ci)) (hlink : Cond.fieldLink own index (gR ci) (gT ci k).2.1 (gT ci k).2.2.1 ∈ gt) {v : Value} (hv : g_fv (g_ad b sk) M a ci k = g_em (g_ad b sk) v)
    (hd : decode cc pc = .ok (.getfield index, 3)) (kk : g_W p l e R s m args below meth c Z D ca b sk al nL (pc + 3) lo (v :: st) M cl sl) : g_W p l e R s m args below meth c Z D ca b sk al nL pc lo (.ref a :: st) M cl sl := by
  intro H locs ls h1 h2 h3 h4
  have hlt : a < M.1.1 := g_sn_lt h1.2.1 hsh
  have he : (g_wd ca (g_ad b sk) M)[a]? = some (g_ad b sk a, .inr (ci, g_fs (g_ad b sk) M a ci)) := by rw [g_wd_get hlt, g_cell_obj hsh]
  refine va_get hx hb hts (g_in hci) hown hK h1.1 a he (g_cl hci) k hk (hts _ hlink) (fun x hx => by rw [g_own hci hk] at hx; exact hx) (v := g_em (g_ad b sk) v) (by rw [g_fs_get hk, hv]) hd ?_
  exact kk H locs ls h1 h2 h3 h4
theorem g_wr_set {M M' : gM} {H1 : Heap} {a : Nat} (hn : M'.1.1 = M.1.1) (hsh : M'.1.2.1 = M.1.2.1) (hne : ∀ q, q ≠ a → g_cell ca (g_ad b sk) M' q = g_cell ca (g_ad b sk) M q) (hsn : g_sn M) (hP : va_P D vwCl ((g_wd ca (g_ad b sk) M).set a (g_ad b sk a, g_cell ca (g_ad b sk) M' a)) H1) (hbl : b ≤ H1.size) : g_wr D ca b sk M' H1 := by
  rw [g_wd_set hn hne] at hP
  exact ⟨hP, ⟨by rw [hn]; exact hsn.1, fun q hq => by rw [hn]; exact hsn.2 q (by rw [← hsh]; exact hq)⟩, hbl⟩
end GS3
