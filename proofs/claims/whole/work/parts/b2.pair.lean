/-! both objects asked alike: the same answer, and the invariant again -/
section PAIR
variable {d t p q h a k m n j v r i c u s w o tt dr y b cnt ic tn flt pl tr : Nat} {E : gE} {I J K : Nat → Nat → Int32} {L L' : Nat → Nat → Int64} {T S V : zA} {U G : Nat → zA} {tp : Nat → Nat} {a0 a1 a2 a3 a4 : Int32} {Q : Option Value → gM → Prop}
def LV (o y n : Nat) (E : gE) (I : Nat → Nat → Int32) : Prop := ∃ tt dr T S cnt ic U G tn tp flt pl tr, LIv E I o tt dr y T S cnt ic U G tn tp flt pl tr n ∧ E.2.1 (y + 18) = (2, 1)
def PR (d o y n k1 k2 : Nat) (as : List Value) (M : gM) : Prop := gm d k1 (.ref o :: as) M (fun r M1 => ∃ v : Int32, r = some (.int v) ∧ M1.1.2.1 = M.1.2.1 ∧ gm d k2 (.ref y :: as) M1 (fun r2 M2 => r2 = some (.int v) ∧ LV o y (n + 40) M2.1 M2.2.1))
theorem YO_8 (hY : YO E I y T S cnt ic U G tn tp flt pl tr) : tr < 8 := hY.2.2.2.2.2.2.2.2.2.2.2
theorem tld_has {x : Int32} (h : hasI (zP T) x = true) : tldB T = true := by
  unfold hasI at h
  rw [decide_eq_true_eq] at h
  unfold tldB
  rw [decide_eq_true_eq]
  rcases Nat.eq_zero_or_pos (zP T) with e | e
  · rw [e] at h
    exact absurd h.2 h.1
  · exact e
theorem tld_lays {x z : Int32} (h : qs_lays T S x z = 0) : tldB T = true := by
  unfold qs_lays at h
  split at h
  · next g => rw [Bool.and_eq_true] at g; exact tld_has g.1
  · cases h
theorem tld_side {x : Int32} (h : sidB T x = true) : tldB T = true := by
  unfold sidB at h; rw [Bool.and_eq_true] at h; exact h.1
theorem tld_night (h : qs_night T S = 0) : tldB T = true := by
  unfold qs_night at h
  split at h
  · assumption
  · cases h
theorem tld_nights {x : Int32} (h : qs_nights T x = 0) : tldB T = true ∧ cl x ≤ 40 := by
  unfold qs_nights at h
  split at h
  · next g =>
    refine ⟨g, ?_⟩
    split at h
    · next g2 => obtain ⟨a, h1, h2, h3, h4⟩ := n40_t g2; omega
    · cases h
  · cases h
theorem tld_seed {x : Int32} (h : qs_seed T x = 0) : tldB T = true := by
  unfold qs_seed at h
  split at h
  · assumption
  · cases h
theorem tld_image (h : qs_image T ic = 0) : tldB T = true := by
  unfold qs_image at h
  split at h
  · assumption
  · cases h
theorem un_undo (hU : zUn T S cnt ic) (hc : cnt ≠ 0) : zUn T V k ic := fun g => absurd (hU g).2.2.2.1 hc
theorem un_back {x : Int32} (hU : zUn T S cnt ic) (hc : hasI ic x = true) : zUn T V k ic := fun g => by
  have e := (hU g).2.2.2.2
  rw [e] at hc
  unfold hasI at hc
  rw [decide_eq_true_eq] at hc
  exact absurd hc.2 hc.1
theorem un_seed {x : Int32} (h : qs_seed T x = 0) : zUn T V cnt ic := zUn_t (tld_seed h)
theorem zU_61 (hk : k ≠ 6) : zU S k j v 6 1 = S 6 1 := by
  show (if 6 = k ∧ 1 = j then v else S 6 1) = S 6 1
  rw [if_neg (by omega)]
theorem zU_60 : zU S 6 0 v 6 1 = S 6 1 := by
  show (if 6 = 6 ∧ 1 = 0 then v else S 6 1) = S 6 1
  rw [if_neg (by omega)]
theorem zLy_61 : zLy T S a 6 1 = S 6 1 := zLayP_k (by omega)
theorem nb_S (h : nbP S cnt ic U G n) (hV : V 6 1 ≤ n) : nbP V cnt ic U G n := ⟨hV, h.2.1, h.2.2⟩
theorem fn_P (h : (fnX tp a).1 = 0) : tldB (rdY tp a).2 = true := by
  unfold fnX at h
  split at h
  · exact absurd h (lxF_ne (by omega))
  · next g => unfold tldB; rw [decide_eq_true_eq]; omega
theorem LM_sw (h : LM E y) (hy : o + 254 ≤ y) : LM (swE E o tt dr) y := by
  have e : (swE E o tt dr).2.2 y = E.2.2 y := by
    show gU (gU E.2.2 (o + 18) _) o _ y = _
    rw [gU_oth (by omega), gU_oth (by omega)]
  unfold LM at h ⊢
  rw [e]
  exact h
theorem YO_sw (h : YO E I y T S cnt ic U G tn tp flt pl tr) (hy : o + 254 ≤ y) : YO (swE E o tt dr) I y T S cnt ic U G tn tp flt pl tr := ⟨LM_sw h.1 hy, h.2⟩
theorem zp_feed (h : LV o y n E I) (hn : n ≤ 100000) : PR (d + 40) o y n 139 211 [.int a0, .int a1, .int a2, .int a3, .int a4] (E, I, L) := by
  obtain ⟨tt, dr, T, S, cnt, ic, U, G, tn, tp, flt, pl, tr, ⟨hX, hY, hU, hb, hoy⟩, hs⟩ := h
  have hw : S 6 1 < 900000 := by have := hb.1; omega
  have hb40 := nb_le hb (show n ≤ n + 40 by omega)
  exact t_feed hX (fun hz => ⟨_, rfl, rfl, m_feed hY (fun _ K hY2 hK => ⟨rfl, ⟨tt, dr, _, _, _, _, _, _, _, _, _, _, _, ⟨XO_all hX (fun a g1 g2 => hK a (by omega)), hY2, hU, hb40, hoy⟩, hs⟩⟩) (fun z => absurd hz z)⟩)
    (fun hz J hX2 hJ => ⟨_, rfl, rfl, m_feed (YO_all hY (fun a g1 g2 => hJ a (by omega))) (fun z => absurd z hz) (fun _ K hY2 hK => ⟨rfl, ⟨tt, dr, _, _, _, _, _, _, _, _, _, _, _, ⟨XO_all hX2 (fun a g1 g2 => hK a (by omega)), hY2, hU, hb40, hoy⟩, hs⟩⟩)⟩)
theorem zp_towns (h : LV o y n E I) (hn : n ≤ 100000) : PR (d + 40) o y n 141 212 [.int a0] (E, I, L) := by
  obtain ⟨tt, dr, T, S, cnt, ic, U, G, tn, tp, flt, pl, tr, ⟨hX, hY, hU, hb, hoy⟩, hs⟩ := h
  have hw : S 6 1 < 900000 := by have := hb.1; omega
  have hb40 := nb_le hb (show n ≤ n + 40 by omega)
  exact t_towns hX
    (fun hz J hX2 hJ => ⟨_, rfl, rfl, mo_towns (YO_all hY (fun a g1 g2 => hJ a (by omega))) (fun _ K hY2 hK => ⟨rfl, ⟨tt, dr, _, _, _, _, _, _, _, _, _, _, _, ⟨XO_all hX2 (fun a g1 g2 => hK a (by omega)), hY2, hU, hb40, hoy⟩, hs⟩⟩) (fun z => absurd z hz) (fun z => absurd z hz)⟩)
    (fun hz hf J L' hX2 hJ hL' => ⟨_, rfl, rfl, mo_towns (YO_all hY (fun a g1 g2 => hJ a (by omega))) (fun z => absurd hz z) (fun _ _ K hY2 hK => ⟨rfl, ⟨tt, dr, _, _, _, _, _, _, _, _, _, _, _, ⟨XO_all hX2 (fun a g1 g2 => hK a (by omega)), hY2, hU, hb40, hoy⟩, hs⟩⟩) (fun _ z => absurd z hf)⟩)
    (fun hz hf J L' hX2 hJ hL' => ⟨_, rfl, rfl, mo_towns (YO_sw (YO_all hY (fun a g1 g2 => hJ a (by omega))) hoy) (fun z => absurd hz z) (fun _ z => absurd hf z) (fun _ _ K hY2 hK => ⟨rfl, ⟨dr, tt, _, _, _, _, _, _, _, _, _, _, _, ⟨XO_all hX2 (fun a g1 g2 => hK a (by omega)), hY2, zUn_t (fn_P hf), ⟨by rw [zBeg_k (by omega)]; omega, fun j hj => absurd hj (by omega), fun j hj => absurd hj (by omega)⟩, hoy⟩, hs⟩⟩)⟩)
theorem zp_fault (h : LV o y n E I) (hn : n ≤ 100000) : PR (d + 40) o y n 145 249 [] (E, I, L) := by
  obtain ⟨tt, dr, T, S, cnt, ic, U, G, tn, tp, flt, pl, tr, ⟨hX, hY, hU, hb, hoy⟩, hs⟩ := h
  have hw : S 6 1 < 900000 := by have := hb.1; omega
  have hb40 := nb_le hb (show n ≤ n + 40 by omega)
  unfold PR
  rw [t_fault hX]
  exact ⟨_, rfl, rfl, m_fault (hY := hY)  (hQ := fun K hY2 hK => ⟨rfl, ⟨tt, dr, _, _, _, _, _, _, _, _, _, _, _, ⟨XO_all hX (fun a g1 g2 => hK a (by omega)), hY2, hU, hb40, hoy⟩, hs⟩⟩)⟩
theorem zp_where (h : LV o y n E I) (hn : n ≤ 100000) : PR (d + 40) o y n 146 250 [] (E, I, L) := by
  obtain ⟨tt, dr, T, S, cnt, ic, U, G, tn, tp, flt, pl, tr, ⟨hX, hY, hU, hb, hoy⟩, hs⟩ := h
  have hw : S 6 1 < 900000 := by have := hb.1; omega
  have hb40 := nb_le hb (show n ≤ n + 40 by omega)
  unfold PR
  rw [t_where hX]
  exact ⟨_, rfl, rfl, m_where (hY := hY)  (hQ := fun K hY2 hK => ⟨rfl, ⟨tt, dr, _, _, _, _, _, _, _, _, _, _, _, ⟨XO_all hX (fun a g1 g2 => hK a (by omega)), hY2, hU, hb40, hoy⟩, hs⟩⟩)⟩
theorem zp_house (h : LV o y n E I) (hn : n ≤ 100000) : PR (d + 40) o y n 147 251 [.int a0, .int a1] (E, I, L) := by
  obtain ⟨tt, dr, T, S, cnt, ic, U, G, tn, tp, flt, pl, tr, ⟨hX, hY, hU, hb, hoy⟩, hs⟩ := h
  have hw : S 6 1 < 900000 := by have := hb.1; omega
  have hb40 := nb_le hb (show n ≤ n + 40 by omega)
  unfold PR
  rw [t_house hX]
  exact ⟨_, rfl, rfl, m_house (hY := YO_all hY (fun a g1 g2 => gU_oth (by omega))) (hU := hU) (hQ := fun K hY2 hK => ⟨rfl, ⟨tt, dr, _, _, _, _, _, _, _, _, _, _, _, ⟨XO_all (XO_tr hX (YO_8 hY2)) (fun a g1 g2 => hK a (by omega)), hY2, hU, hb40, hoy⟩, hs⟩⟩)⟩
theorem zp_person (h : LV o y n E I) (hn : n ≤ 100000) : PR (d + 40) o y n 149 253 [.int a0, .int a1] (E, I, L) := by
  obtain ⟨tt, dr, T, S, cnt, ic, U, G, tn, tp, flt, pl, tr, ⟨hX, hY, hU, hb, hoy⟩, hs⟩ := h
  have hw : S 6 1 < 900000 := by have := hb.1; omega
  have hb40 := nb_le hb (show n ≤ n + 40 by omega)
  unfold PR
  rw [t_person hX]
  exact ⟨_, rfl, rfl, m_person (hY := YO_all hY (fun a g1 g2 => gU_oth (by omega))) (hU := hU) (hQ := fun K hY2 hK => ⟨rfl, ⟨tt, dr, _, _, _, _, _, _, _, _, _, _, _, ⟨XO_all (XO_tr hX (YO_8 hY2)) (fun a g1 g2 => hK a (by omega)), hY2, hU, hb40, hoy⟩, hs⟩⟩)⟩
theorem zp_houseOf (h : LV o y n E I) (hn : n ≤ 100000) : PR (d + 40) o y n 151 256 [.int a0] (E, I, L) := by
  obtain ⟨tt, dr, T, S, cnt, ic, U, G, tn, tp, flt, pl, tr, ⟨hX, hY, hU, hb, hoy⟩, hs⟩ := h
  have hw : S 6 1 < 900000 := by have := hb.1; omega
  have hb40 := nb_le hb (show n ≤ n + 40 by omega)
  unfold PR
  rw [t_houseOf hX]
  exact ⟨_, rfl, rfl, m_houseOf (hY := YO_all hY (fun a g1 g2 => gU_oth (by omega))) (hU := hU) (hQ := fun K hY2 hK => ⟨rfl, ⟨tt, dr, _, _, _, _, _, _, _, _, _, _, _, ⟨XO_all (XO_tr hX (YO_8 hY2)) (fun a g1 g2 => hK a (by omega)), hY2, hU, hb40, hoy⟩, hs⟩⟩)⟩
theorem zp_wants (h : LV o y n E I) (hn : n ≤ 100000) : PR (d + 40) o y n 153 258 [.int a0, .int a1] (E, I, L) := by
  obtain ⟨tt, dr, T, S, cnt, ic, U, G, tn, tp, flt, pl, tr, ⟨hX, hY, hU, hb, hoy⟩, hs⟩ := h
  have hw : S 6 1 < 900000 := by have := hb.1; omega
  have hb40 := nb_le hb (show n ≤ n + 40 by omega)
  unfold PR
  rw [t_wants hX]
  exact ⟨_, rfl, rfl, m_wants (hY := YO_all hY (fun a g1 g2 => gU_oth (by omega))) (hU := hU) (hQ := fun K hY2 hK => ⟨rfl, ⟨tt, dr, _, _, _, _, _, _, _, _, _, _, _, ⟨XO_all (XO_tr hX (YO_8 hY2)) (fun a g1 g2 => hK a (by omega)), hY2, hU, hb40, hoy⟩, hs⟩⟩)⟩
theorem zp_bed (h : LV o y n E I) (hn : n ≤ 100000) : PR (d + 40) o y n 154 259 [.int a0] (E, I, L) := by
  obtain ⟨tt, dr, T, S, cnt, ic, U, G, tn, tp, flt, pl, tr, ⟨hX, hY, hU, hb, hoy⟩, hs⟩ := h
  have hw : S 6 1 < 900000 := by have := hb.1; omega
  have hb40 := nb_le hb (show n ≤ n + 40 by omega)
  unfold PR
  rw [t_bed hX]
  exact ⟨_, rfl, rfl, m_bed (hY := YO_all hY (fun a g1 g2 => gU_oth (by omega))) (hU := hU) (hQ := fun K hY2 hK => ⟨rfl, ⟨tt, dr, _, _, _, _, _, _, _, _, _, _, _, ⟨XO_all (XO_tr hX (YO_8 hY2)) (fun a g1 g2 => hK a (by omega)), hY2, hU, hb40, hoy⟩, hs⟩⟩)⟩
theorem zp_who (h : LV o y n E I) (hn : n ≤ 100000) : PR (d + 40) o y n 155 261 [.int a0] (E, I, L) := by
  obtain ⟨tt, dr, T, S, cnt, ic, U, G, tn, tp, flt, pl, tr, ⟨hX, hY, hU, hb, hoy⟩, hs⟩ := h
  have hw : S 6 1 < 900000 := by have := hb.1; omega
  have hb40 := nb_le hb (show n ≤ n + 40 by omega)
  unfold PR
  rw [t_who hX]
  exact ⟨_, rfl, rfl, m_who (hY := YO_all hY (fun a g1 g2 => gU_oth (by omega))) (hU := hU) (hQ := fun K hY2 hK => ⟨rfl, ⟨tt, dr, _, _, _, _, _, _, _, _, _, _, _, ⟨XO_all (XO_tr hX (YO_8 hY2)) (fun a g1 g2 => hK a (by omega)), hY2, hU, hb40, hoy⟩, hs⟩⟩)⟩
theorem zp_wrong (h : LV o y n E I) (hn : n ≤ 100000) : PR (d + 40) o y n 156 262 [.int a0] (E, I, L) := by
  obtain ⟨tt, dr, T, S, cnt, ic, U, G, tn, tp, flt, pl, tr, ⟨hX, hY, hU, hb, hoy⟩, hs⟩ := h
  have hw : S 6 1 < 900000 := by have := hb.1; omega
  have hb40 := nb_le hb (show n ≤ n + 40 by omega)
  unfold PR
  rw [t_wrong hX]
  exact ⟨_, rfl, rfl, m_wrong (hY := YO_all hY (fun a g1 g2 => gU_oth (by omega)))  (hQ := fun K hY2 hK => ⟨rfl, ⟨tt, dr, _, _, _, _, _, _, _, _, _, _, _, ⟨XO_all (XO_tr hX (YO_8 hY2)) (fun a g1 g2 => hK a (by omega)), hY2, hU, hb40, hoy⟩, hs⟩⟩)⟩
theorem zp_firstWrong (h : LV o y n E I) (hn : n ≤ 100000) : PR (d + 40) o y n 157 267 [] (E, I, L) := by
  obtain ⟨tt, dr, T, S, cnt, ic, U, G, tn, tp, flt, pl, tr, ⟨hX, hY, hU, hb, hoy⟩, hs⟩ := h
  have hw : S 6 1 < 900000 := by have := hb.1; omega
  have hb40 := nb_le hb (show n ≤ n + 40 by omega)
  unfold PR
  rw [t_firstWrong hX]
  exact ⟨_, rfl, rfl, m_firstWrong (hY := YO_all hY (fun a g1 g2 => gU_oth (by omega)))  (hQ := fun K hY2 hK => ⟨rfl, ⟨tt, dr, _, _, _, _, _, _, _, _, _, _, _, ⟨XO_all (XO_tr hX (YO_8 hY2)) (fun a g1 g2 => hK a (by omega)), hY2, hU, hb40, hoy⟩, hs⟩⟩)⟩
theorem zp_wrongIn (h : LV o y n E I) (hn : n ≤ 100000) : PR (d + 40) o y n 159 269 [.int a0, .int a1] (E, I, L) := by
  obtain ⟨tt, dr, T, S, cnt, ic, U, G, tn, tp, flt, pl, tr, ⟨hX, hY, hU, hb, hoy⟩, hs⟩ := h
  have hw : S 6 1 < 900000 := by have := hb.1; omega
  have hb40 := nb_le hb (show n ≤ n + 40 by omega)
  unfold PR
  rw [t_wrongIn hX]
  exact ⟨_, rfl, rfl, m_wrongIn (hY := YO_all hY (fun a g1 g2 => gU_oth (by omega))) (hU := hU) (hQ := fun K hY2 hK => ⟨rfl, ⟨tt, dr, _, _, _, _, _, _, _, _, _, _, _, ⟨XO_all (XO_tr hX (YO_8 hY2)) (fun a g1 g2 => hK a (by omega)), hY2, hU, hb40, hoy⟩, hs⟩⟩)⟩
theorem zp_worth (h : LV o y n E I) (hn : n ≤ 100000) : PR (d + 40) o y n 160 270 [.int a0] (E, I, L) := by
  obtain ⟨tt, dr, T, S, cnt, ic, U, G, tn, tp, flt, pl, tr, ⟨hX, hY, hU, hb, hoy⟩, hs⟩ := h
  have hw : S 6 1 < 900000 := by have := hb.1; omega
  have hb40 := nb_le hb (show n ≤ n + 40 by omega)
  unfold PR
  rw [t_worth hX]
  exact ⟨_, rfl, rfl, m_worth (hY := YO_all hY (fun a g1 g2 => gU_oth (by omega))) (hU := hU) (hQ := fun K hY2 hK => ⟨rfl, ⟨tt, dr, _, _, _, _, _, _, _, _, _, _, _, ⟨XO_all (XO_tr hX (YO_8 hY2)) (fun a g1 g2 => hK a (by omega)), hY2, hU, hb40, hoy⟩, hs⟩⟩)⟩
theorem zp_rows (h : LV o y n E I) (hn : n ≤ 100000) : PR (d + 40) o y n 162 273 [.int a0] (E, I, L) := by
  obtain ⟨tt, dr, T, S, cnt, ic, U, G, tn, tp, flt, pl, tr, ⟨hX, hY, hU, hb, hoy⟩, hs⟩ := h
  have hw : S 6 1 < 900000 := by have := hb.1; omega
  have hb40 := nb_le hb (show n ≤ n + 40 by omega)
  exact t_rows (hX := hX)  (hQ := fun J hX2 hJ => ⟨_, rfl, rfl, m_rows (hY := YO_all hY (fun a g1 g2 => hJ a (by omega)))  (hQ := fun K hY2 hK => ⟨rfl, ⟨tt, dr, _, _, _, _, _, _, _, _, _, _, _, ⟨XO_all hX2 (fun a g1 g2 => hK a (by omega)), hY2, hU, hb40, hoy⟩, hs⟩⟩)⟩)
theorem zp_best (h : LV o y n E I) (hn : n ≤ 100000) : PR (d + 40) o y n 163 279 [.int a0] (E, I, L) := by
  obtain ⟨tt, dr, T, S, cnt, ic, U, G, tn, tp, flt, pl, tr, ⟨hX, hY, hU, hb, hoy⟩, hs⟩ := h
  have hw : S 6 1 < 900000 := by have := hb.1; omega
  have hb40 := nb_le hb (show n ≤ n + 40 by omega)
  exact t_best (hX := hX)  (hQ := fun J hX2 hJ => ⟨_, rfl, rfl, m_best (hY := YO_all hY (fun a g1 g2 => hJ a (by omega)))  (hQ := fun K hY2 hK => ⟨rfl, ⟨tt, dr, _, _, _, _, _, _, _, _, _, _, _, ⟨XO_all hX2 (fun a g1 g2 => hK a (by omega)), hY2, hU, hb40, hoy⟩, hs⟩⟩)⟩)
theorem zp_bestChurch (h : LV o y n E I) (hn : n ≤ 100000) : PR (d + 40) o y n 165 280 [.int a0] (E, I, L) := by
  obtain ⟨tt, dr, T, S, cnt, ic, U, G, tn, tp, flt, pl, tr, ⟨hX, hY, hU, hb, hoy⟩, hs⟩ := h
  have hw : S 6 1 < 900000 := by have := hb.1; omega
  have hb40 := nb_le hb (show n ≤ n + 40 by omega)
  exact t_bestChurch (hX := hX)  (hQ := fun J hX2 hJ => ⟨_, rfl, rfl, m_bestChurch (hY := YO_all hY (fun a g1 g2 => hJ a (by omega)))  (hQ := fun K hY2 hK => ⟨rfl, ⟨tt, dr, _, _, _, _, _, _, _, _, _, _, _, ⟨XO_all hX2 (fun a g1 g2 => hK a (by omega)), hY2, hU, hb40, hoy⟩, hs⟩⟩)⟩)
theorem zp_bestWorth (h : LV o y n E I) (hn : n ≤ 100000) : PR (d + 40) o y n 166 281 [.int a0] (E, I, L) := by
  obtain ⟨tt, dr, T, S, cnt, ic, U, G, tn, tp, flt, pl, tr, ⟨hX, hY, hU, hb, hoy⟩, hs⟩ := h
  have hw : S 6 1 < 900000 := by have := hb.1; omega
  have hb40 := nb_le hb (show n ≤ n + 40 by omega)
  exact t_bestWorth (hX := hX)  (hQ := fun J hX2 hJ => ⟨_, rfl, rfl, m_bestWorth (hY := YO_all hY (fun a g1 g2 => hJ a (by omega)))  (hQ := fun K hY2 hK => ⟨rfl, ⟨tt, dr, _, _, _, _, _, _, _, _, _, _, _, ⟨XO_all hX2 (fun a g1 g2 => hK a (by omega)), hY2, hU, hb40, hoy⟩, hs⟩⟩)⟩)
theorem zp_turnsOf (h : LV o y n E I) (hn : n ≤ 100000) : PR (d + 40) o y n 167 284 [.int a0] (E, I, L) := by
  obtain ⟨tt, dr, T, S, cnt, ic, U, G, tn, tp, flt, pl, tr, ⟨hX, hY, hU, hb, hoy⟩, hs⟩ := h
  have hw : S 6 1 < 900000 := by have := hb.1; omega
  have hb40 := nb_le hb (show n ≤ n + 40 by omega)
  unfold PR
  rw [t_turnsOf hX]
  exact ⟨_, rfl, rfl, m_turnsOf (hY := YO_all hY (fun a g1 g2 => gU_oth (by omega))) (hU := hU) (hQ := fun K hY2 hK => ⟨rfl, ⟨tt, dr, _, _, _, _, _, _, _, _, _, _, _, ⟨XO_all (XO_tr hX (YO_8 hY2)) (fun a g1 g2 => hK a (by omega)), hY2, hU, hb40, hoy⟩, hs⟩⟩)⟩
theorem zp_ago (h : LV o y n E I) (hn : n ≤ 100000) : PR (d + 40) o y n 168 285 [.int a0, .int a1] (E, I, L) := by
  obtain ⟨tt, dr, T, S, cnt, ic, U, G, tn, tp, flt, pl, tr, ⟨hX, hY, hU, hb, hoy⟩, hs⟩ := h
  have hw : S 6 1 < 900000 := by have := hb.1; omega
  have hb40 := nb_le hb (show n ≤ n + 40 by omega)
  unfold PR
  rw [t_ago hX]
  exact ⟨_, rfl, rfl, m_ago (hY := YO_all hY (fun a g1 g2 => gU_oth (by omega))) (hU := hU) (hQ := fun K hY2 hK => ⟨rfl, ⟨tt, dr, _, _, _, _, _, _, _, _, _, _, _, ⟨XO_all (XO_tr hX (YO_8 hY2)) (fun a g1 g2 => hK a (by omega)), hY2, hU, hb40, hoy⟩, hs⟩⟩)⟩
theorem zp_slept (h : LV o y n E I) (hn : n ≤ 100000) : PR (d + 40) o y n 169 286 [.int a0] (E, I, L) := by
  obtain ⟨tt, dr, T, S, cnt, ic, U, G, tn, tp, flt, pl, tr, ⟨hX, hY, hU, hb, hoy⟩, hs⟩ := h
  have hw : S 6 1 < 900000 := by have := hb.1; omega
  have hb40 := nb_le hb (show n ≤ n + 40 by omega)
  unfold PR
  rw [t_slept hX]
  exact ⟨_, rfl, rfl, m_slept (hY := YO_all hY (fun a g1 g2 => gU_oth (by omega))) (hU := hU) (hQ := fun K hY2 hK => ⟨rfl, ⟨tt, dr, _, _, _, _, _, _, _, _, _, _, _, ⟨XO_all (XO_tr hX (YO_8 hY2)) (fun a g1 g2 => hK a (by omega)), hY2, hU, hb40, hoy⟩, hs⟩⟩)⟩
theorem zp_knows (h : LV o y n E I) (hn : n ≤ 100000) : PR (d + 40) o y n 170 288 [.int a0] (E, I, L) := by
  obtain ⟨tt, dr, T, S, cnt, ic, U, G, tn, tp, flt, pl, tr, ⟨hX, hY, hU, hb, hoy⟩, hs⟩ := h
  have hw : S 6 1 < 900000 := by have := hb.1; omega
  have hb40 := nb_le hb (show n ≤ n + 40 by omega)
  unfold PR
  rw [t_knows hX]
  exact ⟨_, rfl, rfl, m_knows (hY := YO_all hY (fun a g1 g2 => gU_oth (by omega))) (hU := hU) (hQ := fun K hY2 hK => ⟨rfl, ⟨tt, dr, _, _, _, _, _, _, _, _, _, _, _, ⟨XO_all (XO_tr hX (YO_8 hY2)) (fun a g1 g2 => hK a (by omega)), hY2, hU, hb40, hoy⟩, hs⟩⟩)⟩
theorem zp_leaked (h : LV o y n E I) (hn : n ≤ 100000) : PR (d + 40) o y n 171 289 [.int a0] (E, I, L) := by
  obtain ⟨tt, dr, T, S, cnt, ic, U, G, tn, tp, flt, pl, tr, ⟨hX, hY, hU, hb, hoy⟩, hs⟩ := h
  have hw : S 6 1 < 900000 := by have := hb.1; omega
  have hb40 := nb_le hb (show n ≤ n + 40 by omega)
  unfold PR
  rw [t_leaked hX]
  exact ⟨_, rfl, rfl, m_leaked (hY := YO_all hY (fun a g1 g2 => gU_oth (by omega))) (hU := hU) (hQ := fun K hY2 hK => ⟨rfl, ⟨tt, dr, _, _, _, _, _, _, _, _, _, _, _, ⟨XO_all (XO_tr hX (YO_8 hY2)) (fun a g1 g2 => hK a (by omega)), hY2, hU, hb40, hoy⟩, hs⟩⟩)⟩
theorem zp_peace (h : LV o y n E I) (hn : n ≤ 100000) : PR (d + 40) o y n 172 294 [] (E, I, L) := by
  obtain ⟨tt, dr, T, S, cnt, ic, U, G, tn, tp, flt, pl, tr, ⟨hX, hY, hU, hb, hoy⟩, hs⟩ := h
  have hw : S 6 1 < 900000 := by have := hb.1; omega
  have hb40 := nb_le hb (show n ≤ n + 40 by omega)
  unfold PR
  rw [t_peace hX]
  exact ⟨_, rfl, rfl, m_peace (hY := YO_all hY (fun a g1 g2 => gU_oth (by omega)))  (hQ := fun K hY2 hK => ⟨rfl, ⟨tt, dr, _, _, _, _, _, _, _, _, _, _, _, ⟨XO_all (XO_tr hX (YO_8 hY2)) (fun a g1 g2 => hK a (by omega)), hY2, hU, hb40, hoy⟩, hs⟩⟩)⟩
theorem zp_guests (h : LV o y n E I) (hn : n ≤ 100000) : PR (d + 40) o y n 173 291 [.int a0] (E, I, L) := by
  obtain ⟨tt, dr, T, S, cnt, ic, U, G, tn, tp, flt, pl, tr, ⟨hX, hY, hU, hb, hoy⟩, hs⟩ := h
  have hw : S 6 1 < 900000 := by have := hb.1; omega
  have hb40 := nb_le hb (show n ≤ n + 40 by omega)
  unfold PR
  rw [t_guests hX]
  exact ⟨_, rfl, rfl, m_guests (hY := YO_all hY (fun a g1 g2 => gU_oth (by omega))) (hU := hU) (hQ := fun K hY2 hK => ⟨rfl, ⟨tt, dr, _, _, _, _, _, _, _, _, _, _, _, ⟨XO_all (XO_tr hX (YO_8 hY2)) (fun a g1 g2 => hK a (by omega)), hY2, hU, hb40, hoy⟩, hs⟩⟩)⟩
theorem zp_together (h : LV o y n E I) (hn : n ≤ 100000) : PR (d + 40) o y n 174 292 [.int a0, .int a1] (E, I, L) := by
  obtain ⟨tt, dr, T, S, cnt, ic, U, G, tn, tp, flt, pl, tr, ⟨hX, hY, hU, hb, hoy⟩, hs⟩ := h
  have hw : S 6 1 < 900000 := by have := hb.1; omega
  have hb40 := nb_le hb (show n ≤ n + 40 by omega)
  unfold PR
  rw [t_together hX]
  exact ⟨_, rfl, rfl, m_together (hY := YO_all hY (fun a g1 g2 => gU_oth (by omega))) (hU := hU) (hQ := fun K hY2 hK => ⟨rfl, ⟨tt, dr, _, _, _, _, _, _, _, _, _, _, _, ⟨XO_all (XO_tr hX (YO_8 hY2)) (fun a g1 g2 => hK a (by omega)), hY2, hU, hb40, hoy⟩, hs⟩⟩)⟩
theorem zp_fair (h : LV o y n E I) (hn : n ≤ 100000) : PR (d + 40) o y n 175 293 [.int a0] (E, I, L) := by
  obtain ⟨tt, dr, T, S, cnt, ic, U, G, tn, tp, flt, pl, tr, ⟨hX, hY, hU, hb, hoy⟩, hs⟩ := h
  have hw : S 6 1 < 900000 := by have := hb.1; omega
  have hb40 := nb_le hb (show n ≤ n + 40 by omega)
  unfold PR
  rw [t_fair hX]
  exact ⟨_, rfl, rfl, m_fair (hY := YO_all hY (fun a g1 g2 => gU_oth (by omega)))  (hQ := fun K hY2 hK => ⟨rfl, ⟨tt, dr, _, _, _, _, _, _, _, _, _, _, _, ⟨XO_all (XO_tr hX (YO_8 hY2)) (fun a g1 g2 => hK a (by omega)), hY2, hU, hb40, hoy⟩, hs⟩⟩)⟩
theorem zp_swap (h : LV o y n E I) (hn : n ≤ 100000) : PR (d + 40) o y n 176 282 [.int a0] (E, I, L) := by
  obtain ⟨tt, dr, T, S, cnt, ic, U, G, tn, tp, flt, pl, tr, ⟨hX, hY, hU, hb, hoy⟩, hs⟩ := h
  have hw : S 6 1 < 900000 := by have := hb.1; omega
  have hb40 := nb_le hb (show n ≤ n + 40 by omega)
  unfold PR
  rw [t_swap hX]
  exact ⟨_, rfl, rfl, m_swap (hY := YO_all hY (fun a g1 g2 => gU_oth (by omega)))  (hQ := fun K hY2 hK => ⟨rfl, ⟨tt, dr, _, _, _, _, _, _, _, _, _, _, _, ⟨XO_all (XO_tr hX (YO_8 hY2)) (fun a g1 g2 => hK a (by omega)), hY2, hU, hb40, hoy⟩, hs⟩⟩)⟩
theorem zp_peaceIn (h : LV o y n E I) (hn : n ≤ 100000) : PR (d + 40) o y n 177 297 [] (E, I, L) := by
  obtain ⟨tt, dr, T, S, cnt, ic, U, G, tn, tp, flt, pl, tr, ⟨hX, hY, hU, hb, hoy⟩, hs⟩ := h
  have hw : S 6 1 < 900000 := by have := hb.1; omega
  have hb40 := nb_le hb (show n ≤ n + 40 by omega)
  exact t_peaceIn (hX := hX) (hw := hw) (hQ := fun J hX2 hJ => ⟨_, rfl, rfl, m_peaceIn (hY := YO_all hY (fun a g1 g2 => hJ a (by omega))) (hw := hw) (hQ := fun K hY2 hK => ⟨rfl, ⟨tt, dr, _, _, _, _, _, _, _, _, _, _, _, ⟨XO_all hX2 (fun a g1 g2 => hK a (by omega)), hY2, hU, hb40, hoy⟩, hs⟩⟩)⟩)
theorem zp_churchIn (h : LV o y n E I) (hn : n ≤ 100000) : PR (d + 40) o y n 178 304 [.int a0] (E, I, L) := by
  obtain ⟨tt, dr, T, S, cnt, ic, U, G, tn, tp, flt, pl, tr, ⟨hX, hY, hU, hb, hoy⟩, hs⟩ := h
  have hw : S 6 1 < 900000 := by have := hb.1; omega
  have hb40 := nb_le hb (show n ≤ n + 40 by omega)
  exact t_churchIn (hX := hX) (hw := hw) (hQ := fun J hX2 hJ => ⟨_, rfl, rfl, m_churchIn (hY := YO_all hY (fun a g1 g2 => hJ a (by omega))) (hw := hw) (hQ := fun K hY2 hK => ⟨rfl, ⟨tt, dr, _, _, _, _, _, _, _, _, _, _, _, ⟨XO_all hX2 (fun a g1 g2 => hK a (by omega)), hY2, hU, hb40, hoy⟩, hs⟩⟩)⟩)
theorem zp_knowsIn (h : LV o y n E I) (hn : n ≤ 100000) : PR (d + 40) o y n 179 305 [.int a0, .int a1] (E, I, L) := by
  obtain ⟨tt, dr, T, S, cnt, ic, U, G, tn, tp, flt, pl, tr, ⟨hX, hY, hU, hb, hoy⟩, hs⟩ := h
  have hw : S 6 1 < 900000 := by have := hb.1; omega
  have hb40 := nb_le hb (show n ≤ n + 40 by omega)
  exact t_knowsIn (hX := hX) (hw := hw) (hQ := fun J hX2 hJ => ⟨_, rfl, rfl, m_knowsIn (hY := YO_all hY (fun a g1 g2 => hJ a (by omega))) (hw := hw) (hQ := fun K hY2 hK => ⟨rfl, ⟨tt, dr, _, _, _, _, _, _, _, _, _, _, _, ⟨XO_all hX2 (fun a g1 g2 => hK a (by omega)), hY2, hU, hb40, hoy⟩, hs⟩⟩)⟩)
theorem zp_leaksIn (h : LV o y n E I) (hn : n ≤ 100000) : PR (d + 40) o y n 180 306 [.int a0] (E, I, L) := by
  obtain ⟨tt, dr, T, S, cnt, ic, U, G, tn, tp, flt, pl, tr, ⟨hX, hY, hU, hb, hoy⟩, hs⟩ := h
  have hw : S 6 1 < 900000 := by have := hb.1; omega
  have hb40 := nb_le hb (show n ≤ n + 40 by omega)
  exact t_leaksIn (hX := hX) (hw := hw) (hQ := fun J hX2 hJ => ⟨_, rfl, rfl, m_leaksIn (hY := YO_all hY (fun a g1 g2 => hJ a (by omega))) (hw := hw) (hU := hU) (hQ := fun K hY2 hK => ⟨rfl, ⟨tt, dr, _, _, _, _, _, _, _, _, _, _, _, ⟨XO_all hX2 (fun a g1 g2 => hK a (by omega)), hY2, hU, hb40, hoy⟩, hs⟩⟩)⟩)
theorem zp_crossed (h : LV o y n E I) (hn : n ≤ 100000) : PR (d + 40) o y n 181 307 [] (E, I, L) := by
  obtain ⟨tt, dr, T, S, cnt, ic, U, G, tn, tp, flt, pl, tr, ⟨hX, hY, hU, hb, hoy⟩, hs⟩ := h
  have hw : S 6 1 < 900000 := by have := hb.1; omega
  have hb40 := nb_le hb (show n ≤ n + 40 by omega)
  exact t_crossed hX
    (fun hz J hX2 hJ => ⟨_, rfl, rfl, m_crossed (YO_all hY (fun a g1 g2 => hJ a (by omega))) (fun _ K hY2 hK => ⟨rfl, ⟨tt, dr, _, _, _, _, _, _, _, _, _, _, _, ⟨XO_all hX2 (fun a g1 g2 => hK a (by omega)), hY2, hU, hb40, hoy⟩, hs⟩⟩) (fun z => by rw [hz] at z; cases z)⟩)
    (fun hz J m hm hX2 hJ => ⟨_, rfl, rfl, m_crossed (YO_all hY (fun a g1 g2 => hJ a (by omega))) (fun z => by rw [hz] at z; cases z) (fun _ K m2 hm2 hY2 hK => ⟨by rw [crs_uniq hm2 hm], ⟨tt, dr, _, _, _, _, _, _, _, _, _, _, _, ⟨XO_all hX2 (fun a g1 g2 => hK a (by omega)), hY2, hU, hb40, hoy⟩, hs⟩⟩)⟩)
theorem zp_bridge (h : LV o y n E I) (hn : n ≤ 100000) (hm : m < 2) : PR (d + 40) o y n 182 310 [.int a0, .int (nI m)] (E, I, L) := by
  obtain ⟨tt, dr, T, S, cnt, ic, U, G, tn, tp, flt, pl, tr, ⟨hX, hY, hU, hb, hoy⟩, hs⟩ := h
  have hw : S 6 1 < 900000 := by have := hb.1; omega
  have hb40 := nb_le hb (show n ≤ n + 40 by omega)
  exact t_bridge (hX := hX) (hm := hm) (hQ := fun J hX2 hJ => ⟨_, rfl, rfl, m_bridge (hY := YO_all hY (fun a g1 g2 => hJ a (by omega))) (hm := hm) (hQ := fun K hY2 hK => ⟨rfl, ⟨tt, dr, _, _, _, _, _, _, _, _, _, _, _, ⟨XO_all hX2 (fun a g1 g2 => hK a (by omega)), hY2, hU, hb40, hoy⟩, hs⟩⟩)⟩)
theorem zp_lastOver (h : LV o y n E I) (hn : n ≤ 100000) : PR (d + 40) o y n 184 314 [.int a0] (E, I, L) := by
  obtain ⟨tt, dr, T, S, cnt, ic, U, G, tn, tp, flt, pl, tr, ⟨hX, hY, hU, hb, hoy⟩, hs⟩ := h
  have hw : S 6 1 < 900000 := by have := hb.1; omega
  have hb40 := nb_le hb (show n ≤ n + 40 by omega)
  exact t_lastOver (hX := hX)  (hQ := fun J hX2 hJ => ⟨_, rfl, rfl, m_lastOver (hY := YO_all hY (fun a g1 g2 => hJ a (by omega)))  (hQ := fun K hY2 hK => ⟨rfl, ⟨tt, dr, _, _, _, _, _, _, _, _, _, _, _, ⟨XO_all hX2 (fun a g1 g2 => hK a (by omega)), hY2, hU, hb40, hoy⟩, hs⟩⟩)⟩)
theorem zp_rests (h : LV o y n E I) (hn : n ≤ 100000) : PR (d + 40) o y n 185 315 [.int a0] (E, I, L) := by
  obtain ⟨tt, dr, T, S, cnt, ic, U, G, tn, tp, flt, pl, tr, ⟨hX, hY, hU, hb, hoy⟩, hs⟩ := h
  have hw : S 6 1 < 900000 := by have := hb.1; omega
  have hb40 := nb_le hb (show n ≤ n + 40 by omega)
  unfold PR
  rw [t_rests hX]
  exact ⟨_, rfl, rfl, m_rests (hY := YO_all hY (fun a g1 g2 => gU_oth (by omega))) (hU := hU) (hQ := fun K hY2 hK => ⟨rfl, ⟨tt, dr, _, _, _, _, _, _, _, _, _, _, _, ⟨XO_all (XO_tr hX (YO_8 hY2)) (fun a g1 g2 => hK a (by omega)), hY2, hU, hb40, hoy⟩, hs⟩⟩)⟩
theorem zp_holds (h : LV o y n E I) (hn : n ≤ 100000) (hm : m < 2) : PR (d + 40) o y n 187 318 [.int a0, .int (nI m)] (E, I, L) := by
  obtain ⟨tt, dr, T, S, cnt, ic, U, G, tn, tp, flt, pl, tr, ⟨hX, hY, hU, hb, hoy⟩, hs⟩ := h
  have hw : S 6 1 < 900000 := by have := hb.1; omega
  have hb40 := nb_le hb (show n ≤ n + 40 by omega)
  unfold PR
  rw [t_holds hX hm]
  exact ⟨_, rfl, rfl, m_holds (hY := YO_all hY (fun a g1 g2 => gU_oth (by omega))) (hm := hm) (hU := hU) (hQ := fun K hY2 hK => ⟨rfl, ⟨tt, dr, _, _, _, _, _, _, _, _, _, _, _, ⟨XO_all (XO_tr hX (YO_8 hY2)) (fun a g1 g2 => hK a (by omega)), hY2, hU, hb40, hoy⟩, hs⟩⟩)⟩
theorem zp_plays (h : LV o y n E I) (hn : n ≤ 100000) : PR (d + 40) o y n 188 319 [.int a0, .int a1, .int a2, .int a3] (E, I, L) := by
  obtain ⟨tt, dr, T, S, cnt, ic, U, G, tn, tp, flt, pl, tr, ⟨hX, hY, hU, hb, hoy⟩, hs⟩ := h
  have hw : S 6 1 < 900000 := by have := hb.1; omega
  have hb40 := nb_le hb (show n ≤ n + 40 by omega)
  unfold PR
  rw [t_plays hX]
  exact ⟨_, rfl, rfl, m_plays (hY := YO_all hY (fun a g1 g2 => gU_oth (by omega))) (hU := hU) (hQ := fun K hY2 hK => ⟨rfl, ⟨tt, dr, _, _, _, _, _, _, _, _, _, _, _, ⟨XO_all (XO_tr hX (YO_8 hY2)) (fun a g1 g2 => hK a (by omega)), hY2, hU, hb40, hoy⟩, hs⟩⟩)⟩
theorem zp_bestRule (h : LV o y n E I) (hn : n ≤ 100000) : PR (d + 40) o y n 189 322 [.int a0, .int a1] (E, I, L) := by
  obtain ⟨tt, dr, T, S, cnt, ic, U, G, tn, tp, flt, pl, tr, ⟨hX, hY, hU, hb, hoy⟩, hs⟩ := h
  have hw : S 6 1 < 900000 := by have := hb.1; omega
  have hb40 := nb_le hb (show n ≤ n + 40 by omega)
  unfold PR
  rw [t_bestRule hX]
  exact ⟨_, rfl, rfl, m_bestRule (hY := YO_all hY (fun a g1 g2 => gU_oth (by omega))) (hU := hU) (hQ := fun K hY2 hK => ⟨rfl, ⟨tt, dr, _, _, _, _, _, _, _, _, _, _, _, ⟨XO_all (XO_tr hX (YO_8 hY2)) (fun a g1 g2 => hK a (by omega)), hY2, hU, hb40, hoy⟩, hs⟩⟩)⟩
theorem zp_fits (h : LV o y n E I) (hn : n ≤ 100000) : PR (d + 40) o y n 190 323 [.int a0] (E, I, L) := by
  obtain ⟨tt, dr, T, S, cnt, ic, U, G, tn, tp, flt, pl, tr, ⟨hX, hY, hU, hb, hoy⟩, hs⟩ := h
  have hw : S 6 1 < 900000 := by have := hb.1; omega
  have hb40 := nb_le hb (show n ≤ n + 40 by omega)
  exact t_fits (hX := hX)  (hQ := fun J hX2 hJ => ⟨_, rfl, rfl, m_fits (hY := YO_all hY (fun a g1 g2 => hJ a (by omega)))  (hQ := fun K hY2 hK => ⟨rfl, ⟨tt, dr, _, _, _, _, _, _, _, _, _, _, _, ⟨XO_all hX2 (fun a g1 g2 => hK a (by omega)), hY2, hU, hb40, hoy⟩, hs⟩⟩)⟩)
theorem zp_could (h : LV o y n E I) (hn : n ≤ 100000) : PR (d + 40) o y n 192 324 [.int a0] (E, I, L) := by
  obtain ⟨tt, dr, T, S, cnt, ic, U, G, tn, tp, flt, pl, tr, ⟨hX, hY, hU, hb, hoy⟩, hs⟩ := h
  have hw : S 6 1 < 900000 := by have := hb.1; omega
  have hb40 := nb_le hb (show n ≤ n + 40 by omega)
  exact t_could (hX := hX)  (hQ := fun J hX2 hJ => ⟨_, rfl, rfl, m_could (hY := YO_all hY (fun a g1 g2 => hJ a (by omega)))  (hQ := fun K hY2 hK => ⟨rfl, ⟨tt, dr, _, _, _, _, _, _, _, _, _, _, _, ⟨XO_all hX2 (fun a g1 g2 => hK a (by omega)), hY2, hU, hb40, hoy⟩, hs⟩⟩)⟩)
theorem zp_surely (h : LV o y n E I) (hn : n ≤ 100000) : PR (d + 40) o y n 193 326 [.int a0] (E, I, L) := by
  obtain ⟨tt, dr, T, S, cnt, ic, U, G, tn, tp, flt, pl, tr, ⟨hX, hY, hU, hb, hoy⟩, hs⟩ := h
  have hw : S 6 1 < 900000 := by have := hb.1; omega
  have hb40 := nb_le hb (show n ≤ n + 40 by omega)
  exact t_surely (hX := hX)  (hQ := fun J hX2 hJ => ⟨_, rfl, rfl, m_surely (hY := YO_all hY (fun a g1 g2 => hJ a (by omega)))  (hQ := fun K hY2 hK => ⟨rfl, ⟨tt, dr, _, _, _, _, _, _, _, _, _, _, _, ⟨XO_all hX2 (fun a g1 g2 => hK a (by omega)), hY2, hU, hb40, hoy⟩, hs⟩⟩)⟩)
theorem zp_fitsWith (h : LV o y n E I) (hn : n ≤ 100000) : PR (d + 40) o y n 194 327 [.int a0, .int a1] (E, I, L) := by
  obtain ⟨tt, dr, T, S, cnt, ic, U, G, tn, tp, flt, pl, tr, ⟨hX, hY, hU, hb, hoy⟩, hs⟩ := h
  have hw : S 6 1 < 900000 := by have := hb.1; omega
  have hb40 := nb_le hb (show n ≤ n + 40 by omega)
  exact t_fitsWith (hX := hX)  (hQ := fun J hX2 hJ => ⟨_, rfl, rfl, m_fitsWith (hY := YO_all hY (fun a g1 g2 => hJ a (by omega))) (hU := hU) (hQ := fun K hY2 hK => ⟨rfl, ⟨tt, dr, _, _, _, _, _, _, _, _, _, _, _, ⟨XO_all hX2 (fun a g1 g2 => hK a (by omega)), hY2, hU, hb40, hoy⟩, hs⟩⟩)⟩)
theorem zp_ask (h : LV o y n E I) (hn : n ≤ 100000) : PR (d + 40) o y n 196 328 [.int a0] (E, I, L) := by
  obtain ⟨tt, dr, T, S, cnt, ic, U, G, tn, tp, flt, pl, tr, ⟨hX, hY, hU, hb, hoy⟩, hs⟩ := h
  have hw : S 6 1 < 900000 := by have := hb.1; omega
  have hb40 := nb_le hb (show n ≤ n + 40 by omega)
  exact t_ask (hX := hX)  (hQ := fun J hX2 hJ => ⟨_, rfl, rfl, m_ask (hY := YO_all hY (fun a g1 g2 => hJ a (by omega)))  (hQ := fun K hY2 hK => ⟨rfl, ⟨tt, dr, _, _, _, _, _, _, _, _, _, _, _, ⟨XO_all hX2 (fun a g1 g2 => hK a (by omega)), hY2, hU, hb40, hoy⟩, hs⟩⟩)⟩)
theorem zp_lays (h : LV o y n E I) (hn : n ≤ 100000) : PR (d + 40) o y n 197 329 [.int a0, .int a1] (E, I, L) := by
  obtain ⟨tt, dr, T, S, cnt, ic, U, G, tn, tp, flt, pl, tr, ⟨hX, hY, hU, hb, hoy⟩, hs⟩ := h
  have hw : S 6 1 < 900000 := by have := hb.1; omega
  have hb40 := nb_le hb (show n ≤ n + 40 by omega)
  exact zact_lays (hX := hX)  
    (h0 := fun hz J hX2 hJ => ⟨_, rfl, rfl, m_lays (hY := YO_all hY (fun a g1 g2 => hJ a (by omega))) (hU := hU) (h0 := fun _ K hY2 hK => ⟨rfl, ⟨tt, dr, _, _, _, _, _, _, _, _, _, _, _, ⟨XO_all hX2 (fun a g1 g2 => hK a (by omega)), hY2, hU, hb40, hoy⟩, hs⟩⟩) (h1 := fun z => absurd z hz)⟩)
    (h1 := fun hz J hX2 hJ => ⟨_, rfl, rfl, m_lays (hY := YO_all hY (fun a g1 g2 => hJ a (by omega))) (hU := hU) (h0 := fun z => absurd hz z) (h1 := fun _ K hY2 hK => ⟨rfl, ⟨tt, dr, _, _, _, _, _, _, _, _, _, _, _, ⟨XO_all hX2 (fun a g1 g2 => hK a (by omega)), hY2, zUn_t (tld_lays hz), nb_act hb (by omega) (by rw [zU_61 (by omega)]; have := hb.1; omega), hoy⟩, hs⟩⟩)⟩)
theorem zp_laysBest (h : LV o y n E I) (hn : n ≤ 100000) : PR (d + 40) o y n 200 332 [.int a0] (E, I, L) := by
  obtain ⟨tt, dr, T, S, cnt, ic, U, G, tn, tp, flt, pl, tr, ⟨hX, hY, hU, hb, hoy⟩, hs⟩ := h
  have hw : S 6 1 < 900000 := by have := hb.1; omega
  have hb40 := nb_le hb (show n ≤ n + 40 by omega)
  exact t_laysBest (hX := hX)  
    (h0 := fun hz J hX2 hJ => ⟨_, rfl, rfl, m_laysBest (hY := YO_all hY (fun a g1 g2 => hJ a (by omega)))  (h0 := fun _ K hY2 hK => ⟨rfl, ⟨tt, dr, _, _, _, _, _, _, _, _, _, _, _, ⟨XO_all hX2 (fun a g1 g2 => hK a (by omega)), hY2, hU, hb40, hoy⟩, hs⟩⟩) (h1 := fun z => by rw [hz] at z; cases z)⟩)
    (h1 := fun hz J hX2 hJ => ⟨_, rfl, rfl, m_laysBest (hY := YO_all hY (fun a g1 g2 => hJ a (by omega)))  (h0 := fun z => by rw [hz] at z; cases z) (h1 := fun _ K hY2 hK => ⟨rfl, ⟨tt, dr, _, _, _, _, _, _, _, _, _, _, _, ⟨XO_all hX2 (fun a g1 g2 => hK a (by omega)), hY2, zUn_t (tld_side hz), nb_act hb (by omega) (by rw [zLy_61]; have := hb.1; omega), hoy⟩, hs⟩⟩)⟩)
theorem zp_night (h : LV o y n E I) (hn : n ≤ 100000) : PR (d + 40) o y n 201 333 [] (E, I, L) := by
  obtain ⟨tt, dr, T, S, cnt, ic, U, G, tn, tp, flt, pl, tr, ⟨hX, hY, hU, hb, hoy⟩, hs⟩ := h
  have hw : S 6 1 < 900000 := by have := hb.1; omega
  have hb40 := nb_le hb (show n ≤ n + 40 by omega)
  exact t_night (hX := hX) (hw := hw) 
    (h0 := fun hz J hX2 hJ => ⟨_, rfl, rfl, m_night (hY := YO_all hY (fun a g1 g2 => hJ a (by omega))) (hw := hw) (h0 := fun _ K hY2 hK => ⟨rfl, ⟨tt, dr, _, _, _, _, _, _, _, _, _, _, _, ⟨XO_all hX2 (fun a g1 g2 => hK a (by omega)), hY2, hU, hb40, hoy⟩, hs⟩⟩) (h1 := fun z => absurd z hz)⟩)
    (h1 := fun hz J hX2 hJ => ⟨_, rfl, rfl, m_night (hY := YO_all hY (fun a g1 g2 => hJ a (by omega))) (hw := hw) (h0 := fun z => absurd hz z) (h1 := fun _ K hY2 hK => ⟨rfl, ⟨tt, dr, _, _, _, _, _, _, _, _, _, _, _, ⟨XO_all hX2 (fun a g1 g2 => hK a (by omega)), hY2, zUn_t (tld_night hz), nb_act hb (by omega) (by rw [zSleep_61]; have := hb.1; omega), hoy⟩, hs⟩⟩)⟩)
theorem zp_nights (h : LV o y n E I) (hn : n ≤ 100000) : PR (d + 40) o y n 202 334 [.int a0] (E, I, L) := by
  obtain ⟨tt, dr, T, S, cnt, ic, U, G, tn, tp, flt, pl, tr, ⟨hX, hY, hU, hb, hoy⟩, hs⟩ := h
  have hw : S 6 1 < 900000 := by have := hb.1; omega
  have hb40 := nb_le hb (show n ≤ n + 40 by omega)
  exact t_nights (hX := hX) (hw := hw) 
    (h0 := fun hz J hX2 hJ => ⟨_, rfl, rfl, m_nights (hY := YO_all hY (fun a g1 g2 => hJ a (by omega))) (hw := hw) (h0 := fun _ K hY2 hK => ⟨rfl, ⟨tt, dr, _, _, _, _, _, _, _, _, _, _, _, ⟨XO_all hX2 (fun a g1 g2 => hK a (by omega)), hY2, hU, hb40, hoy⟩, hs⟩⟩) (h1 := fun z => absurd z hz)⟩)
    (h1 := fun hz J hX2 hJ => ⟨_, rfl, rfl, m_nights (hY := YO_all hY (fun a g1 g2 => hJ a (by omega))) (hw := hw) (h0 := fun z => absurd hz z) (h1 := fun _ K hY2 hK => ⟨rfl, ⟨tt, dr, _, _, _, _, _, _, _, _, _, _, _, ⟨XO_all hX2 (fun a g1 g2 => hK a (by omega)), hY2, zUn_t (tld_nights hz).1, nb_act hb (by omega) (by rw [zAh_61]; have := hb.1; have := (tld_nights hz).2; omega), hoy⟩, hs⟩⟩)⟩)
theorem zp_seed (h : LV o y n E I) (hn : n ≤ 100000) : PR (d + 40) o y n 203 335 [.int a0] (E, I, L) := by
  obtain ⟨tt, dr, T, S, cnt, ic, U, G, tn, tp, flt, pl, tr, ⟨hX, hY, hU, hb, hoy⟩, hs⟩ := h
  have hw : S 6 1 < 900000 := by have := hb.1; omega
  have hb40 := nb_le hb (show n ≤ n + 40 by omega)
  exact t_seed (hX := hX)  
    (h0 := fun hz J hX2 hJ => ⟨_, rfl, rfl, m_seed (hY := YO_all hY (fun a g1 g2 => hJ a (by omega)))  (h0 := fun _ K hY2 hK => ⟨rfl, ⟨tt, dr, _, _, _, _, _, _, _, _, _, _, _, ⟨XO_all hX2 (fun a g1 g2 => hK a (by omega)), hY2, hU, hb40, hoy⟩, hs⟩⟩) (h1 := fun z => absurd z hz)⟩)
    (h1 := fun hz J hX2 hJ => ⟨_, rfl, rfl, m_seed (hY := YO_all hY (fun a g1 g2 => hJ a (by omega)))  (h0 := fun z => absurd hz z) (h1 := fun _ K hY2 hK => ⟨rfl, ⟨tt, dr, _, _, _, _, _, _, _, _, _, _, _, ⟨XO_all hX2 (fun a g1 g2 => hK a (by omega)), hY2, un_seed hz, nb_S hb40 (by rw [zU_60]; have := hb.1; omega), hoy⟩, hs⟩⟩)⟩)
theorem zp_undo (h : LV o y n E I) (hn : n ≤ 100000) : PR (d + 40) o y n 204 336 [] (E, I, L) := by
  obtain ⟨tt, dr, T, S, cnt, ic, U, G, tn, tp, flt, pl, tr, ⟨hX, hY, hU, hb, hoy⟩, hs⟩ := h
  have hw : S 6 1 < 900000 := by have := hb.1; omega
  have hb40 := nb_le hb (show n ≤ n + 40 by omega)
  exact t_undo (hX := hX)  
    (h0 := fun hz J hX2 hJ => ⟨_, rfl, rfl, m_undo (hY := YO_all hY (fun a g1 g2 => hJ a (by omega)))  (h0 := fun _ K hY2 hK => ⟨rfl, ⟨tt, dr, _, _, _, _, _, _, _, _, _, _, _, ⟨XO_all hX2 (fun a g1 g2 => hK a (by omega)), hY2, hU, hb40, hoy⟩, hs⟩⟩) (h1 := fun z => absurd hz z)⟩)
    (h1 := fun hz J hX2 hJ => ⟨_, rfl, rfl, m_undo (hY := YO_all hY (fun a g1 g2 => hJ a (by omega)))  (h0 := fun z => absurd z hz) (h1 := fun _ K hY2 hK => ⟨rfl, ⟨tt, dr, _, _, _, _, _, _, _, _, _, _, _, ⟨XO_all hX2 (fun a g1 g2 => hK a (by omega)), hY2, un_undo hU hz, nb_le (nb_undo hb hz) (by omega), hoy⟩, hs⟩⟩)⟩)
theorem zp_image (h : LV o y n E I) (hn : n ≤ 100000) : PR (d + 40) o y n 205 337 [] (E, I, L) := by
  obtain ⟨tt, dr, T, S, cnt, ic, U, G, tn, tp, flt, pl, tr, ⟨hX, hY, hU, hb, hoy⟩, hs⟩ := h
  have hw : S 6 1 < 900000 := by have := hb.1; omega
  have hb40 := nb_le hb (show n ≤ n + 40 by omega)
  exact t_image (hX := hX)  
    (h0 := fun hz J hX2 hJ => ⟨_, rfl, rfl, m_image (hY := YO_all hY (fun a g1 g2 => hJ a (by omega)))  (h0 := fun _ K hY2 hK => ⟨rfl, ⟨tt, dr, _, _, _, _, _, _, _, _, _, _, _, ⟨XO_all hX2 (fun a g1 g2 => hK a (by omega)), hY2, hU, hb40, hoy⟩, hs⟩⟩) (h1 := fun z => absurd z hz)⟩)
    (h1 := fun hz J hX2 hJ => ⟨_, rfl, rfl, m_image (hY := YO_all hY (fun a g1 g2 => hJ a (by omega)))  (h0 := fun z => absurd hz z) (h1 := fun _ K hY2 hK => ⟨rfl, ⟨tt, dr, _, _, _, _, _, _, _, _, _, _, _, ⟨XO_all hX2 (fun a g1 g2 => hK a (by omega)), hY2, zUn_t (tld_image hz), nb_le (nb_image hb) (by omega), hoy⟩, hs⟩⟩)⟩)
theorem zp_back (h : LV o y n E I) (hn : n ≤ 100000) : PR (d + 40) o y n 206 338 [.int a0] (E, I, L) := by
  obtain ⟨tt, dr, T, S, cnt, ic, U, G, tn, tp, flt, pl, tr, ⟨hX, hY, hU, hb, hoy⟩, hs⟩ := h
  have hw : S 6 1 < 900000 := by have := hb.1; omega
  have hb40 := nb_le hb (show n ≤ n + 40 by omega)
  exact t_back (hX := hX)  
    (h0 := fun hz J hX2 hJ => ⟨_, rfl, rfl, m_back (hY := YO_all hY (fun a g1 g2 => hJ a (by omega)))  (h0 := fun _ K hY2 hK => ⟨rfl, ⟨tt, dr, _, _, _, _, _, _, _, _, _, _, _, ⟨XO_all hX2 (fun a g1 g2 => hK a (by omega)), hY2, hU, hb40, hoy⟩, hs⟩⟩) (h1 := fun z => by rw [hz] at z; cases z)⟩)
    (h1 := fun hz J hX2 hJ => ⟨_, rfl, rfl, m_back (hY := YO_all hY (fun a g1 g2 => hJ a (by omega)))  (h0 := fun z => by rw [hz] at z; cases z) (h1 := fun _ K hY2 hK => ⟨rfl, ⟨tt, dr, _, _, _, _, _, _, _, _, _, _, _, ⟨XO_all hX2 (fun a g1 g2 => hK a (by omega)), hY2, un_back hU hz, nb_le (nb_back hb (show cl a0 < ic by obtain ⟨e, h1, h2, h3⟩ := has_t (by have := hY.2.2.2.2.2.2.1.2.1; omega) hz; omega)) (by omega), hoy⟩, hs⟩⟩)⟩)
theorem zp_size (h : LV o y n E I) (hn : n ≤ 100000) : PR (d + 40) o y n 207 340 [.int a0] (E, I, L) := by
  obtain ⟨tt, dr, T, S, cnt, ic, U, G, tn, tp, flt, pl, tr, ⟨hX, hY, hU, hb, hoy⟩, hs⟩ := h
  have hw : S 6 1 < 900000 := by have := hb.1; omega
  have hb40 := nb_le hb (show n ≤ n + 40 by omega)
  unfold PR
  rw [t_size hX]
  exact ⟨_, rfl, rfl, m_size (hY := hY) (hU := hU) (hQ := fun K hY2 hK => ⟨rfl, ⟨tt, dr, _, _, _, _, _, _, _, _, _, _, _, ⟨XO_all hX (fun a g1 g2 => hK a (by omega)), hY2, hU, hb40, hoy⟩, hs⟩⟩)⟩
theorem zp_trouble (h : LV o y n E I) (hn : n ≤ 100000) : PR (d + 40) o y n 208 341 [] (E, I, L) := by
  obtain ⟨tt, dr, T, S, cnt, ic, U, G, tn, tp, flt, pl, tr, ⟨hX, hY, hU, hb, hoy⟩, hs⟩ := h
  have hw : S 6 1 < 900000 := by have := hb.1; omega
  have hb40 := nb_le hb (show n ≤ n + 40 by omega)
  unfold PR
  rw [t_trouble hX]
  exact ⟨_, rfl, rfl, m_trouble (hY := hY)  (hQ := fun K hY2 hK => ⟨rfl, ⟨tt, dr, _, _, _, _, _, _, _, _, _, _, _, ⟨XO_all hX (fun a g1 g2 => hK a (by omega)), hY2, hU, hb40, hoy⟩, hs⟩⟩)⟩
end PAIR
