/-! the law's loop -/
theorem dw_23 : decode code 23 = .ok (.iload 4, 2) := by decide +kernel
theorem dw_25 : decode code 25 = .ok (.aload_n 0, 1) := by decide +kernel
theorem dw_26 : decode code 26 = .ok (.arraylength, 1) := by decide +kernel
theorem dw_27 : decode code 27 = .ok (.bipush 6, 2) := by decide +kernel
theorem dw_29 : decode code 29 = .ok (.isub, 1) := by decide +kernel
theorem dw_30 : decode code 30 = .ok (.if_icmp .gt 1798, 3) := by decide +kernel
theorem dw_33 : decode code 33 = .ok (.aload_n 0, 1) := by decide +kernel
theorem dw_34 : decode code 34 = .ok (.iload 4, 2) := by decide +kernel
theorem dw_36 : decode code 36 = .ok (.iaload, 1) := by decide +kernel
theorem dw_37 : decode code 37 = .ok (.bipush 63, 2) := by decide +kernel
theorem dw_39 : decode code 39 = .ok (.iand, 1) := by decide +kernel
theorem dw_1822 : decode code 1822 = .ok (.iinc 4 6, 3) := by decide +kernel
theorem dw_1825 : decode code 1825 = .ok (.goto (-1802), 3) := by decide +kernel
theorem dw_1828 : decode code 1828 = .ok (.iconst 1, 1) := by decide +kernel
theorem dw_1829 : decode code 1829 = .ok (.ireturn, 1) := by decide +kernel
def lwO : Array Int := #[236, 309, 334, 347, 360, 397, 434, 459, 496, 521, 546, 571, 584, 621, 646, 671, 696, 721, 746, 771, 808, 833, 858, 883, 896, 921, 958, 983, 1008, 1021, 1046, 1083, 1108, 1121, 1174, 1199, 1224, 1277, 1338, 1375, 1400, 1425, 1450, 1487, 1512, 1549, 1574, 1587, 1612, 1637, 1650, 1663, 1688, 1744, 1769]
theorem dw_40 : decode code 40 = .ok (.tableswitch 1782 0 54 lwO, 236) := by decide +kernel
section LOOP
variable {p : Program} {l : Launch} {e : Env} {s : State} {m : MethodId} {below : List Frame} {meth : Method} {c : Code} {Z : State → Prop} {D : va_G} {ca : Nat → ClassId} {sk sv : Nat → Nat} {b L : Nat} {xs : Nat → Int32} {M : gM} {cl sl pc i n : Nat} {a5 a6 : Option Value} {st as : List Value} {lo : gL} {Q : Option Value → gM → Prop}
theorem LV_le {o y k : Nat} {E : gE} {I : Nat → Nat → Int32} (h : LV o y n E I) (hk : n ≤ k) : LV o y k E I := by
  obtain ⟨tt, dr, T, S, cnt, ic, U, G, tn, tp, flt, pl, tr, ⟨hX, hY, hU, hb, hoy⟩, hs⟩ := h
  exact ⟨tt, dr, _, _, _, _, _, _, _, _, _, _, _, ⟨hX, hY, hU, nb_le hb hk, hoy⟩, hs⟩
set_option maxRecDepth 100000 in
theorem lw_body (hC : lwC p l s m c D ca sk sv b L xs) (hst : l.stackTraces = false) (hi : i + 6 ≤ L) (hn : n ≤ 100000) (hV : LV 0 254 n M.1 M.2.1) (hcl : cl + 1 ≤ 601024) (hsl : sl + 6 ≤ 7293034)
    (kk : ∀ M' a5 a6, LV 0 254 (n + 40) M'.1 M'.2.1 → g_W p l e room_1 s m #[Value.ref b] below meth c Z D ca s.heap.size sk false 7 1822 [some (.ref 1000999), some (.ref 0), some (.ref 254), some (.ref 272), some (.int (nI (i))), a5, a6] [] M' (cl + 1) (sl + 6)) : g_W p l e room_1 s m #[Value.ref b] below meth c Z D ca s.heap.size sk false 7 40 [some (.ref 1000999), some (.ref 0), some (.ref 254), some (.ref 272), some (.int (nI (i))), a5, a6] [.int (xs i &&& 63)] M cl sl := by
  obtain ⟨hx, hb, hml, hown, hts, hK, hXg, hxs, hbl, hsk, hL, hmok, hchk⟩ := id hC
  have nx : ∀ M', LV 0 254 (n + 40) M'.1 M'.2.1 → g_W p l e room_1 s m #[Value.ref b] below meth c Z D ca s.heap.size sk false 7 1822 [some (.ref 1000999), some (.ref 0), some (.ref 254), some (.ref 272), some (.int (nI (i))), a5, a6] [] M' cl sl := fun M' h => gs_widen (by omega) (by omega) (kk M' _ _ h)
  have hc1 : cl ≤ 601024 := by omega
  have hs1 : sl ≤ 7293034 := by omega
  refine gs_table hx hb dw_40 (t := 0) (ts := List.replicate 55 0) (pcs := []) rfl rfl (fun u _ _ tgt ht => ?_) ⟨1822, by decide⟩ (fun hr => ?_)
  · have : tgt = 1822 := by omega
    subst this
    exact nx M (LV_le hV (by omega))
  have key : ∀ v, v < 55 → ∃ (o : Int) (tgt : Nat), lwO[v]? = some o ∧ ((40 : Nat) : Int) + o = (tgt : Int) ∧ g_W p l e room_1 s m #[Value.ref b] below meth c Z D ca s.heap.size sk false 7 tgt [some (.ref 1000999), some (.ref 0), some (.ref 254), some (.ref 272), some (.int (nI (i))), a5, a6] [] M cl sl := by
    obtain ⟨E, I, La⟩ := M
    intro v hv
    match v, hv with
    | 0, _ => exact ⟨236, 276, rfl, by decide, lw_q5 hC lk_feed lm_feed ll_feed.1 ll_feed.2 hi hV (zp_feed hV hn) hc1 hs1 nx⟩
    | 1, _ => exact ⟨309, 349, rfl, by decide, lw_q1 hC lk_towns lm_towns ll_towns.1 ll_towns.2 hi hV (zp_towns hV hn) hc1 hs1 nx⟩
    | 2, _ => exact ⟨334, 374, rfl, by decide, lw_q0 hC lk_fault lm_fault ll_fault.1 ll_fault.2 hi hV (zp_fault hV hn) hc1 hs1 nx⟩
    | 3, _ => exact ⟨347, 387, rfl, by decide, lw_q0 hC lk_where lm_where ll_where.1 ll_where.2 hi hV (zp_where hV hn) hc1 hs1 nx⟩
    | 4, _ => exact ⟨360, 400, rfl, by decide, lw_q2 hC lk_house lm_house ll_house.1 ll_house.2 hi hV (zp_house hV hn) hc1 hs1 nx⟩
    | 5, _ => exact ⟨397, 437, rfl, by decide, lw_q2 hC lk_person lm_person ll_person.1 ll_person.2 hi hV (zp_person hV hn) hc1 hs1 nx⟩
    | 6, _ => exact ⟨434, 474, rfl, by decide, lw_q1 hC lk_houseOf lm_houseOf ll_houseOf.1 ll_houseOf.2 hi hV (zp_houseOf hV hn) hc1 hs1 nx⟩
    | 7, _ => exact ⟨459, 499, rfl, by decide, lw_q2 hC lk_wants lm_wants ll_wants.1 ll_wants.2 hi hV (zp_wants hV hn) hc1 hs1 nx⟩
    | 8, _ => exact ⟨496, 536, rfl, by decide, lw_q1 hC lk_bed lm_bed ll_bed.1 ll_bed.2 hi hV (zp_bed hV hn) hc1 hs1 nx⟩
    | 9, _ => exact ⟨521, 561, rfl, by decide, lw_q1 hC lk_who lm_who ll_who.1 ll_who.2 hi hV (zp_who hV hn) hc1 hs1 nx⟩
    | 10, _ => exact ⟨546, 586, rfl, by decide, lw_q1 hC lk_wrong lm_wrong ll_wrong.1 ll_wrong.2 hi hV (zp_wrong hV hn) hc1 hs1 nx⟩
    | 11, _ => exact ⟨571, 611, rfl, by decide, lw_q0 hC lk_firstWrong lm_firstWrong ll_firstWrong.1 ll_firstWrong.2 hi hV (zp_firstWrong hV hn) hc1 hs1 nx⟩
    | 12, _ => exact ⟨584, 624, rfl, by decide, lw_q2 hC lk_wrongIn lm_wrongIn ll_wrongIn.1 ll_wrongIn.2 hi hV (zp_wrongIn hV hn) hc1 hs1 nx⟩
    | 13, _ => exact ⟨621, 661, rfl, by decide, lw_q1 hC lk_worth lm_worth ll_worth.1 ll_worth.2 hi hV (zp_worth hV hn) hc1 hs1 nx⟩
    | 14, _ => exact ⟨646, 686, rfl, by decide, lw_q1 hC lk_rows lm_rows ll_rows.1 ll_rows.2 hi hV (zp_rows hV hn) hc1 hs1 nx⟩
    | 15, _ => exact ⟨671, 711, rfl, by decide, lw_q1 hC lk_best lm_best ll_best.1 ll_best.2 hi hV (zp_best hV hn) hc1 hs1 nx⟩
    | 16, _ => exact ⟨696, 736, rfl, by decide, lw_q1 hC lk_bestChurch lm_bestChurch ll_bestChurch.1 ll_bestChurch.2 hi hV (zp_bestChurch hV hn) hc1 hs1 nx⟩
    | 17, _ => exact ⟨721, 761, rfl, by decide, lw_q1 hC lk_bestWorth lm_bestWorth ll_bestWorth.1 ll_bestWorth.2 hi hV (zp_bestWorth hV hn) hc1 hs1 nx⟩
    | 18, _ => exact ⟨746, 786, rfl, by decide, lw_q1 hC lk_turnsOf lm_turnsOf ll_turnsOf.1 ll_turnsOf.2 hi hV (zp_turnsOf hV hn) hc1 hs1 nx⟩
    | 19, _ => exact ⟨771, 811, rfl, by decide, lw_q2 hC lk_ago lm_ago ll_ago.1 ll_ago.2 hi hV (zp_ago hV hn) hc1 hs1 nx⟩
    | 20, _ => exact ⟨808, 848, rfl, by decide, lw_q1 hC lk_slept lm_slept ll_slept.1 ll_slept.2 hi hV (zp_slept hV hn) hc1 hs1 nx⟩
    | 21, _ => exact ⟨833, 873, rfl, by decide, lw_q1 hC lk_knows lm_knows ll_knows.1 ll_knows.2 hi hV (zp_knows hV hn) hc1 hs1 nx⟩
    | 22, _ => exact ⟨858, 898, rfl, by decide, lw_q1 hC lk_leaked lm_leaked ll_leaked.1 ll_leaked.2 hi hV (zp_leaked hV hn) hc1 hs1 nx⟩
    | 23, _ => exact ⟨883, 923, rfl, by decide, lw_q0 hC lk_peace lm_peace ll_peace.1 ll_peace.2 hi hV (zp_peace hV hn) hc1 hs1 nx⟩
    | 24, _ => exact ⟨896, 936, rfl, by decide, lw_q1 hC lk_guests lm_guests ll_guests.1 ll_guests.2 hi hV (zp_guests hV hn) hc1 hs1 nx⟩
    | 25, _ => exact ⟨921, 961, rfl, by decide, lw_q2 hC lk_together lm_together ll_together.1 ll_together.2 hi hV (zp_together hV hn) hc1 hs1 nx⟩
    | 26, _ => exact ⟨958, 998, rfl, by decide, lw_q1 hC lk_fair lm_fair ll_fair.1 ll_fair.2 hi hV (zp_fair hV hn) hc1 hs1 nx⟩
    | 27, _ => exact ⟨983, 1023, rfl, by decide, lw_q1 hC lk_swap lm_swap ll_swap.1 ll_swap.2 hi hV (zp_swap hV hn) hc1 hs1 nx⟩
    | 28, _ => exact ⟨1008, 1048, rfl, by decide, lw_q0 hC lk_peaceIn lm_peaceIn ll_peaceIn.1 ll_peaceIn.2 hi hV (zp_peaceIn hV hn) hc1 hs1 nx⟩
    | 29, _ => exact ⟨1021, 1061, rfl, by decide, lw_q1 hC lk_churchIn lm_churchIn ll_churchIn.1 ll_churchIn.2 hi hV (zp_churchIn hV hn) hc1 hs1 nx⟩
    | 30, _ => exact ⟨1046, 1086, rfl, by decide, lw_q2 hC lk_knowsIn lm_knowsIn ll_knowsIn.1 ll_knowsIn.2 hi hV (zp_knowsIn hV hn) hc1 hs1 nx⟩
    | 31, _ => exact ⟨1083, 1123, rfl, by decide, lw_q1 hC lk_leaksIn lm_leaksIn ll_leaksIn.1 ll_leaksIn.2 hi hV (zp_leaksIn hV hn) hc1 hs1 nx⟩
    | 32, _ => exact ⟨1108, 1148, rfl, by decide, lw_q0 hC lk_crossed lm_crossed ll_crossed.1 ll_crossed.2 hi hV (zp_crossed hV hn) hc1 hs1 nx⟩
    | 33, _ => exact ⟨1121, 1161, rfl, by decide, lw_qb hC lk_bridge lm_bridge ll_bridge.1 ll_bridge.2 hi hV (zp_bridge hV hn (bI_lt _)) hc1 hs1 nx⟩
    | 34, _ => exact ⟨1174, 1214, rfl, by decide, lw_q1 hC lk_lastOver lm_lastOver ll_lastOver.1 ll_lastOver.2 hi hV (zp_lastOver hV hn) hc1 hs1 nx⟩
    | 35, _ => exact ⟨1199, 1239, rfl, by decide, lw_q1 hC lk_rests lm_rests ll_rests.1 ll_rests.2 hi hV (zp_rests hV hn) hc1 hs1 nx⟩
    | 36, _ => exact ⟨1224, 1264, rfl, by decide, lw_qb hC lk_holds lm_holds ll_holds.1 ll_holds.2 hi hV (zp_holds hV hn (bI_lt _)) hc1 hs1 nx⟩
    | 37, _ => exact ⟨1277, 1317, rfl, by decide, lw_q4 hC lk_plays lm_plays ll_plays.1 ll_plays.2 hi hV (zp_plays hV hn) hc1 hs1 nx⟩
    | 38, _ => exact ⟨1338, 1378, rfl, by decide, lw_q2 hC lk_bestRule lm_bestRule ll_bestRule.1 ll_bestRule.2 hi hV (zp_bestRule hV hn) hc1 hs1 nx⟩
    | 39, _ => exact ⟨1375, 1415, rfl, by decide, lw_q1 hC lk_fits lm_fits ll_fits.1 ll_fits.2 hi hV (zp_fits hV hn) hc1 hs1 nx⟩
    | 40, _ => exact ⟨1400, 1440, rfl, by decide, lw_q1 hC lk_could lm_could ll_could.1 ll_could.2 hi hV (zp_could hV hn) hc1 hs1 nx⟩
    | 41, _ => exact ⟨1425, 1465, rfl, by decide, lw_q1 hC lk_surely lm_surely ll_surely.1 ll_surely.2 hi hV (zp_surely hV hn) hc1 hs1 nx⟩
    | 42, _ => exact ⟨1450, 1490, rfl, by decide, lw_q2 hC lk_fitsWith lm_fitsWith ll_fitsWith.1 ll_fitsWith.2 hi hV (zp_fitsWith hV hn) hc1 hs1 nx⟩
    | 43, _ => exact ⟨1487, 1527, rfl, by decide, lw_q1 hC lk_ask lm_ask ll_ask.1 ll_ask.2 hi hV (zp_ask hV hn) hc1 hs1 nx⟩
    | 44, _ => exact ⟨1512, 1552, rfl, by decide, lw_q2 hC lk_lays lm_lays ll_lays.1 ll_lays.2 hi hV (zp_lays hV hn) hc1 hs1 nx⟩
    | 45, _ => exact ⟨1549, 1589, rfl, by decide, lw_q1 hC lk_laysBest lm_laysBest ll_laysBest.1 ll_laysBest.2 hi hV (zp_laysBest hV hn) hc1 hs1 nx⟩
    | 46, _ => exact ⟨1574, 1614, rfl, by decide, lw_q0 hC lk_night lm_night ll_night.1 ll_night.2 hi hV (zp_night hV hn) hc1 hs1 nx⟩
    | 47, _ => exact ⟨1587, 1627, rfl, by decide, lw_q1 hC lk_nights lm_nights ll_nights.1 ll_nights.2 hi hV (zp_nights hV hn) hc1 hs1 nx⟩
    | 48, _ => exact ⟨1612, 1652, rfl, by decide, lw_q1 hC lk_seed lm_seed ll_seed.1 ll_seed.2 hi hV (zp_seed hV hn) hc1 hs1 nx⟩
    | 49, _ => exact ⟨1637, 1677, rfl, by decide, lw_q0 hC lk_undo lm_undo ll_undo.1 ll_undo.2 hi hV (zp_undo hV hn) hc1 hs1 nx⟩
    | 50, _ => exact ⟨1650, 1690, rfl, by decide, lw_q0 hC lk_image lm_image ll_image.1 ll_image.2 hi hV (zp_image hV hn) hc1 hs1 nx⟩
    | 51, _ => exact ⟨1663, 1703, rfl, by decide, lw_q1 hC lk_back lm_back ll_back.1 ll_back.2 hi hV (zp_back hV hn) hc1 hs1 nx⟩
    | 52, _ => exact ⟨1688, 1728, rfl, by decide, lw_led hC hst hi hV hcl hsl kk⟩
    | 53, _ => exact ⟨1744, 1784, rfl, by decide, lw_q1 hC lk_size lm_size ll_size.1 ll_size.2 hi hV (zp_size hV hn) hc1 hs1 nx⟩
    | 54, _ => exact ⟨1769, 1809, rfl, by decide, lw_q0 hC lk_trouble lm_trouble ll_trouble.1 ll_trouble.2 hi hV (zp_trouble hV hn) hc1 hs1 nx⟩
    | v + 55, h => exact absurd h (by omega)
  have h0 : ¬ ((xs i &&& 63).toInt < 0) := fun z => hr (Or.inl z)
  have h1 : ¬ (54 < (xs i &&& 63).toInt) := fun z => hr (Or.inr z)
  exact key ((xs i &&& 63).toInt - 0).toNat (by omega)
theorem lw_cmp (hL : L ≤ 3072) (hi : i ≤ 4000) : (nI L - nI 6 < nI i) = (L < i + 6) := by
  rw [Int32.lt_iff_toInt_lt, Int32.toInt_sub, nI_toInt (by omega), nI_toInt (by omega), nI_toInt (by omega), Int.bmod_eq_of_le (by omega) (by omega)]
  apply propext
  omega
theorem lw_loop (hC : lwC p l s m c D ca sk sv b L xs) (hst : l.stackTraces = false) (hr : meth.sig.returnType = ret) (hlocks : meth.locks = false) (hZ : Z = lw_Z below #[Value.ref b] s) : ∀ t, t ≤ 513 → ∀ (M : gM) (a5 a6 : Option Value) (cl sl : Nat), LV 0 254 (40 * t) M.1 M.2.1 → cl ≤ 300 + t → sl ≤ 20000 + 6 * t → g_W p l e room_1 s m #[Value.ref b] below meth c Z D ca s.heap.size sk false 7 23 [some (.ref 1000999), some (.ref 0), some (.ref 254), some (.ref 272), some (.int (nI (6 * t))), a5, a6] [] M cl sl := by
  obtain ⟨hx, hb, hml, hown, hts, hK, hXg, hxs, hbl, hsk, hL, hmok, hchk⟩ := id hC
  have head : ∀ t, t ≤ 513 → ∀ (M : gM) (a5 a6 : Option Value) (cl sl : Nat), cl ≤ 1000 → sl ≤ 30000 → (6 * t + 6 ≤ L → g_W p l e room_1 s m #[Value.ref b] below meth c Z D ca s.heap.size sk false 7 33 [some (.ref 1000999), some (.ref 0), some (.ref 254), some (.ref 272), some (.int (nI (6 * t))), a5, a6] [] M cl sl) → g_W p l e room_1 s m #[Value.ref b] below meth c Z D ca s.heap.size sk false 7 23 [some (.ref 1000999), some (.ref 0), some (.ref 254), some (.ref 272), some (.int (nI (6 * t))), a5, a6] [] M cl sl := by
    intro t ht M a5 a6 cl sl hc hs k1
    refine gs_iload hx hb dw_23 (x := nI (6 * t)) rfl ?_
    refine gs_aload_n hx hb dw_25 (x := 1000999) rfl ?_
    refine gs_sln hx hb hxs hbl hsk dw_26 ?_
    refine gs_bipush hx hb dw_27 ?_
    refine gs_isub hx hb dw_29 ?_
    have e6 : (Int8.ofInt 6).toInt32 = nI 6 := by decide
    rw [e6]
    refine gs_icmp hx hb dw_30 (tgt := 1828) (by decide) (fun z => ?_) (fun z => k1 ?_)
    · refine gs_iconst hx hb dw_1828 ?_
      intro H locs ls h1 h2 h3 h4
      rw [hZ]
      exact W.widen (k := 601024) (n := 7293034) (by omega) (by omega) (va_forget h2.2.2 (lw_ret hx hb hr hlocks dw_1829))
    · have z : ¬ (nI L - nI 6 < nI (6 * t)) := z
      rw [lw_cmp hL (by omega)] at z
      omega
  refine up_ind ?_ (fun t ht ih => ?_)
  · intro M a5 a6 cl sl hV hc hs
    exact head 513 (by omega) M a5 a6 cl sl (by omega) (by omega) (fun z => absurd z (by omega))
  · intro M a5 a6 cl sl hV hc hs
    refine head t (by omega) M a5 a6 cl sl (by omega) (by omega) (fun hi => ?_)
    refine gs_aload_n hx hb dw_33 (x := 1000999) rfl ?_
    refine gs_iload hx hb dw_34 (x := nI (6 * t)) rfl ?_
    refine gs_sld hx hb hxs hbl hsk (by rw [n_in (by omega) (by omega)]; omega) dw_36 ?_
    rw [n_cl (by omega)]
    refine gs_bipush hx hb dw_37 ?_
    refine gs_iand hx hb dw_39 ?_
    have e63 : (Int8.ofInt 63).toInt32 = (63 : Int32) := by decide
    rw [e63]
    refine lw_body hC hst hi (by omega) hV (by omega) (by omega) (fun M' a5 a6 hV' => ?_)
    refine gs_iinc hx hb dw_1822 (x := nI (6 * t)) rfl ⟨by show 4 < 7; omega, rfl, ?_⟩
    refine gs_goto hx hb dw_1825 (tgt := 23) (by decide) ?_
    have e9 : nI (6 * t) + Int32.ofInt 6 = nI (6 * (t + 1)) := n_add (6 * t) 6
    rw [e9]
    exact ih M' a5 a6 (cl + 1) (sl + 6) (by rw [show 40 * (t + 1) = 40 * t + 40 by omega]; exact hV') (by omega) (by omega)
end LOOP
