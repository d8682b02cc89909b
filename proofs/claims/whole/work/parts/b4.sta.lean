/-! the start: both objects as their constructors leave them -/
section STA
variable {d t p q h a k m n j v r i c u s w o tt dr y b cnt ic tn flt pl tr : Nat} {E : gE} {I J K : Nat → Nat → Int32} {L L' : Nat → Nat → Int64} {T S V : zA} {U G : Nat → zA} {tp : Nat → Nat}
def gM0 : gM := ((0, fun _ => (0, 0), fun _ _ => none), fun _ _ => 0, fun _ _ => 0)
def dLSt (E : gE) (s : Nat) : Decidable (LSt E s) := by
  delta LSt
  repeat' first | with_reducible refine @instDecidableAnd _ _ ?_ ?_ | infer_instance
def dLT (E : gE) (s : Nat) : Decidable (LT E s) := by
  delta LT
  repeat' first | with_reducible refine @instDecidableAnd _ _ ?_ ?_ | infer_instance
def dLF (E : gE) (s : Nat) : Decidable (LF E s) := by
  delta LF
  repeat' first | with_reducible refine @instDecidableAnd _ _ ?_ ?_ | infer_instance
def dLFc (E : gE) (s : Nat) : Decidable (LFc E s) := by
  delta LFc
  repeat' first | with_reducible exact dLF _ _ | with_reducible exact dLSt _ _ | with_reducible refine @instDecidableAnd _ _ ?_ ?_ | infer_instance
def dLBr (E : gE) (s : Nat) : Decidable (LBr E s) := by
  delta LBr
  repeat' first | with_reducible refine @instDecidableAnd _ _ ?_ ?_ | infer_instance
def dLRd (E : gE) (s t : Nat) : Decidable (LRd E s t) := by
  delta LRd
  repeat' first | with_reducible refine @instDecidableAnd _ _ ?_ ?_ | infer_instance
def dLPa (E : gE) (s : Nat) : Decidable (LPa E s) := by
  delta LPa
  repeat' first | with_reducible refine @instDecidableAnd _ _ ?_ ?_ | infer_instance | exact @Nat.decidableBallLT _ _ (fun i _ => dLSt _ _)
def dLO (E : gE) (s t r : Nat) : Decidable (LO E s t r) := by
  delta LO
  repeat' first | with_reducible exact dLF _ _ | with_reducible exact dLFc _ _ | with_reducible exact dLBr _ _ | with_reducible exact dLT _ _ | with_reducible exact dLRd _ _ _ | with_reducible exact dLSt _ _ | with_reducible exact dLPa _ _ | with_reducible refine @instDecidableAnd _ _ ?_ ?_ | infer_instance
def dLM (E : gE) (s : Nat) : Decidable (LM E s) := by
  delta LM
  repeat' first | with_reducible refine @instDecidableAnd _ _ ?_ ?_ | infer_instance
def stI (M : gM) : Prop := M.2.1 0 1 = 0 ∧ M.2.1 0 11 = 0 ∧ M.2.1 2 1 = 0 ∧ M.2.1 2 6 = 0 ∧ M.2.1 2 8 = 0 ∧ M.2.1 2 18 = 0 ∧ M.2.1 2 19 = 0 ∧ M.2.1 38 5 = 0 ∧ M.2.1 38 6 = 0 ∧ M.2.1 38 7 = 0 ∧ M.2.1 44 1 = 0 ∧ M.2.1 44 2 = 0 ∧ M.2.1 44 4 = 0 ∧ M.2.1 138 1 = 0 ∧ M.2.1 138 2 = 0 ∧ M.2.1 155 1 = 0 ∧ M.2.1 155 2 = 0 ∧ M.2.1 173 1 = 0 ∧ M.2.1 190 1 = 0 ∧ M.2.1 19 1 = 0 ∧ M.2.1 19 8 = 0 ∧ M.2.1 18 0 = 0 ∧ M.2.1 18 1 = 0 ∧ M.2.1 224 4 = -1 ∧ M.2.1 224 5 = -2 ∧ M.2.1 254 2 = 0 ∧ M.2.1 254 9 = 0 ∧ M.2.1 254 11 = 0 ∧ M.2.1 254 14 = 0 ∧ M.2.1 254 21 = 0 ∧ M.2.1 254 22 = 0 ∧ M.2.1 259 0 = 0 ∧ M.2.1 259 1 = 0 ∧ (∀ j, j < 5 → M.2.1 3 j = 0) ∧ (∀ j, j < 358 → M.2.1 257 j = 0) ∧ M.1.2.1 272 = (2, 1) ∧ M.1.1 = 273
def dstI (M : gM) : Decidable (stI M) := by
  delta stI
  repeat' first | with_reducible refine @instDecidableAnd _ _ ?_ ?_ | infer_instance
def stB (M : gM) : Bool := @decide _ (dLO M.1 0 2 19) && @decide _ (dLM M.1 254) && @decide _ (dstI M)
def stRn : Bool := match ev_m mt 6 138 [.ref 0] (g_nw gM0 14 12) with
  | none => false
  | some M1 => decide (M1.1.1 = 254) && match ev_m mt 6 209 [.ref 254] (g_nw M1 15 41) with
    | none => false
    | some M2 => decide (M2.1.1 = 272) && stB (g_nw M2 2 1)
set_option maxRecDepth 1000000 in
theorem stRn_ok : stRn = true := by decide +kernel
theorem st_two : ∃ M1 M2, ev_m mt 6 138 [.ref 0] (g_nw gM0 14 12) = some M1 ∧ M1.1.1 = 254 ∧ ev_m mt 6 209 [.ref 254] (g_nw M1 15 41) = some M2 ∧ M2.1.1 = 272 ∧ stB (g_nw M2 2 1) = true := by
  have h := stRn_ok
  unfold stRn at h
  split at h
  · cases h
  · next M1 e1 =>
    rw [Bool.and_eq_true, decide_eq_true_eq] at h
    obtain ⟨h1, h⟩ := h
    split at h
    · cases h
    · next M2 e2 =>
      rw [Bool.and_eq_true, decide_eq_true_eq] at h
      exact ⟨M1, M2, e1, h1, e2, h.1, h.2⟩
theorem zT_0 : zT zD0 := by
  refine ⟨by show 0 ≤ 6; omega, by show 0 ≤ 12; omega, by show 0 ≤ 10; omega, fun j _ => by show 0 ≤ 100; omega, fun z => absurd (show 1 ≤ 0 from z) (by omega), fun h z => absurd (show h < 0 from z) (by omega), fun h z => absurd (show h < 0 from z) (by omega), fun h z => absurd (show h < 0 from z) (by omega), by show 0 < 4096; omega, by show 0 ≤ 6; omega, fun h q z => absurd (show h < 0 from z) (by omega), fun a _ => by show zCnt zD0 a 0 ≤ 5; exact Nat.zero_le _⟩
theorem zS_D0 : zS zD0 zD0 := ⟨fun p z => absurd (show p < 0 from z) (by omega), by show 0 < 65537; omega, by show 0 ≤ 1000000; omega⟩
theorem LV_0 {M : gM} (h : stB M = true) : LV 0 254 0 M.1 M.2.1 := by
  unfold stB at h
  rw [Bool.and_eq_true, Bool.and_eq_true] at h
  have hL := @of_decide_eq_true _ (dLO M.1 0 2 19) h.1.1
  have hM := @of_decide_eq_true _ (dLM M.1 254) h.1.2
  have hi := @of_decide_eq_true _ (dstI M) h.2
  obtain ⟨i0, i1, i2, i3, i4, i5, i6, i7, i8, i9, i10, i11, i12, i13, i14, i15, i16, i17, i18, i19, i20, i21, i22, i23, i24, i25, i26, i27, i28, i29, i30, i31, i32, i33, i34, i35, i36⟩ := hi
  have hLL := hL
  obtain ⟨lo0, lo1, lo2, lo3, lo4, lo5, lo6, lo7, lo8, lo9, lo10, lo11, lo12, lo13, lo14, lo15, lo16, lo17, lo18, lo19, lo20, lo21, lo22, lo23, lo24, lo25, lo26, lo27, lo28, lo29, lo30⟩ := hLL
  have no : ∀ (k : Nat) (P : Prop), k < 0 → P := fun k P z => absurd z (by omega)
  refine ⟨2, 19, zD0, zD0, 0, 0, fun _ => zD0, fun _ => zD0, 0, fun _ => 0, 0, 0, 0, ⟨⟨hL, ⟨lo25, ?_, zT_0⟩, ⟨lo28, ?_, zS_D0⟩, ⟨0, lo29, ?_, ?_, ?_, by omega, by omega, by omega, fun k z => absurd z (by omega), fun k z => absurd z (by omega)⟩, ⟨?_, by omega, fun k z => absurd z (by omega), fun k z => absurd z (by omega)⟩, ⟨Or.inl ?_, Or.inl ?_⟩, ⟨Or.inl ?_, Or.inl ?_⟩, Or.inl ?_, Or.inl ?_, ⟨0, lo23, by omega, ?_, ?_, fun k z => absurd z (by omega), fun k p z => absurd z (by omega), fun z => absurd z (by omega)⟩, ⟨0, 0, by omega, by omega, ?_, ?_⟩, ⟨?_, by omega⟩, ⟨?_, by omega⟩, ⟨?_, by omega⟩⟩, ?_, fun _ => ⟨rfl, rfl, rfl, rfl, rfl⟩, ⟨by show 0 ≤ 0; omega, fun k z => absurd z (by omega), fun k z => absurd z (by omega)⟩, by omega⟩, ?_⟩
  · exact ⟨i2, i3, i4, i5, i6, fun j hj => i33 j hj, fun k z => absurd (show k < 0 from z) (by omega), fun k z => absurd (show k < 0 from z) (by omega), fun k z => absurd (show k < 0 from z) (by omega), fun k _ z => absurd (show k < 0 from z) (by omega), fun k z => absurd (show k < 0 from z) (by omega), fun k z => absurd (show k < 0 from z) (by omega), fun k z => absurd (show k < 0 from z) (by omega), fun k z => absurd (show k < 0 from z) (by omega), fun k z => absurd (show k < 0 from z) (by omega), fun k z => absurd (show k < 0 from z) (by omega), fun k z => absurd (show k < 0 from z) (by omega), fun k z => absurd (show k < 0 from z) (by omega), fun k _ z => absurd (show k < 0 from z) (by omega), fun k z => absurd (show k < 0 from z) (by omega)⟩
  · exact ⟨fun k z => absurd (show k < 0 from z) (by omega), fun k z => absurd (show k < 0 from z) (by omega), fun k z => absurd (show k < 0 from z) (by omega), fun k _ z => absurd (show k < 0 from z) (by omega), fun _ k _ z => absurd (show k < 0 from z) (by omega), i7, i8, i9⟩
  · exact i10
  · exact i11
  · exact i12
  · exact i0
  · exact i13
  · exact i14
  · exact i15
  · exact i16
  · exact i17
  · exact i18
  · exact i23
  · exact i24
  · exact i19
  · exact i20
  · exact i21
  · exact i22
  · exact i1
  · refine ⟨hM, zT_0, YD_0 i34, ⟨i31, i32, fun k z => absurd (show k < 0 from z) (by omega), fun k z => absurd (show k < 0 from z) (by omega), fun k z => absurd (show k < 0 from z) (by omega), fun k z => absurd (show k < 0 from z) (by omega), fun k _ z => absurd (show k < 0 from z) (by omega), fun k _ z => absurd (show k < 0 from z) (by omega), zS_D0⟩, i28, ⟨i29, by omega, fun k z => absurd z (by omega)⟩, ⟨i30, by omega, fun k z => absurd z (by omega)⟩, ⟨i25, by omega, fun k z => absurd z (by omega), fun k z => absurd z (by omega)⟩, i26, fun z => absurd z (by omega), ⟨i27, by omega⟩⟩
  · exact i35
end STA
