section
/-! THE FIRST STATE -/
def dk0 : Nat → Int32 := fun j => sgM.1 70 j
theorem dk0_hi {j : Nat} (h : 4 ≤ j) : dk0 j = 0 := by
  show sgM.1 70 j = 0
  unfold sgM wI
  show up2 (up2 (up2 (up2 Mz0.1 70 (0 + 0) 3) 70 (0 + 1) 4) 70 (0 + 2) 4) 70 (0 + 3) 4 70 j = 0
  rw [up2_ne _ _ (Or.inr (by omega)), up2_ne _ _ (Or.inr (by omega)), up2_ne _ _ (Or.inr (by omega)), up2_ne _ _ (Or.inr (by omega))]
  rfl
theorem dk0_0 : dk0 0 = 3 := rfl
theorem dk0_1 : dk0 1 = 4 := rfl
theorem dk0_2 : dk0 2 = 4 := rfl
theorem dk0_3 : dk0 3 = 4 := rfl
theorem Wf0 : Wf dk0 3 := ⟨rfl, by omega, by omega, fun k hk => ⟨4, by
  rcases (show k = 0 ∨ k = 1 ∨ k = 2 by omega) with rfl | rfl | rfl <;> rfl, by omega, by omega⟩⟩
theorem nT0 {t : Nat} : ¬ isT dk0 t := fun h => absurd (h.symm.trans (dk0_hi (by omega))) (by decide)
theorem Jk0 : Jk 0 dk0 3 0 := by
  refine ⟨by omega, 0, by omega, ⟨⟨Wf0, dk0_hi (by omega), by omega, fun t _ h => absurd h nT0⟩, fun t ht => ⟨Or.inl (dk0_hi (by omega)), Or.inl (dk0_hi (by omega)), Or.inl (dk0_hi (by omega))⟩, Or.inl (dk0_hi (by omega)), fun a b _ _ h => absurd h nT0⟩, fun k h1 h2 => dk0_hi (by omega), fun t ht => ⟨0, dk0_hi (by omega), by omega⟩, dk0_hi (by omega), ⟨0, dk0_hi (by omega), by omega, fun t _ h => absurd h nT0⟩, fun t ht => ⟨fun h => absurd h nT0, fun h => absurd h.1 nT0⟩⟩
def sg0 (σa σb : Mm) : Mm := (fun a j => if a = 3 then σa.1 3 j else if a = 4 then σa.1 4 j else if a = 5 then σa.1 5 j else if a = 26 then σb.1 3 j else if a = 27 then σb.1 4 j else if a = 28 then σb.1 5 j else if a = 70 then sgM.1 70 j else if 9 ≤ a ∧ a < 25 then (if j = 0 then nI (a - 9) else 0) else if 32 ≤ a ∧ a < 48 then (if j = 0 then nI (a - 32) else 0) else 0, fun _ _ => 0, fun _ _ => none)
theorem sg0_t {σa σb : Mm} {t j : Nat} (ht : t < 16) : (sg0 σa σb).1 (9 + t) j = if j = 0 then nI t else 0 := by
  show (if 9 + t = 3 then σa.1 3 j else if 9 + t = 4 then σa.1 4 j else if 9 + t = 5 then σa.1 5 j else if 9 + t = 26 then σb.1 3 j else if 9 + t = 27 then σb.1 4 j else if 9 + t = 28 then σb.1 5 j else if 9 + t = 70 then sgM.1 70 j else if 9 ≤ 9 + t ∧ 9 + t < 25 then (if j = 0 then nI (9 + t - 9) else 0) else if 32 ≤ 9 + t ∧ 9 + t < 48 then (if j = 0 then nI (9 + t - 32) else 0) else 0) = _
  rw [if_neg (by omega), if_neg (by omega), if_neg (by omega), if_neg (by omega), if_neg (by omega), if_neg (by omega), if_neg (by omega), if_pos (by omega), Nat.add_sub_cancel_left]
theorem sg0_u {σa σb : Mm} {t j : Nat} (ht : t < 16) : (sg0 σa σb).1 (32 + t) j = if j = 0 then nI t else 0 := by
  show (if 32 + t = 3 then σa.1 3 j else if 32 + t = 4 then σa.1 4 j else if 32 + t = 5 then σa.1 5 j else if 32 + t = 26 then σb.1 3 j else if 32 + t = 27 then σb.1 4 j else if 32 + t = 28 then σb.1 5 j else if 32 + t = 70 then sgM.1 70 j else if 9 ≤ 32 + t ∧ 32 + t < 25 then (if j = 0 then nI (32 + t - 9) else 0) else if 32 ≤ 32 + t ∧ 32 + t < 48 then (if j = 0 then nI (32 + t - 32) else 0) else 0) = _
  rw [if_neg (by omega), if_neg (by omega), if_neg (by omega), if_neg (by omega), if_neg (by omega), if_neg (by omega), if_neg (by omega), if_neg (by omega), if_pos (by omega), Nat.add_sub_cancel_left]
theorem St0 {σa σb : Mm} (ha : BcR (w4 4 4 4 0) 3 4 σa) : St 0 (sg0 σa σb) := by
  refine ⟨dk0, 3, 0, 0, [], Jk0, ⟨⟨⟨(dk0_hi (by omega)).symm, (dk0_hi (by omega)).symm, (dk0_hi (by omega)).symm, (dk0_hi (by omega)).symm⟩, ?_, fun t ht => ?_⟩, ⟨(dk0_hi (by omega)).symm, (dk0_hi (by omega)).symm, (dk0_hi (by omega)).symm, (dk0_hi (by omega)).symm⟩, ⟨rfl, (dk0_hi (by omega)).symm, by omega, 0, by omega, rfl, fun _ => rfl, fun i hi => absurd hi (Nat.not_lt_zero i)⟩, ⟨rfl, by decide, fun j hj => absurd hj (Nat.not_lt_zero j)⟩, ⟨rfl, by omega, fun j hj => absurd hj (Nat.not_lt_zero j)⟩, fun u hu => ?_⟩, fun j => rfl, rfl, rfl, RwR_nil, rfl⟩
  · refine ShR_bc (W := w4 4 4 4 0) Wf0 (fun k h1 h2 => dk0_hi (by omega)) (fun k hk => ?_) ha
    rcases (show k = 0 ∨ k = 1 ∨ k = 2 ∨ k = 3 by omega) with rfl | rfl | rfl | rfl
    · rfl
    · rfl
    · rfl
    · exact (dk0_hi (by omega)).symm
  · have e : ∀ j, (sg0 σa σb).1 (2 + 7 + t) j = if j = 0 then nI t else 0 := fun j => sg0_t ht
    have z : ∀ j, j ≠ 0 → (sg0 σa σb).1 (2 + 7 + t) j = 0 := fun j hj => (e j).trans (if_neg hj)
    refine ⟨⟨(e 0).trans (if_pos rfl), ?_, ?_, ?_, ?_, ?_, ?_, ?_, ?_, ?_, ?_⟩, fun h => absurd (h.symm.trans (dk0_hi (by omega))) (by decide), fun _ => ⟨?_, ?_⟩⟩
    all_goals (rw [z _ (by decide), dk0_hi (by omega)])
  · exact (sg0_u hu).trans (if_pos rfl)
end
