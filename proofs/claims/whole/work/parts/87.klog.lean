/-! what ringing leaves as it was; the log and what is heard -/
def Kp (j : Nat) : Prop := j < 7 ∨ j = 8 ∨ (10 ≤ j ∧ j < 14) ∨ (247 ≤ j ∧ j < 295) ∨ (327 ≤ j ∧ j < 375)
theorem comes_kp {M : Nat → Int32} {L t j : Nat} (ht : t < 16) (h : Kp j) : comesM M L t j = M j := by
  unfold Kp at h
  unfold comesM
  split
  · exact uM_ne _ _ (by omega)
  · rw [layM_ne (by omega), cmS_ne (by omega) (by omega) (by omega), cmT_ne (by omega)]
theorem comes_lv {M : Nat → Int32} {L t u : Nat} (ht : t < 16) (hu : u < 16) : comesM M L t (215 + u) = M (215 + u) ∨ comesM M L t (215 + u) = 0 := by
  unfold comesM
  split
  · by_cases e : u = t
    · subst e; exact Or.inr (uM_self _ _ _)
    · exact Or.inl (uM_ne _ _ (by omega))
  · exact Or.inl (by rw [layM_ne (by omega), cmS_ne (by omega) (by omega) (by omega), cmT_ne (by omega)])
theorem ring_kp {M : Nat → Int32} {L r n : Nat} {g : Nat → Nat} (hr : M 14 = nI r) (hr4 : r ≤ 40) (hg : ∀ k, k < n → g k < 16) : (∀ j, Kp j → ringM M L r g n j = M j) ∧ ∀ u, u < 16 → ringM M L r g n (215 + u) = M (215 + u) ∨ ringM M L r g n (215 + u) = 0 := by
  obtain ⟨ta, tb, tc⟩ := tellM_inv (g := g) n 0 (M, r) hr4 hr (fun k _ hk => hg k (by omega))
  change ∀ j, _ → _ → _ → (tellM M r g n).1 j = M j at tc
  unfold ringM
  generalize (tellM M r g n).1 = T at tc
  have := itr_inv (f := fun k M => comesM M L (g k)) (fun _ s => (∀ j, Kp j → s j = M j) ∧ ∀ u, u < 16 → s (215 + u) = M (215 + u) ∨ s (215 + u) = 0) n 0 T ⟨fun j hj => tc j (by unfold Kp at hj; omega) (by unfold Kp at hj; omega) (by unfold Kp at hj; omega), fun u hu => Or.inl (tc _ (by omega) (by omega) (by omega))⟩ (fun k s _ hk hs => ⟨fun j hj => (comes_kp (hg k (by omega)) hj).trans (hs.1 j hj), fun u hu => by
    rcases comes_lv (M := s) (L := L) (hg k (by omega)) hu with e | e
    · rw [e]; exact hs.2 u hu
    · exact Or.inr e⟩)
  exact this
/-- the log: what was told -/
theorem ring_log {M : Nat → Int32} {L r n : Nat} {g : Nat → Nat} {j : Nat} (hj : j < 215) (h9 : j ≠ 9) : ringM M L r g n j = (tellM M r g n).1 j := by
  unfold ringM
  exact itr_inv (f := fun k M => comesM M L (g k)) (fun _ s => s j = (tellM M r g n).1 j) n 0 _ rfl (fun k s _ _ hs => (comesM_lo hj h9).trans hs)
theorem Cv_ring {M : Nat → Int32} {L r n : Nat} {g : Nat → Nat} (h : Cv M L r) (hg : ∀ k, k < n → g k < 16 ∧ isT M (g k)) : Cv (ringM M L r g n) L (tellM M r g n).2 := by
  obtain ⟨hI, hB, h5, hA⟩ := h
  obtain ⟨k1, k2⟩ := ring_kp (L := L) (g := g) (n := n) hI.2.1 hI.2.2.1 (fun k hk => (hg k hk).1)
  have lv : ∀ u, u < 16 → isT (ringM M L r g n) u → isT M u := fun u hu hl => by
    rcases k2 u hu with e | e
    · exact e.symm.trans hl
    · exact absurd (e.symm.trans hl) (by decide)
  refine ⟨ringM_Iv hI hg, fun t ht => ?_, by rw [k1 5 (by unfold Kp; omega)]; exact h5, fun a b ha hb h1 h2 hab => ?_⟩
  · rw [k1 (327 + t) (by unfold Kp; omega), k1 (343 + t) (by unfold Kp; omega)]
    refine ⟨?_, (hB t ht).2⟩
    rcases k2 t ht with e | e
    · rw [e]; exact (hB t ht).1
    · exact Or.inl e
  · rw [k1 (247 + a) (by unfold Kp; omega), k1 (247 + b) (by unfold Kp; omega)]
    exact hA a b ha hb (lv a ha h1) (lv b hb h2) hab
theorem Cv_Lo {M M' : Nat → Int32} {L r : Nat} (h : Cv M L r) (hl : ∀ j, j < 391 → j ≠ 8 → j ≠ 6 → M' j = M j) : Cv M' L r := by
  obtain ⟨hI, hB, h5, hA⟩ := h
  refine ⟨Iv_Lo hI hl, Bo_same hB (fun j h1 h2 _ => hl j (by omega) (by omega) (by omega)), by rw [hl 5 (by omega) (by omega) (by omega)]; exact h5, fun a b ha hb h1 h2 hab => ?_⟩
  rw [hl (247 + a) (by omega) (by omega) (by omega), hl (247 + b) (by omega) (by omega) (by omega)]
  exact hA a b ha hb ((hl _ (by omega) (by omega) (by omega)).symm.trans h1) ((hl _ (by omega) (by omega) (by omega)).symm.trans h2) hab
theorem Cv_tick {M : Nat → Int32} {L r : Nat} (h : Cv M L r) : Cv (tickM M L r) L (tkR M L r) :=
  Cv_ring (Cv_Lo h (fun _ h1 h8 h6 => Lo6 Lo.tkA h1 h8 h6)) (fun k hk => ⟨lineM_lt hk, tkSel_T (lineM_sel hk)⟩)
theorem Cv_lpS {M : Nat → Int32} {L r : Nat} {n : Int32} (h : Cv M L r) : Cv (lpS M n).1 L r := by
  obtain ⟨hI, hB, h5, hA⟩ := h
  have e : ∀ j, j ≠ 6 → j ≠ 11 → j ≠ 12 → (j < 231 ∨ 247 ≤ j) → (lpS M n).1 j = M j := fun j h6 h11 h12 h => (lpS_all.2.2 j h).trans (lp0_ne h6 h11 h12)
  refine ⟨Iv_lpS hI, Bo_same hB (fun j h1 h2 _ => e j (by omega) (by omega) (by omega) (by omega)), by rw [e 5 (by omega) (by omega) (by omega) (by omega)]; exact h5, fun a b ha hb h1 h2 hab => ?_⟩
  rw [e (247 + a) (by omega) (by omega) (by omega) (by omega), e (247 + b) (by omega) (by omega) (by omega) (by omega)]
  exact hA a b ha hb ((e _ (by omega) (by omega) (by omega) (by omega)).symm.trans h1) ((e _ (by omega) (by omega) (by omega) (by omega)).symm.trans h2) hab
theorem lpS_T {M : Nat → Int32} {n : Int32} {k : Nat} (hk : k < (lpS M n).2.2) : (lpS M n).2.1 k < 16 ∧ isT (lpS M n).1 ((lpS M n).2.1 k) := by
  have hk1 := (lpS_all.2.1 k hk).1
  exact ⟨hk1, (lpS_all.2.2 (215 + _) (Or.inl (by omega))).trans (lpS_all.2.1 k hk).2⟩
theorem Cv_leap {M : Nat → Int32} {L r : Nat} {n : Int32} (h : Cv M L r) : Cv (leapM M L r n) L (tellM (lpS M n).1 r (lpS M n).2.1 (lpS M n).2.2).2 :=
  Cv_Lo (Cv_ring (Cv_lpS h) (fun k hk => lpS_T hk)) (fun j h1 h8 _ => Lo_layAll j h1 h8)
/-- the last of the log are the last of what is heard -/
def HL (T : Nat → Int32) (r : Nat) (hl : List (Nat × Int32)) (c : Nat) : Prop := ∀ i, i < hl.length → i < 20 → i + 1 ≤ r ∧ T (15 + 5 * (r - 1 - i)) = nI (hl.getD (hl.length - 1 - i) (0, 0)).1 ∧ T (15 + 5 * (r - 1 - i) + c) = (hl.getD (hl.length - 1 - i) (0, 0)).2
theorem HL_nil {T : Nat → Int32} {r c : Nat} : HL T r [] c := fun i hi => absurd hi (Nat.not_lt_zero i)
theorem HL.cg {T T' : Nat → Int32} {r c : Nat} {hl : List (Nat × Int32)} (h : HL T r hl c) (hc : c < 5) (hr : r ≤ 40) (e : ∀ j, 15 ≤ j → j < 215 → T' j = T j) : HL T' r hl c := fun i hi h20 => by
  obtain ⟨a, b, d⟩ := h i hi h20
  exact ⟨a, by rw [e _ (by omega) (by omega)]; exact b, by rw [e _ (by omega) (by omega)]; exact d⟩
theorem HL_push {T : Nat → Int32} {r t c : Nat} {hl : List (Nat × Int32)} {v : Int32} (hr : r ≤ 40) (hc : c < 5) (hv : v = lgV T t c) (h : HL T r hl c) : HL (rungM T r t) (kpN r) (hl ++ [(t, v)]) c := by
  intro i hi h20
  rw [List.length_append, List.length_singleton] at hi ⊢
  have hk : kpN r = if r = 40 then 40 else r + 1 := rfl
  by_cases e : i = 0
  · subst e
    have e1 : kpN r - 1 - 0 = if r = 40 then 39 else r := by rw [hk]; split <;> omega
    rw [e1, Nat.add_sub_cancel, Nat.sub_zero, List.getD_eq_getElem?_getD, List.getElem?_append_right (Nat.le_refl _), Nat.sub_self]
    refine ⟨by rw [hk]; split <;> omega, ?_, ?_⟩
    · have := rung_new (T := T) (r := r) (t := t) (c := 0) (by omega)
      rw [Nat.add_zero] at this
      exact this
    · rw [rung_new hc]
      exact hv.symm
  · obtain ⟨i', rfl⟩ : ∃ i', i = i' + 1 := ⟨i - 1, by omega⟩
    obtain ⟨a, b, d⟩ := h i' (by omega) (by omega)
    have el : (hl ++ [(t, v)]).getD (hl.length + 1 - 1 - (i' + 1)) (0, 0) = hl.getD (hl.length - 1 - i') (0, 0) := by
      rw [List.getD_eq_getElem?_getD, List.getElem?_append_left (by omega), ← List.getD_eq_getElem?_getD]
      congr 1
      omega
    rw [el]
    by_cases h40 : r = 40
    · subst h40
      have e1 : kpN 40 - 1 - (i' + 1) = 38 - i' := by rw [hk, if_pos rfl]; omega
      rw [e1]
      refine ⟨by rw [hk, if_pos rfl]; omega, ?_, ?_⟩
      · have := rung_sh (T := T) (t := t) (i := 38 - i') (c := 0) (by omega) (by omega)
        rw [Nat.add_zero, Nat.add_zero] at this
        rw [this, ← b]
        congr 1
        omega
      · rw [rung_sh (by omega) hc, ← d]
        congr 1
        omega
    · have e1 : kpN r - 1 - (i' + 1) = r - 1 - i' := by rw [hk, if_neg h40]; omega
      rw [e1]
      refine ⟨by rw [hk, if_neg h40]; omega, ?_, ?_⟩
      · have := rung_old (T := T) (r := r) (t := t) (i := r - 1 - i') (c := 0) (by omega) (by omega) (by omega)
        rw [Nat.add_zero] at this
        rw [this]; exact b
      · rw [rung_old (by omega) (by omega) hc]; exact d
theorem hl1_succ (g : Nat → Nat) (v : Nat → Int32) (n : Nat) : hl1 g v (n + 1) = hl1 g v n ++ [(g n, v n)] := by
  unfold hl1
  rw [List.range_succ, List.map_append, List.map_singleton]
theorem HL_tell {A : Nat → Int32} {r c : Nat} {g : Nat → Nat} {v : Nat → Int32} {hl : List (Nat × Int32)} (hr : A 14 = nI r) (hr4 : r ≤ 40) (hc : c = 1 ∨ c = 2) (h : HL A r hl c) : ∀ n, (∀ k, k < n → g k < 16 ∧ v k = lgV A (g k) c) → HL (tellM A r g n).1 (tellM A r g n).2 (hl ++ hl1 g v n) c
  | 0, _ => by
    show HL A r (hl ++ []) c
    rw [List.append_nil]
    exact h
  | n + 1, hg => by
    have ih := HL_tell hr hr4 hc h n (fun k hk => hg k (by omega))
    obtain ⟨ta, tb, tc⟩ := tellM_inv (g := g) n 0 (A, r) hr4 hr (fun k _ hk => (hg k (by omega)).1)
    have e : tellM A r g (n + 1) = (rungM (tellM A r g n).1 (tellM A r g n).2 (g n), kpN (tellM A r g n).2) := by
      unfold tellM
      rw [itr_last, Nat.zero_add]
    rw [e, hl1_succ, ← List.append_assoc]
    refine HL_push ta (by omega) ?_ ih
    rw [(hg n (by omega)).2]
    have hgn := (hg n (by omega)).1
    rcases hc with rfl | rfl
    · show A 6 = (tellM A r g n).1 6
      exact (tc 6 (by omega) (by omega) (by omega)).symm
    · show A (231 + g n) = (tellM A r g n).1 (231 + g n)
      exact (tc _ (by omega) (by omega) (by omega)).symm
