/-! a LEAP; the ROW; what is wished -/
def lpF (n : Int32) (t : Nat) (s : (Nat → Int32) × (Nat → Nat) × Nat) : (Nat → Int32) × (Nat → Nat) × Nat :=
  if isG s.1 t then (if s.1 (327 + t) = 1 then (uM s.1 (231 + t) (s.1 (231 + t) + n), s.2) else if s.1 (231 + t) ≤ s.1 6 then (s.1, qG (soonB s.1 true) t s.2.2 s.2.1, s.2.2 + 1) else s) else s
def lp0 (M : Nat → Int32) (n : Int32) : Nat → Int32 := uM (uM M 6 (M 6 + n)) (if n > 0 then 11 else 12) (uM M 6 (M 6 + n) (if n > 0 then 11 else 12) + abI n)
def lpS (M : Nat → Int32) (n : Int32) : (Nat → Int32) × (Nat → Nat) × Nat := itr (lpF n) 0 16 (lp0 M n, fun _ => 0, 0)
def leapM (M : Nat → Int32) (L r : Nat) (n : Int32) : Nat → Int32 := layAllM (ringM (lpS M n).1 L r (lpS M n).2.1 (lpS M n).2.2) L
theorem Lo_lay {M : Nat → Int32} {L t : Nat} : Lo M (layM M L t) := fun _ a _ => layM_ne a
theorem Lo_layAll {M : Nat → Int32} {L : Nat} : Lo M (layAllM M L) := by
  unfold layAllM
  refine Lo.itr (fun t M => ?_) _ _ _
  split
  · exact Lo_lay
  · exact Lo.rfl'
theorem Iv_mono {M M' : Nat → Int32} {L r : Nat} (h : Iv M L r) (hl : ∀ j, j < 5 ∨ j = 14 ∨ (215 ≤ j ∧ j < 231) ∨ (295 ≤ j ∧ j < 311) → M' j = M j) : Iv M' L r := by
  obtain ⟨h1, h2, h3, h4⟩ := h
  exact ⟨Wf_same h1 (fun j hj => hl j (by omega)), (hl 14 (by omega)).trans h2, h3, fun t ht hT => Pq_same (h4 t ht ((hl _ (by omega)).symm.trans hT)) (hl _ (by omega))⟩
/-- the loop of a leap: timers are chosen of those that go; only DUES change -/
theorem lpS_inv {n : Int32} {M0 : Nat → Int32} : ∀ m i (s : (Nat → Int32) × (Nat → Nat) × Nat), i + m = 16 → s.2.2 ≤ i → (∀ j, j < s.2.2 → s.2.1 j < 16 ∧ isT M0 (s.2.1 j)) → (∀ j, j < 231 ∨ 247 ≤ j → s.1 j = M0 j) →
    (itr (lpF n) i m s).2.2 ≤ 16 ∧ (∀ j, j < (itr (lpF n) i m s).2.2 → (itr (lpF n) i m s).2.1 j < 16 ∧ isT M0 ((itr (lpF n) i m s).2.1 j)) ∧ ∀ j, j < 231 ∨ 247 ≤ j → (itr (lpF n) i m s).1 j = M0 j
  | 0, i, s, h0, h1, h2, h3 => ⟨by show s.2.2 ≤ 16; omega, h2, h3⟩
  | m + 1, i, s, h0, h1, h2, h3 => by
    rw [itr_succ]
    unfold lpF
    by_cases hG : isG s.1 i
    · rw [if_pos hG]
      by_cases hS : s.1 (327 + i) = 1
      · rw [if_pos hS]
        exact lpS_inv m (i + 1) _ (by omega) (Nat.le_succ_of_le h1) h2 (fun j hj => (uM_ne _ _ (by omega)).trans (h3 j hj))
      · rw [if_neg hS]
        by_cases hD : s.1 (231 + i) ≤ s.1 6
        · rw [if_pos hD]
          refine lpS_inv m (i + 1) _ (by omega) (Nat.succ_le_succ h1) (fun j hj => ?_) h3
          exact qG_all (P := fun t => t < 16 ∧ isT M0 t) ⟨by omega, (h3 _ (by omega)).symm.trans hG.1⟩ s.2.2 s.2.2 s.2.1 (Nat.le_refl _) (fun k hk hne => h2 k (by omega)) j hj
        · rw [if_neg hD]
          exact lpS_inv m (i + 1) s (by omega) (by omega) h2 h3
    · rw [if_neg hG]
      exact lpS_inv m (i + 1) s (by omega) (by omega) h2 h3
theorem lp0_ne {M : Nat → Int32} {n : Int32} {j : Nat} (h6 : j ≠ 6) (h11 : j ≠ 11) (h12 : j ≠ 12) : lp0 M n j = M j := by
  unfold lp0
  split
  · rw [uM_ne _ _ h11, uM_ne _ _ h6]
  · rw [uM_ne _ _ h12, uM_ne _ _ h6]
theorem lpS_all {M : Nat → Int32} {n : Int32} : (lpS M n).2.2 ≤ 16 ∧ (∀ j, j < (lpS M n).2.2 → (lpS M n).2.1 j < 16 ∧ isT (lp0 M n) ((lpS M n).2.1 j)) ∧ ∀ j, j < 231 ∨ 247 ≤ j → (lpS M n).1 j = lp0 M n j := by
  unfold lpS
  exact lpS_inv 16 0 (lp0 M n, fun _ => 0, 0) (by omega) (Nat.le_refl 0) (fun j hj => absurd hj (Nat.not_lt_zero j)) (fun _ _ => rfl)
theorem Iv_lpS {M : Nat → Int32} {L r : Nat} {n : Int32} (h : Iv M L r) : Iv (lpS M n).1 L r := Iv_mono h (fun j hj => (lpS_all.2.2 j (by omega)).trans (lp0_ne (by omega) (by omega) (by omega)))
theorem Iv_leap {M : Nat → Int32} {L r : Nat} {n : Int32} (h : Iv M L r) : Iv (leapM M L r n) L (tellM (lpS M n).1 r (lpS M n).2.1 (lpS M n).2.2).2 :=
  Iv_Lo (ringM_Iv (Iv_lpS h) (fun k hk => ⟨(lpS_all.2.1 k hk).1, by
    have hk1 := (lpS_all.2.1 k hk).1
    exact (lpS_all.2.2 (215 + _) (Or.inl (by omega))).trans (lpS_all.2.1 k hk).2⟩)) (fun j h1 h8 _ => Lo_layAll j h1 h8)
def sRw (σ : Mm) (f : Nat → Int64) (n : Nat) : Mm := (fun a j => if a = 67 ∧ j = 1 then nI n else σ.1 a j, fun a j => if a = 68 then f j else σ.2.1 a j, σ.2.2)
theorem sRw_sRw (σ : Mm) (f f' : Nat → Int64) (n n' : Nat) : sRw (sRw σ f n) f' n' = sRw σ f' n' := by
  refine Prod.ext (funext fun a => funext fun j => ?_) (Prod.ext (funext fun a => funext fun j => ?_) rfl)
  · simp only [sRw]; split <;> rfl
  · simp only [sRw]; split <;> rfl
theorem sRw_of {σ : Mm} {n : Nat} (h : σ.1 67 1 = nI n) : sRw σ (σ.2.1 68) n = σ := by
  refine Prod.ext (funext fun a => funext fun j => ?_) (Prod.ext (funext fun a => funext fun j => ?_) rfl)
  · simp only [sRw]
    split
    · next q => rw [q.1, q.2, h]
    · rfl
  · simp only [sRw]
    split
    · next q => rw [q]
    · rfl
theorem wI_sRw0 {σ : Mm} : wI σ 67 1 0 = sRw σ (σ.2.1 68) 0 := by
  refine Prod.ext (funext fun a => funext fun j => ?_) (Prod.ext (funext fun a => funext fun j => ?_) rfl)
  · simp only [sRw, wI, up2]; rfl
  · simp only [sRw, wI]
    split
    · next q => rw [q]
    · rfl
def updL (f : Nat → Int64) (k : Nat) (v : Int64) : Nat → Int64 := fun j => if j = k then v else f j
theorem wLI_sRw {σ : Mm} {f : Nat → Int64} {n : Nat} {v : Int64} : wI (wL (sRw σ f n) 68 n v) 67 1 (nI (n + 1)) = sRw σ (updL f n v) (n + 1) := by
  refine Prod.ext (funext fun a => funext fun j => ?_) (Prod.ext (funext fun a => funext fun j => ?_) rfl)
  · simp only [sRw, wI, wL, up2]
    by_cases q : a = 67 ∧ j = 1
    · simp [q]
    · simp [q]
  · simp only [sRw, wI, wL, up2, updL]
    by_cases q : a = 68
    · subst q; simp
    · simp [q]
/-- the ROW's numbers -/
def RwR (f : Nat → Int64) (l : List Int64) : Prop := ∀ j, j < l.length → f j = l.getD j 0
theorem RwR_nil {f : Nat → Int64} : RwR f [] := fun j hj => absurd hj (Nat.not_lt_zero j)
theorem RwR_push {f : Nat → Int64} {l : List Int64} {v : Int64} {n : Nat} (hn : n = l.length) (h : RwR f l) : RwR (updL f n v) (l ++ [v]) := by
  subst hn
  intro j hj
  rw [List.length_append, List.length_singleton] at hj
  unfold updL
  by_cases q : j = l.length
  · subst q
    rw [if_pos rfl, List.getD_eq_getElem?_getD, List.getElem?_append_right (Nat.le_refl _), Nat.sub_self]
    rfl
  · rw [if_neg q, List.getD_eq_getElem?_getD, List.getElem?_append_left (by omega), ← List.getD_eq_getElem?_getD]
    exact h j (by omega)
def rowH (l : List (Nat × Int32)) : List Int64 := l.flatMap (fun e => [(nI e.1).toInt64, e.2.toInt64])
theorem rowH_len (l : List (Nat × Int32)) : (rowH l).length = 2 * l.length := by
  induction l with
  | nil => rfl
  | cons a l ih =>
    show ((nI a.1).toInt64 :: a.2.toInt64 :: rowH l).length = 2 * (l.length + 1)
    rw [List.length_cons, List.length_cons, ih]
    omega
theorem rowH_app (l : List (Nat × Int32)) (e : Nat × Int32) : rowH (l ++ [e]) = rowH l ++ [(nI e.1).toInt64] ++ [e.2.toInt64] := by simp [rowH]
def rowG (g : Nat → Nat) (n : Nat) : List Int64 := (List.range n).map (fun k => (nI (g k)).toInt64)
theorem rowG_succ (g : Nat → Nat) (n : Nat) : rowG g (n + 1) = rowG g n ++ [(nI (g n)).toInt64] := by simp [rowG, List.range_succ]
theorem rowG_len (g : Nat → Nat) (n : Nat) : (rowG g n).length = n := by simp [rowG]
