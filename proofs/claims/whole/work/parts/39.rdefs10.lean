/-! what is left of a division -/
theorem dw_rem (a : Int32) {s : Nat} (h1 : 1 ≤ s) (h2 : s ≤ 65536) : (a - a / nI s * nI s).toInt = a.toInt.tmod (s : Int) := by
  have hB : (nI s).toInt = (s : Int) := nI_toInt (by omega)
  have hA1 := Int32.le_toInt a
  have hA2 := Int32.toInt_lt a
  have hmod : (s : Int) * a.toInt.tdiv (s : Int) + a.toInt.tmod (s : Int) = a.toInt := Int.mul_tdiv_add_tmod _ _
  have hlt : a.toInt.tmod (s : Int) < (s : Int) := Int.tmod_lt_of_pos _ (by omega)
  have hsg : (0 ≤ a.toInt → 0 ≤ a.toInt.tmod (s : Int)) ∧ (a.toInt ≤ 0 → a.toInt.tmod (s : Int) ≤ 0 ∧ - (s : Int) < a.toInt.tmod (s : Int)) := by
    refine ⟨fun h => Int.tmod_nonneg _ h, fun h => ?_⟩
    have e : a.toInt.tmod (s : Int) = -((-a.toInt).tmod (s : Int)) := by rw [Int.neg_tmod]; omega
    have h3 : 0 ≤ (-a.toInt).tmod (s : Int) := Int.tmod_nonneg _ (by omega)
    have h4 : (-a.toInt).tmod (s : Int) < (s : Int) := Int.tmod_lt_of_pos _ (by omega)
    omega
  have hab : (0 ≤ a.toInt → 0 ≤ (s : Int) * a.toInt.tdiv (s : Int) ∧ 0 ≤ a.toInt.tdiv (s : Int) ∧ a.toInt.tdiv (s : Int) ≤ a.toInt) ∧ (a.toInt ≤ 0 → a.toInt.tdiv (s : Int) ≤ 0 ∧ a.toInt ≤ a.toInt.tdiv (s : Int) ∧ (s : Int) * a.toInt.tdiv (s : Int) ≤ 0) := by
    constructor
    · intro h
      have h5 : 0 ≤ a.toInt.tdiv (s : Int) := Int.tdiv_nonneg h (by omega)
      have h6 : a.toInt.tdiv (s : Int) ≤ a.toInt := Int.tdiv_le_self _ h
      exact ⟨Int.mul_nonneg (by omega) h5, h5, h6⟩
    · intro h
      have e : a.toInt.tdiv (s : Int) = -((-a.toInt).tdiv (s : Int)) := by rw [Int.neg_tdiv]; omega
      have h5 : 0 ≤ (-a.toInt).tdiv (s : Int) := Int.tdiv_nonneg (by omega) (by omega)
      have h6 : (-a.toInt).tdiv (s : Int) ≤ -a.toInt := Int.tdiv_le_self _ (by omega)
      have h7 : 0 ≤ (s : Int) * (-a.toInt).tdiv (s : Int) := Int.mul_nonneg (by omega) h5
      refine ⟨by omega, by omega, ?_⟩
      rw [e, Int.mul_neg]
      omega
  have hdiv : (a / nI s).toInt = a.toInt.tdiv (s : Int) := by
    rw [Int32.toInt_div, hB]
    apply Int.bmod_eq_of_le
    · rcases Int.le_total 0 a.toInt with h | h
      · have := hab.1 h; omega
      · have := hab.2 h; omega
    · rcases Int.le_total 0 a.toInt with h | h
      · have := hab.1 h; omega
      · have := hab.2 h; omega
  have hmul : (a / nI s * nI s).toInt = (s : Int) * a.toInt.tdiv (s : Int) := by
    rw [Int32.toInt_mul, hdiv, hB, Int.mul_comm]
    apply Int.bmod_eq_of_le
    · rcases Int.le_total 0 a.toInt with h | h
      · have := hab.1 h; omega
      · have := hab.2 h; have := hsg.2 h; omega
    · rcases Int.le_total 0 a.toInt with h | h
      · have := hab.1 h; have := hsg.1 h; omega
      · have := hab.2 h; omega
  rw [Int32.toInt_sub, hmul]
  have e : a.toInt - (s : Int) * a.toInt.tdiv (s : Int) = a.toInt.tmod (s : Int) := by omega
  rw [e]
  apply Int.bmod_eq_of_le
  · rcases Int.le_total 0 a.toInt with h | h
    · have := hsg.1 h; omega
    · have := hsg.2 h; omega
  · rcases Int.le_total 0 a.toInt with h | h
    · have := hsg.1 h; omega
    · have := hsg.2 h; omega
theorem dw_rem_lt (a : Int32) {s : Nat} (h1 : 1 ≤ s) (h2 : s ≤ 65536) : a - a / nI s * nI s < nI s := by
  rw [Int32.lt_iff_toInt_lt, dw_rem a h1 h2, nI_toInt (by omega)]
  exact Int.tmod_lt_of_pos _ (by omega)
theorem lvF_lt {M : Nat → Int32} {far : Int32} : ∀ n k0 k, k0 ≤ k → k < k0 + n → spanM M (k + 1) > far → ∃ j, k0 ≤ j ∧ j ≤ k ∧ lvF M far n k0 = nI j
  | 0, k0, k, h1, h2, _ => by omega
  | n + 1, k0, k, h1, h2, h3 => by
    unfold lvF
    by_cases h : spanM M (k0 + 1) > far
    · rw [if_pos h]; exact ⟨k0, Nat.le_refl _, h1, rfl⟩
    · rw [if_neg h]
      have hne : k0 ≠ k := fun q => h (q ▸ h3)
      obtain ⟨j, g1, g2, g3⟩ := lvF_lt n (k0 + 1) k (by omega) (by omega) h3
      exact ⟨j, by omega, g2, g3⟩
/-- a LEVEL there is, or FAR -/
def LvOk (L : Nat) (v : Int32) : Prop := v = -1 ∨ ∃ j, j < L ∧ v = nI j
theorem LvOk_lvF {M : Nat → Int32} {far : Int32} {L : Nat} : LvOk L (lvF M far L 0) := by
  rcases lvF_cases M far L 0 with h | ⟨j, _, h2, h3⟩
  · exact Or.inl h
  · exact Or.inr ⟨j, by omega, h3⟩
def wyBy (M : Nat → Int32) (L : Nat) (its : Int32) : Int32 := if its < 0 then spanM M L else spanM M (ix its)
def wyL (M : Nat → Int32) (L : Nat) (due : Int32) : Nat → Int32 → List (Int32 × Int32)
  | 0, _ => []
  | n + 1, its => if its = 0 then [] else (due / wyBy M L its * wyBy M L its, lvF M (due - due / wyBy M L its * wyBy M L its) L 0) :: wyL M L due n (lvF M (due - due / wyBy M L its * wyBy M L its) L 0)
theorem wyL_len (M : Nat → Int32) (L : Nat) (due : Int32) : ∀ n its, (wyL M L due n its).length ≤ n
  | 0, _ => Nat.le_refl 0
  | n + 1, its => by
    unfold wyL
    split
    · exact Nat.zero_le _
    · rw [List.length_cons]
      exact Nat.succ_le_succ (wyL_len M L due n _)
def sWy (σ : Mm) (fc fl : Nat → Int32) : Mm := (fun a j => if a = 76 then fc j else if a = 77 then fl j else σ.1 a j, σ.2)
theorem sWy_sWy (σ : Mm) (fc fl fc' fl' : Nat → Int32) : sWy (sWy σ fc fl) fc' fl' = sWy σ fc' fl' := by
  refine Prod.ext (funext fun a => funext fun j => ?_) rfl
  simp only [sWy]
  split
  · rfl
  · split <;> rfl
theorem sWy_of (σ : Mm) : sWy σ (σ.1 76) (σ.1 77) = σ := by
  refine Prod.ext (funext fun a => funext fun j => ?_) rfl
  simp only [sWy]
  split
  · next q => rw [q]
  · split
    · next q => rw [q]
    · rfl
theorem wI_sWy76 {σ : Mm} {fc fl : Nat → Int32} {k : Nat} {v : Int32} : wI (sWy σ fc fl) 76 k v = sWy σ (upd fc k v) fl := by
  refine Prod.ext (funext fun a => funext fun j => ?_) rfl
  simp only [sWy, wI, up2, upd]
  by_cases q : a = 76
  · subst q; simp
  · simp [q]
theorem wI_sWy77 {σ : Mm} {fc fl : Nat → Int32} {k : Nat} {v : Int32} : wI (sWy σ fc fl) 77 k v = sWy σ fc (upd fl k v) := by
  refine Prod.ext (funext fun a => funext fun j => ?_) rfl
  simp only [sWy, wI, up2, upd]
  by_cases q : a = 76
  · subst q; simp
  · by_cases q2 : a = 77
    · subst q2; simp
    · simp [q, q2]
def WyR (fc fl : Nat → Int32) (l : List (Int32 × Int32)) : Prop := ∀ j, j < l.length → fc j = (l.getD j (0, 0)).1 ∧ fl j = (l.getD j (0, 0)).2
theorem WyR_push {fc fl : Nat → Int32} {l : List (Int32 × Int32)} {a b : Int32} {n : Nat} (hn : n = l.length) (h : WyR fc fl l) : WyR (upd fc n a) (upd fl n b) (l ++ [(a, b)]) := by
  subst hn
  intro j hj
  rw [List.length_append, List.length_singleton] at hj
  unfold upd
  by_cases q : j = l.length
  · subst q
    rw [if_pos rfl, if_pos rfl, List.getD_eq_getElem?_getD, List.getElem?_append_right (Nat.le_refl _), Nat.sub_self]
    exact ⟨rfl, rfl⟩
  · rw [if_neg q, if_neg q, List.getD_eq_getElem?_getD, List.getElem?_append_left (by omega), ← List.getD_eq_getElem?_getD]
    exact h j (by omega)
