/-! who comes ahead of whom; the line -/
def aheadB (M : Nat → Int32) (a b : Nat) : Bool :=
  if M 5 = 0 then decide (M (247 + a) < M (247 + b))
  else if M 5 = 1 then (if M (263 + a) = M (263 + b) then decide (M (247 + a) < M (247 + b)) else decide (M (263 + a) < M (263 + b)))
  else !decide (M (247 + a) < M (247 + b))
def soonB (M : Nat → Int32) (bd : Bool) (a b : Nat) : Bool :=
  if bd = true ∧ M (231 + a) ≠ M (231 + b) then decide (M (231 + a) < M (231 + b)) else aheadB M a b
def uG (g : Nat → Nat) (k v : Nat) : Nat → Nat := fun j => if j = k then v else g j
/-- t takes its place among the first k -/
def qG (ah : Nat → Nat → Bool) (t : Nat) : Nat → (Nat → Nat) → (Nat → Nat)
  | 0, g => uG g 0 t
  | k + 1, g => if ah t (g k) = true then qG ah t k (uG g (k + 1) (g k)) else uG g (k + 1) t
theorem qG_lt {ah : Nat → Nat → Bool} {t N : Nat} (ht : t < N) : ∀ (k n : Nat) (g : Nat → Nat), k ≤ n → (∀ j, j < n + 1 → j ≠ k → g j < N) → ∀ j, j < n + 1 → qG ah t k g j < N
  | 0, n, g, _, h, j, hj => by
    unfold qG uG
    split
    · exact ht
    · exact h j hj (by assumption)
  | k + 1, n, g, hk, h, j, hj => by
    unfold qG
    split
    · refine qG_lt ht k n _ (by omega) (fun i hi hik => ?_) j hj
      unfold uG
      split
      · exact h k (by omega) (by omega)
      · exact h i hi (by omega)
    · unfold uG
      split
      · exact ht
      · exact h j hj (by assumption)
/-- the line's row and how many -/
def sLn (σ : Mm) (f : Nat → Int32) (n : Nat) : Mm := (fun a j => if a = 71 then f j else if a = 67 ∧ j = 10 then nI n else σ.1 a j, σ.2)
theorem sLn_sLn (σ : Mm) (f f' : Nat → Int32) (n n' : Nat) : sLn (sLn σ f n) f' n' = sLn σ f' n' := by
  refine Prod.ext (funext fun a => funext fun j => ?_) rfl
  simp only [sLn]
  split
  · rfl
  · split <;> rfl
theorem sLn_of {σ : Mm} {n : Nat} (h : σ.1 67 10 = nI n) : sLn σ (σ.1 71) n = σ := by
  refine Prod.ext (funext fun a => funext fun j => ?_) rfl
  simp only [sLn]
  split
  · next q => rw [q]
  · split
    · next q => rw [q.1, q.2, h]
    · rfl
theorem wI_sLn71 {σ : Mm} {f : Nat → Int32} {n k : Nat} {v : Int32} : wI (sLn σ f n) 71 k v = sLn σ (upd f k v) n := by
  refine Prod.ext (funext fun a => funext fun j => ?_) rfl
  simp only [sLn, wI, up2, upd]
  by_cases h : a = 71
  · subst h; simp
  · simp [h]
theorem wI_sLn10 {σ : Mm} {f : Nat → Int32} {n : Nat} {m : Nat} : wI (sLn σ f n) 67 10 (nI m) = sLn σ f m := by
  refine Prod.ext (funext fun a => funext fun j => ?_) rfl
  simp only [sLn, wI, up2]
  by_cases h : a = 71
  · subst h; simp
  · by_cases h2 : a = 67 ∧ j = 10
    · simp [h2]
    · simp [h, h2]
def layAllM (M : Nat → Int32) (L : Nat) : Nat → Int32 := itr (fun t M => if isG M t then layM M L t else M) 0 16 M
def mov1M (M : Nat → Int32) (L t : Nat) : Nat → Int32 := uM (layM M L t) 8 (layM M L t 8 + 1)
theorem layM_ne {M : Nat → Int32} {L t j : Nat} (h : j < 391) : layM M L t j = M j := by
  unfold layM
  rw [uM_ne _ _ (by omega), uM_ne _ _ (by omega)]
theorem mov1M_ne {M : Nat → Int32} {L t j : Nat} (h : j < 391) (h8 : j ≠ 8) : mov1M M L t j = M j := by
  unfold mov1M
  rw [uM_ne _ _ h8, layM_ne h]
theorem Wf_same {M M' : Nat → Int32} {L : Nat} (h : Wf M L) (he : ∀ j, j < 5 → M' j = M j) : Wf M' L := by
  obtain ⟨h1, h2, h3, h4⟩ := h
  exact ⟨(he 0 (by omega)).trans h1, h2, h3, fun k hk => by rw [he (1 + k) (by omega)]; exact h4 k hk⟩
theorem Wf_lay {M : Nat → Int32} {L t : Nat} (h : Wf M L) : Wf (layM M L t) L := Wf_same h (fun j hj => layM_ne (by omega))
theorem Wf_mov1 {M : Nat → Int32} {L t : Nat} (h : Wf M L) : Wf (mov1M M L t) L := Wf_same h (fun j hj => mov1M_ne (by omega) (by omega))
