/-- how many numbers ahead of the first 0 -/
def wiN (W : Nat → Int32) : Nat → Nat → Nat
  | 0, k => k
  | n + 1, k => if W k = 0 then k else wiN W n (k + 1)
def wiF (W : Nat → Int32) (N k : Nat) (c : Bool) : Bool := c && (if k < N then decide (2 ≤ W k ∧ W k ≤ 16) else decide (W k = 0))
def wiOk (W : Nat → Int32) : Bool := itr (wiF W (wiN W 4 0)) 0 4 (decide (0 < wiN W 4 0))
def wiR (W : Nat → Int32) : Int32 := if wiOk W = true then nI (wiN W 4 0) else -1
def w4 (a b c e : Int32) : Nat → Int32 := fun k => match k with | 0 => a | 1 => b | 2 => c | _ => e
theorem wiN_le (W : Nat → Int32) : ∀ n k, k ≤ wiN W n k ∧ wiN W n k ≤ k + n
  | 0, k => ⟨Nat.le_refl k, Nat.le_refl k⟩
  | n + 1, k => by
    unfold wiN
    split
    · exact ⟨Nat.le_refl k, by omega⟩
    · have := wiN_le W n (k + 1); omega
def sWi (σ : Mm) (f : Nat → Int32) : Mm := (fun a j => if a = 74 then f j else σ.1 a j, σ.2)
theorem sWi_sWi (σ : Mm) (f f' : Nat → Int32) : sWi (sWi σ f) f' = sWi σ f' := by
  refine Prod.ext (funext fun a => funext fun j => ?_) rfl
  simp only [sWi]
  split <;> rfl
theorem sWi_of (σ : Mm) : sWi σ (σ.1 74) = σ := by
  refine Prod.ext (funext fun a => funext fun j => ?_) rfl
  simp only [sWi]
  split
  · next q => rw [q]
  · rfl
theorem wI_sWi {σ : Mm} {f : Nat → Int32} {k : Nat} {v : Int32} : wI (sWi σ f) 74 k v = sWi σ (upd f k v) := by
  refine Prod.ext (funext fun a => funext fun j => ?_) rfl
  simp only [sWi, wI, up2, upd]
  by_cases h : a = 74
  · subst h; simp
  · simp [h]
def asF (M W : Nat → Int32) (k : Nat) (c : Bool) : Bool := c && decide (M (1 + k) = W k)
def asW (M W : Nat → Int32) (n : Nat) : Bool := itr (asF M W) 0 n (decide (nI n = M 0))
def wiM (M W : Nat → Int32) (N : Nat) : Nat → Int32 := itr (fun k M => uM M (1 + k) (W k)) 0 4 (uM M 0 (nI N))
def manyM (M : Nat → Int32) : Int32 := itr (fun t n => n + M (215 + t)) 0 16 0
/-- the least number that is free -/
def frM (M : Nat → Int32) : Nat → Nat → Nat
  | 0, t => t
  | n + 1, t => if M (215 + t) = 1 then frM M n (t + 1) else t
theorem frM_le (M : Nat → Int32) : ∀ n k, k ≤ frM M n k ∧ frM M n k ≤ k + n
  | 0, k => ⟨Nat.le_refl k, Nat.le_refl k⟩
  | n + 1, k => by
    unfold frM
    split
    · have := frM_le M n (k + 1); omega
    · exact ⟨Nat.le_refl k, by omega⟩
def st0M (M : Nat → Int32) (t : Nat) (dl gr so pe ti : Int32) : Nat → Int32 :=
  uM (uM (uM (uM (uM (uM (uM (uM (uM (uM M (215 + t) 1) (231 + t) (M 6 + dl)) (247 + t) (M 13)) (263 + t) gr) (279 + t) so) (295 + t) pe) (311 + t) ti) (327 + t) 0) (343 + t) 0) (375 + t) 0
def setM (M : Nat → Int32) (L t : Nat) (dl gr so pe ti : Int32) : Nat → Int32 := layM (uM (st0M M t dl gr so pe ti) 13 (M 13 + 1)) L t
def paM (M : Nat → Int32) (t : Nat) : Nat → Int32 := uM (uM M (343 + t) 1) (359 + t) (M (231 + t) - M 6)
def reM (M : Nat → Int32) (L t : Nat) : Nat → Int32 := layM (uM (uM M (343 + t) 0) (231 + t) (M 6 + M (359 + t))) L t
def caM (M : Nat → Int32) (t : Nat) : Nat → Int32 := uM (uM M (215 + t) 0) 10 (M 10 + 1)
/-- the other desk is made alike -/
def trM (M : Nat → Int32) : Nat → Int32 := fun j => if j < 423 then M j else M (423 + j)
def bkM (M Mx : Nat → Int32) : Nat → Int32 := fun j => if j < 423 then M j else Mx (j - 423)
theorem bk_sM {σ : Mm} {M Mx : Nat → Int32} {v : Int32} : wI (sM (wI (sM σ 0 M) 67 8 v) 423 Mx) 67 8 0 = sM (wI σ 67 8 0) 0 (bkM M Mx) := by
  refine Prod.ext (funext fun a => funext fun j => ?_) rfl
  simp only [sM, wI, up2, bkM]
  by_cases h : a = 70
  · subst h
    by_cases h2 : j < 423
    · simp [h2, Nat.not_le.mpr h2]
    · simp [h2, Nat.le_of_not_lt h2]
  · by_cases h3 : a = 67 ∧ j = 8
    · simp [h3]
    · simp [h, h3]
