/-! THE REFERENCE's DESK as a function of numbers: M j is mem[desk + j] -/
def uM (M : Nat → Int32) (k : Nat) (v : Int32) : Nat → Int32 := fun j => if j = k then v else M j
theorem uM_self (M : Nat → Int32) (k : Nat) (v : Int32) : uM M k v k = v := by simp [uM]
theorem uM_ne (M : Nat → Int32) {k j : Nat} (v : Int32) (h : j ≠ k) : uM M k v j = M j := by simp [uM, h]
def mv (σ : Mm) (d : Nat) : Nat → Int32 := fun j => σ.1 70 (d + j)
def sM (σ : Mm) (d : Nat) (M : Nat → Int32) : Mm := (fun a j => if a = 70 then (if d ≤ j then M (j - d) else σ.1 a j) else σ.1 a j, σ.2)
theorem mv_sM (σ : Mm) (d : Nat) (M : Nat → Int32) : mv (sM σ d M) d = M := by
  funext j
  simp [mv, sM]
theorem sM_mv (σ : Mm) (d : Nat) : sM σ d (mv σ d) = σ := by
  refine Prod.ext (funext fun a => funext fun j => ?_) rfl
  simp only [sM, mv]
  split
  · next h =>
    subst h
    split
    · next h2 => rw [Nat.add_sub_cancel' h2]
    · rfl
  · rfl
theorem sM_sM (σ : Mm) (d : Nat) (M M' : Nat → Int32) : sM (sM σ d M) d M' = sM σ d M' := by
  refine Prod.ext (funext fun a => funext fun j => ?_) rfl
  simp only [sM]
  split
  · split <;> rfl
  · rfl
theorem sM_at (σ : Mm) (d : Nat) (M : Nat → Int32) (n : Nat) : (sM σ d M).1 70 (d + n) = M n := by simp [sM]
theorem wI_sM {σ : Mm} {d : Nat} {M : Nat → Int32} {a j : Nat} {v : Int32} (h : a ≠ 70) : wI (sM σ d M) a j v = sM (wI σ a j v) d M := by
  refine Prod.ext (funext fun b => funext fun i => ?_) rfl
  simp only [sM, wI, up2]
  by_cases hb : b = 70
  · subst hb
    simp [Ne.symm h]
  · simp [hb]
theorem wI_sM67 {σ : Mm} {d : Nat} {M : Nat → Int32} {j : Nat} {v : Int32} : wI (sM σ d M) 67 j v = sM (wI σ 67 j v) d M := wI_sM (by decide)
theorem wI_sM69 {σ : Mm} {d : Nat} {M : Nat → Int32} {j : Nat} {v : Int32} : wI (sM σ d M) 69 j v = sM (wI σ 69 j v) d M := wI_sM (by decide)
theorem wI_sM71 {σ : Mm} {d : Nat} {M : Nat → Int32} {j : Nat} {v : Int32} : wI (sM σ d M) 71 j v = sM (wI σ 71 j v) d M := wI_sM (by decide)
theorem wI_sM72 {σ : Mm} {d : Nat} {M : Nat → Int32} {j : Nat} {v : Int32} : wI (sM σ d M) 72 j v = sM (wI σ 72 j v) d M := wI_sM (by decide)
theorem wI_sM73 {σ : Mm} {d : Nat} {M : Nat → Int32} {j : Nat} {v : Int32} : wI (sM σ d M) 73 j v = sM (wI σ 73 j v) d M := wI_sM (by decide)
theorem wI_sM74 {σ : Mm} {d : Nat} {M : Nat → Int32} {j : Nat} {v : Int32} : wI (sM σ d M) 74 j v = sM (wI σ 74 j v) d M := wI_sM (by decide)
theorem wI_sM75 {σ : Mm} {d : Nat} {M : Nat → Int32} {j : Nat} {v : Int32} : wI (sM σ d M) 75 j v = sM (wI σ 75 j v) d M := wI_sM (by decide)
theorem wI_sM76 {σ : Mm} {d : Nat} {M : Nat → Int32} {j : Nat} {v : Int32} : wI (sM σ d M) 76 j v = sM (wI σ 76 j v) d M := wI_sM (by decide)
theorem wI_sM77 {σ : Mm} {d : Nat} {M : Nat → Int32} {j : Nat} {v : Int32} : wI (sM σ d M) 77 j v = sM (wI σ 77 j v) d M := wI_sM (by decide)
theorem wI_sM78 {σ : Mm} {d : Nat} {M : Nat → Int32} {j : Nat} {v : Int32} : wI (sM σ d M) 78 j v = sM (wI σ 78 j v) d M := wI_sM (by decide)
theorem wL_sM {σ : Mm} {d : Nat} {M : Nat → Int32} {a j : Nat} {v : Int64} : wL (sM σ d M) a j v = sM (wL σ a j v) d M := rfl
theorem wM_sM {σ : Mm} {d : Nat} {M : Nat → Int32} {n : Nat} {v : Int32} : wI (sM σ d M) 70 (d + n) v = sM σ d (uM M n v) := by
  refine Prod.ext (funext fun b => funext fun i => ?_) rfl
  simp only [sM, wI, up2, uM]
  by_cases hb : b = 70
  · subst hb
    by_cases h1 : d ≤ i
    · by_cases h2 : i = d + n
      · subst h2; simp
      · have h3 : ¬ i - d = n := by omega
        simp [h1, h2, h3]
    · have h2 : ¬ i = d + n := by omega
      simp [h1, h2]
  · simp [hb]
/-- SIZES of LEVELS below multiplied -/
def spanM (M : Nat → Int32) (k : Nat) : Int32 := itr (fun i v => v * M (1 + i)) 0 k 1
def lvF (M : Nat → Int32) (far : Int32) : Nat → Nat → Int32
  | 0, _ => -1
  | n + 1, k => if spanM M (k + 1) > far then nI k else lvF M far n (k + 1)
/-- so many LEVELS, of right SIZES -/
def Wf (M : Nat → Int32) (L : Nat) : Prop := M 0 = nI L ∧ 1 ≤ L ∧ L ≤ 4 ∧ ∀ k, k < L → ∃ s : Nat, M (1 + k) = nI s ∧ 2 ≤ s ∧ s ≤ 16
def rmI (a b : Int32) : Int32 := a - a / b * b
def slM (M : Nat → Int32) (lv due : Int32) : Int32 := if lv < 0 then -1 else rmI (due / spanM M (ix lv)) (M (1 + ix lv))
def layM (M : Nat → Int32) (L t : Nat) : Nat → Int32 :=
  uM (uM M (391 + t) (lvF M (M (231 + t) - M 6) L 0)) (407 + t) (slM M (lvF M (M (231 + t) - M 6) L 0) (M (231 + t)))
abbrev isT (M : Nat → Int32) (t : Nat) : Prop := M (215 + t) = 1
abbrev isG (M : Nat → Int32) (t : Nat) : Prop := M (215 + t) = 1 ∧ M (343 + t) = 0
