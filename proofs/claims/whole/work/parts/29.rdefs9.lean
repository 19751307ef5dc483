abbrev inR (k lo hi : Int32) : Prop := lo ≤ k ∧ k ≤ hi
theorem inR_nI {k : Int32} {N : Nat} (hN : N < 2147483648) (h : inR k 0 (nI N)) : k = nI (ix k) ∧ ix k ≤ N := by
  have h0 : 0 ≤ k.toInt := by
    have := Int32.le_iff_toInt_le.mp h.1
    simpa using this
  have h1 : k.toInt ≤ (N : Int) := by
    have := Int32.le_iff_toInt_le.mp h.2
    rwa [nI_toInt hN] at this
  have e : ix k = k.toInt.toNat := rfl
  have hle : ix k ≤ N := by rw [e]; omega
  refine ⟨Int32.toInt_inj.mp ?_, hle⟩
  rw [nI_toInt (by omega), e]
  omega
abbrev isTm (M : Nat → Int32) (k : Int32) : Prop := inR k 0 15 ∧ isT M (ix k)
theorem isTm_ix {k : Int32} (h : inR k 0 15) : k = nI (ix k) ∧ ix k < 16 := by
  have := inR_nI (N := 15) (by omega) h
  exact ⟨this.1, by omega⟩
def orderR (M : Nat → Int32) (k : Int32) : Int32 := if inR k 0 2 then (if M 5 = k then -2 else M 5) else -1
def orderM (M : Nat → Int32) (k : Int32) : Nat → Int32 := if inR k 0 2 ∧ M 5 ≠ k then uM M 5 k else M
def setsC (dl gr so pe ti : Int32) : Prop := inR dl 1 1000000 ∧ inR gr 0 7 ∧ inR so 0 3 ∧ inR pe 1 1000 ∧ inR ti 0 99
def setsM (M : Nat → Int32) (L : Nat) (dl gr so pe ti : Int32) : Nat → Int32 := if frM M 16 0 = 16 then M else setM M L (frM M 16 0) dl gr so pe ti
def steadyR (M : Nat → Int32) (k b : Int32) : Int32 := if isTm M k then (if M (327 + ix k) = b then -2 else M (327 + ix k)) else -1
def steadyM (M : Nat → Int32) (k b : Int32) : Nat → Int32 := if isTm M k ∧ M (327 + ix k) ≠ b then uM M (327 + ix k) b else M
def pausesR (M : Nat → Int32) (k : Int32) : Int32 := if isTm M k then (if M (343 + ix k) = 1 then -2 else M (231 + ix k) - M 6) else -1
def pausesM (M : Nat → Int32) (k : Int32) : Nat → Int32 := if isTm M k ∧ M (343 + ix k) ≠ 1 then paM M (ix k) else M
def resumesR (M : Nat → Int32) (k : Int32) : Int32 := if isTm M k then (if M (343 + ix k) = 0 then -2 else M 6 + M (359 + ix k)) else -1
def resumesM (M : Nat → Int32) (L : Nat) (k : Int32) : Nat → Int32 := if isTm M k ∧ M (343 + ix k) ≠ 0 then reM M L (ix k) else M
def cancelsR (M : Nat → Int32) (k : Int32) : Int32 := if isTm M k then manyM (caM M (ix k)) else -1
def cancelsM (M : Nat → Int32) (k : Int32) : Nat → Int32 := if isTm M k then caM M (ix k) else M
/-- all of a group: a loop that counts -/
def grpF (P : (Nat → Int32) → Nat → Bool) (f : (Nat → Int32) → Nat → (Nat → Int32)) (t : Nat) (s : (Nat → Int32) × Nat) : (Nat → Int32) × Nat := if P s.1 t = true then (f s.1 t, s.2 + 1) else s
def grpS (P : (Nat → Int32) → Nat → Bool) (f : (Nat → Int32) → Nat → (Nat → Int32)) (M : Nat → Int32) : (Nat → Int32) × Nat := itr (grpF P f) 0 16 (M, 0)
def caP (k : Int32) (M : Nat → Int32) (t : Nat) : Bool := decide (isT M t ∧ M (263 + t) = k)
def hoP (k : Int32) (M : Nat → Int32) (t : Nat) : Bool := decide (isG M t ∧ M (263 + t) = k)
def goP (k : Int32) (M : Nat → Int32) (t : Nat) : Bool := decide (isT M t ∧ ¬ isG M t ∧ M (263 + t) = k)
/-- a delay: what it was, what it is, by how much later -/
def dlWas (M : Nat → Int32) (t : Nat) : Int32 := if M (343 + t) = 1 then M (359 + t) else M (231 + t) - M 6
def dlC (M : Nat → Int32) (k dl : Int32) : Prop := isTm M k ∧ inR dl 1 1000000
def dlM (M : Nat → Int32) (L t : Nat) (dl : Int32) : Nat → Int32 := if M (343 + t) = 1 then uM M (359 + t) dl else layM (uM M (231 + t) (M 6 + dl)) L t
