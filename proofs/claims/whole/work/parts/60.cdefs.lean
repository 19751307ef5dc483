/-! THE CLASS: what its memory says of a desk M -/
/-- all places but lo .. hi - 1 hold what they held -/
def Off (lo hi : Nat) (σ σ' : Mm) : Prop := ∀ a, (a < lo ∨ hi ≤ a) → σ'.1 a = σ.1 a ∧ σ'.2.1 a = σ.2.1 a ∧ σ'.2.2 a = σ.2.2 a
theorem Off.rf {lo hi : Nat} {σ : Mm} : Off lo hi σ σ := fun _ _ => ⟨rfl, rfl, rfl⟩
theorem Off.tr {lo hi : Nat} {σ τ ρ : Mm} (h1 : Off lo hi σ τ) (h2 : Off lo hi τ ρ) : Off lo hi σ ρ := fun a h =>
  ⟨(h2 a h).1.trans (h1 a h).1, (h2 a h).2.1.trans (h1 a h).2.1, (h2 a h).2.2.trans (h1 a h).2.2⟩
theorem Off.wd {lo hi lo' hi' : Nat} {σ τ : Mm} (h : Off lo hi σ τ) (h1 : lo' ≤ lo) (h2 : hi ≤ hi') : Off lo' hi' σ τ := fun a ha => h a (by omega)
theorem Off.wI {lo hi a j : Nat} {σ τ : Mm} {v : Int32} (h : Off lo hi σ τ) (h1 : lo ≤ a) (h2 : a < hi) : Off lo hi σ (wI τ a j v) := fun x hx => by
  refine ⟨(?_ : (up2 τ.1 a j v) x = σ.1 x), (h x hx).2.1, (h x hx).2.2⟩
  rw [← (h x hx).1]
  funext y
  exact up2_ne _ _ (Or.inl (by omega))
theorem Off.wL {lo hi a j : Nat} {σ τ : Mm} {v : Int64} (h : Off lo hi σ τ) (h1 : lo ≤ a) (h2 : a < hi) : Off lo hi σ (wL τ a j v) := fun x hx => by
  refine ⟨(h x hx).1, (?_ : (up2 τ.2.1 a j v) x = σ.2.1 x), (h x hx).2.2⟩
  rw [← (h x hx).2.1]
  funext y
  exact up2_ne _ _ (Or.inl (by omega))
theorem Off.wT {lo hi a j : Nat} {σ τ : Mm} {v : Option Nat} (h : Off lo hi σ τ) (h1 : lo ≤ a) (h2 : a < hi) : Off lo hi σ (wT τ a j v) := fun x hx => by
  refine ⟨(h x hx).1, (h x hx).2.1, (?_ : (up2 τ.2.2 a j v) x = σ.2.2 x)⟩
  rw [← (h x hx).2.2]
  funext y
  exact up2_ne _ _ (Or.inl (by omega))
theorem kT9 : ∀ t, t < 16 → sh0.2.1 (9 + t) = 6 := by decide
theorem kT32 : ∀ t, t < 16 → sh0.2.1 (32 + t) = 6 := by decide
theorem rT9 {t : Nat} (h : t < 16) {j : Nat} : sh0.2.2.2 (9 + t) j = none := by
  show rck (kd0 (9 + t)) (9 + t) j = none
  rw [show kd0 (9 + t) = 6 from kT9 t h]
  rfl
theorem rT32 {t : Nat} (h : t < 16) {j : Nat} : sh0.2.2.2 (32 + t) j = none := by
  show rck (kd0 (32 + t)) (32 + t) j = none
  rw [show kd0 (32 + t) = 6 from kT32 t h]
  rfl
/-- a shape at a place -/
def ShR (a : Nat) (M : Nat → Int32) (L : Nat) (σ : Mm) : Prop := σ.1 a 2 = nI L ∧ σ.1 a 3 = spanM M L ∧ (∀ k, k < 4 → σ.1 (a + 1) k = M (1 + k)) ∧ ∀ k, k < L → σ.1 (a + 2) k = spanM M k
/-- a timer -/
def TmR (M : Nat → Int32) (t : Nat) (g : Nat → Int32) : Prop :=
  (g 0 = nI t ∧ g 1 = M (215 + t) ∧ g 2 = M (231 + t) ∧ g 4 = M (247 + t) ∧ g 5 = M (263 + t) ∧ g 6 = M (279 + t) ∧ g 7 = M (295 + t) ∧ g 8 = M (311 + t) ∧ g 9 = M (375 + t) ∧ g 10 = M (327 + t) ∧ g 11 = M (343 + t)) ∧
  (M (343 + t) = 1 → g 12 = M (359 + t) ∧ g 13 = -2 ∧ g 14 = -2) ∧ (M (343 + t) = 0 → g 13 = M (391 + t) ∧ g 14 = M (407 + t))
abbrev TmR.no {M : Nat → Int32} {t : Nat} {g : Nat → Int32} (h : TmR M t g) : g 0 = nI t := h.1.1
abbrev TmR.live {M : Nat → Int32} {t : Nat} {g : Nat → Int32} (h : TmR M t g) : g 1 = M (215 + t) := h.1.2.1
abbrev TmR.due {M : Nat → Int32} {t : Nat} {g : Nat → Int32} (h : TmR M t g) : g 2 = M (231 + t) := h.1.2.2.1
abbrev TmR.arr {M : Nat → Int32} {t : Nat} {g : Nat → Int32} (h : TmR M t g) : g 4 = M (247 + t) := h.1.2.2.2.1
abbrev TmR.grp {M : Nat → Int32} {t : Nat} {g : Nat → Int32} (h : TmR M t g) : g 5 = M (263 + t) := h.1.2.2.2.2.1
abbrev TmR.sort {M : Nat → Int32} {t : Nat} {g : Nat → Int32} (h : TmR M t g) : g 6 = M (279 + t) := h.1.2.2.2.2.2.1
abbrev TmR.per {M : Nat → Int32} {t : Nat} {g : Nat → Int32} (h : TmR M t g) : g 7 = M (295 + t) := h.1.2.2.2.2.2.2.1
abbrev TmR.tms {M : Nat → Int32} {t : Nat} {g : Nat → Int32} (h : TmR M t g) : g 8 = M (311 + t) := h.1.2.2.2.2.2.2.2.1
abbrev TmR.rang {M : Nat → Int32} {t : Nat} {g : Nat → Int32} (h : TmR M t g) : g 9 = M (375 + t) := h.1.2.2.2.2.2.2.2.2.1
abbrev TmR.ste {M : Nat → Int32} {t : Nat} {g : Nat → Int32} (h : TmR M t g) : g 10 = M (327 + t) := h.1.2.2.2.2.2.2.2.2.2.1
abbrev TmR.pau {M : Nat → Int32} {t : Nat} {g : Nat → Int32} (h : TmR M t g) : g 11 = M (343 + t) := h.1.2.2.2.2.2.2.2.2.2.2
/-- works at a place: clock, rule, moved, missed; the shape; the timers -/
def WRel (b : Nat) (M : Nat → Int32) (L : Nat) (σ : Mm) : Prop := (σ.1 b 3 = M 6 ∧ σ.1 b 4 = M 5 ∧ σ.1 b 5 = M 8 ∧ σ.1 b 6 = M 9) ∧ ShR (b + 1) M L σ ∧ ∀ t, t < 16 → TmR M t (σ.1 (b + 7 + t))
/-- flags are 0 or 1 -/
def Bo (M : Nat → Int32) : Prop := ∀ t, t < 16 → (M (215 + t) = 0 ∨ M (215 + t) = 1) ∧ (M (327 + t) = 0 ∨ M (327 + t) = 1) ∧ (M (343 + t) = 0 ∨ M (343 + t) = 1)
theorem ShR.off {a L : Nat} {M M' : Nat → Int32} {σ σ' : Mm} (h : ShR a M L σ) (hL : L ≤ 4) (hM : ∀ j, j < 5 → M' j = M j) (h0 : σ'.1 a = σ.1 a) (h1 : σ'.1 (a + 1) = σ.1 (a + 1)) (h2 : σ'.1 (a + 2) = σ.1 (a + 2)) : ShR a M' L σ' := by
  obtain ⟨e1, e2, e3, e4⟩ := h
  refine ⟨by rw [h0]; exact e1, by rw [h0, e2, spanM_congr hL hM], fun k hk => by rw [h1, e3 k hk, hM _ (by omega)], fun k hk => by rw [h2, e4 k hk, spanM_congr (by omega) hM]⟩
theorem TmR.sm {M M' : Nat → Int32} {t : Nat} {g g' : Nat → Int32} (h : TmR M t g) (ht : t < 16) (hM : ∀ j, 215 ≤ j → j < 423 → (j - 215) % 16 = t → M' j = M j) (hg : g' = g) : TmR M' t g' := by
  subst hg
  unfold TmR at h ⊢
  rw [hM (215 + t) (by omega) (by omega) (by omega), hM (231 + t) (by omega) (by omega) (by omega), hM (247 + t) (by omega) (by omega) (by omega), hM (263 + t) (by omega) (by omega) (by omega), hM (279 + t) (by omega) (by omega) (by omega), hM (295 + t) (by omega) (by omega) (by omega), hM (311 + t) (by omega) (by omega) (by omega), hM (375 + t) (by omega) (by omega) (by omega), hM (327 + t) (by omega) (by omega) (by omega), hM (343 + t) (by omega) (by omega) (by omega), hM (359 + t) (by omega) (by omega) (by omega), hM (391 + t) (by omega) (by omega) (by omega), hM (407 + t) (by omega) (by omega) (by omega)]
  exact h
/-- nothing of it changed -/
theorem WRel.off {b L lo hi : Nat} {M M' : Nat → Int32} {σ σ' : Mm} (h : WRel b M L σ) (hL : L ≤ 4) (hM : ∀ j, j < 423 → (j < 7 ∨ j = 8 ∨ j = 9 ∨ 215 ≤ j) → M' j = M j) (ho : Off lo hi σ σ') (hd : hi ≤ b ∨ b + 23 ≤ lo) : WRel b M' L σ' := by
  obtain ⟨h1, h2, h3⟩ := h
  have e : ∀ k, k < 23 → σ'.1 (b + k) = σ.1 (b + k) := fun k hk => (ho (b + k) (by omega)).1
  refine ⟨?_, h2.off hL (fun j hj => hM j (by omega) (by omega)) (e 1 (by omega)) (e 2 (by omega)) (e 3 (by omega)), fun t ht => (h3 t ht).sm ht (fun j h4 h5 _ => hM j h5 (by omega)) ?_⟩
  · have e0 := e 0 (by omega)
    rw [Nat.add_zero] at e0
    rw [e0, hM 6 (by omega) (by omega), hM 5 (by omega) (by omega), hM 8 (by omega) (by omega), hM 9 (by omega) (by omega)]
    exact h1
  · rw [Nat.add_assoc]
    exact e (7 + t) (by omega)
/-- one timer changed, and maybe what was moved and missed -/
theorem WRel.one {b L t : Nat} {M M' : Nat → Int32} {σ σ' : Mm} (h : WRel b M L σ) (hL : L ≤ 4) (ht : t < 16) (hM : ∀ j, j < 7 → M' j = M j) (hMt : ∀ j, 215 ≤ j → j < 423 → ¬ (j - 215) % 16 = t → M' j = M j)
    (h5 : σ'.1 b 5 = M' 8) (h6 : σ'.1 b 6 = M' 9) (h34 : σ'.1 b 3 = σ.1 b 3 ∧ σ'.1 b 4 = σ.1 b 4) (ho : ∀ k, 1 ≤ k → k < 23 → k ≠ 7 + t → σ'.1 (b + k) = σ.1 (b + k)) (hT : TmR M' t (σ'.1 (b + 7 + t))) : WRel b M' L σ' := by
  obtain ⟨h1, h2, h3⟩ := h
  refine ⟨⟨by rw [h34.1, hM 6 (by omega)]; exact h1.1, by rw [h34.2, hM 5 (by omega)]; exact h1.2.1, h5, h6⟩, h2.off hL (fun j hj => hM j (by omega)) (ho 1 (by omega) (by omega) (by omega)) (ho 2 (by omega) (by omega) (by omega)) (ho 3 (by omega) (by omega) (by omega)), fun u hu => ?_⟩
  by_cases e : u = t
  · subst e; exact hT
  · refine (h3 u hu).sm hu (fun j h4 h5 h6 => hMt j h4 h5 (by omega)) ?_
    have := ho (7 + u) (by omega) (by omega) (by omega)
    rw [← Nat.add_assoc] at this
    exact this
/-- the line: its row and how many -/
def LnR (b : Nat) (g : Nat → Nat) (n : Nat) (σ : Mm) : Prop := σ.1 (b + 5) 1 = nI n ∧ n ≤ 16 ∧ ∀ j, j < n → σ.2.2 (b + 6) j = some (b + 7 + g j) ∧ g j < 16
theorem LnR.off {b n lo hi : Nat} {g : Nat → Nat} {σ σ' : Mm} (h : LnR b g n σ) (ho : Off lo hi σ σ') (hd : b + 6 < lo ∨ hi ≤ b + 5) : LnR b g n σ' :=
  ⟨by rw [(ho (b + 5) (by omega)).1]; exact h.1, h.2.1, fun j hj => by rw [(ho (b + 6) (by omega)).2.2]; exact h.2.2 j hj⟩
/-- what is ahead, as the class has it -/
def aheadC (M : Nat → Int32) (bd : Bool) (v : Int32) (a b : Nat) : Bool :=
  if bd = true ∧ M (231 + a) ≠ M (231 + b) then decide (M (231 + a) < M (231 + b))
  else if v = 1 ∧ M (263 + a) ≠ M (263 + b) then decide (M (263 + a) < M (263 + b))
  else if v = 2 then decide (M (247 + a) > M (247 + b)) else decide (M (247 + a) < M (247 + b))
theorem aheadC_soon {M : Nat → Int32} {bd : Bool} {a b : Nat} (hr : M 5 = 0 ∨ M 5 = 1 ∨ M 5 = 2) (hab : M (247 + a) ≠ M (247 + b)) : aheadC M bd (M 5) a b = soonB M bd a b := by
  unfold aheadC soonB
  by_cases h1 : bd = true ∧ M (231 + a) ≠ M (231 + b)
  · rw [if_pos h1, if_pos h1]
  · rw [if_neg h1, if_neg h1]
    unfold aheadB
    rcases hr with e | e | e
    · rw [e, if_neg (fun q => absurd q.1 (by decide)), if_neg (by decide), if_pos rfl]
    · rw [e, if_neg (show ¬ (1 : Int32) = 0 by decide), if_pos rfl, if_neg (show ¬ (1 : Int32) = 2 by decide)]
      by_cases h2 : M (263 + a) = M (263 + b)
      · rw [if_neg (fun q => q.2 h2), if_pos h2]
      · rw [if_pos ⟨rfl, h2⟩, if_neg h2]
    · rw [e, if_neg (fun q => absurd q.1 (by decide)), if_pos rfl, if_neg (by decide), if_neg (by decide)]
      by_cases h3 : M (247 + a) < M (247 + b)
      · rw [decide_eq_true h3, decide_eq_false (Int32.not_lt.mpr (Int32.le_of_lt h3))]; rfl
      · rw [decide_eq_false h3]
        have h4 : M (247 + a) > M (247 + b) := Int32.lt_of_le_of_ne (Int32.not_lt.mp h3) (fun q => hab q.symm)
        rw [decide_eq_true h4]; rfl
theorem span_last (M : Nat → Int32) (k : Nat) : spanM M (k + 1) = M (1 + k) * spanM M k := by
  unfold spanM
  rw [itr_last, Nat.zero_add, Int32.mul_comm]
theorem sub_sub_same (a b : Int32) : a - (a - b) = b := by
  rw [Int32.sub_eq_add_neg, Int32.neg_sub, Int32.add_comm, Int32.sub_add_cancel]
