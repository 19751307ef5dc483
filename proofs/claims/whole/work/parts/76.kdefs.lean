/-! DUEWHEELS: what its memory says of a desk, a ROW, a TEXT -/
def CtR (M : Nat → Int32) (σ : Mm) : Prop := σ.1 1 8 = M 13 ∧ σ.1 1 9 = M 10 ∧ σ.1 1 10 = M 11 ∧ σ.1 1 11 = M 12
def Nm (σ : Mm) : Prop := ∀ u, u < 16 → σ.1 (32 + u) 0 = nI u
def KR (M : Nat → Int32) (L r : Nat) (l : List Int64) (T : Nat → Int32) (n : Nat) (σ : Mm) : Prop := WRel 2 M L σ ∧ CtR M σ ∧ LgR M r σ ∧ RwC l σ ∧ TxR T n σ ∧ Nm σ
theorem CtR.off {M : Nat → Int32} {lo hi : Nat} {σ τ : Mm} (h : CtR M σ) (ho : Off lo hi σ τ) (hd : 1 < lo) : CtR M τ := by
  unfold CtR
  rw [(ho 1 (by omega)).1]
  exact h
theorem Nm.off {lo hi : Nat} {σ τ : Mm} (h : Nm σ) (ho : Off lo hi σ τ) (hd : 47 < lo ∨ hi ≤ 32) : Nm τ := fun u hu => by
  rw [(ho (32 + u) (by omega)).1]
  exact h u hu
theorem CtR.cg {M M' : Nat → Int32} {σ : Mm} (h : CtR M σ) (e : ∀ j, 10 ≤ j → j < 14 → M' j = M j) : CtR M' σ := by
  unfold CtR
  rw [e 13 (by omega) (by omega), e 10 (by omega) (by omega), e 11 (by omega) (by omega), e 12 (by omega) (by omega)]
  exact h
/-- another desk that is alike -/
theorem KR.cg {M M' : Nat → Int32} {L r n : Nat} {l : List Int64} {T : Nat → Int32} {σ : Mm} (h : KR M L r l T n σ) (hL : L ≤ 4) (e : ∀ j, j < 423 → M' j = M j) : KR M' L r l T n σ :=
  ⟨h.1.cg hL (fun j hj _ => e j hj), h.2.1.cg (fun j _ h2 => e j (by omega)), h.2.2.1.cg (fun j hj => e j (by omega)), h.2.2.2⟩
/-- the works changed -/
theorem KR.wk {M M' : Nat → Int32} {L L' r n : Nat} {l : List Int64} {T : Nat → Int32} {σ τ : Mm} (h : KR M L r l T n σ) (ho : Off 2 25 σ τ) (hW : WRel 2 M' L' τ) (e : ∀ j, 7 ≤ j → j < 215 → j ≠ 8 → j ≠ 9 → M' j = M j) : KR M' L' r l T n τ :=
  ⟨hW, (h.2.1.off ho (by omega)).cg (fun j h1 h2 => e j (by omega) (by omega) (by omega) (by omega)), (h.2.2.1.off ho (by omega)).cg (fun j hj => e j (by omega) (by omega) (by omega) (by omega)), h.2.2.2.1.off ho (by omega), h.2.2.2.2.1.off ho (by omega), h.2.2.2.2.2.off ho (by omega)⟩
/-- the ROW changed -/
theorem KR.rw {M : Nat → Int32} {L r n : Nat} {l l' : List Int64} {T : Nat → Int32} {σ τ : Mm} (h : KR M L r l T n σ) (hL : L ≤ 4) (ho : Off 52 54 σ τ) (hR : RwC l' τ) : KR M L r l' T n τ :=
  ⟨h.1.off hL (fun _ _ _ => rfl) ho (by omega), h.2.1.off ho (by omega), h.2.2.1.off ho (by omega), hR, h.2.2.2.2.1.off ho (by omega), h.2.2.2.2.2.off ho (by omega)⟩
/-- works to try with, another shape, groups: changed -/
theorem KR.th {M : Nat → Int32} {L r n : Nat} {l : List Int64} {T : Nat → Int32} {σ τ : Mm} (h : KR M L r l T n σ) (hL : L ≤ 4) (ho : Off 25 52 σ τ) (hN : Nm τ) : KR M L r l T n τ :=
  ⟨h.1.off hL (fun _ _ _ => rfl) ho (by omega), h.2.1.off ho (by omega), h.2.2.1.off ho (by omega), h.2.2.2.1.off ho (by omega), h.2.2.2.2.1.off ho (by omega), hN⟩
/-- the TEXT changed -/
theorem KR.tx {M : Nat → Int32} {L r n n' : Nat} {l : List Int64} {T T' : Nat → Int32} {σ τ : Mm} (h : KR M L r l T n σ) (hL : L ≤ 4) (ho : Off 60 62 σ τ) (hR : TxR T' n' τ) : KR M L r l T' n' τ :=
  ⟨h.1.off hL (fun _ _ _ => rfl) ho (by omega), h.2.1.off ho (by omega), h.2.2.1.off ho (by omega), h.2.2.2.1.off ho (by omega), hR, h.2.2.2.2.2.off ho (by omega)⟩
/-- acts changed -/
theorem KR.ac {M : Nat → Int32} {L r n : Nat} {l : List Int64} {T : Nat → Int32} {σ τ : Mm} (h : KR M L r l T n σ) (hL : L ≤ 4) (ho : Off 62 67 σ τ) : KR M L r l T n τ :=
  ⟨h.1.off hL (fun _ _ _ => rfl) ho (by omega), h.2.1.off ho (by omega), h.2.2.1.off ho (by omega), h.2.2.2.1.off ho (by omega), h.2.2.2.2.1.off ho (by omega), h.2.2.2.2.2.off ho (by omega)⟩
/-- what is counted changed -/
theorem KR.ct {M M' : Nat → Int32} {L r n j : Nat} {l : List Int64} {T : Nat → Int32} {σ : Mm} {v : Int32} (h : KR M L r l T n σ) (hL : L ≤ 4) (hc : CtR M' (wI σ 1 j v)) (e : ∀ j, j < 423 → (j < 10 ∨ 14 ≤ j) → M' j = M j) : KR M' L r l T n (wI σ 1 j v) :=
  have ho : Off 1 2 σ (wI σ 1 j v) := Off.rf.wI (by omega) (by omega)
  ⟨h.1.off hL (fun j h1 h2 => e j h1 (by omega)) ho (by omega), hc, (h.2.2.1.off ho (by omega)).cg (fun j hj => e j (by omega) (by omega)), h.2.2.2.1.off ho (by omega), h.2.2.2.2.1.off ho (by omega), h.2.2.2.2.2.off ho (by omega)⟩
theorem fnd3 {M : Nat → Int32} (hB : Bo M) (k : Int32) : (¬ inR k 0 15) ∨ (∃ t, t < 16 ∧ k = nI t ∧ M (215 + t) = 0) ∨ ∃ t, t < 16 ∧ k = nI t ∧ isT M t := by
  by_cases h : inR k 0 15
  · have hx := isTm_ix h
    rcases (hB (ix k) hx.2).1 with e | e
    · exact Or.inr (Or.inl ⟨ix k, hx.2, hx.1, e⟩)
    · exact Or.inr (Or.inr ⟨ix k, hx.2, hx.1, e⟩)
  · exact Or.inl h
theorem isTm_t {M : Nat → Int32} {t : Nat} (ht : t < 16) (h : isT M t) : isTm M (nI t) := by
  refine ⟨⟨nI_le (a := 0) (Nat.zero_le _) (by omega), nI_le (b := 15) (by omega) (by omega)⟩, ?_⟩
  rw [ix_nI (by omega)]
  exact h
theorem isTm_0 {M : Nat → Int32} {t : Nat} (ht : t < 16) (h : M (215 + t) = 0) : ¬ isTm M (nI t) := fun q => by
  have := q.2
  rw [ix_nI (by omega)] at this
  exact absurd (h.symm.trans this) (by decide)
theorem isTm_o {M : Nat → Int32} {k : Int32} (h : ¬ inR k 0 15) : ¬ isTm M k := fun q => h q.1
theorem caM_ne {M : Nat → Int32} {t j : Nat} (h1 : j ≠ 215 + t) (h2 : j ≠ 10) : caM M t j = M j := by
  unfold caM
  rw [uM_ne _ _ h2, uM_ne _ _ h1]
theorem Bo_ca {M : Nat → Int32} {t : Nat} (h : Bo M) : Bo (caM M t) := fun u hu => by
  by_cases e : u = t
  · subst e
    refine ⟨Or.inl ?_, by rw [caM_ne (by omega) (by omega), caM_ne (by omega) (by omega)]; exact (h u hu).2⟩
    unfold caM
    rw [uM_ne _ _ (by omega), uM_self]
  · by_cases ht : t < 112
    · rw [caM_ne (j := 215 + u) (by omega) (by omega), caM_ne (j := 327 + u) (by omega) (by omega), caM_ne (j := 343 + u) (by omega) (by omega)]
      exact h u hu
    · by_cases e1 : 327 + u = 215 + t
      · rw [caM_ne (j := 215 + u) (by omega) (by omega), caM_ne (j := 343 + u) (by omega) (by omega)]
        refine ⟨(h u hu).1, Or.inl ?_, (h u hu).2.2⟩
        unfold caM
        rw [e1, uM_ne _ _ (by omega), uM_self]
      · by_cases e2 : 343 + u = 215 + t
        · rw [caM_ne (j := 215 + u) (by omega) (by omega), caM_ne (j := 327 + u) (by omega) (by omega)]
          refine ⟨(h u hu).1, (h u hu).2.1, Or.inl ?_⟩
          unfold caM
          rw [e2, uM_ne _ _ (by omega), uM_self]
        · rw [caM_ne (j := 215 + u) (by omega) (by omega), caM_ne (j := 327 + u) (by omega) (by omega), caM_ne (j := 343 + u) (by omega) (by omega)]
          exact h u hu
