/-! WHERE TIMERS LIE: what holds of a desk at all times -/
theorem nI_div {a b : Nat} (ha : a < 2147483648) (hb : b < 2147483648) : nI a / nI b = nI (a / b) := by
  have hle : a / b ≤ a := Nat.div_le_self a b
  obtain ⟨q, hq⟩ : ∃ q, a / b = q := ⟨_, rfl⟩
  rw [hq] at hle ⊢
  apply Int32.toInt_inj.mp
  rw [Int32.toInt_div, nI_toInt ha, nI_toInt hb, nI_toInt (by omega), Int.tdiv_eq_ediv_of_nonneg (by omega)]
  rw [← Int.natCast_ediv, hq]
  apply Int.bmod_eq_of_le <;> omega
theorem nI_sub {a b : Nat} (h : b ≤ a) : nI a - nI b = nI (a - b) := by
  have e : nI (a - b) + nI b = nI a := by rw [nI_add, Nat.sub_add_cancel h]
  rw [← e, Int32.add_sub_cancel]
theorem nI_mul {a b : Nat} : nI a * nI b = nI (a * b) := nmul rfl rfl
theorem nI_rm {a b : Nat} (ha : a < 2147483648) (hb : b < 2147483648) : rmI (nI a) (nI b) = nI (a % b) := by
  unfold rmI
  rw [nI_div ha hb, nI_mul, nI_sub (Nat.div_mul_le_self a b)]
  congr 1
  have := Nat.div_add_mod a b
  rw [Nat.mul_comm] at this
  omega
/-- SIZES of LEVELS below multiplied -/
def spN (M : Nat → Int32) : Nat → Nat
  | 0 => 1
  | k + 1 => spN M k * ix (M (1 + k))
theorem spN_s {M : Nat → Int32} {k : Nat} : spN M (k + 1) = spN M k * ix (M (1 + k)) := rfl
theorem spN_congr {M N : Nat → Int32} (h : ∀ j, j < 5 → M j = N j) : ∀ k, k ≤ 4 → spN M k = spN N k
  | 0, _ => rfl
  | k + 1, hk => by
    unfold spN
    rw [spN_congr h k (by omega), h (1 + k) (by omega)]
theorem sz_of {M : Nat → Int32} {L k : Nat} (hF : Wf M L) (hk : k < L) : M (1 + k) = nI (ix (M (1 + k))) ∧ 2 ≤ ix (M (1 + k)) ∧ ix (M (1 + k)) ≤ 16 := by
  obtain ⟨s, e, h1, h2⟩ := hF.2.2.2 k hk
  have : ix (M (1 + k)) = s := by rw [e]; exact ix_nI (by omega)
  rw [this]
  exact ⟨e, h1, h2⟩
theorem spN_of {M : Nat → Int32} {L : Nat} (hF : Wf M L) : ∀ k, k ≤ L → spanM M k = nI (spN M k) ∧ 1 ≤ spN M k ∧ spN M k ≤ 16 ^ k
  | 0, _ => ⟨rfl, Nat.le_refl 1, Nat.le_refl 1⟩
  | k + 1, hk => by
    obtain ⟨a, b, c⟩ := spN_of hF k (by omega)
    obtain ⟨d, e, f⟩ := sz_of hF (show k < L by omega)
    rw [spN_s]
    refine ⟨?_, ?_, ?_⟩
    · have e2 : M (1 + k) * spanM M k = nI (ix (M (1 + k))) * nI (spN M k) := by rw [a, ← d]
      rw [span_last, e2, nI_mul, Nat.mul_comm]
    · exact Nat.mul_le_mul b (by omega : 1 ≤ _)
    · rw [Nat.pow_succ]
      exact Nat.mul_le_mul c f
theorem spN_lt {M : Nat → Int32} {L : Nat} (hF : Wf M L) {k : Nat} (hk : k ≤ L) : spN M k ≤ 65536 := by
  have h1 := (spN_of hF k hk).2.2
  have h2 : (16 : Nat) ^ k ≤ 16 ^ 4 := Nat.pow_le_pow_right (by omega) (by have := hF.2.2.1; omega)
  omega
/-- the level found: none reaches, or the lowest that does -/
theorem lvF_spec {M : Nat → Int32} {L d : Nat} (hF : Wf M L) (hd : d < 2147483648) : ∀ n k, k + n = L → (lvF M (nI d) n k = -1 ∧ ∀ j, k ≤ j → j < L → spN M (j + 1) ≤ d) ∨ ∃ j, k ≤ j ∧ j < L ∧ lvF M (nI d) n k = nI j ∧ d < spN M (j + 1) ∧ ∀ i, k ≤ i → i < j → spN M (i + 1) ≤ d
  | 0, k, hk => Or.inl ⟨rfl, fun j h1 h2 => absurd h2 (by omega)⟩
  | n + 1, k, hk => by
    have hs := (spN_of hF (k + 1) (by omega)).1
    have hl := spN_lt hF (show k + 1 ≤ L by omega)
    unfold lvF
    rw [hs]
    by_cases q : d < spN M (k + 1)
    · rw [if_pos (nI_lt q (by omega))]
      exact Or.inr ⟨k, Nat.le_refl k, by omega, rfl, q, fun i h1 h2 => absurd h2 (by omega)⟩
    · rw [if_neg (fun h => q ((nI_ltI (by omega) (by omega)).mp h))]
      rcases lvF_spec hF hd n (k + 1) (by omega) with ⟨e, h⟩ | ⟨j, h1, h2, e, h3, h4⟩
      · refine Or.inl ⟨e, fun j h1 h2 => ?_⟩
        by_cases ej : j = k
        · rw [ej]; omega
        · exact h j (by omega) h2
      · refine Or.inr ⟨j, by omega, h2, e, h3, fun i h5 h6 => ?_⟩
        by_cases ei : i = k
        · rw [ei]; omega
        · exact h4 i (by omega) h6
/-- it lies where it should: still ahead -/
def WI (M : Nat → Int32) (L t : Nat) : Prop := ix (M 6) < ix (M (231 + t)) ∧
  ((M (391 + t) = -1 ∧ ix (M 6) / spN M L < ix (M (231 + t)) / spN M L) ∨
   ∃ k, k < L ∧ M (391 + t) = nI k ∧ M (407 + t) = nI (ix (M (231 + t)) / spN M k % ix (M (1 + k))) ∧ ix (M 6) / spN M k < ix (M (231 + t)) / spN M k ∧ ix (M (231 + t)) < ix (M 6) + spN M (k + 1))
/-- or it is due now, in the slot of now -/
def Gd (M : Nat → Int32) (L t : Nat) : Prop := (ix (M (231 + t)) = ix (M 6) ∧ M (391 + t) = 0 ∧ M (407 + t) = nI (ix (M 6) % ix (M 1))) ∨ WI M L t
theorem WI.col {M N : Nat → Int32} {L t : Nat} (hL : L ≤ 4) (ht : t < 16) (h : Col t M N) (q : WI N L t) : WI M L t := by
  have e : ∀ j, j < 5 → M j = N j := fun j hj => h.1 j (by omega)
  unfold WI at q ⊢
  rw [h.1 6 (by omega), h.2 (231 + t) (by omega) (by omega) (by omega), h.2 (391 + t) (by omega) (by omega) (by omega), h.2 (407 + t) (by omega) (by omega) (by omega), spN_congr e L hL]
  refine ⟨q.1, q.2.elim Or.inl (fun ⟨k, a, b, c, d, f⟩ => Or.inr ⟨k, a, b, ?_, ?_, ?_⟩)⟩
  · rw [spN_congr e k (by omega), e (1 + k) (by omega)]; exact c
  · rw [spN_congr e k (by omega)]; exact d
  · rw [spN_congr e (k + 1) (by omega)]; exact f
theorem div_lt_of {c d s : Nat} (hs : 1 ≤ s) (h : s ≤ d - c) (hcd : c ≤ d) : c / s < d / s := by
  have h1 : c / s + 1 = (c + s) / s := (Nat.add_div_right c hs).symm
  have h2 : (c + s) / s ≤ d / s := Nat.div_le_div_right (by omega)
  omega
theorem lay_Gd {M : Nat → Int32} {L t c d : Nat} (hF : Wf M L) (ht : t < 16) (h6 : M 6 = nI c) (hdu : M (231 + t) = nI d) (hcd : c ≤ d) (hd : d < 2147483648) : Gd (layM M L t) L t ∧ (c < d → WI (layM M L t) L t) := by
  have hL := hF.2.2.1
  have hc : c < 2147483648 := by omega
  have ec : ix (M 6) = c := by rw [h6]; exact ix_nI hc
  have ed : ix (M (231 + t)) = d := by rw [hdu]; exact ix_nI hd
  have l6 : layM M L t 6 = M 6 := layM_ne (by omega)
  have ldu : layM M L t (231 + t) = M (231 + t) := layM_ne (by omega)
  have llv : layM M L t (391 + t) = lvF M (nI (d - c)) L 0 := by rw [lay_lv ht, hdu, h6, nI_sub hcd]
  have lsl : layM M L t (407 + t) = slM M (lvF M (nI (d - c)) L 0) (nI d) := by
    unfold layM
    rw [uM_self, hdu, h6, nI_sub hcd]
  have esp : ∀ k, k ≤ 4 → spN (layM M L t) k = spN M k := fun k hk => spN_congr (fun j hj => layM_ne (by omega)) k hk
  have esz : ∀ k, k < 4 → layM M L t (1 + k) = M (1 + k) := fun k hk => layM_ne (by omega)
  have wi : c < d → WI (layM M L t) L t := by
    intro hlt
    unfold WI
    rw [l6, ldu, ec, ed, esp L hL, llv, lsl]
    refine ⟨hlt, ?_⟩
    rcases lvF_spec hF (d := d - c) (by omega) L 0 (by omega) with ⟨e, h⟩ | ⟨j, h1, h2, e, h3, h4⟩
    · rw [e]
      refine Or.inl ⟨rfl, ?_⟩
      have hL1 := hF.2.1
      have := h (L - 1) (by omega) (by omega)
      rw [show L - 1 + 1 = L by omega] at this
      exact div_lt_of (spN_of hF L (Nat.le_refl L)).2.1 this (by omega)
    · have hsz := sz_of hF h2
      have hsp := spN_of hF j (by omega)
      have hl := spN_lt hF (show j ≤ L by omega)
      rw [e]
      refine Or.inr ⟨j, h2, rfl, ?_, ?_, ?_⟩
      · rw [esp j (by omega), esz j (by omega), slM, if_neg (nI_nn (by omega)), ix_nI (by omega), hsp.1, hsz.1, nI_div hd (by omega), nI_rm (by have := Nat.div_le_self d (spN M j); omega) (by omega), ix_nI (by omega)]
      · rw [esp j (by omega)]
        by_cases ej : j = 0
        · subst ej
          show c / 1 < d / 1
          rw [Nat.div_one, Nat.div_one]
          exact hlt
        · have := h4 (j - 1) (by omega) (by omega)
          rw [show j - 1 + 1 = j by omega] at this
          exact div_lt_of hsp.2.1 this (by omega)
      · rw [esp (j + 1) (by omega)]
        omega
  refine ⟨?_, wi⟩
  by_cases e : c = d
  · subst e
    refine Or.inl ?_
    have hsz := sz_of hF (show 0 < L by have := hF.2.1; omega)
    rw [l6, ldu, ec, ed, llv, lsl, Nat.sub_self]
    rcases lvF_spec hF (d := 0) (by omega) L 0 (by omega) with ⟨q, h⟩ | ⟨j, h1, h2, q, h3, h4⟩
    · have hL1 := hF.2.1
      have g1 : spN M 1 ≤ 0 := h 0 (by omega) (by omega)
      have g2 := (spN_of hF 1 (by omega)).2.1
      omega
    · have ej : j = 0 := by
        by_cases q : j = 0
        · exact q
        · have g1 : spN M 1 ≤ 0 := h4 0 (by omega) (by omega)
          have g2 := (spN_of hF 1 (by omega)).2.1
          omega
      subst ej
      rw [q]
      refine ⟨rfl, rfl, ?_⟩
      have e1 : layM M L t 1 = M 1 := layM_ne (by omega)
      have hs1 : M 1 = nI (ix (M 1)) := hsz.1
      have hs2 : ix (M 1) ≤ 16 := hsz.2.2
      rw [e1, slM, if_neg (by decide), show ix (nI 0) = 0 from rfl]
      show rmI (nI c / 1) (M (1 + 0)) = _
      rw [div1, show M (1 + 0) = nI (ix (M 1)) from hs1, nI_rm (by omega) (by omega), ix_nI (by omega)]
  · exact Or.inr (wi (by omega))
