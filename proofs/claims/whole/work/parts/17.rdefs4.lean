/-- a PERIOD in its bounds -/
def Pq (M : Nat → Int32) (t : Nat) : Prop := ∃ q : Nat, M (295 + t) = nI q ∧ 1 ≤ q ∧ q ≤ 1000
theorem Pq_ne {M : Nat → Int32} {t : Nat} (h : Pq M t) : ¬ M (295 + t) = 0 := by
  obtain ⟨q, e, h1, h2⟩ := h
  rw [e]
  exact nI_ne0 (by omega) (by omega)
theorem Pq_same {M M' : Nat → Int32} {t : Nat} (h : Pq M t) (e : M' (295 + t) = M (295 + t)) : Pq M' t := by
  unfold Pq
  rw [e]
  exact h
theorem mnI_nI {a b : Nat} (ha : a < 2147483648) (hb : b < 2147483648) : mnI (nI a) (nI b) = nI (min a b) := by
  unfold mnI
  by_cases h : a ≤ b
  · rw [if_pos ((nI_leI (by omega) (by omega)).mpr h), Nat.min_eq_left h]
  · rw [if_neg (fun q => h ((nI_leI (by omega) (by omega)).mp q)), Nat.min_eq_right (by omega)]
theorem cmP_q {M : Nat → Int32} {s : Int32} {t : Nat} (h : Pq M t) : ∃ q : Nat, cmP M s t = nI q ∧ 1 ≤ q ∧ q ≤ 1000 := by
  obtain ⟨q, e, h1, h2⟩ := h
  unfold cmP
  split
  · refine ⟨min 1000 (2 * q), ?_, by omega, by omega⟩
    rw [e, show (2 : Int32) * nI q = nI (2 * q) from nmul (show (2 : Int32) = nI 2 from rfl) rfl]
    exact mnI_nI (a := 1000) (by omega) (by omega)
  · exact ⟨q, e, h1, h2⟩
theorem Pq_comes {M : Nat → Int32} {L t u : Nat} (ht : t < 16) (hu : u < 16) (h : Pq M t) (hu0 : Pq M u) : Pq (comesM M L t) u := by
  unfold comesM
  split
  · exact Pq_same hu0 (uM_ne _ _ (by omega))
  · refine Pq_same (M := cmS (cmT M t) (M (279 + t)) t) ?_ (layM_ne (by omega))
    by_cases hut : u = t
    · subst hut
      unfold cmS
      split
      · refine Pq_same hu0 ?_
        unfold cm1
        rw [uM_ne _ _ (by omega), uM_ne _ _ (by omega), cmT_ne (by omega)]
      · obtain ⟨q, e, h1, h2⟩ := cmP_q (M := cmT M u) (s := M (279 + u)) (t := u) (Pq_same hu0 (cmT_ne (by omega)))
        refine ⟨q, ?_, h1, h2⟩
        unfold cm2
        rw [uM_ne _ _ (by omega), uM_self, e]
    · exact Pq_same hu0 (by rw [cmS_ne (by omega) (by omega) (by omega), cmT_ne (by omega)])
/-- one of the line rings: first told, then it goes or is laid -/
def rg1 (M : Nat → Int32) (t : Nat) : Nat → Int32 := uM (uM M (375 + t) (M (375 + t) + 1)) 7 (uM M (375 + t) (M (375 + t) + 1) 7 + 1)
def rungM (M : Nat → Int32) (r t : Nat) : Nat → Int32 := keepM (rg1 M t) r t
def tellM (M : Nat → Int32) (r : Nat) (g : Nat → Nat) (n : Nat) : (Nat → Int32) × Nat := itr (fun k s => (rungM s.1 s.2 (g k), kpN s.2)) 0 n (M, r)
def ringM (M : Nat → Int32) (L r : Nat) (g : Nat → Nat) (n : Nat) : Nat → Int32 := itr (fun k M => comesM M L (g k)) 0 n (tellM M r g n).1
theorem kpN_le {r : Nat} (h : r ≤ 40) : kpN r ≤ 40 := by unfold kpN; split <;> omega
theorem rungM_ne {M : Nat → Int32} {r t j : Nat} (hr : r ≤ 40) (h7 : j ≠ 7) (h : j < 14 ∨ 215 ≤ j) (h3 : j ≠ 375 + t) : rungM M r t j = M j := by
  unfold rungM rg1
  rw [keepM_ne hr h, uM_ne _ _ h7, uM_ne _ _ h3]
/-- what is heard comes behind what was -/
def hcat (f : Nat → Int32) (h n : Nat) (v : Nat → Int32) : Nat → Int32 := fun j => if h ≤ j ∧ j < h + n then v (j - h) else f j
theorem hcat_0 (f : Nat → Int32) (h : Nat) (v : Nat → Int32) : hcat f h 0 v = f := by
  funext j
  unfold hcat
  rw [if_neg (by omega)]
theorem hcat_succ (f : Nat → Int32) (h n : Nat) (v : Nat → Int32) : upd (hcat f h n v) (h + n) (v n) = hcat f h (n + 1) v := by
  funext j
  unfold upd hcat
  by_cases h1 : j = h + n
  · rw [if_pos h1, if_pos (by omega), h1, Nat.add_sub_cancel_left]
  · rw [if_neg h1]
    by_cases h2 : h ≤ j ∧ j < h + n
    · rw [if_pos h2, if_pos (by omega)]
    · rw [if_neg h2, if_neg (by omega)]
def sHd (σ : Mm) (f1 f2 : Nat → Int32) (h : Nat) : Mm := (fun a j => if a = 72 then f1 j else if a = 73 then f2 j else if a = 67 ∧ j = 13 then nI h else σ.1 a j, σ.2)
theorem sHd_sHd (σ : Mm) (f1 f2 g1 g2 : Nat → Int32) (h h' : Nat) : sHd (sHd σ f1 f2 h) g1 g2 h' = sHd σ g1 g2 h' := by
  refine Prod.ext (funext fun a => funext fun j => ?_) rfl
  simp only [sHd]
  split
  · rfl
  · split
    · rfl
    · split <;> rfl
theorem sHd_of {σ : Mm} {h : Nat} (hh : σ.1 67 13 = nI h) : sHd σ (σ.1 72) (σ.1 73) h = σ := by
  refine Prod.ext (funext fun a => funext fun j => ?_) rfl
  simp only [sHd]
  split
  · next q => rw [q]
  · split
    · next q => rw [q]
    · split
      · next q => rw [q.1, q.2, hh]
      · rfl
theorem wI_sHd72 {σ : Mm} {f1 f2 : Nat → Int32} {h k : Nat} {v : Int32} : wI (sHd σ f1 f2 h) 72 k v = sHd σ (upd f1 k v) f2 h := by
  refine Prod.ext (funext fun a => funext fun j => ?_) rfl
  simp only [sHd, wI, up2, upd]
  by_cases q : a = 72
  · subst q; simp
  · simp [q]
theorem wI_sHd73 {σ : Mm} {f1 f2 : Nat → Int32} {h k : Nat} {v : Int32} : wI (sHd σ f1 f2 h) 73 k v = sHd σ f1 (upd f2 k v) h := by
  refine Prod.ext (funext fun a => funext fun j => ?_) rfl
  simp only [sHd, wI, up2, upd]
  by_cases q : a = 72
  · subst q; simp
  · by_cases q2 : a = 73
    · subst q2; simp
    · simp [q, q2]
theorem wI_sHd13 {σ : Mm} {f1 f2 : Nat → Int32} {h m : Nat} : wI (sHd σ f1 f2 h) 67 13 (nI m) = sHd σ f1 f2 m := by
  refine Prod.ext (funext fun a => funext fun j => ?_) rfl
  simp only [sHd, wI, up2]
  by_cases q : a = 72
  · subst q; simp
  · by_cases q2 : a = 73
    · subst q2; simp
    · by_cases q3 : a = 67 ∧ j = 13
      · simp [q3]
      · simp [q, q2, q3]
