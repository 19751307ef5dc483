/-- what a desk keeps: right LEVELS, so many logged, right PERIODS -/
def Iv (M : Nat → Int32) (L r : Nat) : Prop := Wf M L ∧ M 14 = nI r ∧ r ≤ 40 ∧ ∀ t, t < 16 → isT M t → Pq M t
theorem lineM_all {M : Nat → Int32} {bd : Bool} {sel : Nat → Bool} {P : Nat → Prop} (hs : ∀ t, t < 16 → sel t = true → P t) : ∀ n i, i + n = 16 → ∀ s : (Nat → Nat) × Nat, (∀ j, j < s.2 → P (s.1 j)) → ∀ j, j < (itr (lnF M bd sel) i n s).2 → P ((itr (lnF M bd sel) i n s).1 j)
  | 0, _, _, _, h2 => h2
  | n + 1, i, hi, s, h2 => by
    rw [itr_succ]
    refine lineM_all hs n (i + 1) (by omega) _ ?_
    unfold lnF
    split
    · intro j hj
      exact qG_all (hs i (by omega) (by assumption)) s.2 s.2 s.1 (Nat.le_refl _) (fun k hk hne => h2 k (by omega)) j hj
    · exact h2
theorem lineM_lt {M : Nat → Int32} {bd : Bool} {sel : Nat → Bool} {j : Nat} (hj : j < (lineM M bd sel).2) : (lineM M bd sel).1 j < 16 :=
  (lineM_inv 16 0 (by omega) (fun _ => 0, 0) (Nat.le_refl 0) (fun j hj => absurd hj (Nat.not_lt_zero j))).2 j hj
theorem lineM_le {M : Nat → Int32} {bd : Bool} {sel : Nat → Bool} : (lineM M bd sel).2 ≤ 16 :=
  (lineM_inv 16 0 (by omega) (fun _ => 0, 0) (Nat.le_refl 0) (fun j hj => absurd hj (Nat.not_lt_zero j))).1
theorem lineM_sel {M : Nat → Int32} {bd : Bool} {sel : Nat → Bool} {j : Nat} (hj : j < (lineM M bd sel).2) : sel ((lineM M bd sel).1 j) = true :=
  lineM_all (P := fun t => sel t = true) (fun _ _ h => h) 16 0 (by omega) (fun _ => 0, 0) (fun j hj => absurd hj (Nat.not_lt_zero j)) j hj
/-- the telling touches RANG, what rang in all, the log -/
theorem tellM_inv {g : Nat → Nat} : ∀ n i (s : (Nat → Int32) × Nat), s.2 ≤ 40 → s.1 14 = nI s.2 → (∀ k, i ≤ k → k < i + n → g k < 16) →
    (itr (fun k s => (rungM s.1 s.2 (g k), kpN s.2)) i n s).2 ≤ 40 ∧ (itr (fun k s => (rungM s.1 s.2 (g k), kpN s.2)) i n s).1 14 = nI (itr (fun k s => (rungM s.1 s.2 (g k), kpN s.2)) i n s).2 ∧ ∀ j, j ≠ 7 → (j < 14 ∨ 215 ≤ j) → (j < 375 ∨ 391 ≤ j) → (itr (fun k s => (rungM s.1 s.2 (g k), kpN s.2)) i n s).1 j = s.1 j
  | 0, _, _, h1, h2, _ => ⟨h1, h2, fun _ _ _ _ => rfl⟩
  | n + 1, i, s, h1, h2, hg => by
    rw [itr_succ]
    obtain ⟨a, b, c⟩ := tellM_inv (g := g) n (i + 1) (rungM s.1 s.2 (g i), kpN s.2) (kpN_le h1) keepM_14 (fun k h3 h4 => hg k (by omega) (by omega))
    refine ⟨a, b, fun j h7 h3 h4 => (c j h7 h3 h4).trans (rungM_ne h1 h7 h3 ?_)⟩
    have := hg i (Nat.le_refl i) (by omega)
    omega
theorem comes_live {M : Nat → Int32} {L t u : Nat} (ht : t < 16) (hu : u < 16) (h : isT (comesM M L t) u) : isT M u := by
  unfold isT comesM at h
  unfold isT
  split at h
  · by_cases e : u = t
    · subst e
      rw [uM_self] at h
      exact absurd h (by decide)
    · rw [uM_ne _ _ (by omega)] at h
      exact h
  · rw [layM_ne (by omega), cmS_ne (by omega) (by omega) (by omega), cmT_ne (by omega)] at h
    exact h
theorem comes_inv {g : Nat → Nat} {L N : Nat} (hg : ∀ k, k < N → g k < 16) : ∀ n i (M : Nat → Int32), i + n ≤ N → (∀ k, k < N → Pq M (g k)) → (∀ t, t < 16 → isT M t → Pq M t) →
    (∀ t, t < 16 → isT (itr (fun k M => comesM M L (g k)) i n M) t → Pq (itr (fun k M => comesM M L (g k)) i n M) t) ∧ ∀ j, j < 215 → j ≠ 9 → itr (fun k M => comesM M L (g k)) i n M j = M j
  | 0, _, _, _, _, h2 => ⟨h2, fun _ _ _ => rfl⟩
  | n + 1, i, M, hi, h1, h2 => by
    rw [itr_succ]
    obtain ⟨a, b⟩ := comes_inv (L := L) hg n (i + 1) (comesM M L (g i)) (by omega) (fun k hk => Pq_comes (hg i (by omega)) (hg k hk) (h1 i (by omega)) (h1 k hk)) (fun t ht hl => Pq_comes (hg i (by omega)) ht (h1 i (by omega)) (h2 t ht (comes_live (hg i (by omega)) ht hl)))
    exact ⟨a, fun j hj h9 => (b j hj h9).trans (comesM_lo hj h9)⟩
theorem ringM_Iv {M : Nat → Int32} {L r n : Nat} {g : Nat → Nat} (h : Iv M L r) (hg : ∀ k, k < n → g k < 16 ∧ isT M (g k)) : Iv (ringM M L r g n) L (tellM M r g n).2 := by
  obtain ⟨h1, h2, h3, h4⟩ := h
  obtain ⟨a, b, c⟩ := tellM_inv (g := g) n 0 (M, r) h3 h2 (fun k _ hk => (hg k (by omega)).1)
  have hT : ∀ t, t < 16 → isT (tellM M r g n).1 t → Pq (tellM M r g n).1 t := fun t ht hl => Pq_same (h4 t ht ((c _ (by omega) (by omega) (by omega)).symm.trans hl)) (c _ (by omega) (by omega) (by omega))
  obtain ⟨d1, d2⟩ := comes_inv (L := L) (fun k hk => (hg k hk).1) n 0 (tellM M r g n).1 (by omega) (fun k hk => by
    have hk1 := (hg k hk).1
    exact hT _ hk1 ((c (215 + g k) (by omega) (by omega) (by omega)).trans (hg k hk).2)) hT
  refine ⟨Wf_same h1 (fun j hj => (d2 j (by omega) (by omega)).trans (c j (by omega) (by omega) (by omega))), ?_, a, d1⟩
  exact (d2 14 (by omega) (by omega)).trans b
theorem Iv_Lo {M M' : Nat → Int32} {L r : Nat} (h : Iv M L r) (hl : ∀ j, j < 391 → j ≠ 8 → j ≠ 6 → M' j = M j) : Iv M' L r := by
  obtain ⟨h1, h2, h3, h4⟩ := h
  exact ⟨Wf_same h1 (fun j hj => hl j (by omega) (by omega) (by omega)), (hl 14 (by omega) (by omega) (by omega)).trans h2, h3, fun t ht hT => Pq_same (h4 t ht ((hl _ (by omega) (by omega) (by omega)).symm.trans hT)) (hl _ (by omega) (by omega) (by omega))⟩
theorem Iv_tkA {M : Nat → Int32} {L r : Nat} (h : Iv M L r) : Iv (tkA M L) L r := Iv_Lo h (fun _ h1 h8 h6 => Lo6 Lo.tkA h1 h8 h6)
def tkR (M : Nat → Int32) (L r : Nat) : Nat := (tellM (tkA M L) r (tkLn M L).1 (tkLn M L).2).2
theorem tkSel_T {M : Nat → Int32} {clk : Int32} {t : Nat} (h : tkSel M clk t = true) : isT M t := (of_decide_eq_true h).1.1
theorem Iv_tick {M : Nat → Int32} {L r : Nat} (h : Iv M L r) : Iv (tickM M L r) L (tkR M L r) :=
  ringM_Iv (Iv_tkA h) (fun k hk => ⟨lineM_lt hk, tkSel_T (lineM_sel hk)⟩)
/-- what is heard: timers and clocks (or dues) -/
def HdR (f1 f2 : Nat → Int32) (hl : List (Nat × Int32)) : Prop := ∀ j, j < hl.length → f1 j = nI (hl.getD j (0, 0)).1 ∧ f2 j = (hl.getD j (0, 0)).2
def hl1 (g : Nat → Nat) (v : Nat → Int32) (n : Nat) : List (Nat × Int32) := (List.range n).map (fun k => (g k, v k))
theorem hl1_len (g : Nat → Nat) (v : Nat → Int32) (n : Nat) : (hl1 g v n).length = n := by simp [hl1]
theorem HdR_app {f1 f2 : Nat → Int32} {hl : List (Nat × Int32)} {g : Nat → Nat} {v : Nat → Int32} {n : Nat} (h : HdR f1 f2 hl) : HdR (hcat f1 hl.length n (fun k => nI (g k))) (hcat f2 hl.length n v) (hl ++ hl1 g v n) := by
  intro j hj
  rw [List.length_append, hl1_len] at hj
  unfold hcat
  by_cases hlt : j < hl.length
  · rw [if_neg (by omega), if_neg (by omega), List.getD_eq_getElem?_getD, List.getElem?_append_left hlt, ← List.getD_eq_getElem?_getD]
    exact h j hlt
  · rw [if_pos (by omega), if_pos (by omega), List.getD_eq_getElem?_getD, List.getElem?_append_right (by omega), ← List.getD_eq_getElem?_getD]
    have e : (hl1 g v n).getD (j - hl.length) (0, 0) = (g (j - hl.length), v (j - hl.length)) := by
      unfold hl1
      rw [List.getD_eq_getElem?_getD, List.getElem?_map, List.getElem?_range (by omega)]
      rfl
    rw [e]
    exact ⟨rfl, rfl⟩
/-- ticks one behind another: the desk, how many logged, what is heard -/
def tk1 (L : Nat) (s : (Nat → Int32) × Nat × List (Nat × Int32)) : (Nat → Int32) × Nat × List (Nat × Int32) := (tickM s.1 L s.2.1, tkR s.1 L s.2.1, s.2.2 ++ hl1 (tkLn s.1 L).1 (fun _ => s.1 6 + 1) (tkLn s.1 L).2)
def tks (L n : Nat) (s : (Nat → Int32) × Nat × List (Nat × Int32)) : (Nat → Int32) × Nat × List (Nat × Int32) := itr (fun _ s => tk1 L s) 0 n s
theorem itr_shift {α : Type} (f : α → α) : ∀ n i j s, itr (fun _ s => f s) i n s = itr (fun _ s => f s) j n s
  | 0, _, _, _ => rfl
  | n + 1, i, j, s => itr_shift f n (i + 1) (j + 1) (f s)
theorem Iv_tks {M : Nat → Int32} {L r : Nat} {hl : List (Nat × Int32)} (h : Iv M L r) (n : Nat) : Iv (tks L n (M, r, hl)).1 L (tks L n (M, r, hl)).2.1 ∧ (tks L n (M, r, hl)).2.2.length ≤ hl.length + 16 * n := by
  unfold tks
  have := itr_inv (f := fun _ s => tk1 L s) (fun i s => Iv s.1 L s.2.1 ∧ s.2.2.length ≤ hl.length + 16 * i) n 0 (M, r, hl) ⟨h, by simp⟩ (fun j s _ _ hs => ⟨Iv_tick hs.1, by
    show (s.2.2 ++ hl1 _ _ _).length ≤ _
    rw [List.length_append, hl1_len]
    have h2 : (tkLn s.1 L).2 ≤ 16 := lineM_le
    have := hs.2
    omega⟩)
  simpa using this
theorem sLn_sHd {σ : Mm} {f f1 f2 : Nat → Int32} {n h : Nat} : sLn (sHd σ f1 f2 h) f n = sHd (sLn σ f n) f1 f2 h := by
  refine Prod.ext (funext fun a => funext fun j => ?_) rfl
  simp only [sLn, sHd]
  by_cases a1 : a = 71
  · subst a1; simp
  · by_cases a2 : a = 72
    · subst a2; simp
    · by_cases a3 : a = 73
      · subst a3; simp
      · by_cases a4 : a = 67
        · subst a4
          by_cases j1 : j = 10
          · subst j1; simp
          · by_cases j2 : j = 13
            · subst j2; simp
            · simp [j1, j2]
        · simp [a1, a2, a3, a4]
theorem wI_sHd0 {σ : Mm} : wI σ 67 13 0 = sHd σ (σ.1 72) (σ.1 73) 0 := by
  refine Prod.ext (funext fun a => funext fun j => ?_) rfl
  simp only [sHd, wI, up2]
  by_cases q : a = 72
  · subst q; simp
  · by_cases q2 : a = 73
    · subst q2; simp
    · by_cases q3 : a = 67 ∧ j = 13
      · simp [q3]; rfl
      · simp [q, q2, q3]
theorem ex_nI (v : Int32) : ∃ n, v = nI n := ⟨v.toUInt32.toNat, by
  show v = Int32.ofNat v.toUInt32.toNat
  apply Int32.toBitVec_inj.mp
  simp⟩
