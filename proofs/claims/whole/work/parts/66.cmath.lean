/-! THE LINE holds no timer twice; what is done to timers one by one -/
def Dg (g : Nat → Nat) (n : Nat) : Prop := ∀ i j, i < n → j < n → g i = g j → i = j
theorem uG_D {g : Nat → Nat} {k n t : Nat} (h1 : ∀ j, j < n + 1 → j ≠ k → g j ≠ t) (h2 : ∀ i j, i < n + 1 → j < n + 1 → i ≠ k → j ≠ k → g i = g j → i = j) : Dg (uG g k t) (n + 1) := by
  intro i j hi hj e
  unfold uG at e
  by_cases a : i = k
  · by_cases b : j = k
    · omega
    · rw [if_pos a, if_neg b] at e
      exact absurd e.symm (h1 j hj b)
  · by_cases b : j = k
    · rw [if_neg a, if_pos b] at e
      exact absurd e (h1 i hi a)
    · rw [if_neg a, if_neg b] at e
      exact h2 i j hi hj a b e
theorem qG_D {ah : Nat → Nat → Bool} {t : Nat} : ∀ (k n : Nat) (g : Nat → Nat), k ≤ n → (∀ j, j < n + 1 → j ≠ k → g j ≠ t) → (∀ i j, i < n + 1 → j < n + 1 → i ≠ k → j ≠ k → g i = g j → i = j) → Dg (qG ah t k g) (n + 1)
  | 0, n, g, _, h1, h2 => uG_D h1 h2
  | k + 1, n, g, hk, h1, h2 => by
    unfold qG
    split
    · refine qG_D k n _ (by omega) (fun j hj hjk => ?_) (fun i j hi hj hik hjk e => ?_)
      · unfold uG
        split
        · exact h1 k (by omega) (by omega)
        · exact h1 j hj (by assumption)
      · unfold uG at e
        by_cases a : i = k + 1
        · by_cases b : j = k + 1
          · omega
          · rw [if_pos a, if_neg b] at e
            exact absurd (h2 k j (by omega) hj (by omega) b e) (Ne.symm hjk)
        · by_cases b : j = k + 1
          · rw [if_neg a, if_pos b] at e
            exact absurd (h2 i k hi (by omega) a (by omega) e) hik
          · rw [if_neg a, if_neg b] at e
            exact h2 i j hi hj a b e
    · exact uG_D h1 h2
theorem qG_congr {ah ah' : Nat → Nat → Bool} {t : Nat} : ∀ (k : Nat) (g : Nat → Nat), (∀ j, j < k → ah t (g j) = ah' t (g j)) → qG ah t k g = qG ah' t k g
  | 0, _, _ => rfl
  | k + 1, g, h => by
    unfold qG
    rw [h k (by omega)]
    split
    · refine qG_congr k _ (fun j hj => ?_)
      unfold uG
      rw [if_neg (by omega)]
      exact h j (by omega)
    · rfl
/-- as the class has the line -/
def lnC (M : Nat → Int32) (bd : Bool) (v : Int32) (sel : Nat → Bool) (t : Nat) (s : (Nat → Nat) × Nat) : (Nat → Nat) × Nat := if sel t = true then (qG (aheadC M bd v) t s.2 s.1, s.2 + 1) else s
def lineC (M : Nat → Int32) (bd : Bool) (v : Int32) (sel : Nat → Bool) : (Nat → Nat) × Nat := itr (lnC M bd v sel) 0 16 (fun _ => 0, 0)
theorem lineC_aux {M : Nat → Int32} {bd : Bool} {v : Int32} {sel : Nat → Bool} (hA : ∀ a b, a < 16 → b < 16 → sel a = true → sel b = true → a ≠ b → aheadC M bd v a b = soonB M bd a b) : ∀ n i (s : (Nat → Nat) × Nat), i + n = 16 → (∀ j, j < s.2 → s.1 j < i ∧ sel (s.1 j) = true) → itr (lnC M bd v sel) i n s = itr (lnF M bd sel) i n s
  | 0, _, _, _, _ => rfl
  | n + 1, i, s, hi, h => by
    rw [itr_succ, itr_succ]
    have e : lnC M bd v sel i s = lnF M bd sel i s := by
      unfold lnC lnF
      by_cases q : sel i = true
      · rw [if_pos q, if_pos q, qG_congr s.2 s.1 (fun j hj => hA i (s.1 j) (by omega) (by have := (h j hj).1; omega) q (h j hj).2 (by have := (h j hj).1; omega))]
      · rw [if_neg q, if_neg q]
    rw [e]
    refine lineC_aux hA n (i + 1) _ (by omega) ?_
    unfold lnF
    split
    · intro j hj
      exact qG_all (P := fun t => t < i + 1 ∧ sel t = true) ⟨by omega, by assumption⟩ s.2 s.2 s.1 (Nat.le_refl _) (fun k hk hne => ⟨by have := (h k (by omega)).1; omega, (h k (by omega)).2⟩) j hj
    · intro j hj
      exact ⟨by have := (h j hj).1; omega, (h j hj).2⟩
theorem lineC_eq {M : Nat → Int32} {bd : Bool} {v : Int32} {sel : Nat → Bool} (hA : ∀ a b, a < 16 → b < 16 → sel a = true → sel b = true → a ≠ b → aheadC M bd v a b = soonB M bd a b) : lineC M bd v sel = lineM M bd sel :=
  lineC_aux hA 16 0 (fun _ => 0, 0) (by omega) (fun j hj => absurd hj (Nat.not_lt_zero j))
theorem lineM_Dg {M : Nat → Int32} {bd : Bool} {sel : Nat → Bool} : ∀ n i (s : (Nat → Nat) × Nat), (∀ j, j < s.2 → s.1 j < i) → Dg s.1 s.2 → Dg (itr (lnF M bd sel) i n s).1 (itr (lnF M bd sel) i n s).2
  | 0, _, _, _, h => h
  | n + 1, i, s, h1, h2 => by
    rw [itr_succ]
    refine lineM_Dg n (i + 1) _ ?_ ?_
    · unfold lnF
      split
      · intro j hj
        exact qG_all (P := fun t => t < i + 1) (by omega) s.2 s.2 s.1 (Nat.le_refl _) (fun k hk hne => by have := h1 k (by omega); omega) j hj
      · intro j hj
        have := h1 j hj
        omega
    · unfold lnF
      split
      · exact qG_D s.2 s.2 s.1 (Nat.le_refl _) (fun j hj hjk => by have := h1 j (by omega); omega) (fun a b ha hb hak hbk e => h2 a b (by omega) (by omega) e)
      · exact h2
theorem lineM_D {M : Nat → Int32} {bd : Bool} {sel : Nat → Bool} : Dg (lineM M bd sel).1 (lineM M bd sel).2 :=
  lineM_Dg 16 0 (fun _ => 0, 0) (fun j hj => absurd hj (Nat.not_lt_zero j)) (fun i j hi => absurd hi (Nat.not_lt_zero i))
theorem lineC_le {M : Nat → Int32} {bd : Bool} {v : Int32} {sel : Nat → Bool} : ∀ n i (s : (Nat → Nat) × Nat), s.2 ≤ i → (itr (lnC M bd v sel) i n s).2 ≤ i + n
  | 0, _, _, h => h
  | n + 1, i, s, h => by
    rw [itr_succ]
    have := lineC_le (M := M) (bd := bd) (v := v) (sel := sel) n (i + 1) (lnC M bd v sel i s) (by unfold lnC; split; exact Nat.succ_le_succ h; omega)
    omega
/-- two desks agree in what is all timers' and in one timer -/
def Col (t : Nat) (M N : Nat → Int32) : Prop := (∀ j, j < 7 → M j = N j) ∧ ∀ j, 215 ≤ j → j < 423 → (j - 215) % 16 = t → M j = N j
theorem Col.rf {t : Nat} {M : Nat → Int32} : Col t M M := ⟨fun _ _ => rfl, fun _ _ _ _ => rfl⟩
theorem Col.sy {t : Nat} {M N : Nat → Int32} (h : Col t M N) : Col t N M := ⟨fun j a => (h.1 j a).symm, fun j a b c => (h.2 j a b c).symm⟩
theorem Col.tr {t : Nat} {M N K : Nat → Int32} (h : Col t M N) (h' : Col t N K) : Col t M K := ⟨fun j a => (h.1 j a).trans (h'.1 j a), fun j a b c => (h.2 j a b c).trans (h'.2 j a b c)⟩
theorem Col.u {t k : Nat} {M N : Nat → Int32} {v v' : Int32} (h : Col t M N) (e : v = v') : Col t (uM M k v) (uM N k v') := by
  subst e
  constructor
  · intro j hj
    unfold uM
    split
    · rfl
    · exact h.1 j hj
  · intro j a b c
    unfold uM
    split
    · rfl
    · exact h.2 j a b c
theorem Col.u9 {t : Nat} {M N : Nat → Int32} {v v' : Int32} (h : Col t M N) : Col t (uM M 9 v) (uM N 9 v') :=
  ⟨fun j hj => by rw [uM_ne _ _ (by omega), uM_ne _ _ (by omega)]; exact h.1 j hj, fun j a b c => by rw [uM_ne _ _ (by omega), uM_ne _ _ (by omega)]; exact h.2 j a b c⟩
theorem lvF_congr {M N : Nat → Int32} {d : Int32} (h : ∀ j, j < 5 → M j = N j) : ∀ n k, k + n ≤ 4 → lvF M d n k = lvF N d n k
  | 0, _, _ => rfl
  | n + 1, k, hk => by
    unfold lvF
    rw [spanM_congr (M := N) (M' := M) (by omega) h, lvF_congr h n (k + 1) (by omega)]
theorem slM_congr {M N : Nat → Int32} {lv d : Int32} {L : Nat} (hL : L ≤ 4) (h : ∀ j, j < 5 → M j = N j) (ho : LvOk L lv) : slM M lv d = slM N lv d := by
  rcases ho with e | ⟨j, hj, e⟩
  · rw [slM, slM, if_pos (by rw [e]; decide), if_pos (by rw [e]; decide)]
  · have hx : ix lv = j := by rw [e]; exact ix_nI (by omega)
    rw [slM, slM, hx, spanM_congr (M := N) (M' := M) (by omega) h, h (1 + j) (by omega)]
theorem Col.lay {t L : Nat} {M N : Nat → Int32} (ht : t < 16) (hL : L ≤ 4) (h : Col t M N) : Col t (layM M L t) (layM N L t) := by
  unfold layM
  have e0 : ∀ j, j < 5 → M j = N j := fun j hj => h.1 j (by omega)
  have e1 : M (231 + t) = N (231 + t) := h.2 _ (by omega) (by omega) (by omega)
  have e2 : M 6 = N 6 := h.1 6 (by omega)
  have e3 : lvF M (M (231 + t) - M 6) L 0 = lvF N (N (231 + t) - N 6) L 0 := by rw [e1, e2]; exact lvF_congr e0 L 0 (by omega)
  refine (h.u e3).u ?_
  rw [e3, e1]
  exact slM_congr hL e0 LvOk_lvF
/-- it is done to one timer alone, by what is its own; p: what it adds to what is MISSED -/
def Loc (t : Nat) (f : (Nat → Int32) → Nat → Int32) (p : (Nat → Int32) → Int32) : Prop :=
  (∀ M j, j < 9 → j ≠ 7 → f M j = M j) ∧ (∀ M j, 215 ≤ j → j < 423 → (j - 215) % 16 ≠ t → f M j = M j) ∧ (∀ M N, Col t M N → Col t (f M) (f N)) ∧ (∀ M, f M 9 = M 9 + p M) ∧ ∀ M N, Col t M N → p M = p N
theorem Loc.lo {t : Nat} {f : (Nat → Int32) → Nat → Int32} {p : (Nat → Int32) → Int32} (h : Loc t f p) : ∀ M j, j < 9 → j ≠ 7 → f M j = M j := h.1
theorem Loc.out {t : Nat} {f : (Nat → Int32) → Nat → Int32} {p : (Nat → Int32) → Int32} (h : Loc t f p) : ∀ M j, 215 ≤ j → j < 423 → (j - 215) % 16 ≠ t → f M j = M j := h.2.1
theorem Loc.own {t : Nat} {f : (Nat → Int32) → Nat → Int32} {p : (Nat → Int32) → Int32} (h : Loc t f p) : ∀ M N, Col t M N → Col t (f M) (f N) := h.2.2.1
theorem Loc.nine {t : Nat} {f : (Nat → Int32) → Nat → Int32} {p : (Nat → Int32) → Int32} (h : Loc t f p) : ∀ M, f M 9 = M 9 + p M := h.2.2.2.1
theorem Loc.pown {t : Nat} {f : (Nat → Int32) → Nat → Int32} {p : (Nat → Int32) → Int32} (h : Loc t f p) : ∀ M N, Col t M N → p M = p N := h.2.2.2.2
theorem itr_Loc {f : Nat → (Nat → Int32) → Nat → Int32} {p : Nat → (Nat → Int32) → Int32} {g : Nat → Nat} {K : Nat} (hD : Dg g K) (hf : ∀ k, k < K → Loc (g k) (f k) (p k)) : ∀ n i (M : Nat → Int32), i + n ≤ K →
    (∀ j, j < 9 → j ≠ 7 → itr f i n M j = M j) ∧ (∀ j, 215 ≤ j → j < 423 → (∀ k, i ≤ k → k < i + n → (j - 215) % 16 ≠ g k) → itr f i n M j = M j) ∧
    (∀ k, i ≤ k → k < i + n → Col (g k) (itr f i n M) (f k M)) ∧ itr f i n M 9 = itr (fun k v => v + p k M) i n (M 9)
  | 0, _, _, _ => ⟨fun _ _ _ => rfl, fun _ _ _ _ => rfl, fun k h1 h2 => absurd h2 (by omega), rfl⟩
  | n + 1, i, M, hi => by
    rw [itr_succ, itr_succ]
    have L0 := hf i (by omega)
    obtain ⟨a, b, c, d⟩ := itr_Loc (f := f) (p := p) hD hf n (i + 1) (f i M) (by omega)
    have col : ∀ k, i + 1 ≤ k → k < K → Col (g k) (f i M) M := fun k h1 h2 => ⟨fun j hj => by
      by_cases e : j = 7
      · omega
      · exact L0.lo M j (by omega) e, fun j h3 h4 h5 => L0.out M j h3 h4 (fun q => by
      have := hD i k (by omega) h2 (q.symm.trans h5)
      omega)⟩
    refine ⟨fun j h1 h2 => (a j h1 h2).trans (L0.lo M j h1 h2), fun j h1 h2 h3 => (b j h1 h2 (fun k h4 h5 => h3 k (by omega) (by omega))).trans (L0.out M j h1 h2 (h3 i (by omega) (by omega))), fun k h1 h2 => ?_, ?_⟩
    · by_cases e : k = i
      · subst e
        refine ⟨fun j hj => a j (by omega) (by omega), fun j h3 h4 h5 => b j h3 h4 (fun m h6 h7 q => ?_)⟩
        have := hD m k (by omega) (by omega) (q.symm.trans h5)
        omega
      · exact (c k (by omega) (by omega)).tr ((hf k (by omega)).own _ _ (col k (by omega) (by omega)))
    · rw [d, L0.nine]
      exact itr_congr _ _ _ (fun k v h1 h2 => by rw [(hf k (by omega)).pown _ _ (col k h1 (by omega))])
/-- what is missed as one rings -/
def pcm (t : Nat) (M : Nat → Int32) : Int32 := if M (311 + t) = 1 ∨ M (279 + t) = 0 then 0 else if M (279 + t) = 1 then cmN M t - 1 else 0
theorem pcm_own {t : Nat} {M N : Nat → Int32} (ht : t < 16) (h : Col t M N) : pcm t M = pcm t N := by
  unfold pcm cmN
  rw [h.2 (311 + t) (by omega) (by omega) (by omega), h.2 (279 + t) (by omega) (by omega) (by omega), h.2 (231 + t) (by omega) (by omega) (by omega), h.2 (295 + t) (by omega) (by omega) (by omega), h.1 6 (by omega)]
theorem Col_cmT0 {t : Nat} {M N : Nat → Int32} (ht : t < 16) (h : Col t M N) : Col t (cmT M t) (cmT N t) := by
  unfold cmT
  have e := h.2 (311 + t) (by omega) (by omega) (by omega)
  rw [e]
  split
  · exact h.u rfl
  · exact h
theorem Col.cmT {t : Nat} {M N : Nat → Int32} (ht : t < 16) (h : Col t M N) : Col t (cmT M t) (cmT N t) := Col_cmT0 ht h
theorem Col_cmS0 {t : Nat} {M N : Nat → Int32} {s : Int32} (ht : t < 16) (h : Col t M N) : Col t (cmS M s t) (cmS N s t) := by
  have e1 := h.2 (231 + t) (by omega) (by omega) (by omega)
  have e2 := h.2 (295 + t) (by omega) (by omega) (by omega)
  have e3 := h.1 6 (by omega)
  unfold cmS
  split
  · refine Col.u9 (h.u ?_)
    unfold cmN
    rw [e1, e2, e3]
  · have h2 : Col t (cm2 M s t) (cm2 N s t) := h.u (by unfold cmP; rw [e2])
    exact h2.u (by rw [h2.1 6 (by omega), h2.2 (295 + t) (by omega) (by omega) (by omega)])
theorem Col.cmS {t : Nat} {M N : Nat → Int32} {s : Int32} (ht : t < 16) (h : Col t M N) : Col t (cmS M s t) (cmS N s t) := Col_cmS0 ht h
theorem cmS_9 {M : Nat → Int32} {s : Int32} {t : Nat} : cmS M s t 9 = M 9 + (if s = 1 then cmN M t - 1 else 0) := by
  unfold cmS
  split
  · unfold cm1
    rw [uM_self, uM_ne _ _ (by omega)]
  · unfold cm2
    rw [uM_ne _ _ (by omega), uM_ne _ _ (by omega), Int32.add_zero]
theorem cmN_cmT {M : Nat → Int32} {t : Nat} (ht : t < 16) : cmN (cmT M t) t = cmN M t := by
  unfold cmN
  rw [cmT_ne (by omega), cmT_ne (by omega), cmT_ne (by omega)]
theorem comes_out {M : Nat → Int32} {L t j : Nat} (ht : t < 16) (h1 : 215 ≤ j) (h3 : (j - 215) % 16 ≠ t) : comesM M L t j = M j := by
  unfold comesM
  split
  · exact uM_ne _ _ (by omega)
  · unfold layM
    rw [uM_ne _ _ (by omega), uM_ne _ _ (by omega), cmS_ne (by omega) (by omega) (by omega), cmT_ne (by omega)]
theorem Loc_comes {t L : Nat} (ht : t < 16) (hL : L ≤ 4) : Loc t (fun M => comesM M L t) (pcm t) := by
  refine ⟨fun M j h1 h2 => comesM_lo (by omega) (by omega), fun M j h1 h2 h3 => comes_out ht h1 h3, fun M N h => ?_, fun M => ?_, fun M N h => pcm_own ht h⟩
  · show Col t (comesM M L t) (comesM N L t)
    unfold comesM
    rw [h.2 (311 + t) (by omega) (by omega) (by omega), h.2 (279 + t) (by omega) (by omega) (by omega)]
    split
    · exact h.u rfl
    · exact Col.lay ht hL (Col.cmS ht (Col.cmT ht h))
  · show comesM M L t 9 = M 9 + pcm t M
    unfold comesM pcm
    split
    · rw [uM_ne _ _ (by omega), Int32.add_zero]
    · rw [layM_ne (by omega), cmS_9, cmN_cmT ht, cmT_ne (by omega)]
theorem rgC_ne {M : Nat → Int32} {t j : Nat} (h1 : j ≠ 375 + t) (h2 : j ≠ 215 + t) (h3 : j ≠ 231 + t) (h4 : j ≠ 295 + t) (h5 : j ≠ 311 + t) (h9 : j ≠ 9) : rgC M t j = M j := by
  unfold rgC
  split
  · rw [uM_ne _ _ h2, uM_ne _ _ h1]
  · rw [cmS_ne h3 h4 h9, cmT_ne h5, uM_ne _ _ h1]
theorem pcm_rg {M : Nat → Int32} {t : Nat} (ht : t < 16) : pcm t (uM M (375 + t) (M (375 + t) + 1)) = pcm t M := by
  unfold pcm cmN
  rw [uM_ne _ _ (by omega), uM_ne _ _ (by omega), uM_ne _ _ (by omega), uM_ne _ _ (by omega), uM_ne _ _ (by omega)]
theorem Loc_rg {t : Nat} (ht : t < 16) : Loc t (fun M => rgC M t) (pcm t) := by
  refine ⟨fun M j h1 h2 => rgC_ne (by omega) (by omega) (by omega) (by omega) (by omega) (by omega), fun M j h1 h2 h3 => rgC_ne (by omega) (by omega) (by omega) (by omega) (by omega) (by omega), fun M N h => ?_, fun M => ?_, fun M N h => pcm_own ht h⟩
  · show Col t (rgC M t) (rgC N t)
    have h1 : Col t (uM M (375 + t) (M (375 + t) + 1)) (uM N (375 + t) (N (375 + t) + 1)) := h.u (by rw [h.2 (375 + t) (by omega) (by omega) (by omega)])
    unfold rgC
    rw [h.2 (311 + t) (by omega) (by omega) (by omega), h.2 (279 + t) (by omega) (by omega) (by omega)]
    split
    · exact h1.u rfl
    · exact Col.cmS ht (Col.cmT ht h1)
  · show rgC M t 9 = M 9 + pcm t M
    unfold rgC pcm
    split
    · rw [uM_ne _ _ (by omega), uM_ne _ _ (by omega), Int32.add_zero]
    · rw [cmS_9, cmN_cmT ht, cmT_ne (by omega), uM_ne _ _ (by omega)]
      unfold cmN
      rw [uM_ne _ _ (by omega), uM_ne _ _ (by omega), uM_ne _ _ (by omega)]
theorem layIf_ne {M : Nat → Int32} {L t j : Nat} (h : j < 391) : (if isT M t then layM M L t else M) j = M j := by
  split
  · exact layM_ne h
  · rfl
theorem Loc_lay {t L : Nat} (ht : t < 16) (hL : L ≤ 4) : Loc t (fun M => if isT M t then layM M L t else M) (fun _ => 0) := by
  refine ⟨fun M j h1 h2 => layIf_ne (by omega), fun M j h1 h2 h3 => ?_, fun M N h => ?_, fun M => ?_, fun M N h => rfl⟩
  · show (if isT M t then layM M L t else M) j = M j
    split
    · unfold layM
      rw [uM_ne _ _ (by omega), uM_ne _ _ (by omega)]
    · rfl
  · show Col t (if isT M t then layM M L t else M) (if isT N t then layM N L t else N)
    have e : isT M t ↔ isT N t := by
      unfold isT
      rw [h.2 (215 + t) (by omega) (by omega) (by omega)]
    by_cases q : isT M t
    · rw [if_pos q, if_pos (e.mp q)]
      exact Col.lay ht hL h
    · rw [if_neg q, if_neg (fun q' => q (e.mpr q'))]
      exact h
  · show (if isT M t then layM M L t else M) 9 = M 9 + 0
    rw [layIf_ne (by omega), Int32.add_zero]
theorem lay_rg {M : Nat → Int32} {L t : Nat} (ht : t < 16) (hT : isT M t) : (if isT (rgC M t) t then layM (rgC M t) L t else rgC M t) = comesM (uM M (375 + t) (M (375 + t) + 1)) L t := by
  unfold comesM
  rw [uM_ne _ _ (by omega), uM_ne _ _ (by omega)]
  by_cases q : M (311 + t) = 1 ∨ M (279 + t) = 0
  · have e : rgC M t = uM (uM M (375 + t) (M (375 + t) + 1)) (215 + t) 0 := by unfold rgC; rw [if_pos q]
    rw [if_pos q, e, if_neg (fun h => absurd ((uM_self _ _ _).symm.trans h) (by decide))]
  · have e : rgC M t = cmS (cmT (uM M (375 + t) (M (375 + t) + 1)) t) (M (279 + t)) t := by unfold rgC; rw [if_neg q]
    rw [if_neg q, e, if_pos ?_]
    show cmS _ _ _ _ = 1
    rw [cmS_ne (by omega) (by omega) (by omega), cmT_ne (by omega), uM_ne _ _ (by omega)]
    exact hT
/-- what the telling does to RANG -/
theorem tell_375 {g : Nat → Nat} {K : Nat} (hD : Dg g K) (hg : ∀ k, k < K → g k < 16) : ∀ n i (s : (Nat → Int32) × Nat), i + n ≤ K → s.2 ≤ 40 →
    (∀ u, u < 16 → (∀ k, i ≤ k → k < i + n → u ≠ g k) → (itr (fun k s => (rungM s.1 s.2 (g k), kpN s.2)) i n s).1 (375 + u) = s.1 (375 + u)) ∧ ∀ k, i ≤ k → k < i + n → (itr (fun k s => (rungM s.1 s.2 (g k), kpN s.2)) i n s).1 (375 + g k) = s.1 (375 + g k) + 1
  | 0, _, _, _, _ => ⟨fun _ _ _ => rfl, fun k h1 h2 => absurd h2 (by omega)⟩
  | n + 1, i, s, hi, hr => by
    rw [itr_succ]
    obtain ⟨a, b⟩ := tell_375 hD hg n (i + 1) (rungM s.1 s.2 (g i), kpN s.2) (by omega) (kpN_le hr)
    have gi := hg i (by omega)
    have ne : ∀ u, u < 16 → u ≠ g i → rungM s.1 s.2 (g i) (375 + u) = s.1 (375 + u) := fun u hu h => rungM_ne hr (by omega) (by omega) (by omega)
    refine ⟨fun u hu h => (a u hu (fun k h1 h2 => h k (by omega) (by omega))).trans (ne u hu (h i (by omega) (by omega))), fun k h1 h2 => ?_⟩
    by_cases e : k = i
    · subst e
      refine (a (g k) gi (fun m h3 h4 q => ?_)).trans ?_
      · have := hD k m (by omega) (by omega) q
        omega
      · show rungM s.1 s.2 (g k) (375 + g k) = _
        unfold rungM rg1
        rw [keepM_ne hr (by omega), uM_ne _ _ (by omega), uM_self]
    · rw [b k (by omega) (by omega)]
      show rungM s.1 s.2 (g i) (375 + g k) + 1 = _
      rw [ne (g k) (hg k (by omega)) (fun q => e (hD k i (by omega) (by omega) q))]
/-- the class's way and the reference's to ring a line come to one -/
theorem ring_agree {M : Nat → Int32} {L r n : Nat} {g : Nat → Nat} (hL : L ≤ 4) (hr : M 14 = nI r) (hr4 : r ≤ 40) (hD : Dg g n) (hg : ∀ k, k < n → g k < 16 ∧ isT M (g k)) : ∀ j, j < 423 → (j < 7 ∨ j = 8 ∨ j = 9 ∨ 215 ≤ j) → ringM M L r g n j = layC (ringC M g n) L g n j := by
  obtain ⟨ta, tb, tc⟩ := tellM_inv (g := g) n 0 (M, r) hr4 hr (fun k _ hk => (hg k (by omega)).1)
  obtain ⟨td, te⟩ := tell_375 hD (fun k hk => (hg k hk).1) n 0 (M, r) (by omega) hr4
  change ∀ j, _ → _ → _ → (tellM M r g n).1 j = M j at tc
  change ∀ u, _ → _ → (tellM M r g n).1 (375 + u) = M (375 + u) at td
  change ∀ k, _ → _ → (tellM M r g n).1 (375 + g k) = M (375 + g k) + 1 at te
  unfold ringM layC ringC
  generalize (tellM M r g n).1 = T at tc td te
  have tcol : ∀ k, k < n → Col (g k) T (uM M (375 + g k) (M (375 + g k) + 1)) := fun k hk => by
    have hgk := (hg k hk).1
    refine ⟨fun j hj => ?_, fun j h1 h2 h3 => ?_⟩
    · rw [uM_ne _ _ (by omega)]
      exact tc j (by omega) (by omega) (by omega)
    · by_cases e : j = 375 + g k
      · rw [e, uM_self]
        exact te k (by omega) (by omega)
      · rw [uM_ne _ _ e]
        by_cases e2 : 375 ≤ j ∧ j < 391
        · omega
        · exact tc j (by omega) (by omega) (by omega)
  obtain ⟨a1, a2, a3, a4⟩ := itr_Loc (f := fun k M => comesM M L (g k)) (p := fun k => pcm (g k)) hD (fun k hk => Loc_comes (hg k hk).1 hL) n 0 T (by omega)
  obtain ⟨b1, b2, b3, b4⟩ := itr_Loc (f := fun k M => rgC M (g k)) (p := fun k => pcm (g k)) hD (fun k hk => Loc_rg (hg k hk).1) n 0 M (by omega)
  generalize itr (fun k M => comesM M L (g k)) 0 n T = R at a1 a2 a3 a4
  generalize itr (fun k M => rgC M (g k)) 0 n M = N at b1 b2 b3 b4
  obtain ⟨c1, c2, c3, -⟩ := itr_Loc (f := fun k M => if isT M (g k) then layM M L (g k) else M) (p := fun k _ => 0) hD (fun k hk => Loc_lay (hg k hk).1 hL) n 0 N (by omega)
  have c4 : itr (fun k M => if isT M (g k) then layM M L (g k) else M) 0 n N 9 = N 9 := itr_inv (f := fun k M => if isT M (g k) then layM M L (g k) else M) (fun _ s => s 9 = N 9) n 0 N rfl (fun k s _ _ h => (layIf_ne (by omega)).trans h)
  generalize itr (fun k M => if isT M (g k) then layM M L (g k) else M) 0 n N = C at c1 c2 c3 c4
  intro j h1 h2
  by_cases h9 : j = 9
  · rw [h9, a4, c4, b4, tc 9 (by omega) (by omega) (by omega)]
    exact itr_congr _ _ _ (fun k v h3 h4 => by
      rw [pcm_own (hg k (by omega)).1 (tcol k (by omega)), pcm_rg (hg k (by omega)).1])
  · by_cases hlo : j < 9
    · rw [a1 j hlo (by omega), c1 j hlo (by omega), b1 j hlo (by omega), tc j (by omega) (by omega) (by omega)]
    · by_cases hk : ∃ k, k < n ∧ (j - 215) % 16 = g k
      · obtain ⟨k, hk1, hk2⟩ := hk
        rw [(a3 k (by omega) (by omega)).2 j (by omega) h1 hk2, (c3 k (by omega) (by omega)).2 j (by omega) h1 hk2]
        have e1 := ((Loc_comes (L := L) (hg k hk1).1 hL).own _ _ (tcol k hk1)).2 j (by omega) h1 hk2
        have e2 := ((Loc_lay (L := L) (hg k hk1).1 hL).own _ _ (b3 k (by omega) (by omega))).2 j (by omega) h1 hk2
        refine e1.trans (Eq.trans ?_ e2.symm)
        exact (congrFun (lay_rg (hg k hk1).1 (hg k hk1).2) j).symm
      · have hk' : ∀ k, 0 ≤ k → k < 0 + n → (j - 215) % 16 ≠ g k := fun k _ h q => hk ⟨k, by omega, q⟩
        rw [a2 j (by omega) h1 hk', c2 j (by omega) h1 hk', b2 j (by omega) h1 hk']
        by_cases e2 : 375 ≤ j ∧ j < 391
        · have := td (j - 375) (by omega) (fun k h3 h4 q => hk ⟨k, by omega, by omega⟩)
          rw [show 375 + (j - 375) = j by omega] at this
          exact this
        · exact tc j (by omega) (by omega) (by omega)
theorem WRel.cg {b L : Nat} {M M' : Nat → Int32} {σ : Mm} (h : WRel b M L σ) (hL : L ≤ 4) (hM : ∀ j, j < 423 → (j < 7 ∨ j = 8 ∨ j = 9 ∨ 215 ≤ j) → M' j = M j) : WRel b M' L σ :=
  h.off (lo := 0) (hi := 0) hL hM (Off.rf) (Or.inl (Nat.zero_le _))
