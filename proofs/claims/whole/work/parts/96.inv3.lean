section
/-! RINGS, TICKS, LEAPS keep DUES ahead of the clock, timers where they should lie -/
theorem qG_mem {ah : Nat → Nat → Bool} {t : Nat} : ∀ (k n : Nat) (g : Nat → Nat), k ≤ n → (∃ i, i < n + 1 ∧ qG ah t k g i = t) ∧ ∀ j, j < n + 1 → j ≠ k → ∃ i, i < n + 1 ∧ qG ah t k g i = g j
  | 0, n, g, hk => ⟨⟨0, by omega, by unfold qG uG; rw [if_pos rfl]⟩, fun j hj hne => ⟨j, hj, by unfold qG uG; rw [if_neg hne]⟩⟩
  | k + 1, n, g, hk => by
    unfold qG
    split
    · obtain ⟨a, b⟩ := qG_mem (ah := ah) (t := t) k n (uG g (k + 1) (g k)) (by omega)
      refine ⟨a, fun j hj hne => ?_⟩
      by_cases e : j = k
      · obtain ⟨i, h1, h2⟩ := b (k + 1) (by omega) (by omega)
        refine ⟨i, h1, h2.trans ?_⟩
        unfold uG
        rw [if_pos rfl, e]
      · obtain ⟨i, h1, h2⟩ := b j hj e
        refine ⟨i, h1, h2.trans ?_⟩
        unfold uG
        rw [if_neg hne]
    · exact ⟨⟨k + 1, by omega, by unfold uG; rw [if_pos rfl]⟩, fun j hj hne => ⟨j, hj, by unfold uG; rw [if_neg hne]⟩⟩
/-- all that are chosen stand in the line -/
theorem lineM_mem {M : Nat → Int32} {bd : Bool} {sel : Nat → Bool} {t : Nat} (ht : t < 16) (h : sel t = true) : ∃ k, k < (lineM M bd sel).2 ∧ (lineM M bd sel).1 k = t := by
  unfold lineM
  exact (itr_inv (f := lnF M bd sel) (fun i s => ∀ u, u < i → sel u = true → ∃ k, k < s.2 ∧ s.1 k = u) 16 0 (fun _ => 0, 0) (fun u hu => absurd hu (Nat.not_lt_zero u)) (fun j s _ _ hs u hu hsel => by
    by_cases q : sel j = true
    · have ef : lnF M bd sel j s = (qG (soonB M bd) j s.2 s.1, s.2 + 1) := by unfold lnF; rw [if_pos q]
      rw [ef]
      obtain ⟨a, b⟩ := qG_mem (ah := soonB M bd) (t := j) s.2 s.2 s.1 (Nat.le_refl _)
      by_cases e : u = j
      · rw [e]; exact a
      · obtain ⟨k, h1, h2⟩ := hs u (by omega) hsel
        obtain ⟨i, h3, h4⟩ := b k (by omega) (by omega)
        exact ⟨i, h3, h4.trans h2⟩
    · have ef : lnF M bd sel j s = s := by unfold lnF; rw [if_neg q]
      rw [ef]
      by_cases e : u = j
      · rw [e] at hsel; exact absurd hsel q
      · exact hs u (by omega) hsel)) t (by omega) h
/-- a DUE is ahead, not too far; a REST likewise -/
def Td (X : Nat) (M : Nat → Int32) (t : Nat) : Prop := isT M t → (M (343 + t) = 0 → ∃ d : Nat, M (231 + t) = nI d ∧ ix (M 6) < d ∧ d ≤ ix (M 6) + X) ∧ (M (343 + t) = 1 → ∃ e : Nat, M (359 + t) = nI e ∧ 1 ≤ e ∧ e ≤ X)
/-- and it lies where it should -/
def Tm (X : Nat) (M : Nat → Int32) (L t : Nat) : Prop := Td X M t ∧ (isG M t → WI M L t)
theorem Td.cg {X t : Nat} {M N : Nat → Int32} (h6 : M 6 = N 6) (h1 : M (215 + t) = N (215 + t)) (h2 : M (231 + t) = N (231 + t)) (h3 : M (343 + t) = N (343 + t)) (h4 : M (359 + t) = N (359 + t)) (q : Td X N t) : Td X M t := by
  unfold Td isT at q ⊢
  rw [h6, h1, h2, h3, h4]
  exact q
theorem Td.cq {X t : Nat} {M N : Nat → Int32} (h : Cq t M N) (q : Td X N t) : Td X M t :=
  Td.cg (h 6 (by omega)) (h (215 + t) (by omega)) (h (231 + t) (by omega)) (h (343 + t) (by omega)) (h (359 + t) (by omega)) q
theorem Tm.cq {X L t : Nat} {M N : Nat → Int32} (hL : L ≤ 4) (h : Cq t M N) (q : Tm X N L t) : Tm X M L t := ⟨Td.cq h q.1, fun g => WI.cq hL h (q.2 (h.g.mp g))⟩
theorem Td.up {X X' t : Nat} {M : Nat → Int32} (h : X ≤ X') (q : Td X M t) : Td X' M t := fun hT => ⟨fun hp => by
  obtain ⟨d, a, b, c⟩ := (q hT).1 hp
  exact ⟨d, a, b, by omega⟩, fun hp => by
  obtain ⟨d, a, b, c⟩ := (q hT).2 hp
  exact ⟨d, a, b, by omega⟩⟩
theorem Tm.up {X X' L t : Nat} {M : Nat → Int32} (h : X ≤ X') (q : Tm X M L t) : Tm X' M L t := ⟨q.1.up h, q.2⟩
theorem lay_Tm {M : Nat → Int32} {L t c d X : Nat} (hF : Wf M L) (ht : t < 16) (h6 : M 6 = nI c) (hdu : M (231 + t) = nI d) (h1 : c < d) (h2 : d ≤ c + X) (hd : d < 2147483648) (hp : M (343 + t) = 0) : Tm X (layM M L t) L t := by
  have l6 : layM M L t 6 = M 6 := layM_ne (by omega)
  refine ⟨fun _ => ⟨fun _ => ⟨d, (layM_ne (by omega)).trans hdu, ?_, ?_⟩, fun z => ?_⟩, fun _ => (lay_Gd hF ht h6 hdu (by omega) hd).2 h1⟩
  · rw [l6, h6, ix_nI (by omega)]; exact h1
  · rw [l6, h6, ix_nI (by omega)]; exact h2
  · rw [layM_ne (by omega), hp] at z
    exact absurd z (by decide)
theorem comes_due {M : Nat → Int32} {t c d : Nat} {s : Int32} (ht : t < 16) (h6 : M 6 = nI c) (hdu : M (231 + t) = nI d) (hd : d ≤ c) (hc : c + 1000 < 2147483648) (hP : Pq M t) : ∃ d' : Nat, cmS M s t (231 + t) = nI d' ∧ c < d' ∧ d' ≤ c + 1000 := by
  obtain ⟨q, hq, q1, q2⟩ := hP
  unfold cmS
  split
  · have e : cm1 M t (231 + t) = nI (d + ((c - d) / q + 1) * q) := by
      unfold cm1 cmN
      rw [uM_self, h6, hdu, hq, nI_sub hd, nI_div (by omega) (by omega), nI_1, nI_mul, nI_add]
    have h1 := Nat.div_add_mod (c - d) q
    have h2 := Nat.mod_lt (c - d) (show q > 0 by omega)
    have h3 : ((c - d) / q + 1) * q = q * ((c - d) / q) + q := by rw [Nat.succ_mul, Nat.mul_comm]
    refine ⟨_, (uM_ne _ _ (by omega)).trans e, ?_, ?_⟩
    · omega
    · omega
  · have hp : ∃ p : Nat, cmP M s t = nI p ∧ 1 ≤ p ∧ p ≤ 1000 := by
      unfold cmP
      split
      · have e : mnI 1000 (2 * M (295 + t)) = nI (min 1000 (2 * q)) := by
          rw [hq, show (2 : Int32) * nI q = nI (2 * q) from nI_mul (a := 2)]
          exact mnI_nI (a := 1000) (by omega) (by omega)
        exact ⟨_, e, by omega, by omega⟩
      · exact ⟨q, hq, q1, q2⟩
    obtain ⟨p, hp, p1, p2⟩ := hp
    have e6 : cm2 M s t 6 = nI c := by
      unfold cm2
      rw [uM_ne _ _ (by omega)]
      exact h6
    have e5 : cm2 M s t (295 + t) = nI p := by
      unfold cm2
      rw [uM_self]
      exact hp
    refine ⟨c + p, ?_, by omega, by omega⟩
    rw [uM_self, e6, e5, nI_add]
theorem comes_Tm {M : Nat → Int32} {L t c d : Nat} (hF : Wf M L) (ht : t < 16) (h6 : M 6 = nI c) (hdu : M (231 + t) = nI d) (hd : d ≤ c) (hc : c + 1000 < 2147483648) (hP : Pq M t) (hp : M (343 + t) = 0) : Tm 1000 (comesM M L t) L t := by
  unfold comesM
  by_cases q : M (311 + t) = 1 ∨ M (279 + t) = 0
  · rw [if_pos q]
    have nT : ¬ isT (uM M (215 + t) 0) t := fun z => absurd ((uM_self _ _ _).symm.trans z) (by decide)
    exact ⟨fun z => absurd z nT, fun z => absurd z.1 nT⟩
  · rw [if_neg q]
    have hPT : Pq (cmT M t) t := Pq_same hP (cmT_ne (by omega))
    obtain ⟨d', e, h1, h2⟩ := comes_due (s := M (279 + t)) ht ((cmT_ne (by omega)).trans h6) ((cmT_ne (by omega)).trans hdu) hd hc hPT
    have e6 : cmS (cmT M t) (M (279 + t)) t 6 = nI c := by
      rw [cmS_ne (by omega) (by omega) (by omega), cmT_ne (by omega)]
      exact h6
    have e3 : cmS (cmT M t) (M (279 + t)) t (343 + t) = 0 := by
      rw [cmS_ne (by omega) (by omega) (by omega), cmT_ne (by omega)]
      exact hp
    have eF : Wf (cmS (cmT M t) (M (279 + t)) t) L := Wf_same hF (fun j hj => by rw [cmS_ne (by omega) (by omega) (by omega), cmT_ne (by omega)])
    generalize cmS (cmT M t) (M (279 + t)) t = N at e e6 e3 eF ⊢
    exact lay_Tm eF ht e6 e h1 h2 (by omega) e3
/-- those in the line come again, or are no more; the others stay -/
theorem ring_Tm {M : Nat → Int32} {L r n c : Nat} {g : Nat → Nat} (hI : Iv M L r) (h6 : M 6 = nI c) (hc : c + 1000 < 2147483648) (hD : Dg g n) (hg : ∀ k, k < n → g k < 16 ∧ isG M (g k) ∧ ∃ d : Nat, M (231 + g k) = nI d ∧ d ≤ c) : (∀ t, t < 16 → (∀ k, k < n → g k ≠ t) → Cq t (ringM M L r g n) M) ∧ ∀ k, k < n → Tm 1000 (ringM M L r g n) L (g k) := by
  obtain ⟨ta, tb, tc⟩ := tellM_inv (g := g) n 0 (M, r) hI.2.2.1 hI.2.1 (fun k _ hk => (hg k (by omega)).1)
  change ∀ j, _ → _ → _ → (tellM M r g n).1 j = M j at tc
  unfold ringM
  generalize (tellM M r g n).1 = T at tc
  have hL := hI.1.2.2.1
  have main := itr_inv (f := fun k M => comesM M L (g k)) (fun i s => (∀ j, j < 215 → j ≠ 9 → s j = T j) ∧ (∀ t, t < 16 → (∀ k, k < i → k < n → g k ≠ t) → ∀ j, 215 ≤ j → (j - 215) % 16 = t → s j = T j) ∧ ∀ k, k < i → k < n → Tm 1000 s L (g k)) n 0 T ⟨fun _ _ _ => rfl, fun _ _ _ _ _ _ => rfl, fun k hk => absurd hk (Nat.not_lt_zero k)⟩ (fun i s _ hi hs => by
    obtain ⟨s1, s2, s3⟩ := hs
    obtain ⟨g1, g2, d, g3, g4⟩ := hg i (by omega)
    refine ⟨fun j h1 h9 => (comesM_lo h1 h9).trans (s1 j h1 h9), fun t ht hk j h1 h2 => (comes_out g1 h1 (fun q => hk i (by omega) (by omega) (q.symm.trans h2))).trans (s2 t ht (fun k hk1 hk2 => hk k (by omega) hk2) j h1 h2), fun k hk hkn => ?_⟩
    by_cases e : k = i
    · subst e
      have col : ∀ j, 215 ≤ j → (j - 215) % 16 = g k → s j = T j := s2 (g k) g1 (fun k' h1 h2 q => by
        have := hD k' k h2 hkn q
        omega)
      have c6 : s 6 = nI c := ((s1 6 (by omega) (by omega)).trans (tc 6 (by omega) (by omega) (by omega))).trans h6
      have cF : Wf s L := Wf_same hI.1 (fun j hj => (s1 j (by omega) (by omega)).trans (tc j (by omega) (by omega) (by omega)))
      have cd : s (231 + g k) = nI d := ((col _ (by omega) (by omega)).trans (tc _ (by omega) (by omega) (by omega))).trans g3
      have cp : s (343 + g k) = 0 := ((col _ (by omega) (by omega)).trans (tc _ (by omega) (by omega) (by omega))).trans g2.2
      have cP : Pq s (g k) := Pq_same (hI.2.2.2 (g k) g1 g2.1) ((col _ (by omega) (by omega)).trans (tc _ (by omega) (by omega) (by omega)))
      exact comes_Tm cF g1 c6 cd g4 hc cP cp
    · have gk := (hg k hkn).1
      have ne : g k ≠ g i := fun q => e (hD k i hkn (by omega) q)
      refine Tm.cq hL (fun j hj => ?_) (s3 k (by omega) hkn)
      by_cases q : j < 215
      · exact comesM_lo q (by omega)
      · exact comes_out g1 (by omega) (by omega))
  refine ⟨fun t ht hk j hj => ?_, fun k hk => main.2.2 k (by omega) hk⟩
  by_cases q : j < 215
  · exact (main.1 j q (by omega)).trans (tc j (by omega) (by omega) (by omega))
  · exact (main.2.1 t ht (fun k _ hk2 => hk k hk2) j (by omega) (by omega)).trans (tc j (by omega) (by omega) (by omega))
/-- one in the slot of now is due now -/
theorem Gd_sel {A : Nat → Int32} {L t c d : Nat} (hF : Wf A L) (h6 : A 6 = nI c) (hc : c < 2147483648) (hdu : A (231 + t) = nI d) (hd : d < 2147483648) (hG : Gd A L t) (h0 : A (391 + t) = 0) (hs : A (407 + t) = nI (c % ix (A 1))) : d = c := by
  rcases hG with ⟨a, -, -⟩ | q
  · rw [hdu, h6, ix_nI hc, ix_nI hd] at a
    exact a
  · unfold WI at q
    rw [h6, hdu, ix_nI hc, ix_nI hd] at q
    obtain ⟨q1, ⟨q2, -⟩ | ⟨k, k1, k2, k3, k4, k5⟩⟩ := q
    · rw [h0] at q2
      exact absurd q2 (by decide)
    · have hL := hF.2.2.1
      have ek : k = 0 := (nI_eq0 (by omega)).mp (k2.symm.trans h0)
      subst ek
      have es : spN A 0 = 1 := rfl
      have es1 : spN A (0 + 1) = 1 * ix (A 1) := rfl
      have hsz := (sz_of hF k1).2
      change 2 ≤ ix (A 1) ∧ ix (A 1) ≤ 16 at hsz
      rw [es, Nat.div_one] at k3
      change A (407 + t) = nI (d % ix (A 1)) at k3
      rw [es1, Nat.one_mul] at k5
      have m1 := Nat.mod_lt d (show ix (A 1) > 0 by omega)
      have m2 := Nat.mod_lt c (show ix (A 1) > 0 by omega)
      have e := (nI_eq (by omega) (by omega)).mp (k3.symm.trans hs)
      have e2 := Nat.sub_mod_eq_zero_of_mod_eq e
      rw [Nat.mod_eq_of_lt (by omega)] at e2
      omega
theorem tick_Tm {M : Nat → Int32} {L r c X : Nat} (hC : Cv M L r) (h6 : M 6 = nI c) (hX : X ≤ 1000000000) (hX1 : 1000 ≤ X) (hc : c ≤ 1000000000) (h : ∀ t, t < 16 → Tm X M L t) : tickM M L r 6 = nI (c + 1) ∧ ∀ t, t < 16 → Tm X (tickM M L r) L t := by
  have hF := hC.1.1
  have hL := hF.2.2.1
  have hA := Iv_tkA hC.1
  have pre : ∀ t, t < 16 → isG M t → ∃ d : Nat, M (231 + t) = nI d ∧ d < 2147483648 ∧ WI M L t := fun t ht g => by
    obtain ⟨d, a, b, e⟩ := ((h t ht).1 g.1).1 g.2
    rw [h6, ix_nI (by omega)] at b e
    exact ⟨d, a, by omega, (h t ht).2 g⟩
  have q := fun t (ht : t < 16) => tkA_Gd ht hF h6 (by omega) (pre t ht)
  have lo : ∀ j, j < 391 → j ≠ 8 → j ≠ 6 → tkA M L j = M j := fun j a b c => Lo6 Lo.tkA a b c
  have e6 : tkA M L 6 = nI (c + 1) := (q 0 (by omega)).2.1
  have e1 : M 6 + 1 = nI (c + 1) := by rw [h6]; exact nI_1 c
  unfold tickM tkLn
  rw [e1]
  generalize tkA M L = A at hA q lo e6 ⊢
  have hAF := hA.1
  have hsz := sz_of hAF (show 0 < L by have := hF.2.1; omega)
  change A 1 = nI (ix (A 1)) ∧ 2 ≤ ix (A 1) ∧ ix (A 1) ≤ 16 at hsz
  have er : rmI (nI (c + 1)) (A 1) = nI ((c + 1) % ix (A 1)) := by
    conv => lhs; rw [hsz.1]
    exact nI_rm (by omega) (by omega)
  have sl : ∀ t, tkSel A (nI (c + 1)) t = true ↔ (isG A t ∧ A (391 + t) = 0 ∧ A (407 + t) = nI ((c + 1) % ix (A 1))) := fun t => by
    unfold tkSel
    rw [er]
    exact decide_eq_true_iff
  obtain ⟨LN, hLN⟩ : ∃ LN, lineM A false (tkSel A (nI (c + 1))) = LN := ⟨_, rfl⟩
  have hlt : ∀ k, k < LN.2 → LN.1 k < 16 := fun k hk => by rw [← hLN] at hk ⊢; exact lineM_lt hk
  have hsel : ∀ k, k < LN.2 → tkSel A (nI (c + 1)) (LN.1 k) = true := fun k hk => by rw [← hLN] at hk ⊢; exact lineM_sel hk
  have hD : Dg LN.1 LN.2 := by rw [← hLN]; exact lineM_D
  have hmem : ∀ t, t < 16 → tkSel A (nI (c + 1)) t = true → ∃ k, k < LN.2 ∧ LN.1 k = t := fun t ht hs => by rw [← hLN]; exact lineM_mem ht hs
  rw [hLN]
  have hg : ∀ k, k < LN.2 → LN.1 k < 16 ∧ isG A (LN.1 k) ∧ ∃ d : Nat, A (231 + LN.1 k) = nI d ∧ d ≤ c + 1 := fun k hk => by
    obtain ⟨s1, s2, s3⟩ := (sl _).mp (hsel k hk)
    obtain ⟨d, d1, d2, d3, d4⟩ := (q _ (hlt k hk)).2.2 s1
    refine ⟨hlt k hk, s1, d, d1, ?_⟩
    rw [Gd_sel hAF e6 (by omega) d1 d2 d4 s2 s3]
    exact Nat.le_refl _
  obtain ⟨r1, r2⟩ := ring_Tm hA e6 (by omega) hD hg
  have r6 : ringM A L r LN.1 LN.2 6 = A 6 := (ring_kp (L := L) hA.2.1 hA.2.2.1 hlt).1 6 (by unfold Kp; omega)
  refine ⟨r6.trans e6, fun t ht => ?_⟩
  by_cases on : ∃ k, k < LN.2 ∧ LN.1 k = t
  · obtain ⟨k, k1, k2⟩ := on
    rw [← k2]
    exact (r2 k k1).up hX1
  · have cq := r1 t ht (fun k hk z => on ⟨k, hk, z⟩)
    refine Tm.cq hL cq ?_
    have wi : isG A t → WI A L t ∧ ∃ d : Nat, A (231 + t) = nI d ∧ c + 1 < d := fun g => by
      obtain ⟨d, d1, d2, d3, d4⟩ := (q t ht).2.2 g
      rcases d4 with ⟨x, y, z⟩ | w
      · rw [e6, ix_nI (by omega)] at z
        exact absurd (hmem t ht ((sl t).mpr ⟨g, y, z⟩)) on
      · refine ⟨w, d, d1, ?_⟩
        have := w.1
        rw [e6, d1, ix_nI (by omega), ix_nI d2] at this
        exact this
    refine ⟨fun hT => ⟨fun hp => ?_, fun hp => ?_⟩, fun g => (wi g).1⟩
    · obtain ⟨-, d, d1, d2⟩ := wi ⟨hT, hp⟩
      have hT' : isT M t := (lo _ (by omega) (by omega) (by omega)).symm.trans hT
      obtain ⟨d', x1, x2, x3⟩ := ((h t ht).1 hT').1 ((lo _ (by omega) (by omega) (by omega)).symm.trans hp)
      rw [h6, ix_nI (by omega)] at x2 x3
      refine ⟨d', (lo _ (by omega) (by omega) (by omega)).trans x1, ?_, ?_⟩
      · rw [e6, ix_nI (by omega)]
        have x4 : A (231 + t) = nI d' := (lo _ (by omega) (by omega) (by omega)).trans x1
        obtain ⟨d2', y1, y2, y3, -⟩ := (q t ht).2.2 ⟨hT, hp⟩
        have y4 : d2' = d' := (nI_eq y2 (by omega)).mp (y1.symm.trans x4)
        have w := (wi ⟨hT, hp⟩).1.1
        rw [e6, x4, ix_nI (by omega), ix_nI (by omega)] at w
        exact w
      · rw [e6, ix_nI (by omega)]
        omega
    · have hT' : isT M t := (lo _ (by omega) (by omega) (by omega)).symm.trans hT
      obtain ⟨x, x1, x2, x3⟩ := ((h t ht).1 hT').2 ((lo _ (by omega) (by omega) (by omega)).symm.trans hp)
      exact ⟨x, (lo _ (by omega) (by omega) (by omega)).trans x1, x2, x3⟩
theorem layAll_Tm {M : Nat → Int32} {L c X : Nat} (hF : Wf M L) (h6 : M 6 = nI c) (hc : c + X < 2147483648) (h : ∀ t, t < 16 → Td X M t) : ∀ t, t < 16 → Tm X (layAllM M L) L t := fun t ht => by
  unfold layAllM
  refine (itr_at (P := fun N => Wf N L ∧ N 6 = nI c ∧ Td X N t) (Q := fun N => Wf N L ∧ Tm X N L t) ht (fun u N hu hne => ?_) (fun A B hAB hB => ⟨hAB.wf hB.1, (hAB 6 (by omega)).trans hB.2.1, Td.cq hAB hB.2.2⟩) (fun A B hAB hB => ⟨hAB.wf hB.1, Tm.cq hB.1.2.2.1 hAB hB.2⟩) (fun N hN => ?_) ⟨hF, h6, h t ht⟩).2
  · show Cq t (if isG N u then layM N L u else N) N
    split
    · exact Cq_lay ht hu hne
    · exact Cq.rf
  · obtain ⟨nF, n6, nd⟩ := hN
    show Wf (if isG N t then layM N L t else N) L ∧ Tm X (if isG N t then layM N L t else N) L t
    by_cases g : isG N t
    · rw [if_pos g]
      obtain ⟨d, a, b, e⟩ := (nd g.1).1 g.2
      rw [n6, ix_nI (by omega)] at b e
      exact ⟨Wf_lay nF, lay_Tm nF ht n6 a b e (by omega) g.2⟩
    · rw [if_neg g]
      exact ⟨nF, nd, fun z => absurd z g⟩
theorem lp0_6 {M : Nat → Int32} {n : Int32} : lp0 M n 6 = M 6 + n := by
  unfold lp0
  split
  · rw [uM_ne _ _ (by omega), uM_self]
  · rw [uM_ne _ _ (by omega), uM_self]
/-- what a leap finds: steady ones go with it, those overdue stand in the line -/
theorem lpS_at {M : Nat → Int32} {n : Int32} : (∀ k, k < (lpS M n).2.2 → (lpS M n).2.1 k < 16 ∧ isG M ((lpS M n).2.1 k) ∧ ¬ M (327 + (lpS M n).2.1 k) = 1 ∧ M (231 + (lpS M n).2.1 k) ≤ M 6 + n) ∧ ∀ t, t < 16 → (isG M t → M (327 + t) = 1 → (lpS M n).1 (231 + t) = M (231 + t) + n) ∧ (¬ (isG M t ∧ M (327 + t) = 1) → (lpS M n).1 (231 + t) = M (231 + t)) ∧ (isG M t → ¬ M (327 + t) = 1 → M (231 + t) ≤ M 6 + n → ∃ k, k < (lpS M n).2.2 ∧ (lpS M n).2.1 k = t) := by
  unfold lpS
  have main := itr_inv (f := lpF n) (fun i s => (∀ j, j < 231 ∨ 247 ≤ j → s.1 j = lp0 M n j) ∧ (∀ t, t < 16 → i ≤ t → s.1 (231 + t) = M (231 + t)) ∧ (∀ k, k < s.2.2 → s.2.1 k < 16 ∧ isG M (s.2.1 k) ∧ ¬ M (327 + s.2.1 k) = 1 ∧ M (231 + s.2.1 k) ≤ M 6 + n) ∧ ∀ t, t < i → (isG M t → M (327 + t) = 1 → s.1 (231 + t) = M (231 + t) + n) ∧ (¬ (isG M t ∧ M (327 + t) = 1) → s.1 (231 + t) = M (231 + t)) ∧ (isG M t → ¬ M (327 + t) = 1 → M (231 + t) ≤ M 6 + n → ∃ k, k < s.2.2 ∧ s.2.1 k = t)) 16 0 (lp0 M n, fun _ => 0, 0) ⟨fun _ _ => rfl, fun t ht _ => lp0_ne (by omega) (by omega) (by omega), fun k hk => absurd hk (Nat.not_lt_zero k), fun t ht => absurd ht (Nat.not_lt_zero t)⟩ (fun i s _ hi hs => by
    obtain ⟨h1, h2, h3, h4⟩ := hs
    have a1 : s.1 (215 + i) = M (215 + i) := (h1 _ (by omega)).trans (lp0_ne (by omega) (by omega) (by omega))
    have a2 : s.1 (343 + i) = M (343 + i) := (h1 _ (by omega)).trans (lp0_ne (by omega) (by omega) (by omega))
    have a3 : s.1 (327 + i) = M (327 + i) := (h1 _ (by omega)).trans (lp0_ne (by omega) (by omega) (by omega))
    have a4 : s.1 (231 + i) = M (231 + i) := h2 i (by omega) (Nat.le_refl i)
    have a6 : s.1 6 = M 6 + n := (h1 6 (by omega)).trans lp0_6
    have eg : isG s.1 i ↔ isG M i := by
      unfold isG
      rw [a1, a2]
    by_cases g : isG M i
    · by_cases st : M (327 + i) = 1
      · have ef : lpF n i s = (uM s.1 (231 + i) (s.1 (231 + i) + n), s.2) := by
          unfold lpF
          rw [if_pos (eg.mpr g), if_pos (a3.trans st)]
        rw [ef]
        refine ⟨fun j hj => (uM_ne _ _ (by omega)).trans (h1 j hj), fun t ht hit => (uM_ne _ _ (by omega)).trans (h2 t ht (by omega)), h3, fun t hti => ?_⟩
        by_cases e : t = i
        · rw [e]
          refine ⟨fun _ _ => ?_, fun z => absurd ⟨g, st⟩ z, fun _ z => absurd st z⟩
          show uM s.1 (231 + i) (s.1 (231 + i) + n) (231 + i) = _
          rw [uM_self, a4]
        · obtain ⟨b1, b2, b3⟩ := h4 t (by omega)
          exact ⟨fun x y => (uM_ne _ _ (by omega)).trans (b1 x y), fun x => (uM_ne _ _ (by omega)).trans (b2 x), b3⟩
      · by_cases du : M (231 + i) ≤ M 6 + n
        · have ef : lpF n i s = (s.1, qG (soonB s.1 true) i s.2.2 s.2.1, s.2.2 + 1) := by
            unfold lpF
            rw [if_pos (eg.mpr g), if_neg (fun z => st (a3.symm.trans z)), if_pos (by rw [a4, a6]; exact du)]
          rw [ef]
          obtain ⟨m1, m2⟩ := qG_mem (ah := soonB s.1 true) (t := i) s.2.2 s.2.2 s.2.1 (Nat.le_refl _)
          refine ⟨h1, fun t ht hit => h2 t ht (by omega), fun k hk => ?_, fun t hti => ?_⟩
          · exact qG_all (P := fun u => u < 16 ∧ isG M u ∧ ¬ M (327 + u) = 1 ∧ M (231 + u) ≤ M 6 + n) ⟨by omega, g, st, du⟩ s.2.2 s.2.2 s.2.1 (Nat.le_refl _) (fun k hk hne => h3 k (by omega)) k hk
          · by_cases e : t = i
            · rw [e]
              exact ⟨fun _ z => absurd z st, fun _ => a4, fun _ _ _ => m1⟩
            · obtain ⟨b1, b2, b3⟩ := h4 t (by omega)
              refine ⟨b1, b2, fun x y z => ?_⟩
              obtain ⟨k, k1, k2⟩ := b3 x y z
              obtain ⟨i', k3, k4⟩ := m2 k (by omega) (by omega)
              exact ⟨i', k3, k4.trans k2⟩
        · have ef : lpF n i s = s := by
            unfold lpF
            rw [if_pos (eg.mpr g), if_neg (fun z => st (a3.symm.trans z)), if_neg (by rw [a4, a6]; exact du)]
          rw [ef]
          refine ⟨h1, fun t ht hit => h2 t ht (by omega), h3, fun t hti => ?_⟩
          by_cases e : t = i
          · rw [e]
            exact ⟨fun _ z => absurd z st, fun _ => a4, fun _ _ z => absurd z du⟩
          · exact h4 t (by omega)
    · have ef : lpF n i s = s := by
        unfold lpF
        rw [if_neg (fun z => g (eg.mp z))]
      rw [ef]
      refine ⟨h1, fun t ht hit => h2 t ht (by omega), h3, fun t hti => ?_⟩
      by_cases e : t = i
      · rw [e]
        exact ⟨fun z => absurd z g, fun _ => a4, fun z => absurd z g⟩
      · exact h4 t (by omega))
  generalize itr (lpF n) 0 16 (lp0 M n, fun _ => 0, 0) = S at main ⊢
  exact ⟨main.2.2.1, fun t ht => main.2.2.2 t (by omega)⟩
theorem leap_Tm {M : Nat → Int32} {L r c c2 X K : Nat} {n : Int32} (hC : Cv M L r) (h6 : M 6 = nI c) (h2 : M 6 + n = nI c2) (hK : K ≤ 1000000) (hcc : c ≤ c2 + K) (hX : X ≤ 900000000) (hX1 : 1000 ≤ X) (hc : c ≤ 1000000000) (hc2 : c2 ≤ 1000000000) (h : ∀ t, t < 16 → Tm X M L t) : leapM M L r n 6 = nI c2 ∧ ∀ t, t < 16 → Tm (X + K) (leapM M L r n) L t := by
  obtain ⟨p1, p2⟩ := lpS_at (M := M) (n := n)
  obtain ⟨-, -, hD⟩ := lpC_all (n := n) hC.2.2.1 hC.2.2.2
  have hall := (lpS_all (M := M) (n := n)).2.2
  have hI := Iv_lpS (n := n) hC.1
  unfold leapM
  generalize lpS M n = S at p1 p2 hD hall hI ⊢
  have e : ∀ j, j ≠ 6 → j ≠ 11 → j ≠ 12 → (j < 231 ∨ 247 ≤ j) → S.1 j = M j := fun j h1 h2 h3 h4 => (hall j h4).trans (lp0_ne h1 h2 h3)
  have e6 : S.1 6 = nI c2 := ((hall 6 (by omega)).trans lp0_6).trans h2
  have eg : ∀ t, t < 16 → (isG S.1 t ↔ isG M t) := fun t ht => by
    unfold isG
    rw [e (215 + t) (by omega) (by omega) (by omega) (by omega), e (343 + t) (by omega) (by omega) (by omega) (by omega)]
  have du : ∀ t, t < 16 → isG M t → ∃ d : Nat, M (231 + t) = nI d ∧ c < d ∧ d ≤ c + X := fun t ht g => by
    obtain ⟨d, a, b, x⟩ := ((h t ht).1 g.1).1 g.2
    rw [h6, ix_nI (by omega)] at b x
    exact ⟨d, a, b, x⟩
  have hg : ∀ k, k < S.2.2 → S.2.1 k < 16 ∧ isG S.1 (S.2.1 k) ∧ ∃ d : Nat, S.1 (231 + S.2.1 k) = nI d ∧ d ≤ c2 := fun k hk => by
    obtain ⟨a1, a2, a3, a4⟩ := p1 k hk
    obtain ⟨d, d1, d2, d3⟩ := du _ a1 a2
    refine ⟨a1, (eg _ a1).mpr a2, d, ((p2 _ a1).2.1 (fun z => a3 z.2)).trans d1, ?_⟩
    rw [d1, h2] at a4
    exact (nI_leI (by omega) (by omega)).mp a4
  obtain ⟨r1, r2⟩ := ring_Tm hI e6 (by omega) hD hg
  have hlt : ∀ k, k < S.2.2 → S.2.1 k < 16 := fun k hk => (hg k hk).1
  have r6 : ringM S.1 L r S.2.1 S.2.2 6 = nI c2 := ((ring_kp (L := L) hI.2.1 hI.2.2.1 hlt).1 6 (by unfold Kp; omega)).trans e6
  have rF := (ringM_Iv hI (fun k hk => ⟨(hg k hk).1, (hg k hk).2.1.1⟩)).1
  generalize ringM S.1 L r S.2.1 S.2.2 = R at r1 r2 r6 rF ⊢
  refine ⟨(Lo_layAll 6 (by omega) (by omega)).trans r6, layAll_Tm rF r6 (by omega) (fun t ht => ?_)⟩
  by_cases on : ∃ k, k < S.2.2 ∧ S.2.1 k = t
  · obtain ⟨k, k1, k2⟩ := on
    rw [← k2]
    exact (r2 k k1).1.up (by omega)
  · refine Td.cq (r1 t ht (fun k hk z => on ⟨k, hk, z⟩)) (fun hT => ⟨fun hp => ?_, fun hp => ?_⟩)
    · have g := (eg t ht).mp ⟨hT, hp⟩
      obtain ⟨d, d1, d2, d3⟩ := du t ht g
      rw [e6, ix_nI (by omega)]
      by_cases st : M (327 + t) = 1
      · refine ⟨d - c + c2, ?_, by omega, by omega⟩
        rw [(p2 t ht).1 g st, d1, show nI d = nI (d - c) + nI c by rw [nI_add, Nat.sub_add_cancel (by omega)], Int32.add_assoc, ← h6, h2, nI_add]
      · refine ⟨d, ((p2 t ht).2.1 (fun z => st z.2)).trans d1, ?_, by omega⟩
        rcases Nat.lt_or_ge c2 d with q | q
        · exact q
        · exact absurd ((p2 t ht).2.2 g st (by rw [d1, h2]; exact nI_le q (by omega))) on
    · have hT' : isT M t := (e (215 + t) (by omega) (by omega) (by omega) (by omega)).symm.trans hT
      obtain ⟨x, x1, x2, x3⟩ := ((h t ht).1 hT').2 ((e (343 + t) (by omega) (by omega) (by omega) (by omega)).symm.trans hp)
      exact ⟨x, (e (359 + t) (by omega) (by omega) (by omega) (by omega)).trans x1, x2, by omega⟩
end
