section
/-! WHAT HOLDS OF A DESK BETWEEN CALLS -/
def Jc (X Y c : Nat) (M : Nat → Int32) (L r : Nat) : Prop := Cv M L r ∧ Z0 M L ∧ Gr M ∧ M 6 = nI c ∧ (∃ s : Nat, M 13 = nI s ∧ s ≤ Y ∧ ∀ t, t < 16 → isT M t → ∃ a : Nat, M (247 + t) = nI a ∧ a < s) ∧ ∀ t, t < 16 → Tm X M L t
theorem Jc.up {X X' Y Y' c L r : Nat} {M : Nat → Int32} (h : Jc X Y c M L r) (hX : X ≤ X') (hY : Y ≤ Y') : Jc X' Y' c M L r := by
  obtain ⟨h1, h2, h3, h4, ⟨s, s1, s2, s3⟩, h6⟩ := h
  exact ⟨h1, h2, h3, h4, ⟨s, s1, by omega, s3⟩, fun t ht => (h6 t ht).up hX⟩
theorem Jc.lv {X Y c L r : Nat} {M : Nat → Int32} (h : Jc X Y c M L r) : LvA M L := fun t ht g => by
  have q := (h.2.2.2.2.2 t ht).2 g
  rcases q.2 with ⟨a, -⟩ | ⟨k, a, b, -⟩
  · exact Or.inl a
  · exact Or.inr ⟨k, a, b⟩
theorem Jc.sl {X Y c L r : Nat} {M : Nat → Int32} (h : Jc X Y c M L r) : SlA M L := fun t ht g k hk e => by
  have q := (h.2.2.2.2.2 t ht).2 g
  have hF := h.1.1.1
  have hL := hF.2.2.1
  rcases q.2 with ⟨a, -⟩ | ⟨k', a, b, x, -⟩
  · rw [a] at e
    exact absurd e.symm (by
      rcases (show k = 0 ∨ k = 1 ∨ k = 2 ∨ k = 3 by omega) with rfl | rfl | rfl | rfl <;> decide)
  · have ek : k' = k := (nI_eq (by omega) (by omega)).mp (b.symm.trans e)
    subst ek
    have hz := sz_of hF hk
    exact ⟨_, _, hz.1, x, Nat.mod_lt _ (by omega), hz.2.2⟩
theorem Jc.du {X Y c L r : Nat} {M : Nat → Int32} (h : Jc X Y c M L r) (hX : c + X < 2147483648) : ∀ t, t < 16 → isG M t → 0 ≤ M (231 + t) := fun t ht g => by
  obtain ⟨d, a, b, x⟩ := ((h.2.2.2.2.2 t ht).1 g.1).1 g.2
  rw [h.2.2.2.1, ix_nI (by omega)] at b x
  rw [a]
  exact nI_pos' (by omega)
theorem Jc.cg {X Y c L r : Nat} {M M' : Nat → Int32} (h : Jc X Y c M L r) (e : ∀ j, j < 423 → M' j = M j) : Jc X Y c M' L r := by
  obtain ⟨h1, h2, h3, h4, ⟨s, s1, s2, s3⟩, h6⟩ := h
  have hL := h1.1.1.2.2.1
  refine ⟨Cv_cg h1 e, fun k a b => (e _ (by omega)).trans (h2 k a b), Gr_cg h3 (fun j a b => e j (by omega)), (e 6 (by omega)).trans h4, ⟨s, (e 13 (by omega)).trans s1, s2, fun t ht l => ?_⟩, fun t ht => Tm.cq hL (fun j hj => e j (by omega)) (h6 t ht)⟩
  rw [e (247 + t) (by omega)]
  exact s3 t ht ((e (215 + t) (by omega)).symm.trans l)
theorem Jc_gen {X X' Y c L r : Nat} {M M' : Nat → Int32} (h : Jc X Y c M L r) (h5 : ∀ j, j < 7 ∨ j = 13 ∨ j = 14 → M' j = M j) (hb : Bo M') (hlv : ∀ t, t < 16 → isT M' t → isT M t) (har : ∀ j, 247 ≤ j → j < 279 → M' j = M j) (hpe : ∀ j, 295 ≤ j → j < 311 → M' j = M j) (htm : ∀ t, t < 16 → Tm X' M' L t) : Jc X' Y c M' L r := by
  obtain ⟨⟨⟨i1, i2, i3, i4⟩, hB, hr, hA⟩, hZ, hG, h6, ⟨s, s1, s2, s3⟩, hT⟩ := h
  refine ⟨⟨⟨Wf_same i1 (fun j hj => h5 j (by omega)), (h5 14 (by omega)).trans i2, i3, fun t ht l => Pq_same (i4 t ht (hlv t ht l)) (hpe _ (by omega) (by omega))⟩, hb, by rw [h5 5 (by omega)]; exact hr, fun a b ha hb la lb hab => ?_⟩, fun k h1 h2 => (h5 (1 + k) (by omega)).trans (hZ k h1 h2), Gr_cg hG (fun j a b => har j (by omega) (by omega)), (h5 6 (by omega)).trans h6, ⟨s, (h5 13 (by omega)).trans s1, s2, fun t ht l => ?_⟩, htm⟩
  · rw [har (247 + a) (by omega) (by omega), har (247 + b) (by omega) (by omega)]
    exact hA a b ha hb (hlv a ha la) (hlv b hb lb) hab
  · rw [har (247 + t) (by omega) (by omega)]
    exact s3 t ht (hlv t ht l)
theorem pa_ne {M : Nat → Int32} {t j : Nat} (h1 : j ≠ 343 + t) (h2 : j ≠ 359 + t) : paM M t j = M j := by
  unfold paM
  rw [uM_ne _ _ h2, uM_ne _ _ h1]
theorem Jc_pa {X Y c L r t : Nat} {M : Nat → Int32} (h : Jc X Y c M L r) (hX : c + X < 2147483648) (ht : t < 16) (g : isG M t) : Jc X Y c (paM M t) L r := by
  have h6 := h.2.2.2.1
  have hL := h.1.1.1.2.2.1
  refine Jc_gen h (fun j hj => pa_ne (by omega) (by omega)) (Bo_pa ht h.1.2.1) (fun u hu l => (pa_ne (by omega) (by omega)).symm.trans l) (fun j a b => pa_ne (by omega) (by omega)) (fun j a b => pa_ne (by omega) (by omega)) (fun u hu => ?_)
  by_cases e : u = t
  · subst e
    have pu : paM M u (343 + u) = 1 := by
      unfold paM
      rw [uM_ne _ _ (by omega), uM_self]
    refine ⟨fun _ => ⟨fun z => absurd (pu.symm.trans z) (by decide), fun _ => ?_⟩, fun z => absurd (pu.symm.trans z.2) (by decide)⟩
    obtain ⟨d, a, b, x⟩ := ((h.2.2.2.2.2 u hu).1 g.1).1 g.2
    rw [h6, ix_nI (by omega)] at b x
    refine ⟨d - c, ?_, by omega, by omega⟩
    unfold paM
    rw [uM_self, a, h6, nI_sub (by omega)]
  · exact Tm.cq hL (fun j hj => pa_ne (by omega) (by omega)) (h.2.2.2.2.2 u hu)
theorem ca_ne {M : Nat → Int32} {t j : Nat} (h1 : j ≠ 215 + t) (h2 : j ≠ 10) : caM M t j = M j := caM_ne h1 h2
theorem Jc_ca {X Y c L r t : Nat} {M : Nat → Int32} (h : Jc X Y c M L r) (ht : t < 16) : Jc X Y c (caM M t) L r := by
  have hL := h.1.1.1.2.2.1
  have pu : ¬ isT (caM M t) t := fun z => by
    unfold isT caM at z
    rw [uM_ne _ _ (by omega), uM_self] at z
    exact absurd z (by decide)
  refine Jc_gen h (fun j hj => ca_ne (by omega) (by omega)) (Bo_ca h.1.2.1) (fun u hu l => ?_) (fun j a b => ca_ne (by omega) (by omega)) (fun j a b => ca_ne (by omega) (by omega)) (fun u hu => ?_)
  · by_cases e : u = t
    · subst e; exact absurd l pu
    · exact (ca_ne (by omega) (by omega)).symm.trans l
  · by_cases e : u = t
    · subst e
      exact ⟨fun z => absurd z pu, fun z => absurd z.1 pu⟩
    · exact Tm.cq hL (fun j hj => ca_ne (by omega) (by omega)) (h.2.2.2.2.2 u hu)
/-- a DUE set anew -/
theorem Jc_due {X Y c L r t d : Nat} {M : Nat → Int32} {v : Int32} (h : Jc X Y c M L r) (hX : c + X < 2147483648) (ht : t < 16) (hv : v = nI d) (h1 : c < d) (h2 : d ≤ c + X) : Jc X Y c (layM (uM M (231 + t) v) L t) L r := by
  have h6 := h.2.2.2.1
  have hF := h.1.1.1
  have hL := hF.2.2.1
  have ne : ∀ j, j < 391 → j ≠ 231 + t → layM (uM M (231 + t) v) L t j = M j := fun j a b => (layM_ne a).trans (uM_ne _ _ b)
  refine Jc_gen h (fun j hj => ne j (by omega) (by omega)) (Bo_same h.1.2.1 (fun j a b x => ne j (by omega) (by omega))) (fun u hu l => (ne _ (by omega) (by omega)).symm.trans l) (fun j a b => ne j (by omega) (by omega)) (fun j a b => ne j (by omega) (by omega)) (fun u hu => ?_)
  by_cases e : u = t
  · subst e
    rcases (h.1.2.1 u hu).2.2 with p | p
    · exact lay_Tm (Wf_same hF (fun j hj => uM_ne _ _ (by omega))) hu ((uM_ne _ _ (by omega)).trans h6) ((uM_self _ _ _).trans hv) h1 h2 (by omega) ((uM_ne _ _ (by omega)).trans p)
    · have p' := (ne (343 + u) (by omega) (by omega)).trans p
      refine ⟨fun l => ⟨fun z => absurd (p'.symm.trans z) (by decide), fun _ => ?_⟩, fun z => absurd (p'.symm.trans z.2) (by decide)⟩
      rw [ne (359 + u) (by omega) (by omega)]
      exact ((h.2.2.2.2.2 u hu).1 ((ne _ (by omega) (by omega)).symm.trans l)).2 p
  · exact Tm.cq hL ((Cq_lay hu ht (Ne.symm e)).tr (fun j hj => uM_ne _ _ (by omega))) (h.2.2.2.2.2 u hu)
theorem Jc_re {X Y c L r t : Nat} {M : Nat → Int32} (h : Jc X Y c M L r) (hX : c + X < 2147483648) (ht : t < 16) (hT : isT M t) (hp : M (343 + t) = 1) : Jc X Y c (reM M L t) L r := by
  have h6 := h.2.2.2.1
  have hF := h.1.1.1
  have hL := hF.2.2.1
  have ne : ∀ j, j < 391 → j ≠ 231 + t → j ≠ 343 + t → reM M L t j = M j := fun j a b x => by
    unfold reM
    rw [layM_ne a, uM_ne _ _ b, uM_ne _ _ x]
  refine Jc_gen h (fun j hj => ne j (by omega) (by omega) (by omega)) (Bo_re ht h.1.2.1) (fun u hu l => (ne _ (by omega) (by omega) (by omega)).symm.trans l) (fun j a b => ne j (by omega) (by omega) (by omega)) (fun j a b => ne j (by omega) (by omega) (by omega)) (fun u hu => ?_)
  by_cases e : u = t
  · subst e
    obtain ⟨x, x1, x2, x3⟩ := ((h.2.2.2.2.2 u hu).1 hT).2 hp
    unfold reM
    refine lay_Tm (c := c) (d := c + x) (Wf_same hF (fun j hj => (uM_ne _ _ (by omega)).trans (uM_ne _ _ (by omega)))) hu (((uM_ne _ _ (by omega)).trans (uM_ne _ _ (by omega))).trans h6) ((uM_self _ _ _).trans (by rw [h6, x1, nI_add])) (by omega) (by omega) (by omega) ((uM_ne _ _ (by omega)).trans (uM_self _ _ _))
  · refine Tm.cq hL ?_ (h.2.2.2.2.2 u hu)
    unfold reM
    exact (Cq_lay hu ht (Ne.symm e)).tr (fun j hj => (uM_ne _ _ (by omega)).trans (uM_ne _ _ (by omega)))
theorem Jc_st {X Y c L r t : Nat} {M : Nat → Int32} {b : Int32} (h : Jc X Y c M L r) (ht : t < 16) (hb : b = 0 ∨ b = 1) : Jc X Y c (uM M (327 + t) b) L r := by
  have hL := h.1.1.1.2.2.1
  refine Jc_gen h (fun j hj => uM_ne _ _ (by omega)) (fun u hu => ?_) (fun u hu l => (uM_ne _ _ (by omega)).symm.trans l) (fun j a b => uM_ne _ _ (by omega)) (fun j a b => uM_ne _ _ (by omega)) (fun u hu => Tm.cq hL (fun j hj => uM_ne _ _ (by omega)) (h.2.2.2.2.2 u hu))
  rw [uM_ne (j := 215 + u) _ _ (by omega), uM_ne (j := 343 + u) _ _ (by omega)]
  refine ⟨(h.1.2.1 u hu).1, ?_, (h.1.2.1 u hu).2.2⟩
  by_cases e : u = t
  · subst e
    rw [uM_self]
    exact hb
  · rw [uM_ne _ _ (by omega)]
    exact (h.1.2.1 u hu).2.1
theorem Jc_order {X Y c L r : Nat} {M : Nat → Int32} {k : Int32} (h : Jc X Y c M L r) (hk : inR k 0 2) : Jc X Y c (uM M 5 k) L r := by
  obtain ⟨⟨⟨i1, i2, i3, i4⟩, hB, hr, hA⟩, hZ, hG, h6, ⟨s, s1, s2, s3⟩, hT⟩ := h
  have e : ∀ j, j ≠ 5 → uM M 5 k j = M j := fun j hj => uM_ne _ _ hj
  have e5 : uM M 5 k 5 = k := uM_self _ _ _
  generalize uM M 5 k = N at e e5
  have hL := i1.2.2.1
  refine ⟨⟨⟨Wf_same i1 (fun j hj => e j (by omega)), (e 14 (by omega)).trans i2, i3, fun t ht l => Pq_same (i4 t ht ((e _ (by omega)).symm.trans l)) (e _ (by omega))⟩, Bo_same hB (fun j a b x => e j (by omega)), ?_, fun a b ha hb la lb hab => ?_⟩, fun k h1 h2 => (e (1 + k) (by omega)).trans (hZ k h1 h2), Gr_cg hG (fun j a b => e j (by omega)), (e 6 (by omega)).trans h6, ⟨s, (e 13 (by omega)).trans s1, s2, fun t ht l => ?_⟩, fun t ht => Tm.cq hL (fun j hj => e j (by omega)) (hT t ht)⟩
  · rw [e5]
    have q := inR_nI (N := 2) (by omega) hk
    rw [q.1]
    rcases (show ix k = 0 ∨ ix k = 1 ∨ ix k = 2 by omega) with z | z | z
    · rw [z]; exact Or.inl rfl
    · rw [z]; exact Or.inr (Or.inl rfl)
    · rw [z]; exact Or.inr (Or.inr rfl)
  · rw [e (247 + a) (by omega), e (247 + b) (by omega)]
    exact hA a b ha hb ((e _ (by omega)).symm.trans la) ((e _ (by omega)).symm.trans lb) hab
  · rw [e (247 + t) (by omega)]
    exact s3 t ht ((e _ (by omega)).symm.trans l)
theorem st0_ne {M : Nat → Int32} {t j : Nat} {dl gr so pe ti : Int32} (ht : t < 16) (h : j < 215 ∨ (j - 215) % 16 ≠ t ∨ 391 ≤ j ∨ (359 ≤ j ∧ j < 375)) : st0M M t dl gr so pe ti j = M j := by
  unfold st0M
  rw [uM_ne _ _ (by omega), uM_ne _ _ (by omega), uM_ne _ _ (by omega), uM_ne _ _ (by omega), uM_ne _ _ (by omega), uM_ne _ _ (by omega), uM_ne _ _ (by omega), uM_ne _ _ (by omega), uM_ne _ _ (by omega), uM_ne _ _ (by omega)]
/-- a timer set -/
theorem Jc_set {X Y c L r t : Nat} {M : Nat → Int32} {dl gr so pe ti : Int32} (h : Jc X Y c M L r) (hX : c + X < 2147483648) (hX1 : 1000000 ≤ X) (hY : Y + 1 < 2147483648) (ht : t < 16) (hdl : inR dl 1 1000000) (hgr : inR gr 0 7) (hpe : inR pe 1 1000) : Jc X (Y + 1) c (setM M L t dl gr so pe ti) L r := by
  obtain ⟨⟨⟨i1, i2, i3, i4⟩, hB, hr, hA⟩, hZ, hG, h6, ⟨s, s1, s2, s3⟩, hT⟩ := h
  have hL := i1.2.2.1
  obtain ⟨q1, q2, q3⟩ := inR_nat (lo := 1) (hi := 1000000) hdl (by omega) (by omega)
  obtain ⟨p1, p2⟩ := inR_nI (N := 7) (by omega) hgr
  obtain ⟨u1, u2, u3⟩ := inR_nat (lo := 1) (hi := 1000) hpe (by omega) (by omega)
  unfold setM
  obtain ⟨N, hN⟩ : ∃ N, uM (st0M M t dl gr so pe ti) 13 (M 13 + 1) = N := ⟨_, rfl⟩
  have ne : ∀ j, j ≠ 13 → (j < 215 ∨ (j - 215) % 16 ≠ t ∨ 391 ≤ j ∨ (359 ≤ j ∧ j < 375)) → N j = M j := fun j a b => by
    rw [← hN, uM_ne _ _ a]
    exact st0_ne ht b
  have n13 : N 13 = nI (s + 1) := by rw [← hN, uM_self, s1]; exact nI_1 s
  have n215 : N (215 + t) = 1 := by
    rw [← hN, uM_ne _ _ (by omega)]
    unfold st0M
    rw [uM_ne _ _ (by omega), uM_ne _ _ (by omega), uM_ne _ _ (by omega), uM_ne _ _ (by omega), uM_ne _ _ (by omega), uM_ne _ _ (by omega), uM_ne _ _ (by omega), uM_ne _ _ (by omega), uM_ne _ _ (by omega), uM_self]
  have n231 : N (231 + t) = nI (c + ix dl) := by
    rw [← hN, uM_ne _ _ (by omega)]
    unfold st0M
    rw [uM_ne _ _ (by omega), uM_ne _ _ (by omega), uM_ne _ _ (by omega), uM_ne _ _ (by omega), uM_ne _ _ (by omega), uM_ne _ _ (by omega), uM_ne _ _ (by omega), uM_ne _ _ (by omega), uM_self, h6, ← nI_add, ← q1]
  have n247 : N (247 + t) = nI s := by
    rw [← hN, uM_ne _ _ (by omega)]
    unfold st0M
    rw [uM_ne _ _ (by omega), uM_ne _ _ (by omega), uM_ne _ _ (by omega), uM_ne _ _ (by omega), uM_ne _ _ (by omega), uM_ne _ _ (by omega), uM_ne _ _ (by omega), uM_self, s1]
  have n263 : N (263 + t) = gr := by
    rw [← hN, uM_ne _ _ (by omega)]
    unfold st0M
    rw [uM_ne _ _ (by omega), uM_ne _ _ (by omega), uM_ne _ _ (by omega), uM_ne _ _ (by omega), uM_ne _ _ (by omega), uM_ne _ _ (by omega), uM_self]
  have n295 : N (295 + t) = pe := by
    rw [← hN, uM_ne _ _ (by omega)]
    unfold st0M
    rw [uM_ne _ _ (by omega), uM_ne _ _ (by omega), uM_ne _ _ (by omega), uM_ne _ _ (by omega), uM_self]
  have n327 : N (327 + t) = 0 := by
    rw [← hN, uM_ne _ _ (by omega)]
    unfold st0M
    rw [uM_ne _ _ (by omega), uM_ne _ _ (by omega), uM_self]
  have n343 : N (343 + t) = 0 := by
    rw [← hN, uM_ne _ _ (by omega)]
    unfold st0M
    rw [uM_ne _ _ (by omega), uM_self]
  rw [hN]
  have nF : Wf N L := Wf_same i1 (fun j hj => ne j (by omega) (by omega))
  have n6 : N 6 = nI c := (ne 6 (by omega) (by omega)).trans h6
  have lv : ∀ u, u < 16 → u ≠ t → isT N u → isT M u := fun u hu e l => (ne _ (by omega) (by omega)).symm.trans l
  have ly : ∀ j, j < 391 → layM N L t j = N j := fun j hj => layM_ne hj
  have tm : ∀ u, u < 16 → Tm X (layM N L t) L u := fun u hu => by
    by_cases e : u = t
    · subst e
      exact lay_Tm nF hu n6 n231 (by omega) (by omega) (by omega) n343
    · exact Tm.cq hL ((Cq_lay hu ht (Ne.symm e)).tr (fun j hj => ne j (by omega) (by omega))) (hT u hu)
  generalize layM N L t = K at ly tm
  refine ⟨⟨⟨Wf_same nF (fun j hj => ly j (by omega)), ((ly 14 (by omega)).trans (ne 14 (by omega) (by omega))).trans i2, i3, fun u hu l => ?_⟩, fun u hu => ?_, by rw [ly 5 (by omega), ne 5 (by omega) (by omega)]; exact hr, ?_⟩, fun k h1 h2 => ((ly (1 + k) (by omega)).trans (ne (1 + k) (by omega) (by omega))).trans (hZ k h1 h2), fun u hu => ?_, (ly 6 (by omega)).trans n6, ⟨s + 1, (ly 13 (by omega)).trans n13, by omega, fun u hu l => ?_⟩, tm⟩
  · have l' : isT N u := (ly _ (by omega)).symm.trans l
    by_cases e : u = t
    · subst e
      exact ⟨ix pe, (ly _ (by omega)).trans (n295.trans u1), u2, u3⟩
    · exact Pq_same (i4 u hu (lv u hu e l')) ((ly _ (by omega)).trans (ne _ (by omega) (by omega)))
  · rw [ly (215 + u) (by omega), ly (327 + u) (by omega), ly (343 + u) (by omega)]
    by_cases e : u = t
    · subst e
      exact ⟨Or.inr n215, Or.inl n327, Or.inl n343⟩
    · rw [ne (215 + u) (by omega) (by omega), ne (327 + u) (by omega) (by omega), ne (343 + u) (by omega) (by omega)]
      exact hB u hu
  · intro a b ha hb la lb hab
    rw [ly (247 + a) (by omega), ly (247 + b) (by omega)]
    have la' : isT N a := (ly _ (by omega)).symm.trans la
    have lb' : isT N b := (ly _ (by omega)).symm.trans lb
    by_cases ea : a = t
    · have eb : b ≠ t := fun z => hab (ea.trans z.symm)
      obtain ⟨x, x1, x2⟩ := s3 b hb (lv b hb eb lb')
      rw [ea, n247, ne (247 + b) (by omega) (by omega), x1]
      exact fun z => by
        have := (nI_eq (by omega) (by omega)).mp z
        omega
    · by_cases eb : b = t
      · obtain ⟨x, x1, x2⟩ := s3 a ha (lv a ha ea la')
        rw [eb, n247, ne (247 + a) (by omega) (by omega), x1]
        exact fun z => by
          have := (nI_eq (by omega) (by omega)).mp z
          omega
      · rw [ne (247 + a) (by omega) (by omega), ne (247 + b) (by omega) (by omega)]
        exact hA a b ha hb (lv a ha ea la') (lv b hb eb lb') hab
  · rw [ly (263 + u) (by omega)]
    by_cases e : u = t
    · subst e
      exact ⟨ix gr, n263.trans p1, by omega⟩
    · rw [ne (263 + u) (by omega) (by omega)]
      exact hG u hu
  · rw [ly (247 + u) (by omega)]
    have l' : isT N u := (ly _ (by omega)).symm.trans l
    by_cases e : u = t
    · subst e
      exact ⟨s, n247, by omega⟩
    · obtain ⟨x, x1, x2⟩ := s3 u hu (lv u hu e l')
      exact ⟨x, (ne (247 + u) (by omega) (by omega)).trans x1, by omega⟩
/-- other WHEELS -/
theorem Jc_wheels {X Y c L r : Nat} {M W : Nat → Int32} (h : Jc X Y c M L r) (hX : c + X < 2147483648) (hok : wiOk W = true) : Jc X Y c (layAllM (wiM M W (wiN W 4 0)) (wiN W 4 0)) (wiN W 4 0) r := by
  obtain ⟨⟨⟨i1, i2, i3, i4⟩, hB, hr, hA⟩, hZ, hG, h6, ⟨s, s1, s2, s3⟩, hT⟩ := h
  have hF1 := Wf_wiM (M := M) hok
  have hZ1 := Z0_wiM (M := M) hok
  have hi : ∀ j, 5 ≤ j → wiM M W (wiN W 4 0) j = M j := fun j hj => wiM_hi hj
  generalize wiN W 4 0 = N at hF1 hZ1 hi
  generalize wiM M W N = K at hF1 hZ1 hi
  have hL := hF1.2.2.1
  have tm := layAll_Tm (X := X) hF1 ((hi 6 (by omega)).trans h6) hX (fun t ht => Td.cg (hi _ (by omega)) (hi _ (by omega)) (hi _ (by omega)) (hi _ (by omega)) (hi _ (by omega)) (hT t ht).1)
  have ly : ∀ j, j < 391 → j ≠ 8 → layAllM K N j = K j := fun j a b => Lo_layAll j a b
  generalize layAllM K N = Q at ly tm
  have ml : ∀ j, 5 ≤ j → j < 391 → j ≠ 8 → Q j = M j := fun j a b x => (ly j b x).trans (hi j a)
  refine ⟨⟨⟨Wf_same hF1 (fun j hj => ly j (by omega) (by omega)), (ml 14 (by omega) (by omega) (by omega)).trans i2, i3, fun t ht l => Pq_same (i4 t ht ((ml _ (by omega) (by omega) (by omega)).symm.trans l)) (ml _ (by omega) (by omega) (by omega))⟩, Bo_same hB (fun j a b x => ml j (by omega) (by omega) (by omega)), by rw [ml 5 (by omega) (by omega) (by omega)]; exact hr, fun a b ha hb la lb hab => ?_⟩, fun k h1 h2 => (ly (1 + k) (by omega) (by omega)).trans (hZ1 k h1 h2), Gr_cg hG (fun j a b => ml j (by omega) (by omega) (by omega)), (ml 6 (by omega) (by omega) (by omega)).trans h6, ⟨s, (ml 13 (by omega) (by omega) (by omega)).trans s1, s2, fun t ht l => ?_⟩, tm⟩
  · rw [ml (247 + a) (by omega) (by omega) (by omega), ml (247 + b) (by omega) (by omega) (by omega)]
    exact hA a b ha hb ((ml _ (by omega) (by omega) (by omega)).symm.trans la) ((ml _ (by omega) (by omega) (by omega)).symm.trans lb) hab
  · rw [ml (247 + t) (by omega) (by omega) (by omega)]
    exact s3 t ht ((ml _ (by omega) (by omega) (by omega)).symm.trans l)
theorem tick_kp {M : Nat → Int32} {L r : Nat} (hI : Iv M L r) : (∀ j, Kp j → j ≠ 6 → j ≠ 8 → tickM M L r j = M j) ∧ ∀ u, u < 16 → isT (tickM M L r) u → isT M u := by
  have hA := Iv_tkA hI
  have lo : ∀ j, j < 391 → j ≠ 8 → j ≠ 6 → tkA M L j = M j := fun j a b c => Lo6 Lo.tkA a b c
  obtain ⟨k1, k2⟩ := ring_kp (L := L) (g := (tkLn M L).1) (n := (tkLn M L).2) hA.2.1 hA.2.2.1 (fun k hk => lineM_lt hk)
  unfold tickM
  refine ⟨fun j hj a b => (k1 j hj).trans (lo j (by unfold Kp at hj; omega) b a), fun u hu l => ?_⟩
  rcases k2 u hu with e | e
  · exact (lo _ (by omega) (by omega) (by omega)).symm.trans (e.symm.trans l)
  · exact absurd (e.symm.trans l) (by decide)
theorem Jc_tick {X Y c L r : Nat} {M : Nat → Int32} (h : Jc X Y c M L r) (hX : X ≤ 1000000000) (hX1 : 1000 ≤ X) (hc : c ≤ 1000000000) : Jc X Y (c + 1) (tickM M L r) L (tkR M L r) := by
  obtain ⟨hC, hZ, hG, h6, ⟨s, s1, s2, s3⟩, hT⟩ := h
  obtain ⟨k1, k2⟩ := tick_kp hC.1
  obtain ⟨t1, t2⟩ := tick_Tm hC h6 hX hX1 hc hT
  refine ⟨Cv_tick hC, fun k a b => (k1 _ (by unfold Kp; omega) (by omega) (by omega)).trans (hZ k a b), Gr_tick hC.1 hG, t1, ⟨s, (k1 13 (by unfold Kp; omega) (by omega) (by omega)).trans s1, s2, fun t ht l => ?_⟩, t2⟩
  rw [k1 (247 + t) (by unfold Kp; omega) (by omega) (by omega)]
  exact s3 t ht (k2 t ht l)
theorem Jc_tks {X Y c L r : Nat} {M : Nat → Int32} {hl : List (Nat × Int32)} (h : Jc X Y c M L r) (hX : X ≤ 1000000000) (hX1 : 1000 ≤ X) (m : Nat) (hc : c + m ≤ 1000000000) : Jc X Y (c + m) (tks L m (M, r, hl)).1 L (tks L m (M, r, hl)).2.1 := by
  unfold tks
  have q := itr_inv (f := fun _ s => tk1 L s) (fun i s => Jc X Y (c + i) s.1 L s.2.1) m 0 (M, r, hl) h (fun j s _ hj hs => Jc_tick hs hX hX1 (show c + j ≤ 1000000000 by omega))
  rw [Nat.zero_add] at q
  exact q
theorem leap_kp {M : Nat → Int32} {L r : Nat} {n : Int32} (hI : Iv M L r) : (∀ j, Kp j → j ≠ 6 → j ≠ 8 → j ≠ 11 → j ≠ 12 → leapM M L r n j = M j) ∧ ∀ u, u < 16 → isT (leapM M L r n) u → isT M u := by
  have hA := Iv_lpS (n := n) hI
  have hall := (lpS_all (M := M) (n := n)).2.2
  have lo : ∀ j, j ≠ 6 → j ≠ 11 → j ≠ 12 → (j < 231 ∨ 247 ≤ j) → (lpS M n).1 j = M j := fun j a b c d => (hall j d).trans (lp0_ne a b c)
  obtain ⟨k1, k2⟩ := ring_kp (L := L) (g := (lpS M n).2.1) (n := (lpS M n).2.2) hA.2.1 hA.2.2.1 (fun k hk => (lpS_T hk).1)
  unfold leapM
  refine ⟨fun j hj a b c d => ((Lo_layAll j (by unfold Kp at hj; omega) b).trans (k1 j hj)).trans (lo j a c d (by unfold Kp at hj; omega)), fun u hu l => ?_⟩
  have l' := (Lo_layAll (215 + u) (by omega) (by omega)).symm.trans l
  rcases k2 u hu with e | e
  · exact (lo _ (by omega) (by omega) (by omega) (by omega)).symm.trans (e.symm.trans l')
  · exact absurd (e.symm.trans l') (by decide)
theorem Jc_leap {X Y c c2 K L r : Nat} {M : Nat → Int32} {n : Int32} (h : Jc X Y c M L r) (h2 : M 6 + n = nI c2) (hK : K ≤ 1000000) (hcc : c ≤ c2 + K) (hX : X ≤ 900000000) (hX1 : 1000 ≤ X) (hc : c ≤ 1000000000) (hc2 : c2 ≤ 1000000000) : Jc (X + K) Y c2 (leapM M L r n) L (tellM (lpS M n).1 r (lpS M n).2.1 (lpS M n).2.2).2 := by
  obtain ⟨hC, hZ, hG, h6, ⟨s, s1, s2, s3⟩, hT⟩ := h
  obtain ⟨k1, k2⟩ := leap_kp (n := n) hC.1
  obtain ⟨t1, t2⟩ := leap_Tm hC h6 h2 hK hcc hX hX1 hc hc2 hT
  refine ⟨Cv_leap hC, fun k a b => (k1 _ (by unfold Kp; omega) (by omega) (by omega) (by omega) (by omega)).trans (hZ k a b), Gr_cg hG (fun j a b => k1 j (by unfold Kp; omega) (by omega) (by omega) (by omega) (by omega)), t1, ⟨s, (k1 13 (by unfold Kp; omega) (by omega) (by omega) (by omega) (by omega)).trans s1, s2, fun t ht l => ?_⟩, t2⟩
  rw [k1 (247 + t) (by unfold Kp; omega) (by omega) (by omega) (by omega) (by omega)]
  exact s3 t ht (k2 t ht l)
end
