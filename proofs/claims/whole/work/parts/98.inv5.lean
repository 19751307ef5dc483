section
/-! CALLS keep what holds of a desk -/
theorem grp_Jc {X Y c L r : Nat} {M : Nat → Int32} {P : (Nat → Int32) → Nat → Bool} {f : (Nat → Int32) → Nat → (Nat → Int32)} (hstep : ∀ M t, t < 16 → P M t = true → Jc X Y c M L r → Jc X Y c (f M t) L r) (h : Jc X Y c M L r) : Jc X Y c (grpS P f M).1 L r := by
  unfold grpS
  exact itr_inv (f := grpF P f) (fun _ s => Jc X Y c s.1 L r) 16 0 (M, 0) h (fun j s _ hj hs => by
    by_cases q : P s.1 j = true
    · have ef : grpF P f j s = (f s.1 j, s.2 + 1) := by unfold grpF; rw [if_pos q]
      rw [ef]
      exact hstep s.1 j (by omega) q hs
    · have ef : grpF P f j s = s := by unfold grpF; rw [if_neg q]
      rw [ef]
      exact hs)
theorem C64_ex {M : Nat → Int32} {c K : Nat} {k : Int32} (h6 : M 6 = nI c) (hc : c ≤ 1000000000) (hK : K ≤ 1000000) (hk1 : -(K : Int) ≤ k.toInt) (hk2 : k.toInt ≤ (K : Int)) (h : C64 M k) : ∃ c2 : Nat, M 6 + k = nI c2 ∧ c2 ≤ 1000000000 ∧ c ≤ c2 + K ∧ c2 ≤ c + K := by
  have e : ((M 6).toInt64 + k.toInt64).toInt = (c : Int) + k.toInt := by
    rw [h6, Int64.toInt_add, Int32.toInt_toInt64, Int32.toInt_toInt64, nI_toInt (by omega)]
    apply Int.bmod_eq_of_le <;> omega
  have h1 := Int64.le_iff_toInt_le.mp h.1
  have h2 := Int64.le_iff_toInt_le.mp h.2
  rw [e] at h1 h2
  have z1 : (0 : Int64).toInt = 0 := by decide
  have z2 : (1000000000 : Int64).toInt = 1000000000 := by decide
  rw [z1] at h1
  rw [z2] at h2
  refine ⟨((c : Int) + k.toInt).toNat, ?_, by omega, by omega, by omega⟩
  apply Int32.toInt_inj.mp
  rw [h6, Int32.toInt_add, nI_toInt (by omega), nI_toInt (by omega)]
  have : (((c : Int) + k.toInt).toNat : Int) = (c : Int) + k.toInt := by omega
  rw [this]
  apply Int.bmod_eq_of_le <;> omega
set_option maxRecDepth 40000 in
theorem Jc_do {X Y c L r : Nat} {M : Nat → Int32} {a : Act} {s : (Nat → Int32) × Nat × Nat} (h : Jc X Y c M L r) (hX1 : 1000000 ≤ X) (hX : X ≤ 600000000) (hc : c ≤ 600000000) (hY : Y ≤ 1000000) (hO : AcOk a) (hD : doA L a M r = some s) : ∃ c', c' ≤ c + 10000 ∧ Jc (X + 10000) (Y + 1) c' s.1 L s.2.1 := by
  unfold doA at hD
  rcases hO with ⟨e, o1, o2, o3⟩ | ⟨e, o1⟩ | ⟨e, o1⟩ | ⟨e, o1⟩
  · rw [if_pos e] at hD
    have hle := frM_le M 16 0
    generalize frM M 16 0 = t at hD hle
    by_cases q : t = 16
    · rw [if_pos q] at hD
      cases hD
    · rw [if_neg q] at hD
      have hs := Option.some.inj hD
      rw [← hs]
      exact ⟨c, by omega, (Jc_set h (by omega) hX1 (by omega) (by omega) (inR_wd o1 (by decide) (by decide)) (by decide) o3).up (by omega) (by omega)⟩
  · rw [if_neg (by rw [e]; decide), if_pos e] at hD
    obtain ⟨m1, m2, m3⟩ := inR_nat (lo := 1) (hi := 9) o1 (by omega) (by omega)
    generalize ix a.2.1 = m at hD m1 m2 m3
    by_cases q : M 6 + a.2.1 > 1000000000
    · rw [if_pos q] at hD
      cases hD
    · rw [if_neg q] at hD
      have hs := Option.some.inj hD
      rw [← hs]
      exact ⟨c + m, by omega, (Jc_tks (hl := []) h (by omega) (by omega) m (by omega)).up (by omega) (by omega)⟩
  · rw [if_neg (by rw [e]; decide), if_neg (by rw [e]; decide), if_pos e] at hD
    by_cases q : C64 M a.2.1
    · rw [if_pos q] at hD
      have hs := Option.some.inj hD
      have z1 : (1 : Int32).toInt = 1 := by decide
      have z2 : (9999 : Int32).toInt = 9999 := by decide
      have z3 : (-9999 : Int32).toInt = -9999 := by decide
      have z4 : (-1 : Int32).toInt = -1 := by decide
      have hb : -((10000 : Nat) : Int) ≤ a.2.1.toInt ∧ a.2.1.toInt ≤ ((10000 : Nat) : Int) := by
        rcases o1 with o | o
        · have a1 := Int32.le_iff_toInt_le.mp o.1
          have a2 := Int32.le_iff_toInt_le.mp o.2
          omega
        · have a1 := Int32.le_iff_toInt_le.mp o.1
          have a2 := Int32.le_iff_toInt_le.mp o.2
          omega
      obtain ⟨c2, y1, y2, y3, y4⟩ := C64_ex (K := 10000) h.2.2.2.1 (by omega) (by omega) hb.1 hb.2 q
      have hj := Jc_leap (K := 10000) h y1 (by omega) y3 (by omega) (by omega) (by omega) y2
      generalize leapM M L r a.2.1 = A at hs hj
      generalize (tellM (lpS M a.2.1).1 r (lpS M a.2.1).2.1 (lpS M a.2.1).2.2).2 = B at hs hj
      generalize (lpS M a.2.1).2.2 = C at hs
      subst hs
      exact ⟨c2, y4, hj.up (Nat.le_refl _) (Nat.le_succ _)⟩
    · rw [if_neg q] at hD
      cases hD
  · rw [if_neg (by rw [e]; decide), if_neg (by rw [e]; decide), if_neg (by rw [e]; decide)] at hD
    by_cases q : isTm M a.2.1
    · rw [if_pos q] at hD
      have hs := Option.some.inj hD
      rw [← hs]
      exact ⟨c, by omega, (Jc_ca h (isTm_ix q.1).2).up (by omega) (by omega)⟩
    · rw [if_neg q] at hD
      cases hD
set_option maxRecDepth 40000 in
theorem doL_Jc {X Y c L : Nat} (hX1 : 1000000 ≤ X) (hX : X ≤ 590000000) (hc : c ≤ 590000000) (hY : Y ≤ 900000) : ∀ (as : List Act) (i c' : Nat) (s : (Nat → Int32) × Nat × Nat × Int32), i + as.length ≤ 101 → (∀ a ∈ as, AcOk a) → c' ≤ c + 10000 * i → Jc (X + 10000 * i) (Y + i) c' s.1 L s.2.1 → ∃ c2, c2 ≤ c + 1010000 ∧ Jc (X + 1010000) (Y + 101) c2 (doL L as s).1 L (doL L as s).2.1
  | [], i, c', s, hi, _, h1, h2 => by
    simp only [List.length_nil] at hi
    exact ⟨c', by omega, h2.up (by omega) (by omega)⟩
  | a :: as, i, c', s, hi, ho, h1, h2 => by
    rw [List.length_cons] at hi
    cases hD : doA L a s.1 s.2.1 with
    | none =>
      rw [doL_none hD]
      exact ⟨c', by omega, h2.up (by omega) (by omega)⟩
    | some q =>
      rw [doL_some hD]
      obtain ⟨c3, g1, g2⟩ := Jc_do h2 (by omega) (by omega) (by omega) (by omega) (ho a List.mem_cons_self) hD
      exact doL_Jc hX1 hX hc hY as (i + 1) c3 (q.1, q.2.1, s.2.2.1 + 1, s.2.2.2 + nI q.2.2) (by omega) (fun b hb => ho b (List.mem_cons_of_mem _ hb)) (by omega) (g2.up (by omega) (by omega))
theorem rdL_ok {T : Nat → Int32} {n : Nat} : ∀ (m : Nat) (as : List Act) (p : Nat), (∀ a ∈ as, AcOk a) → (rdL T n m as p).2.2.length ≤ as.length + m ∧ ∀ a ∈ (rdL T n m as p).2.2, AcOk a
  | 0, as, p, h => ⟨Nat.le_refl _, h⟩
  | m + 1, as, p, h => by
    unfold rdL
    by_cases c1 : n ≤ p
    · rw [if_pos c1]
      exact ⟨Nat.le_add_right _ _, h⟩
    · rw [if_neg c1]
      by_cases c2 : as ≠ [] ∧ ¬ tkP T n p 59
      · rw [if_pos c2]
        exact ⟨Nat.le_add_right _ _, h⟩
      · rw [if_neg c2]
        generalize (if as = [] then p else p + 1) = p2
        by_cases c3 : (rdA T n p2).1 = true
        · rw [if_pos c3]
          obtain ⟨a, b⟩ := rdL_ok (T := T) (n := n) m (as ++ [(rdA T n p2).2.2]) (rdA T n p2).2.1 (fun a ha => by
            rcases List.mem_append.mp ha with g | g
            · exact h a g
            · rw [List.mem_singleton.mp g]
              exact rdA_ok c3)
          refine ⟨?_, b⟩
          rw [List.length_append, List.length_singleton] at a
          omega
        · rw [if_neg c3]
          exact ⟨Nat.le_add_right _ _, h⟩
set_option maxRecDepth 40000 in
theorem Jc_sp {X Y c L r : Nat} {M : Nat → Int32} {k gap : Int32} {LN : (Nat → Nat) × Nat} (h : Jc X Y c M L r) (hX : c + X + 20000 < 2147483648) (hLN : lineM M true (hoP k M) = LN) (h2 : ¬ LN.2 < 2) (hg : inR gap 0 1000) : Jc (X + 16000) Y c (spS M L gap LN).1 L r := by
  have hlt : ∀ j, j < LN.2 → LN.1 j < 16 := fun j hj => by rw [← hLN] at hj ⊢; exact lineM_lt hj
  have hle : LN.2 ≤ 16 := by rw [← hLN]; exact lineM_le
  have hs0 : hoP k M (LN.1 0) = true := by
    have := lineM_sel (M := M) (bd := true) (sel := hoP k M) (j := 0) (by rw [hLN]; omega)
    rw [hLN] at this
    exact this
  have g0 : isG M (LN.1 0) := (of_decide_eq_true hs0).1
  obtain ⟨d, d1, d2, d3⟩ := ((h.2.2.2.2.2 (LN.1 0) (hlt 0 (by omega))).1 g0.1).1 g0.2
  rw [h.2.2.2.1, ix_nI (by omega)] at d2 d3
  obtain ⟨q1, q2⟩ := inR_nI (N := 1000) (by omega) hg
  unfold spS
  rw [d1]
  exact itr_inv (f := spF L (nI d) gap LN.1) (fun _ s => Jc (X + 16000) Y c s.1 L r) LN.2 0 (M, 0) (h.up (by omega) (Nat.le_refl _)) (fun j s _ hj hs => by
    have hm : j * ix gap ≤ 16 * 1000 := Nat.mul_le_mul (by omega) q2
    show Jc (X + 16000) Y c (layM (uM s.1 (231 + LN.1 j) (nI d + nI j * gap)) L (LN.1 j)) L r
    exact Jc_due (d := d + j * ix gap) hs (by omega) (hlt j (by omega)) (by conv => lhs; rw [q1, nI_mul, nI_add]) (by omega) (by omega))
theorem Jc_rest {X Y c L r t : Nat} {M : Nat → Int32} {v : Int32} {e : Nat} (h : Jc X Y c M L r) (ht : t < 16) (hv : v = nI e) (h1 : 1 ≤ e) (h2 : e ≤ X) : Jc X Y c (uM M (359 + t) v) L r := by
  have hL := h.1.1.1.2.2.1
  have ne : ∀ j, j ≠ 359 + t → uM M (359 + t) v j = M j := fun j hj => uM_ne _ _ hj
  refine Jc_gen h (fun j hj => ne j (by omega)) (Bo_same h.1.2.1 (fun j a b x => ne j (by omega))) (fun u hu l => (ne _ (by omega)).symm.trans l) (fun j a b => ne j (by omega)) (fun j a b => ne j (by omega)) (fun u hu => ?_)
  by_cases q : u = t
  · subst q
    refine ⟨fun l => ⟨fun z => ?_, fun _ => ⟨e, (uM_self _ _ _).trans hv, h1, h2⟩⟩, fun g => ?_⟩
    · rw [ne 6 (by omega), ne (231 + u) (by omega)]
      exact ((h.2.2.2.2.2 u hu).1 ((ne _ (by omega)).symm.trans l)).1 ((ne _ (by omega)).symm.trans z)
    · have g' : isG M u := ⟨(ne _ (by omega)).symm.trans g.1, (ne _ (by omega)).symm.trans g.2⟩
      have w := (h.2.2.2.2.2 u hu).2 g'
      have e5 : ∀ j, j < 5 → uM M (359 + u) v j = M j := fun j hj => ne j (by omega)
      unfold WI at w ⊢
      rw [ne 6 (by omega), ne (231 + u) (by omega), ne (391 + u) (by omega), ne (407 + u) (by omega), spN_congr e5 L hL]
      refine ⟨w.1, w.2.elim Or.inl (fun ⟨k, a, b, c, d, f⟩ => Or.inr ⟨k, a, b, ?_, ?_, ?_⟩)⟩
      · rw [spN_congr e5 k (by omega), ne (1 + k) (by omega)]; exact c
      · rw [spN_congr e5 k (by omega)]; exact d
      · rw [spN_congr e5 (k + 1) (by omega)]; exact f
  · exact Tm.cq hL (fun j hj => ne j (by omega)) (h.2.2.2.2.2 u hu)
theorem Jc_dl {X Y c L r t : Nat} {M : Nat → Int32} {dl : Int32} (h : Jc X Y c M L r) (hX : c + X < 2147483648) (hX1 : 1000000 ≤ X) (ht : t < 16) (hr : inR dl 1 1000000) : Jc X Y c (dlM M L t dl) L r := by
  obtain ⟨q1, q2, q3⟩ := inR_nat (lo := 1) (hi := 1000000) hr (by omega) (by omega)
  unfold dlM
  split
  · exact Jc_rest h ht q1 q2 (by omega)
  · exact Jc_due (d := c + ix dl) h hX ht (by rw [h.2.2.2.1, ← nI_add, ← q1]) (by omega) (by omega)
/-- after k calls -/
def Jk (k : Nat) (M : Nat → Int32) (L r : Nat) : Prop := k ≤ 512 ∧ ∃ c, c ≤ 1100000 * k ∧ Jc (1000000 + 1100000 * k) (101 * k) c M L r
section
variable {k L r : Nat} {M : Nat → Int32}
theorem Jk.st (h : Jk k M L r) (hk : k < 512) : Jk (k + 1) M L r := by
  obtain ⟨h0, c, hc, h⟩ := h
  exact ⟨hk, c, by omega, h.up (by omega) (by omega)⟩
theorem Jk.of {M' : Nat → Int32} {L' r' : Nat} (h : Jk k M L r) (hk : k < 512) (f : ∀ c, c ≤ 1100000 * k → Jc (1000000 + 1100000 * k) (101 * k) c M L r → ∃ c', c' ≤ 1100000 * (k + 1) ∧ Jc (1000000 + 1100000 * (k + 1)) (101 * (k + 1)) c' M' L' r') : Jk (k + 1) M' L' r' := by
  obtain ⟨h0, c, hc, h⟩ := h
  exact ⟨hk, f c hc h⟩
theorem Jk.cg {M' : Nat → Int32} (h : Jk k M L r) (e : ∀ j, j < 423 → M' j = M j) : Jk k M' L r := by
  obtain ⟨h0, c, hc, h⟩ := h
  exact ⟨h0, c, hc, h.cg e⟩
theorem Jk_order {v : Int32} (h : Jk k M L r) (hk : k < 512) : Jk (k + 1) (orderM M v) L r := h.of hk (fun c hc h => ⟨c, by omega, by
  unfold orderM
  split
  · next q => exact (Jc_order h q.1).up (by omega) (by omega)
  · exact h.up (by omega) (by omega)⟩)
theorem Jk_steady {v b : Int32} (h : Jk k M L r) (hk : k < 512) (hb : b = 0 ∨ b = 1) : Jk (k + 1) (steadyM M v b) L r := h.of hk (fun c hc h => ⟨c, by omega, by
  unfold steadyM
  split
  · next q => exact (Jc_st h (isTm_ix q.1.1).2 hb).up (by omega) (by omega)
  · exact h.up (by omega) (by omega)⟩)
theorem Jk_pauses {v : Int32} (h : Jk k M L r) (hk : k < 512) : Jk (k + 1) (pausesM M v) L r := h.of hk (fun c hc h => ⟨c, by omega, by
  unfold pausesM
  split
  · next q =>
    have hx := (isTm_ix q.1.1).2
    exact (Jc_pa h (by omega) hx ⟨q.1.2, ((h.1.2.1 _ hx).2.2).elim id (fun z => absurd z q.2)⟩).up (by omega) (by omega)
  · exact h.up (by omega) (by omega)⟩)
theorem Jk_resumes {v : Int32} (h : Jk k M L r) (hk : k < 512) : Jk (k + 1) (resumesM M L v) L r := h.of hk (fun c hc h => ⟨c, by omega, by
  unfold resumesM
  split
  · next q =>
    have hx := (isTm_ix q.1.1).2
    exact (Jc_re h (by omega) hx q.1.2 (((h.1.2.1 _ hx).2.2).elim (fun z => absurd z q.2) id)).up (by omega) (by omega)
  · exact h.up (by omega) (by omega)⟩)
theorem Jk_cancels {v : Int32} (h : Jk k M L r) (hk : k < 512) : Jk (k + 1) (cancelsM M v) L r := h.of hk (fun c hc h => ⟨c, by omega, by
  unfold cancelsM
  split
  · next q => exact (Jc_ca h (isTm_ix q.1).2).up (by omega) (by omega)
  · exact h.up (by omega) (by omega)⟩)
theorem Jk_cancelsAll {v : Int32} (h : Jk k M L r) (hk : k < 512) : Jk (k + 1) (grpS (caP v) caM M).1 L r := h.of hk (fun c hc h => ⟨c, by omega, (grp_Jc (fun M t ht _ hM => Jc_ca hM ht) h).up (by omega) (by omega)⟩)
theorem Jk_holds {v : Int32} (h : Jk k M L r) (hk : k < 512) : Jk (k + 1) (grpS (hoP v) paM M).1 L r := h.of hk (fun c hc h => ⟨c, by omega, (grp_Jc (fun M t ht q hM => Jc_pa hM (by omega) ht (of_decide_eq_true q).1) h).up (by omega) (by omega)⟩)
theorem Jk_goesOn {v : Int32} (h : Jk k M L r) (hk : k < 512) : Jk (k + 1) (grpS (goP v) (fun M t => reM M L t) M).1 L r := h.of hk (fun c hc h => ⟨c, by omega, (grp_Jc (fun M t ht q hM => by
  have q' := of_decide_eq_true q
  exact Jc_re hM (by omega) ht q'.1 (((hM.1.2.1 t ht).2.2).elim (fun z => absurd ⟨q'.1, z⟩ q'.2.1) id)) h).up (by omega) (by omega)⟩)
theorem Jk_sets {dl gr so pe ti : Int32} (h : Jk k M L r) (hk : k < 512) (hs : setsC dl gr so pe ti) : Jk (k + 1) (setsM M L dl gr so pe ti) L r := h.of hk (fun c hc h => ⟨c, by omega, by
  have hle := frM_le M 16 0
  unfold setsM
  generalize frM M 16 0 = t at hle
  by_cases q : t = 16
  · rw [if_pos q]; exact h.up (by omega) (by omega)
  · rw [if_neg q]
    exact (Jc_set h (by omega) (by omega) (by omega) (by omega) hs.1 hs.2.1 hs.2.2.2.1).up (by omega) (by omega)⟩)
theorem Jk_wheels {W : Nat → Int32} (h : Jk k M L r) (hk : k < 512) (hok : wiOk W = true) : Jk (k + 1) (layAllM (wiM M W (wiN W 4 0)) (wiN W 4 0)) (wiN W 4 0) r := h.of hk (fun c hc h => ⟨c, by omega, (Jc_wheels h (by omega) hok).up (by omega) (by omega)⟩)
theorem Jk_tks {m : Nat} {hl : List (Nat × Int32)} (h : Jk k M L r) (hk : k < 512) (hm : m ≤ 100) : Jk (k + 1) (tks L m (M, r, hl)).1 L (tks L m (M, r, hl)).2.1 := h.of hk (fun c hc h => ⟨c + m, by omega, (Jc_tks h (by omega) (by omega) m (by omega)).up (by omega) (by omega)⟩)
theorem Jk_leap {n : Int32} (h : Jk k M L r) (hk : k < 512) (h1 : -1000000 ≤ n ∧ n ≤ 1000000) (h2 : C64 M n) : Jk (k + 1) (leapM M L r n) L (tellM (lpS M n).1 r (lpS M n).2.1 (lpS M n).2.2).2 := h.of hk (fun c hc h => by
  have z1 : (1000000 : Int32).toInt = 1000000 := by decide
  have z2 : (-1000000 : Int32).toInt = -1000000 := by decide
  have a1 := Int32.le_iff_toInt_le.mp h1.1
  have a2 := Int32.le_iff_toInt_le.mp h1.2
  obtain ⟨c2, y1, y2, y3, y4⟩ := C64_ex (K := 1000000) h.2.2.2.1 (by omega) (by omega) (by omega) (by omega) h2
  exact ⟨c2, by omega, (Jc_leap (K := 1000000) h y1 (by omega) y3 (by omega) (by omega) (by omega) y2).up (by omega) (by omega)⟩)
theorem Jk_sp {v gap : Int32} {LN : (Nat → Nat) × Nat} (h : Jk k M L r) (hk : k < 512) (hLN : lineM M true (hoP v M) = LN) (h2 : ¬ LN.2 < 2) (hg : inR gap 0 1000) : Jk (k + 1) (spS M L gap LN).1 L r := h.of hk (fun c hc h => ⟨c, by omega, (Jc_sp h (by omega) hLN h2 hg).up (by omega) (by omega)⟩)
theorem Jk_dl {t : Nat} {dl : Int32} (h : Jk k M L r) (hk : k < 512) (ht : t < 16) (hr : inR dl 1 1000000) : Jk (k + 1) (dlM M L t dl) L r := h.of hk (fun c hc h => ⟨c, by omega, (Jc_dl h (by omega) (by omega) ht hr).up (by omega) (by omega)⟩)
theorem Jk_doL {as : List Act} (h : Jk k M L r) (hk : k < 512) (hl : as.length ≤ 101) (ho : ∀ a ∈ as, AcOk a) : Jk (k + 1) (doL L as (M, r, 0, 0)).1 L (doL L as (M, r, 0, 0)).2.1 := h.of hk (fun c hc h => by
  obtain ⟨c2, g1, g2⟩ := doL_Jc (X := 1000000 + 1100000 * k) (Y := 101 * k) (c := c) (L := L) (by omega) (by omega) (by omega) (by omega) as 0 c (M, r, 0, 0) (by omega) ho (by omega) h
  exact ⟨c2, by omega, g2.up (by omega) (by omega)⟩)
/-- while acts are done -/
def Ra (k L : Nat) (i : Nat) (M : Nat → Int32) (r : Nat) : Prop := k ≤ 512 ∧ ∃ c, c ≤ 1100000 * k + 10000 * i ∧ i ≤ 101 ∧ Jc (1000000 + 1100000 * k + 10000 * i) (101 * k + i) c M L r
theorem Ra_0 (h : Jk k M L r) : Ra k L 0 M r := by
  obtain ⟨h0, c, hc, h⟩ := h
  exact ⟨h0, c, by omega, by omega, h⟩
theorem Ra_cv {i : Nat} (h : Ra k L i M r) : Cv M L r ∧ ∃ c, M 6 = nI c ∧ c + 100 ≤ 1000000000 := by
  obtain ⟨h0, c, hc, hi, h⟩ := h
  exact ⟨h.1, c, h.2.2.2.1, by omega⟩
set_option maxRecDepth 40000 in
theorem Ra_st {i : Nat} {a : Act} {s : (Nat → Int32) × Nat × Nat} (h : Ra k L i M r) (hi : i < 101) (hO : AcOk a) (hD : doA L a M r = some s) : Ra k L (i + 1) s.1 s.2.1 := by
  obtain ⟨h0, c, hc, hi', h⟩ := h
  obtain ⟨c', g1, g2⟩ := Jc_do h (by omega) (by omega) (by omega) (by omega) hO hD
  exact ⟨h0, c', by omega, by omega, g2.up (by omega) (by omega)⟩
theorem Jk.cv (h : Jk k M L r) : Cv M L r := by
  obtain ⟨h0, c, hc, h⟩ := h
  exact h.1
theorem Jk.z (h : Jk k M L r) : Z0 M L := by
  obtain ⟨h0, c, hc, h⟩ := h
  exact h.2.1
theorem Jk.gr (h : Jk k M L r) : Gr M := by
  obtain ⟨h0, c, hc, h⟩ := h
  exact h.2.2.1
theorem Jk.lv (h : Jk k M L r) : LvA M L := by
  obtain ⟨h0, c, hc, h⟩ := h
  exact h.lv
theorem Jk.sl (h : Jk k M L r) : SlA M L := by
  obtain ⟨h0, c, hc, h⟩ := h
  exact h.sl
theorem Jk.du (h : Jk k M L r) : ∀ t, t < 16 → isG M t → 0 ≤ M (231 + t) := by
  obtain ⟨h0, c, hc, h⟩ := h
  exact h.du (by omega)
theorem Jk.ck (h : Jk k M L r) : ∃ c, M 6 = nI c ∧ c ≤ 600000000 := by
  obtain ⟨h0, c, hc, h⟩ := h
  exact ⟨c, h.2.2.2.1, by omega⟩
end
end
