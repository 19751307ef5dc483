section
/-! WHAT MOVES AS THE CLOCK TICKS: timers lie where they should, or are due -/
def Cq (t : Nat) (M N : Nat → Int32) : Prop := ∀ j, (j < 5 ∨ j = 6 ∨ j = 215 + t ∨ j = 231 + t ∨ j = 343 + t ∨ j = 359 + t ∨ j = 391 + t ∨ j = 407 + t) → M j = N j
theorem Cq.rf {t : Nat} {M : Nat → Int32} : Cq t M M := fun _ _ => rfl
theorem Cq.sy {t : Nat} {M N : Nat → Int32} (h : Cq t M N) : Cq t N M := fun j a => (h j a).symm
theorem Cq.tr {t : Nat} {M N K : Nat → Int32} (h : Cq t M N) (h' : Cq t N K) : Cq t M K := fun j a => (h j a).trans (h' j a)
theorem Cq.wf {t L : Nat} {M N : Nat → Int32} (h : Cq t M N) (q : Wf N L) : Wf M L := Wf_same q (fun j hj => h j (Or.inl hj))
theorem Cq.g {t : Nat} {M N : Nat → Int32} (h : Cq t M N) : isG M t ↔ isG N t := by
  unfold isG
  rw [h (215 + t) (by omega), h (343 + t) (by omega)]
theorem WI.cq {M N : Nat → Int32} {L t : Nat} (hL : L ≤ 4) (h : Cq t M N) (q : WI N L t) : WI M L t := by
  have e : ∀ j, j < 5 → M j = N j := fun j hj => h j (Or.inl hj)
  unfold WI at q ⊢
  rw [h 6 (by omega), h (231 + t) (by omega), h (391 + t) (by omega), h (407 + t) (by omega), spN_congr e L hL]
  refine ⟨q.1, q.2.elim Or.inl (fun ⟨k, a, b, c, d, f⟩ => Or.inr ⟨k, a, b, ?_, ?_, ?_⟩)⟩
  · rw [spN_congr e k (by omega), e (1 + k) (by omega)]; exact c
  · rw [spN_congr e k (by omega)]; exact d
  · rw [spN_congr e (k + 1) (by omega)]; exact f
theorem Gd.cq {M N : Nat → Int32} {L t : Nat} (hL : L ≤ 4) (h : Cq t M N) (q : Gd N L t) : Gd M L t := by
  rcases q with ⟨a, b, c⟩ | q
  · refine Or.inl ⟨?_, ?_, ?_⟩
    · rw [h 6 (by omega), h (231 + t) (by omega)]; exact a
    · rw [h (391 + t) (by omega)]; exact b
    · rw [h (407 + t) (by omega), h 6 (by omega), h 1 (by omega)]; exact c
  · exact Or.inr (WI.cq hL h q)
/-- it lies on a LEVEL as at clock c -/
def Pl (M : Nat → Int32) (L t c d k : Nat) : Prop := k < L ∧ M (391 + t) = nI k ∧ M (407 + t) = nI (d / spN M k % ix (M (1 + k))) ∧ c / spN M k < d / spN M k ∧ d < c + spN M (k + 1)
theorem Pl.cq {M N : Nat → Int32} {L t c d k : Nat} (hL : L ≤ 4) (h : Cq t M N) (q : Pl N L t c d k) : Pl M L t c d k := by
  have e : ∀ j, j < 5 → M j = N j := fun j hj => h j (Or.inl hj)
  obtain ⟨a1, a2, a3, a4, a5⟩ := q
  refine ⟨a1, by rw [h (391 + t) (by omega)]; exact a2, ?_, ?_, ?_⟩
  · rw [h (407 + t) (by omega), spN_congr e k (by omega), e (1 + k) (by omega)]; exact a3
  · rw [spN_congr e k (by omega)]; exact a4
  · rw [spN_congr e (k + 1) (by omega)]; exact a5
theorem lt_of_dv {c d s : Nat} (h : c / s < d / s) : c < d := by
  rcases Nat.lt_or_ge c d with q | q
  · exact q
  · have := Nat.div_le_div_right (c := s) q
    omega
theorem WI_far {M : Nat → Int32} {L t c d : Nat} (h6 : M 6 = nI c) (hdu : M (231 + t) = nI d) (hc : c < 2147483648) (hd : d < 2147483648) (hl : M (391 + t) = -1) (h : c / spN M L < d / spN M L) : WI M L t := by
  unfold WI
  rw [h6, hdu, ix_nI hc, ix_nI hd]
  exact ⟨lt_of_dv h, Or.inl ⟨hl, h⟩⟩
theorem WI_pl {M : Nat → Int32} {L t c d k : Nat} (h6 : M 6 = nI c) (hdu : M (231 + t) = nI d) (hc : c < 2147483648) (hd : d < 2147483648) (h : Pl M L t c d k) : WI M L t := by
  unfold WI
  rw [h6, hdu, ix_nI hc, ix_nI hd]
  exact ⟨lt_of_dv h.2.2.2.1, Or.inr ⟨k, h⟩⟩
theorem dv_le {c s : Nat} (hs : 1 ≤ s) : (c + 1) / s ≤ c / s + 1 := by
  have h1 : (c + s) / s = c / s + 1 := Nat.add_div_right c hs
  have h2 : (c + 1) / s ≤ (c + s) / s := Nat.div_le_div_right (by omega)
  omega
theorem dv_ne {c s : Nat} (hs : 1 ≤ s) (h : ¬ (c + 1) % s = 0) : (c + 1) / s = c / s := by
  have h1 := Nat.div_add_mod (c + 1) s
  have h2 := Nat.mod_lt (c + 1) hs
  have h3 : (c + 1) / s * s = s * ((c + 1) / s) := Nat.mul_comm _ _
  refine (Nat.div_eq_of_lt_le ?_ ?_).symm
  · omega
  · rw [Nat.succ_mul]
    omega
/-- LEVELS from j on have been gone through: it is right for now, or lies below as at clock c -/
def Sg (c j L t : Nat) (M : Nat → Int32) : Prop := Wf M L ∧ M 6 = nI (c + 1) ∧ (isG M t → ∃ d : Nat, M (231 + t) = nI d ∧ d < 2147483648 ∧ c + 1 ≤ d ∧ (Gd M L t ∨ ∃ k, k < j ∧ Pl M L t c d k))
theorem Sg.cq {c j L t : Nat} {M N : Nat → Int32} (h : Cq t M N) (q : Sg c j L t N) : Sg c j L t M := by
  obtain ⟨a, b, f⟩ := q
  have hL := a.2.2.1
  refine ⟨h.wf a, (h 6 (by omega)).trans b, fun g => ?_⟩
  obtain ⟨d, e1, e2, e3, e4⟩ := f (h.g.mp g)
  refine ⟨d, (h (231 + t) (by omega)).trans e1, e2, e3, ?_⟩
  rcases e4 with x | ⟨k, k1, k2⟩
  · exact Or.inl (Gd.cq hL h x)
  · exact Or.inr ⟨k, k1, Pl.cq hL h k2⟩
theorem Cq_lay {M : Nat → Int32} {L t u : Nat} (ht : t < 16) (hu : u < 16) (h : u ≠ t) : Cq t (layM M L u) M := fun j hj => by
  unfold layM
  rw [uM_ne _ _ (by omega), uM_ne _ _ (by omega)]
theorem Cq_mov {M : Nat → Int32} {L t u : Nat} (ht : t < 16) (hu : u < 16) (h : u ≠ t) : Cq t (mov1M M L u) M := fun j hj => by
  unfold mov1M
  rw [uM_ne _ _ (by omega)]
  exact Cq_lay ht hu h j hj
theorem Sg_lay {c j L t d : Nat} {M : Nat → Int32} (ht : t < 16) (hF : Wf M L) (h6 : M 6 = nI (c + 1)) (hdu : M (231 + t) = nI d) (hd : d < 2147483648) (hcd : c + 1 ≤ d) : Sg c j L t (mov1M M L t) := by
  have q := (lay_Gd hF ht h6 hdu hcd hd).1
  have e : Cq t (mov1M M L t) (layM M L t) := fun j hj => by
    unfold mov1M
    rw [uM_ne _ _ (by omega)]
  exact Sg.cq e ⟨Wf_lay hF, (layM_ne (by omega)).trans h6, fun _ => ⟨d, (layM_ne (by omega)).trans hdu, hd, hcd, Or.inl q⟩⟩
/-- a loop over all timers, each by what is its own: what becomes of one -/
theorem itr_at {f : Nat → (Nat → Int32) → Nat → Int32} {t : Nat} (ht : t < 16) (hout : ∀ u M, u < 16 → u ≠ t → Cq t (f u M) M) {P Q : (Nat → Int32) → Prop} (hP : ∀ M N, Cq t M N → P N → P M) (hQ : ∀ M N, Cq t M N → Q N → Q M) (hs : ∀ M, P M → Q (f t M)) {M : Nat → Int32} (h0 : P M) : Q (itr f 0 16 M) := by
  have := itr_inv (f := f) (fun i s => (i ≤ t → P s) ∧ (t < i → Q s)) 16 0 M ⟨fun _ => h0, fun h => absurd h (Nat.not_lt_zero t)⟩ (fun j s _ h2 hs2 => ⟨fun h3 => hP _ _ (hout j s (by omega) (by omega)) (hs2.1 (by omega)), fun h3 => by
    by_cases e : j = t
    · rw [e]; exact hs s (hs2.1 (by omega))
    · exact hQ _ _ (hout j s (by omega) e) (hs2.2 (by omega))⟩)
  exact this.2 (by omega)
/-- before the far ones are brought -/
def Fs (c L t : Nat) (M : Nat → Int32) : Prop := Wf M L ∧ M 6 = nI (c + 1) ∧ (isG M t → ∃ d : Nat, M (231 + t) = nI d ∧ d < 2147483648 ∧ c + 1 ≤ d ∧ ((M (391 + t) = -1 ∧ c / spN M L < d / spN M L) ∨ ∃ k, k < L ∧ Pl M L t c d k))
theorem Fs.cq {c L t : Nat} {M N : Nat → Int32} (h : Cq t M N) (q : Fs c L t N) : Fs c L t M := by
  obtain ⟨a, b, f⟩ := q
  have hL := a.2.2.1
  have e : ∀ j, j < 5 → M j = N j := fun j hj => h j (Or.inl hj)
  refine ⟨h.wf a, (h 6 (by omega)).trans b, fun g => ?_⟩
  obtain ⟨d, e1, e2, e3, e4⟩ := f (h.g.mp g)
  refine ⟨d, (h (231 + t) (by omega)).trans e1, e2, e3, ?_⟩
  rcases e4 with ⟨x, y⟩ | ⟨k, k1, k2⟩
  · exact Or.inl ⟨(h (391 + t) (by omega)).trans x, by rw [spN_congr e L hL]; exact y⟩
  · exact Or.inr ⟨k, k1, Pl.cq hL h k2⟩
theorem Fs_of {c L t : Nat} {M : Nat → Int32} (hF : Wf M L) (h6 : M 6 = nI c) (hc : c + 1 < 2147483648) (h : isG M t → ∃ d : Nat, M (231 + t) = nI d ∧ d < 2147483648 ∧ WI M L t) : Fs c L t (uM M 6 (M 6 + 1)) := by
  have hL := hF.2.2.1
  have e : ∀ j, j ≠ 6 → uM M 6 (M 6 + 1) j = M j := fun j hj => uM_ne _ _ hj
  have e5 : ∀ j, j < 5 → uM M 6 (M 6 + 1) j = M j := fun j hj => e j (by omega)
  have e6 : uM M 6 (M 6 + 1) 6 = nI (c + 1) := by
    rw [uM_self, h6]
    exact nI_1 c
  generalize uM M 6 (M 6 + 1) = N at e e5 e6 ⊢
  refine ⟨Wf_same hF e5, e6, fun g => ?_⟩
  have g' : isG M t := by
    unfold isG at g ⊢
    rw [e (215 + t) (by omega), e (343 + t) (by omega)] at g
    exact g
  obtain ⟨d, hdu, hd, hw⟩ := h g'
  unfold WI at hw
  rw [h6, hdu, ix_nI (by omega), ix_nI hd] at hw
  obtain ⟨hlt, hw⟩ := hw
  refine ⟨d, (e (231 + t) (by omega)).trans hdu, hd, by omega, ?_⟩
  rcases hw with ⟨a, b⟩ | ⟨k, a1, a2, a3, a4, a5⟩
  · refine Or.inl ⟨(e (391 + t) (by omega)).trans a, ?_⟩
    rw [spN_congr e5 L hL]; exact b
  · refine Or.inr ⟨k, a1, a1, (e (391 + t) (by omega)).trans a2, ?_, ?_, ?_⟩
    · rw [e (407 + t) (by omega), spN_congr e5 k (by omega), e (1 + k) (by omega)]; exact a3
    · rw [spN_congr e5 k (by omega)]; exact a4
    · rw [spN_congr e5 (k + 1) (by omega)]; exact a5
theorem far_Sg {c L t : Nat} {M : Nat → Int32} (ht : t < 16) (hc : c + 1 < 2147483648) (h : Fs c L t M) : Sg c L L t (farF L (nI (c + 1)) t M) := by
  have hF := h.1
  have hsp := spN_of hF L (Nat.le_refl L)
  have hsl := spN_lt hF (Nat.le_refl L)
  unfold farF
  by_cases q : isG M t ∧ M (391 + t) = -1 ∧ M (231 + t) - nI (c + 1) < spanM M L
  · rw [if_pos q]
    obtain ⟨d, e1, e2, e3, -⟩ := h.2.2 q.1
    exact Sg_lay ht hF h.2.1 e1 e2 e3
  · rw [if_neg q]
    refine ⟨hF, h.2.1, fun g => ?_⟩
    obtain ⟨d, e1, e2, e3, e4⟩ := h.2.2 g
    refine ⟨d, e1, e2, e3, ?_⟩
    rcases e4 with ⟨x, y⟩ | ⟨k, k1, k2⟩
    · refine Or.inl (Or.inr (WI_far h.2.1 e1 hc e2 x ?_))
      have q2 : ¬ M (231 + t) - nI (c + 1) < spanM M L := fun z => q ⟨g, x, z⟩
      rw [e1, nI_sub e3, hsp.1] at q2
      have q3 : spN M L ≤ d - (c + 1) := by
        rcases Nat.lt_or_ge (d - (c + 1)) (spN M L) with z | z
        · exact absurd (nI_lt z (by omega)) q2
        · exact z
      exact div_lt_of hsp.2.1 q3 e3
    · exact Or.inr ⟨k, k1, k2⟩
theorem nfar_Sg {c L t : Nat} {M : Nat → Int32} (hc : c + 1 < 2147483648) (h : Fs c L t M) (hm : ¬ (c + 1) % spN M L = 0) : Sg c L L t M := by
  have hF := h.1
  have hsp := spN_of hF L (Nat.le_refl L)
  refine ⟨hF, h.2.1, fun g => ?_⟩
  obtain ⟨d, e1, e2, e3, e4⟩ := h.2.2 g
  refine ⟨d, e1, e2, e3, ?_⟩
  rcases e4 with ⟨x, y⟩ | ⟨k, k1, k2⟩
  · refine Or.inl (Or.inr (WI_far h.2.1 e1 hc e2 x ?_))
    rw [dv_ne hsp.2.1 hm]
    exact y
  · exact Or.inr ⟨k, k1, k2⟩
theorem tkB_Sg {c L t : Nat} {M : Nat → Int32} (ht : t < 16) (hF : Wf M L) (h6 : M 6 = nI c) (hc : c + 1 < 2147483648) (h : isG M t → ∃ d : Nat, M (231 + t) = nI d ∧ d < 2147483648 ∧ WI M L t) : Sg c L L t (tkB M L) := by
  have f := Fs_of hF h6 hc h
  have e1 : M 6 + 1 = nI (c + 1) := by rw [h6]; exact nI_1 c
  unfold tkB
  rw [e1] at f ⊢
  generalize uM M 6 (nI (c + 1)) = N at f ⊢
  have hF1 := f.1
  have hsp := spN_of hF1 L (Nat.le_refl L)
  have hsl := spN_lt hF1 (Nat.le_refl L)
  have hml := Nat.mod_lt (c + 1) (show spN N L > 0 by omega)
  rw [hsp.1, nI_rm hc (by omega)]
  by_cases q : (c + 1) % spN N L = 0
  · rw [if_pos (by rw [q]; rfl)]
    unfold farM
    refine itr_at (P := Fs c L t) (Q := Sg c L L t) ht (fun u M hu hne => ?_) (fun _ _ => Fs.cq) (fun _ _ => Sg.cq) (fun M hM => far_Sg ht hc hM) f
    unfold farF
    split
    · exact Cq_mov ht hu hne
    · exact Cq.rf
  · rw [if_neg (fun z => q ((nI_eq0 (by omega)).mp z))]
    exact nfar_Sg hc f q
theorem mvLv_Sg {c L t lv : Nat} {M : Nat → Int32} (ht : t < 16) (hc : c + 1 < 2147483648) (hlv : lv < L) (h : Sg c (lv + 1) L t M) : Sg c lv L t (mvLv M L (nI (c + 1)) lv) := by
  have hF := h.1
  have hsp := spN_of hF lv (by omega)
  have hsl := spN_lt hF (show lv ≤ L by omega)
  have hsz := sz_of hF hlv
  have hml := Nat.mod_lt (c + 1) (show spN M lv > 0 by omega)
  have hdl : (c + 1) / spN M lv ≤ c + 1 := Nat.div_le_self _ _
  unfold mvLv
  rw [hsp.1, nI_rm hc (by omega)]
  by_cases q : (c + 1) % spN M lv = 0
  · rw [if_pos (by rw [q]; rfl)]
    have es : rmI (nI (c + 1) / nI (spN M lv)) (M (1 + lv)) = nI ((c + 1) / spN M lv % ix (M (1 + lv))) := by
      rw [nI_div hc (by omega)]
      conv => lhs; rw [hsz.1]
      exact nI_rm (by omega) (by omega)
    rw [es]
    obtain ⟨s, hs⟩ : ∃ s, spN M lv = s := ⟨_, rfl⟩
    obtain ⟨z, hz⟩ : ∃ z, ix (M (1 + lv)) = z := ⟨_, rfl⟩
    rw [hs] at hsp hsl hml hdl q ⊢
    rw [hz] at hsz ⊢
    refine itr_at (P := fun N => Sg c (lv + 1) L t N ∧ spN N lv = s ∧ ix (N (1 + lv)) = z) (Q := Sg c lv L t) ht (fun u N hu hne => ?_) (fun A B hAB hB => ⟨Sg.cq hAB hB.1, ?_, ?_⟩) (fun _ _ => Sg.cq) (fun N hN => ?_) ⟨h, hs, hz⟩
    · unfold mvF
      split
      · exact Cq_mov ht hu hne
      · exact Cq.rf
    · have hL := hB.1.1.2.2.1
      rw [spN_congr (fun j hj => hAB j (Or.inl hj)) lv (by omega)]
      exact hB.2.1
    · have hL := hB.1.1.2.2.1
      rw [hAB (1 + lv) (by omega)]
      exact hB.2.2
    · obtain ⟨⟨nF, n6, ng⟩, ns, nz⟩ := hN
      unfold mvF
      by_cases cnd : isG N t ∧ N (391 + t) = nI lv ∧ N (407 + t) = nI ((c + 1) / s % z)
      · rw [if_pos cnd]
        obtain ⟨d, e1, e2, e3, -⟩ := ng cnd.1
        exact Sg_lay ht nF n6 e1 e2 e3
      · rw [if_neg cnd]
        refine ⟨nF, n6, fun g => ?_⟩
        obtain ⟨d, e1, e2, e3, e4⟩ := ng g
        refine ⟨d, e1, e2, e3, ?_⟩
        rcases e4 with x | ⟨k, k1, k2⟩
        · exact Or.inl x
        · by_cases ek : k = lv
          · subst ek
            obtain ⟨p1, p2, p3, p4, p5⟩ := k2
            refine Or.inl (Or.inr (WI_pl n6 e1 hc e2 ⟨p1, p2, p3, ?_, by omega⟩))
            rw [ns] at p3 p4 ⊢
            rw [nz] at p3
            have hle := dv_le (c := c) hsp.2.1
            rcases Nat.lt_or_ge ((c + 1) / s) (d / s) with y | y
            · exact y
            · have ey : d / s = (c + 1) / s := by omega
              rw [ey] at p3
              exact absurd ⟨g, p2, p3⟩ cnd
          · exact Or.inr ⟨k, by omega, k2⟩
  · rw [if_neg (fun z => q ((nI_eq0 (by omega)).mp z))]
    refine ⟨hF, h.2.1, fun g => ?_⟩
    obtain ⟨d, e1, e2, e3, e4⟩ := h.2.2 g
    refine ⟨d, e1, e2, e3, ?_⟩
    rcases e4 with x | ⟨k, k1, k2⟩
    · exact Or.inl x
    · by_cases ek : k = lv
      · subst ek
        obtain ⟨p1, p2, p3, p4, p5⟩ := k2
        refine Or.inl (Or.inr (WI_pl h.2.1 e1 hc e2 ⟨p1, p2, p3, ?_, by omega⟩))
        rw [dv_ne hsp.2.1 q]
        exact p4
      · exact Or.inr ⟨k, by omega, k2⟩
theorem mvDn_Sg {c L t : Nat} (ht : t < 16) (hc : c + 1 < 2147483648) : ∀ (lv : Nat) (M : Nat → Int32), lv < L → Sg c (lv + 1) L t M → Sg c 1 L t (mvDn L (nI (c + 1)) lv M)
  | 0, _, _, h => h
  | lv + 1, _, hl, h => mvDn_Sg ht hc lv _ (by omega) (mvLv_Sg ht hc hl h)
/-- all that go lie as they should, or are due -/
theorem tkA_Gd {c L t : Nat} {M : Nat → Int32} (ht : t < 16) (hF : Wf M L) (h6 : M 6 = nI c) (hc : c + 1 < 2147483648) (h : isG M t → ∃ d : Nat, M (231 + t) = nI d ∧ d < 2147483648 ∧ WI M L t) : Wf (tkA M L) L ∧ tkA M L 6 = nI (c + 1) ∧ (isG (tkA M L) t → ∃ d : Nat, tkA M L (231 + t) = nI d ∧ d < 2147483648 ∧ c + 1 ≤ d ∧ Gd (tkA M L) L t) := by
  have hL1 := hF.2.1
  have e1 : M 6 + 1 = nI (c + 1) := by rw [h6]; exact nI_1 c
  have s0 := tkB_Sg ht hF h6 hc h
  have s1 : Sg c 1 L t (tkA M L) := by
    unfold tkA
    rw [e1]
    exact mvDn_Sg ht hc (L - 1) _ (by omega) (by rw [Nat.sub_add_cancel hL1]; exact s0)
  generalize tkA M L = A at s1 ⊢
  refine ⟨s1.1, s1.2.1, fun g => ?_⟩
  obtain ⟨d, q1, q2, q3, q4⟩ := s1.2.2 g
  refine ⟨d, q1, q2, q3, ?_⟩
  rcases q4 with x | ⟨k, k1, k2⟩
  · exact x
  · have ek : k = 0 := by omega
    subst ek
    obtain ⟨p1, p2, p3, p4, p5⟩ := k2
    have es : spN A 0 = 1 := rfl
    rw [es, Nat.div_one] at p3
    by_cases ed : d = c + 1
    · refine Or.inl ⟨?_, p2, ?_⟩
      · rw [q1, s1.2.1, ed]
      · rw [p3, s1.2.1, ix_nI hc, ed]
    · refine Or.inr (WI_pl s1.2.1 q1 hc q2 ⟨p1, p2, ?_, ?_, by omega⟩)
      · rw [es, Nat.div_one]
        exact p3
      · rw [es, Nat.div_one, Nat.div_one]
        omega
end
