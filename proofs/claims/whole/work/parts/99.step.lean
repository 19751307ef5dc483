section
/-! ONE STEP OF THE LAW: a call of the class, the same of the reference -/
theorem Ct.mo {S : Sh} {w : Wp} {d : Nat} {M : Md} {as : List Value} {σ : Mm} {Q Q' : Option Value → Mm → Prop} (h : Ct S w d M as σ Q) (hq : ∀ r τ, Q r τ → Q' r τ) : Ct S w d M as σ Q' := by
  unfold Ct Met at h ⊢
  exact MetFree.mono h (fun _ _ p => p) (fun _ _ _ _ _ k => k) (fun _ _ _ _ _ q => by
    obtain ⟨⟨v, σ', e, hQ, hP⟩, hL⟩ := q
    exact ⟨⟨v, σ', e, hq _ _ hQ, hP⟩, hL⟩)
theorem Off_of {σ τ ρ : Mm} (h : Off 67 79 σ τ) (e1 : ∀ a j, a < 67 ∨ 79 ≤ a → ρ.1 a j = τ.1 a j) (e2 : ∀ a j, a < 67 ∨ 79 ≤ a → ρ.2.1 a j = τ.2.1 a j) (e3 : ρ.2.2 = τ.2.2) : Off 67 79 σ ρ := fun a ha =>
  ⟨(funext fun j => e1 a j ha).trans (h a ha).1, (funext fun j => e2 a j ha).trans (h a ha).2.1, (congrFun e3 a).trans (h a ha).2.2⟩
theorem o_M {σ τ : Mm} {M : Nat → Int32} (h : Off 67 79 σ τ) : Off 67 79 σ (sM τ 0 M) := Off_of h (fun a j ha => by
  show (if a = 70 then _ else τ.1 a j) = _
  rw [if_neg (by omega)]) (fun _ _ _ => rfl) rfl
theorem o_I {σ τ : Mm} {j : Nat} {v : Int32} (h : Off 67 79 σ τ) : Off 67 79 σ (wI τ 67 j v) := h.wI (by omega) (by omega)
theorem o_Rw {σ τ : Mm} {f : Nat → Int64} {n : Nat} (h : Off 67 79 σ τ) : Off 67 79 σ (sRw τ f n) := Off_of h (fun a j ha => by
  show (if a = 67 ∧ j = 1 then _ else τ.1 a j) = _
  rw [if_neg (by omega)]) (fun a j ha => by
  show (if a = 68 then _ else τ.2.1 a j) = _
  rw [if_neg (by omega)]) rfl
theorem o_Ln {σ τ : Mm} {f : Nat → Int32} {n : Nat} (h : Off 67 79 σ τ) : Off 67 79 σ (sLn τ f n) := Off_of h (fun a j ha => by
  show (if a = 71 then _ else if a = 67 ∧ j = 10 then _ else τ.1 a j) = _
  rw [if_neg (by omega), if_neg (by omega)]) (fun _ _ _ => rfl) rfl
theorem o_Hd {σ τ : Mm} {f g : Nat → Int32} {n : Nat} (h : Off 67 79 σ τ) : Off 67 79 σ (sHd τ f g n) := Off_of h (fun a j ha => by
  show (if a = 72 then _ else if a = 73 then _ else if a = 67 ∧ j = 13 then _ else τ.1 a j) = _
  rw [if_neg (by omega), if_neg (by omega), if_neg (by omega)]) (fun _ _ _ => rfl) rfl
theorem o_Wy {σ τ : Mm} {f g : Nat → Int32} (h : Off 67 79 σ τ) : Off 67 79 σ (sWy τ f g) := Off_of h (fun a j ha => by
  show (if a = 76 then _ else if a = 77 then _ else τ.1 a j) = _
  rw [if_neg (by omega), if_neg (by omega)]) (fun _ _ _ => rfl) rfl
theorem o_Wi {σ τ : Mm} {f : Nat → Int32} (h : Off 67 79 σ τ) : Off 67 79 σ (sWi τ f) := Off_of h (fun a j ha => by
  show (if a = 74 then _ else τ.1 a j) = _
  rw [if_neg (by omega)]) (fun _ _ _ => rfl) rfl
theorem o_Co {σ τ : Mm} {x y : Int32} (h : Off 67 79 σ τ) : Off 67 79 σ (sCo τ x y) := Off_of h (fun a j ha => by
  show (if a = 67 ∧ j = 18 then _ else if a = 67 ∧ j = 19 then _ else τ.1 a j) = _
  rw [if_neg (by omega), if_neg (by omega)]) (fun _ _ _ => rfl) rfl
theorem o_Bg {σ τ : Mm} {f : Nat → Int32} (h : Off 67 79 σ τ) : Off 67 79 σ (sBg τ f) := Off_of h (fun a j ha => by
  show (if a = 78 then _ else τ.1 a j) = _
  rw [if_neg (by omega)]) (fun _ _ _ => rfl) rfl
theorem o_Ps {σ τ : Mm} {f : Nat → Int32} {p : Nat} (h : Off 67 79 σ τ) : Off 67 79 σ (sPs τ p f) := Off_of h (fun a j ha => by
  show (if a = 75 then _ else if a = 67 ∧ j = 5 then _ else τ.1 a j) = _
  rw [if_neg (by omega), if_neg (by omega)]) (fun _ _ _ => rfl) rfl
theorem o_Tp {σ τ : Mm} {f : Nat → Int32} {n : Nat} (h : Off 67 79 σ τ) : Off 67 79 σ (sTp τ f n) := Off_of h (fun a j ha => by
  show (if a = 69 then _ else if a = 67 ∧ j = 4 then _ else τ.1 a j) = _
  rw [if_neg (by omega), if_neg (by omega)]) (fun _ _ _ => rfl) rfl
/-- the reference: its desk, its ROW, its TEXT's length -/
def Rf (M : Nat → Int32) (l : List Int64) (n : Nat) (σ : Mm) : Prop := (∀ j, σ.1 70 j = M j) ∧ σ.1 67 8 = nI 0 ∧ σ.1 67 1 = nI l.length ∧ RwR (σ.2.1 68) l ∧ σ.1 67 4 = nI n
/-- class and reference agree after k calls -/
def St (k : Nat) (σ : Mm) : Prop := ∃ (M : Nat → Int32) (L r n : Nat) (l : List Int64), Jk k M L r ∧ KR M L r l (σ.1 69) n σ ∧ Rf M l n σ
/-- where the reference's call ends -/
def Re (M : Nat → Int32) (l : List Int64) (n : Nat) (T : Nat → Int32) (σ1 σ2 : Mm) : Prop := ∃ (τ : Mm) (M2 : Nat → Int32), σ2 = sM τ 0 M2 ∧ (∀ j, j < 423 → M2 j = M j) ∧ Off 67 79 σ1 τ ∧ τ.1 67 8 = nI 0 ∧ τ.1 67 1 = nI l.length ∧ RwR (τ.2.1 68) l ∧ τ.1 67 4 = nI n ∧ ∀ j, j < n → τ.1 69 j = T j
theorem sM_eq {σ : Mm} {M : Nat → Int32} (h : ∀ j, σ.1 70 j = M j) : sM σ 0 M = σ := by
  refine Prod.ext (funext fun a => funext fun j => ?_) rfl
  show (if a = 70 then (if 0 ≤ j then M (j - 0) else σ.1 a j) else σ.1 a j) = σ.1 a j
  split
  · next q =>
    rw [if_pos (Nat.zero_le _), Nat.sub_zero, q]
    exact (h j).symm
  · rfl
theorem Rf.off {M : Nat → Int32} {l : List Int64} {n : Nat} {σ σ1 : Mm} (h : Rf M l n σ) (ho : Off 1 67 σ σ1) : Rf M l n σ1 := by
  unfold Rf
  rw [(ho 70 (by omega)).1, (ho 67 (by omega)).1, (ho 68 (by omega)).2.1]
  exact h
theorem KR.o67 {M : Nat → Int32} {L r n : Nat} {l : List Int64} {T : Nat → Int32} {σ τ : Mm} (h : KR M L r l T n σ) (hL : L ≤ 4) (ho : Off 67 79 σ τ) : KR M L r l T n τ :=
  ⟨h.1.off hL (fun _ _ _ => rfl) ho (by omega), h.2.1.off ho (by omega), h.2.2.1.off ho (by omega), h.2.2.2.1.off ho (by omega), h.2.2.2.2.1.off ho (by omega), h.2.2.2.2.2.off ho (by omega)⟩
theorem KR.tt {M : Nat → Int32} {L r n : Nat} {l : List Int64} {T T' : Nat → Int32} {σ : Mm} (h : KR M L r l T n σ) (e : ∀ j, j < n → T' j = T j) : KR M L r l T' n σ :=
  ⟨h.1, h.2.1, h.2.2.1, h.2.2.2.1, ⟨h.2.2.2.2.1.1, h.2.2.2.2.1.2.1, fun j hj => (h.2.2.2.2.1.2.2 j hj).trans (e j hj).symm⟩, h.2.2.2.2.2⟩
theorem St_of {k L r n : Nat} {M : Nat → Int32} {l : List Int64} {T : Nat → Int32} {σ1 σ2 : Mm} (hJ : Jk k M L r) (hK : KR M L r l T n σ1) (h : Re M l n T σ1 σ2) : St k σ2 := by
  obtain ⟨τ, M2, rfl, hM, ho, h8, h1, hR, h4, hT⟩ := h
  have hL := hJ.cv.1.1.2.2.1
  refine ⟨M2, L, r, n, l, hJ.cg hM, ((hK.o67 hL (o_M ho)).cg hL hM).tt (fun j hj => ?_), fun j => ?_, h8, h1, hR, h4⟩
  · exact hT j hj
  · show (if 0 ≤ j then M2 (j - 0) else τ.1 70 j) = M2 j
    rw [if_pos (Nat.zero_le _), Nat.sub_zero]
/-- both are called: the same answer, and they agree again -/
def Pr (w : Wp) (k d1 d2 : Nat) (Mc Mr : Md) (as : List Value) (σ : Mm) : Prop := ∃ Q : Option Value → Mm → Prop, Ct sh0 w d1 Mc (.ref 1 :: as) σ Q ∧ ∀ r1 σ1, Q r1 σ1 → ∃ v : Int32, r1 = some (.int v) ∧ Ct sh0 w d2 Mr (.ref 67 :: as) σ1 (fun r2 σ2 => r2 = some (.int v) ∧ St (k + 1) σ2)
theorem Pr_of {w : Wp} {k d1 d2 n n' L' r' : Nat} {Mc Mr : Md} {as : List Value} {σ : Mm} {M M' : Nat → Int32} {l l' : List Int64} {T' : Nat → Int32} {v : Int32} (hX : Rf M l n σ) (hJ : Jk (k + 1) M' L' r') (hc : Ct sh0 w d1 Mc (.ref 1 :: as) σ (fun r1 σ1 => r1 = some (.int v) ∧ Off 1 67 σ σ1 ∧ KR M' L' r' l' T' n' σ1)) (hr : ∀ σ1, Rf M l n σ1 → σ1.1 69 = σ.1 69 → ∃ Q, Ct sh0 w d2 Mr (.ref 67 :: as) (sM σ1 0 M) Q ∧ ∀ r2 σ2, Q r2 σ2 → r2 = some (.int v) ∧ Re M' l' n' T' σ1 σ2) : Pr w k d1 d2 Mc Mr as σ := by
  refine ⟨_, hc, fun r1 σ1 q => ?_⟩
  obtain ⟨e1, ho, hK⟩ := q
  refine ⟨v, e1, ?_⟩
  have a := hX.off ho
  obtain ⟨Q, hQ, hq⟩ := hr σ1 a (ho 69 (by omega)).1
  rw [sM_eq a.1] at hQ
  exact hQ.mo (fun r2 σ2 q2 => ⟨(hq r2 σ2 q2).1, St_of hJ hK (hq r2 σ2 q2).2⟩)
theorem wd67 {v : Int32} {σ : Mm} {M' : Nat → Int32} {L' r' n' : Nat} {l' : List Int64} {T' : Nat → Int32} {w : Wp} {d : Nat} {Mc : Md} {as : List Value} (h : Ct sh0 w d Mc as σ (fun r1 σ1 => r1 = some (.int v) ∧ Off 1 62 σ σ1 ∧ KR M' L' r' l' T' n' σ1)) : Ct sh0 w d Mc as σ (fun r1 σ1 => r1 = some (.int v) ∧ Off 1 67 σ σ1 ∧ KR M' L' r' l' T' n' σ1) := h.mo (fun _ _ q => ⟨q.1, q.2.1.wd (by omega) (by omega), q.2.2⟩)
theorem inR_ex {v : Int32} {lo hi : Nat} (h : inR v (nI lo) (nI hi)) (hh : hi < 2147483648) (hlo : lo ≤ hi) : ∃ m : Nat, v = nI m ∧ lo ≤ m ∧ m ≤ hi := ⟨ix v, inR_nat h hh hlo⟩
theorem bk_lo {M Mx : Nat → Int32} : ∀ j, j < 423 → bkM M Mx j = M j := fun _ h => if_pos h
end
