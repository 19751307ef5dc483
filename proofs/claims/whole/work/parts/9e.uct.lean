section UCT
/-! a method of ours called on cells of the growing world -/
def wA (w : Wp) (ad un : Nat → Nat) : Wp := (w.1, 0, ad, un, w.2.2.2.2)
def WL (S : Sh) (w : Wp) (σ : Mm) : va_W := S.1.map (fun a => (w.ad a, cll S w σ a))
theorem WL_eq {S : Sh} {w : Wp} (hf : Fit S w) (σ : Mm) : Wws S w σ = WL S w σ := by
  unfold Wws WL va_pl
  rw [List.map_map]
  apply List.map_congr_left
  intro a ha
  show (w.ad a, cll S w σ (w.un (w.ad a))) = _
  rw [(hf.2.2 a ha).1]
def Mz0 : Mm := (fun _ _ => 0, fun _ _ => 0, fun _ _ => none)
variable {w : Wp} {A : Nat → Prop} {x : Cx} {own : String} {M : Md} {cn : Nat × Nat} {pc : Nat} {ls : List (Nat × Value)} {st : List Value} {ws : va_W}
theorem U_ct {S : Sh} {ad un : Nat → Nat} {idx ci a n d' : Nat} {M' : Md} {As st0 : List Value} {σ : Mm} {Q : Option Value → Mm → Prop} {wr : va_W} (o : Ou w A x own M) (hd : decode M.2.1 pc = .ok (.invokevirtual idx, 3)) (hl : LV own idx ci M' n) (hf : va_D A ws → Fit S (wA w ad un)) (hA : ∀ q, ad (un q) = q → ∃ b ∈ S.1, ad b = q) (hc : Fit S (wA w ad un) → Ct S (wA w ad un) d' M' (.ref a :: As) σ Q) (hk : S.2.1 a = ci) (hq : ws = wr ++ WL S (wA w ad un) σ) (hn : As.length = n) (hst : st0 = (As.map (cvv (wA w ad un))).reverse ++ .ref (ad a) :: st) (hs : (st.map Value.category).sum ≤ 8) (hR : d' + 1 ≤ x.R.frames ∧ 8 + (M'.2.2.1 + 11) + 40 * d' ≤ x.R.locals) (hcs : cn.1 ≤ x.R.cells ∧ cn.2 ≤ x.R.slots)
    (k : ∀ r σ', Q r σ' → U w A x M cn (pc + 3) ls ((r.map (cvv (wA w ad un))).toList ++ st) (wr ++ WL S (wA w ad un) σ')) : U w A x M cn pc ls st0 ws := by
  intro H locs la hP hD hS hla
  have hf' := hf hD
  have hc' := hc hf'
  subst hq
  rw [← WL_eq hf'] at hP hD
  obtain ⟨hc10, hlc, hcl, hml, hin, hse, hi⟩ := hl
  have hWH : WH S (wA w ad un) σ H := fun k q hk => hP (wr.length + k) q (by rw [List.getElem?_append_right (Nat.le_add_right _ _), Nat.add_sub_cancel_left]; exact hk)
  have ha : a ∈ S.1 := hf'.2.1 a (by rw [hk]; exact Nat.lt_of_lt_of_le hc10 (by decide))
  obtain ⟨qi, hqi⟩ := Wws_get hf' σ ha
  have hqi' := hqi
  rw [cll_obj hk hc10] at hqi
  have hrec := va_recv o.2.1 hWH (vwCl_at hc10) hqi
  have run : va_Run x.p w.l x.e x.R x.s x.m x.a x.b x.me x.c H locs cn.1 cn.2 0 0 (F0 x.m pc la st0) st (Qw S (wA w ad un) Q (.ref (ad a) :: As.map (cvv (wA w ad un))).toArray) (Aw (wA w ad un)) :=
    va_runV (As := As.map (cvv (wA w ad un))) (rest := st) (b := ad a) (C := RXn ci) o.1 hc' ⟨callB_of (rm := Rm d') n o.1.2.2.2.2 (good_ws hlc) rfl rfl rfl (o.1.2.2.2.2 _ (by rw [hcl]; exact hi)) (o.1.2.2.2.2 _ hml) hlc.2 hR, o.1.2.2.2.2 _ hin, o.1.2.2.2.2 _ hse⟩ ⟨blind, hrec, fun U hU hW => ⟨rfl, by rw [hU]; exact hWH, va_K.moved hW.alike o.2.1, nws_warm hW o.2.2.1⟩⟩ rfl (by simpa using hn) hla.1 hst (lv_room hs) hd hcs
  intro T hT X
  obtain ⟨v, st₀, t, T', L, h0, X', hL, e1, e2, ⟨r, σ', hv, hq, ⟨hP1, -, -⟩, hz, hkp⟩, stp⟩ := run T hT X
  cases hv
  rw [h0] at hz hkp
  have inW : ∀ q, Aw (wA w ad un) q → ∃ (j : Nat) (e : va_E), (Wws S (wA w ad un) σ)[j]? = some (q, e) := fun q h => by
    obtain ⟨b, hb, e⟩ := hA q h.2
    obtain ⟨j, hj⟩ := Wws_get hf' σ hb
    subst e
    exact ⟨j, _, hj⟩
  have hfree : ∀ q, Aw (wA w ad un) q → A q := fun q h => by
    obtain ⟨j, e, hj⟩ := inW q h
    exact hD.2 (wr.length + j) (q, e) (by rw [List.getElem?_append_right (Nat.le_add_right _ _), Nat.add_sub_cancel_left]; exact hj)
  have left : ∀ {k : Nat} {q : Nat × va_E}, wr[k]? = some q → (wr ++ Wws S (wA w ad un) σ)[k]? = some q := fun {k q} h => by
    rw [List.getElem?_append_left (List.getElem?_eq_some_iff.mp h).1]; exact h
  have apart : ∀ (k : Nat) (q : Nat × va_E), wr[k]? = some q → q.1 < H.size ∧ ¬ Aw (wA w ad un) q.1 := fun k q h => by
    refine ⟨(hP k q (left h)).lt, fun z => ?_⟩
    obtain ⟨j, e, hj⟩ := inW q.1 z
    have := hD.1 k (wr.length + j) q (q.1, e) (left h) (by rw [List.getElem?_append_right (Nat.le_add_right _ _), Nat.add_sub_cancel_left]; exact hj) rfl
    have := (List.getElem?_eq_some_iff.mp h).1
    omega
  have hPn : va_P w.D vwCl (wr ++ Wws S (wA w ad un) σ') T'.heap := by
    rw [e1]
    exact va_P.app (fun k q h => (hP k q (left h)).kept (hkp q.1 (apart k q h).1 (apart k q h).2)) hP1
  have hDn : va_D A (wr ++ Wws S (wA w ad un) σ') := va_D.app ⟨fun i j p q hi hj e => hD.1 i j p q (left hi) (left hj) e, fun k q h => hD.2 k q (left h)⟩ ((Wws_D hf' σ').weaken (fun k q _ h => hfree q.1 h)) (fun i j p q hp hq hpq => (apart i p hp).2 (by rw [hpq]; exact (Wws_D hf' σ').2 j q hq))
  have hSn : va_S A x.s.heap T'.heap (locs ++ L) := ⟨Nat.le_trans hS.1 (by rw [e1]; exact hz), fun q g1 g2 => by rw [e1, hkp q (Nat.lt_of_lt_of_le g1 hS.1) (fun z => g2 (hfree q z))]; exact hS.2.1 q g1 g2, fun q hq => by
    rcases List.mem_append.mp hq with h | h
    · exact hS.2.2 q h
    · exact hfree _ (hL q h)⟩
  rw [WL_eq hf'] at hPn hDn
  obtain ⟨t2, a1, b1⟩ := k r σ' hq T'.heap (locs ++ L) la hPn hDn hSn hla T' rfl X'
  exact ⟨t2, stp t2 a1, b1⟩
/-- a shape alone -/
def shS : Sh := ([3, 4, 5], fun a => if a = 3 then 4 else if a = 4 then 10 else if a = 5 then 10 else 99, fun _ => 4, fun a j => if a = 3 then (if j < 2 then some (4 + j) else none) else none)
def adS (q1 q2 q3 : Nat) : Nat → Nat := fun a => if a = 3 then q1 else if a = 4 then q2 else q3
def unS (q1 q2 : Nat) : Nat → Nat := fun q => if q = q1 then 3 else if q = q2 then 4 else 5
theorem shS_fit {q1 q2 q3 : Nat} (h12 : q1 ≠ q2) (h13 : q1 ≠ q3) (h23 : q2 ≠ q3) : Fit shS (wA w (adS q1 q2 q3) (unS q1 q2)) := by
  refine ⟨by decide, fun a h => ?_, fun a h => ⟨?_, Nat.zero_le _⟩⟩
  · change (if a = 3 then 4 else if a = 4 then 10 else if a = 5 then 10 else 99) < 14 at h
    by_cases e3 : a = 3
    · subst e3; decide
    · by_cases e4 : a = 4
      · subst e4; decide
      · by_cases e5 : a = 5
        · subst e5; decide
        · rw [if_neg e3, if_neg e4, if_neg e5] at h
          omega
  · change unS q1 q2 (adS q1 q2 q3 a) = a
    have h' : a = 3 ∨ a = 4 ∨ a = 5 := by simpa [shS] using h
    rcases h' with rfl | rfl | rfl
    · show unS q1 q2 q1 = 3
      unfold unS; rw [if_pos rfl]
    · show unS q1 q2 q2 = 4
      unfold unS; rw [if_neg (Ne.symm h12), if_pos rfl]
    · show unS q1 q2 q3 = 5
      unfold unS; rw [if_neg (Ne.symm h13), if_neg (Ne.symm h23)]
theorem shS_A {q1 q2 q3 : Nat} : ∀ q, adS q1 q2 q3 (unS q1 q2 q) = q → ∃ b ∈ shS.1, adS q1 q2 q3 b = q := fun q h => by
  refine ⟨unS q1 q2 q, ?_, h⟩
  unfold unS
  split
  · decide
  · split
    · decide
    · decide
end UCT
