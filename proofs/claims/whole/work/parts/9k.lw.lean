section LAWW
/-! THE LAW'S OWN WORLD: ours, and its row 'out' at place 79; the script at place 80 -/
def sh1 : Sh := ((List.range 80).drop 1, fun a => if a = 79 then 11 else kd0 a, fun a => if a = 79 then 1 else ln0 a, rc0)
def wO (w : Wp) (un1 : Nat → Nat) : Wp := (w.1, w.2.1, w.2.2.1, un1, w.2.2.2.2)
def sO (σ : Mm) (o : Int64) : Mm := (σ.1, fun a => if a = 79 then fun _ => o else σ.2.1 a, σ.2.2)
/-- both fit; the row is the law's alone -/
def Lf (w : Wp) (un1 : Nat → Nat) : Prop := Fit sh0 w ∧ Fit sh1 (wO w un1) ∧ ¬ Aw w (w.ad 79) ∧ ∀ q, Aw w q → Aw (wO w un1) q
abbrev oCell (w : Wp) (o : Int64) : Nat × va_E := (w.ad 79, .inl (w.2.2.2.2.2.2.1, 1, .inr (.inl (fun _ => o))))
theorem cll1 {w : Wp} {un1 : Nat → Nat} {σ : Mm} {o : Int64} {a : Nat} (h : a ≠ 79) : cll sh1 (wO w un1) (sO σ o) a = cll sh0 w σ a := by
  have e1 : sh1.2.1 a = sh0.2.1 a := if_neg h
  have e2 : sh1.2.2.1 a = sh0.2.2.1 a := if_neg h
  have e3 : (sO σ o).2.1 a = σ.2.1 a := if_neg h
  have e4 : (fun j => (trr sh1 (sO σ o) a j).map (wO w un1).ad) = (fun j => (trr sh0 σ a j).map w.ad) := by
    funext j
    unfold trr
    rw [e1]
    rfl
  have e5 : fvv sh1 (wO w un1) (sO σ o) a = fvv sh0 w σ a := rfl
  unfold cll
  rw [e1, e2, e3, e4, e5]
  rfl
theorem WL1 {w : Wp} {un1 : Nat → Nat} {σ : Mm} {o : Int64} : WL sh1 (wO w un1) (sO σ o) = WL sh0 w σ ++ [oCell w o] := by
  unfold WL
  have e : sh1.1 = sh0.1 ++ [79] := by decide
  rw [e, List.map_append]
  congr 1
theorem WH1 {w : Wp} {un1 : Nat → Nat} (hL : Lf w un1) {σ : Mm} {o : Int64} {H : Heap} : WH sh1 (wO w un1) (sO σ o) H ↔ WH sh0 w σ H ∧ va_at w.D vwCl (oCell w o) H := by
  unfold WH
  rw [WL_eq hL.2.1, WL_eq hL.1, WL1]
  constructor
  · intro h
    refine ⟨fun k q hk => h k q (by rw [List.getElem?_append_left (List.getElem?_eq_some_iff.mp hk).1]; exact hk), h (WL sh0 w σ).length (oCell w o) ?_⟩
    rw [List.getElem?_append_right (Nat.le_refl _), Nat.sub_self]
    rfl
  · intro h
    exact va_P.app h.1 (fun k q hk => by
      cases k with
      | zero => cases hk; exact h.2
      | succ k => cases hk)
variable {w : Wp} {un1 : Nat → Nat} {x : Cx} {own : String} {M : Md} {cn : Nat × Nat} {pc : Nat} {ls : List (Nat × Value)} {st : List Value} {σ : Mm} {o : Int64} {Q : Option Value → Mm → Prop}
/-- a call from the law: its row stays -/
theorem L_run {st0 : List Value} {a : Array Value} (hL : Lf w un1) (hr : ∀ H locs la, WH sh0 w σ H → lv_has la M.2.2.1 (ls.map (cvl w)) → va_Run x.p w.l x.e x.R x.s x.m x.a x.b x.me x.c H locs cn.1 cn.2 0 0 (F0 x.m pc la (st0.map (cvv w))) (st.map (cvv w)) (Qw sh0 w Q a) (Aw w))
    (k : ∀ r σ', Q r σ' → V sh1 (wO w un1) x M cn (pc + 3) ls (r.toList ++ st) (sO σ' o)) : V sh1 (wO w un1) x M cn pc ls st0 (sO σ o) := by
  intro H locs la h1 h2 h3 T hT X
  obtain ⟨g1, g2⟩ := (WH1 hL).mp h1
  obtain ⟨v, st₀, t, T', L, h0, X', hLc, e1, e2, ⟨r, σ', hv, hq, ⟨hP, -, -⟩, hz, hk⟩, stp⟩ := hr H locs la g1 h3 T hT X
  cases hv
  rw [h0] at hz hk
  have hS : va_S (Aw (wO w un1)) x.s.heap T'.heap (locs ++ L) := ⟨Nat.le_trans h2.1 (by rw [e1]; exact hz), fun q g3 g4 => by rw [e1, hk q (Nat.lt_of_lt_of_le g3 h2.1) (fun z => g4 (hL.2.2.2 q z))]; exact h2.2.1 q g3 g4, fun q hq => by
    rcases List.mem_append.mp hq with h | h
    · exact h2.2.2 q h
    · exact hL.2.2.2 _ (hLc q h)⟩
  have hO : va_at w.D vwCl (oCell w o) T'.heap := by
    rw [e1]
    exact g2.kept (hk _ g2.lt hL.2.2.1)
  obtain ⟨t2, a1, b1⟩ := k r σ' hq T'.heap (locs ++ L) la ((WH1 hL).mpr ⟨by rw [e1]; exact hP, hO⟩) hS h3 T' rfl X'
  refine ⟨t2, stp t2 ?_, b1⟩
  have e : (r.map (cvv w)).toList ++ st.map (cvv w) = (r.toList ++ st).map (cvv w) := by cases r <;> simp
  rw [e]
  exact a1
theorem L_callV {idx ci a n d' : Nat} {M' : Md} {As st0 : List Value} (hL : Lf w un1) (oo : Ok sh1 (wO w un1) x own M) (hd : decode M.2.1 pc = .ok (.invokevirtual idx, 3)) (hl : LV own idx ci M' n) (hc : Ct sh0 w d' M' (.ref a :: As) σ Q) (hk : sh0.2.1 a = ci) (hn : As.length = n) (hst : st0 = As.reverse ++ .ref a :: st)
    (hs : (st.map Value.category).sum ≤ 8) (hR : d' + 1 ≤ x.R.frames ∧ 8 + (M'.2.2.1 + 11) + 40 * d' ≤ x.R.locals) (hcs : cn.1 ≤ x.R.cells ∧ cn.2 ≤ x.R.slots)
    (k : ∀ r σ', Q r σ' → V sh1 (wO w un1) x M cn (pc + 3) ls (r.toList ++ st) (sO σ' o)) : V sh1 (wO w un1) x M cn pc ls st0 (sO σ o) := by
  have o0 : Ok sh0 w x own M := ⟨hL.1, oo.2⟩
  refine L_run (a := ((Value.ref (w.ad a)) :: As.map (cvv w)).toArray) hL (fun H locs la h1 h3 => ?_) k
  obtain ⟨hc10, hlc, hcl, hml, hin, hse, hi⟩ := hl
  have ha : a ∈ sh0.1 := o0.1.2.1 a (by rw [hk]; exact Nat.lt_of_lt_of_le hc10 (by decide))
  obtain ⟨q, hq⟩ := Wws_get o0.1 σ ha
  rw [cll_obj hk hc10] at hq
  have hrec := va_recv o0.2.2.1 h1 (vwCl_at hc10) hq
  have hcat : ((st.map (cvv w)).map fun v => v.category).sum ≤ 8 := by
    rw [List.map_map]
    have e : ((fun v : Value => v.category) ∘ cvv w) = Value.category := by funext v; exact cvv_cat w v
    rw [e]; exact hs
  exact va_runV (As := As.map (cvv w)) (rest := st.map (cvv w)) (b := w.ad a) (C := RXn ci) o0.2.1 hc ⟨callB_x o0 hlc hml (by rw [hcl]; exact hi) hR, o0.2.1.2.2.2.2 _ hin, o0.2.1.2.2.2.2 _ hse⟩ ⟨blind, hrec, Pw_at o0 h1⟩ rfl (by simpa using hn) h3.1 (by subst hst; simp [cvv]) (lv_room hcat) hd hcs
end LAWW
