/-! a TICK -/
def farF (L : Nat) (clk : Int32) (t : Nat) (M : Nat → Int32) : Nat → Int32 := if isG M t ∧ M (391 + t) = -1 ∧ M (231 + t) - clk < spanM M L then mov1M M L t else M
def farM (M : Nat → Int32) (L : Nat) (clk : Int32) : Nat → Int32 := itr (farF L clk) 0 16 M
def mvF (L lv : Nat) (slot : Int32) (t : Nat) (M : Nat → Int32) : Nat → Int32 := if isG M t ∧ M (391 + t) = nI lv ∧ M (407 + t) = slot then mov1M M L t else M
def mvLv (M : Nat → Int32) (L : Nat) (clk : Int32) (lv : Nat) : Nat → Int32 := if rmI clk (spanM M lv) = 0 then itr (mvF L lv (rmI (clk / spanM M lv) (M (1 + lv)))) 0 16 M else M
def mvDn (L : Nat) (clk : Int32) : Nat → (Nat → Int32) → (Nat → Int32)
  | 0, M => M
  | lv + 1, M => mvDn L clk lv (mvLv M L clk (lv + 1))
def lnF (M : Nat → Int32) (bd : Bool) (sel : Nat → Bool) (t : Nat) (s : (Nat → Nat) × Nat) : (Nat → Nat) × Nat := if sel t = true then (qG (soonB M bd) t s.2 s.1, s.2 + 1) else s
def lineM (M : Nat → Int32) (bd : Bool) (sel : Nat → Bool) : (Nat → Nat) × Nat := itr (lnF M bd sel) 0 16 (fun _ => 0, 0)
def tkB (M : Nat → Int32) (L : Nat) : Nat → Int32 := if rmI (M 6 + 1) (spanM (uM M 6 (M 6 + 1)) L) = 0 then farM (uM M 6 (M 6 + 1)) L (M 6 + 1) else uM M 6 (M 6 + 1)
def tkA (M : Nat → Int32) (L : Nat) : Nat → Int32 := mvDn L (M 6 + 1) (L - 1) (tkB M L)
def tkSel (M : Nat → Int32) (clk : Int32) (t : Nat) : Bool := decide (isG M t ∧ M (391 + t) = 0 ∧ M (407 + t) = rmI clk (M 1))
def tkLn (M : Nat → Int32) (L : Nat) : (Nat → Nat) × Nat := lineM (tkA M L) false (tkSel (tkA M L) (M 6 + 1))
def tickM (M : Nat → Int32) (L r : Nat) : Nat → Int32 := ringM (tkA M L) L r (tkLn M L).1 (tkLn M L).2
/-- nothing below the LEVELS but what was MOVED -/
def Lo (M M' : Nat → Int32) : Prop := ∀ j, j < 391 → j ≠ 8 → M' j = M j
theorem Lo.rfl' {M : Nat → Int32} : Lo M M := fun _ _ _ => rfl
theorem Lo.trans {A B C : Nat → Int32} (h1 : Lo A B) (h2 : Lo B C) : Lo A C := fun j a b => (h2 j a b).trans (h1 j a b)
theorem Lo.mov {M : Nat → Int32} {L t : Nat} : Lo M (mov1M M L t) := fun _ a b => mov1M_ne a b
theorem Lo.wf {M M' : Nat → Int32} {L : Nat} (h : Lo M M') (hW : Wf M L) : Wf M' L := Wf_same hW (fun j hj => h j (by omega) (by omega))
theorem Lo.far {M : Nat → Int32} {L t : Nat} {clk : Int32} : Lo M (farF L clk t M) := by unfold farF; split; exact Lo.mov; exact Lo.rfl'
theorem Lo.mv {M : Nat → Int32} {L lv t : Nat} {s : Int32} : Lo M (mvF L lv s t M) := by unfold mvF; split; exact Lo.mov; exact Lo.rfl'
theorem Lo.itr {f : Nat → (Nat → Int32) → (Nat → Int32)} (h : ∀ t M, Lo M (f t M)) (n i : Nat) (M : Nat → Int32) : Lo M (itr f i n M) :=
  itr_inv (fun _ s => Lo M s) n i M Lo.rfl' (fun _ s _ _ hs => hs.trans (h _ s))
theorem Lo.lv {M : Nat → Int32} {L lv : Nat} {clk : Int32} : Lo M (mvLv M L clk lv) := by
  unfold mvLv
  split
  · exact Lo.itr (fun _ _ => Lo.mv) _ _ _
  · exact Lo.rfl'
theorem Lo.dn {L : Nat} {clk : Int32} : ∀ (lv : Nat) (M : Nat → Int32), Lo M (mvDn L clk lv M)
  | 0, _ => Lo.rfl'
  | lv + 1, M => Lo.lv.trans (Lo.dn lv _)
theorem Lo_tkB0 {M : Nat → Int32} {L : Nat} : Lo (uM M 6 (M 6 + 1)) (tkB M L) := by
  unfold tkB
  split
  · exact Lo.itr (fun _ _ => Lo.far) _ _ _
  · exact Lo.rfl'
theorem Lo.tkB {M : Nat → Int32} {L : Nat} : Lo (uM M 6 (M 6 + 1)) (tkB M L) := Lo_tkB0
theorem Lo.tkA {M : Nat → Int32} {L : Nat} : Lo (uM M 6 (M 6 + 1)) (tkA M L) := Lo.tkB.trans (Lo.dn _ _)
theorem wI_sLn0 {σ : Mm} : wI σ 67 10 0 = sLn σ (σ.1 71) 0 := by
  refine Prod.ext (funext fun a => funext fun j => ?_) rfl
  simp only [sLn, wI, up2]
  by_cases q : a = 71
  · subst q; simp
  · by_cases q3 : a = 67 ∧ j = 10
    · simp [q3]; rfl
    · simp [q, q3]
/-- the line's numbers: timers, so many at most, all chosen -/
theorem lineM_inv {M : Nat → Int32} {bd : Bool} {sel : Nat → Bool} : ∀ n i, i + n = 16 → ∀ s : (Nat → Nat) × Nat, s.2 ≤ i → (∀ j, j < s.2 → s.1 j < 16) → (itr (lnF M bd sel) i n s).2 ≤ 16 ∧ ∀ j, j < (itr (lnF M bd sel) i n s).2 → (itr (lnF M bd sel) i n s).1 j < 16
  | 0, i, hi, s, h1, h2 => ⟨by show s.2 ≤ 16; omega, h2⟩
  | n + 1, i, hi, s, h1, h2 => by
    rw [itr_succ]
    refine lineM_inv n (i + 1) (by omega) _ ?_ ?_
    · unfold lnF
      split
      · show s.2 + 1 ≤ i + 1
        omega
      · omega
    · unfold lnF
      split
      · intro j hj
        exact qG_lt (by omega) s.2 s.2 s.1 (Nat.le_refl _) (fun k hk hne => h2 k (by omega)) j hj
      · exact h2
