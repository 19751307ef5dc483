section MEM
theorem vwCl_at {k : Nat} (h : k < 10) : vwCl[k]? = some (RXn k, TXn k, nf k) := by
  match k, h with
  | 0, _ => rfl | 1, _ => rfl | 2, _ => rfl | 3, _ => rfl | 4, _ => rfl | 5, _ => rfl | 6, _ => rfl | 7, _ => rfl | 8, _ => rfl | 9, _ => rfl
theorem tyXn_ok {k : Nat} (h : k < 10) : ∀ j, j < nf k → parseFieldDescriptor (TXn k j).2.2.1 = some (tyXn k j) := by
  match k, h with
  | 0, _ => exact tyX0_ok | 1, _ => exact tyX1_ok | 2, _ => exact tyX2_ok | 3, _ => exact tyX3_ok | 4, _ => exact tyX4_ok | 5, _ => exact tyX5_ok | 6, _ => exact tyX6_ok | 7, _ => exact tyX7_ok | 8, _ => exact tyX8_ok | 9, _ => exact tyX9_ok
theorem nmXn {k : Nat} (h : k < 10) : ∀ a, a < nf k → ∀ b, b < nf k → a ≠ b → (TXn k a).2.1 ≠ (TXn k b).2.1 := by
  match k, h with
  | 0, _ => exact nmX0 | 1, _ => exact nmX1 | 2, _ => exact nmX2 | 3, _ => exact nmX3 | 4, _ => exact nmX4 | 5, _ => exact nmX5 | 6, _ => exact nmX6 | 7, _ => exact nmX7 | 8, _ => exact nmX8 | 9, _ => exact nmX9
theorem wsIn (k : Nat) (C : String) (T : u_T) (N : Nat) (h : ∀ w ∈ u_ws C T N, w ∈ lw_tbl) (hg : (u_ws C T N).all goodWord = true) : ∀ w ∈ u_ws C T N, w ∈ gw := fun w hw => gw_of (h w hw) (List.all_eq_true.mp hg w hw)
theorem wsXn_in {k : Nat} (h : k < 10) : ∀ w ∈ u_ws (RXn k) (TXn k) (nf k), w ∈ gw := by
  match k, h with
  | 0, _ => exact wsIn 0 _ _ _ (by decide +kernel) (by decide +kernel)
  | 1, _ => exact wsIn 1 _ _ _ (by decide +kernel) (by decide +kernel)
  | 2, _ => exact wsIn 2 _ _ _ (by decide +kernel) (by decide +kernel)
  | 3, _ => exact wsIn 3 _ _ _ (by decide +kernel) (by decide +kernel)
  | 4, _ => exact wsIn 4 _ _ _ (by decide +kernel) (by decide +kernel)
  | 5, _ => exact wsIn 5 _ _ _ (by decide +kernel) (by decide +kernel)
  | 6, _ => exact wsIn 6 _ _ _ (by decide +kernel) (by decide +kernel)
  | 7, _ => exact wsIn 7 _ _ _ (by decide +kernel) (by decide +kernel)
  | 8, _ => exact wsIn 8 _ _ _ (by decide +kernel) (by decide +kernel)
  | 9, _ => exact wsIn 9 _ _ _ (by decide +kernel) (by decide +kernel)
/-- a field's link: own class, index, the kind, the slot -/
def FL (own : String) (idx ci j : Nat) : Prop := ci < 10 ∧ j < nf ci ∧ Cond.fieldLink own idx (TXn ci j).1 (TXn ci j).2.1 (TXn ci j).2.2.1 ∈ gw
variable {S : Sh} {w : Wp} {x : Cx} {own : String} {M : Md} {cn : Nat × Nat} {pc : Nat} {ls : List (Nat × Value)} {st : List Value} {σ : Mm}
theorem cll_obj {a ci : Nat} (hk : S.2.1 a = ci) (hc : ci < 10) : cll S w σ a = .inr (ci, (List.range (nf ci)).map (fvv S w σ a)) := by
  subst hk
  simp [cll, hc]
theorem fvv_at {a n j : Nat} (hj : j < n) : ((List.range n).map (fvv S w σ a))[j]? = some (fvv S w σ a j) := by
  rw [List.getElem?_map, List.getElem?_range hj]; rfl
theorem V_get {a ci j idx : Nat} {v : Value} (o : Ok S w x own M) (hd : decode M.2.1 pc = .ok (.getfield idx, 3)) (hk : S.2.1 a = ci) (hl : FL own idx ci j) (hv : fvv S w σ a j = cvv w v)
    (k : V S w x M cn (pc + 3) ls (v :: st) σ) : V S w x M cn pc ls (.ref a :: st) σ := by
  intro H locs la h1 h2 h3
  obtain ⟨hf, ⟨hx, hb, -, hown, hts⟩, hK, -⟩ := id o
  have ha : a ∈ S.1 := hf.2.1 a (by rw [hk]; exact Nat.lt_of_lt_of_le hl.1 (by decide))
  obtain ⟨q, hq⟩ := Wws_get hf σ ha
  rw [cll_obj hk hl.1] at hq
  exact va_get (C := RXn ci) (T := TXn ci) (N := nf ci) hx hb hts (wsXn_in hl.1) hown hK h1 q hq (vwCl_at hl.1) j hl.2.1 (hts _ hl.2.2) (fun _ h => h) ((fvv_at hl.2.1).trans (congrArg some hv)) hd (k H locs la h1 h2 h3)
theorem V_getI {a ci j idx : Nat} (o : Ok S w x own M) (hd : decode M.2.1 pc = .ok (.getfield idx, 3)) (hk : S.2.1 a = ci) (hl : FL own idx ci j) (hr : S.2.2.2 a j = none)
    (k : V S w x M cn (pc + 3) ls (.int (σ.1 a j) :: st) σ) : V S w x M cn pc ls (.ref a :: st) σ := V_get o hd hk hl (by simp [fvv, hr, cvv]) k
theorem V_getR {a ci j idx t : Nat} (o : Ok S w x own M) (hd : decode M.2.1 pc = .ok (.getfield idx, 3)) (hk : S.2.1 a = ci) (hl : FL own idx ci j) (hr : S.2.2.2 a j = some t)
    (k : V S w x M cn (pc + 3) ls (.ref t :: st) σ) : V S w x M cn pc ls (.ref a :: st) σ := V_get o hd hk hl (by simp [fvv, hr, cvv]) k
theorem fvv_set {a n j : Nat} {v : Int32} (hr : S.2.2.2 a j = none) : ((List.range n).map (fvv S w σ a)).set j (.int v) = (List.range n).map (fvv S w (wI σ a j v) a) := by
  apply List.ext_getElem?
  intro i
  by_cases hi : i < n
  · by_cases hij : j = i
    · subst hij
      rw [List.getElem?_set_self (by simpa using hi), fvv_at hi]
      simp [fvv, hr, wI, up2]
    · rw [List.getElem?_set_ne hij, fvv_at hi, fvv_at hi]
      have : ¬ i = j := fun q => hij q.symm
      simp [fvv, wI, up2, this]
  · rw [List.getElem?_eq_none (by simpa using hi), List.getElem?_eq_none (by simpa using hi)]
theorem cll_wI {a j : Nat} {v : Int32} (b : Nat) (h : b ≠ a) : cll S w (wI σ a j v) b = cll S w σ b := by
  have e1 : fvv S w (wI σ a j v) b = fvv S w σ b := by funext i; simp [fvv, wI, up2, h]
  have e2 : (wI σ a j v).1 b = σ.1 b := by funext i; simp [wI, up2, h]
  have e3 : ∀ i, trr S (wI σ a j v) b i = trr S σ b i := fun i => rfl
  simp only [cll, e1, e2, e3]; rfl
theorem V_put {a ci j idx : Nat} {v : Int32} (o : Ok S w x own M) (hd : decode M.2.1 pc = .ok (.putfield idx, 3)) (hk : S.2.1 a = ci) (hl : FL own idx ci j) (hr : S.2.2.2 a j = none) (hfin : (TXn ci j).2.2.2 = false) (hn : narrow (tyXn ci j) (.int v) = .int v) (hfit : fits (tyXn ci j) (.int v) = true)
    (k : V S w x M cn (pc + 3) ls st (wI σ a j v)) : V S w x M cn pc ls (.int v :: .ref a :: st) σ := by
  intro H locs la h1 h2 h3
  obtain ⟨hf, ⟨hx, hb, -, hown, hts⟩, hK, -⟩ := id o
  have ha : a ∈ S.1 := hf.2.1 a (by rw [hk]; exact Nat.lt_of_lt_of_le hl.1 (by decide))
  obtain ⟨q, hq0⟩ := Wws_get hf σ ha
  have hq := hq0
  rw [cll_obj hk hl.1] at hq
  refine va_put (C := RXn ci) (T := TXn ci) (N := nf ci) hx hb hts (wsXn_in hl.1) (tyXn ci) (tyXn_ok hl.1) (nmXn hl.1) hown hK h1 (Wws_D hf σ) h2 q hq (vwCl_at hl.1) j hl.2.1 (hts _ hl.2.2) (fun _ h => h) hfin (tyXn_ok hl.1 j hl.2.1) hn hfit (by simpa using hl.2.1) hd (fun H1 locs1 g1 _ g3 => ?_)
  refine k H1 locs1 la ?_ g3 h3
  show va_P w.D vwCl (Wws S w (wI σ a j v)) H1
  rw [← Wws_set hf ha hq0 (fun b hb => cll_wI b hb), cll_obj hk hl.1, ← fvv_set hr]
  exact g1
theorem V_putI {a ci j idx : Nat} {v : Int32} (o : Ok S w x own M) (hd : decode M.2.1 pc = .ok (.putfield idx, 3)) (hk : S.2.1 a = ci) (hl : FL own idx ci j) (hr : S.2.2.2 a j = none) (hfin : (TXn ci j).2.2.2 = false) (ht : tyXn ci j = .int)
    (k : V S w x M cn (pc + 3) ls st (wI σ a j v)) : V S w x M cn pc ls (.int v :: .ref a :: st) σ := V_put o hd hk hl hr hfin (by rw [ht]; rfl) (by rw [ht]; rfl) k
theorem V_putZ {a ci j idx : Nat} {v : Int32} (o : Ok S w x own M) (hd : decode M.2.1 pc = .ok (.putfield idx, 3)) (hk : S.2.1 a = ci) (hl : FL own idx ci j) (hr : S.2.2.2 a j = none) (hfin : (TXn ci j).2.2.2 = false) (ht : tyXn ci j = .boolean) (hv : v = 0 ∨ v = 1)
    (k : V S w x M cn (pc + 3) ls st (wI σ a j v)) : V S w x M cn pc ls (.int v :: .ref a :: st) σ := V_put o hd hk hl hr hfin (by rw [ht]; rcases hv with rfl | rfl <;> rfl) (by rw [ht]; rcases hv with rfl | rfl <;> rfl) k
/-- rows of ints -/
def ix (i : Int32) : Nat := i.toNatClampNeg
theorem cll_ints {a : Nat} (hk : S.2.1 a = 10) : cll S w σ a = .inl (w.2.2.2.2.2.1, S.2.2.1 a, .inl (σ.1 a)) := by simp [cll, hk]
theorem cll_longs {a : Nat} (hk : S.2.1 a = 11) : cll S w σ a = .inl (w.2.2.2.2.2.2.1, S.2.2.1 a, .inr (.inl (σ.2.1 a))) := by simp [cll, hk]
theorem cll_refs {a : Nat} (hk : S.2.1 a = 12 ∨ S.2.1 a = 13) : cll S w σ a = .inl (w.2.2.2.2.2.2.2, S.2.2.1 a, .inr (.inr (.inr (.inr (fun j => (trr S σ a j).map w.ad))))) := by rcases hk with hk | hk <;> simp [cll, hk]
theorem V_iald {a : Nat} {i : Int32} (o : Ok S w x own M) (hd : decode M.2.1 pc = .ok (.iaload, 1)) (hk : S.2.1 a = 10) (hi : vp_in i (S.2.2.1 a))
    (k : V S w x M cn (pc + 1) ls (.int (σ.1 a (ix i)) :: st) σ) : V S w x M cn pc ls (.int i :: .ref a :: st) σ := by
  intro H locs la h1 h2 h3
  obtain ⟨hf, ⟨hx, hb, -, hown, hts⟩, hK, -⟩ := id o
  have ha : a ∈ S.1 := hf.2.1 a (by rw [hk]; decide)
  obtain ⟨q, hq⟩ := Wws_get hf σ ha
  rw [cll_ints hk] at hq
  exact va_iald hx hb hK h1 q 0 hq rfl hi hd (k H locs la h1 h2 h3)
theorem V_lald {a : Nat} {i : Int32} (o : Ok S w x own M) (hd : decode M.2.1 pc = .ok (.laload, 1)) (hk : S.2.1 a = 11) (hi : vp_in i (S.2.2.1 a))
    (k : V S w x M cn (pc + 1) ls (.long (σ.2.1 a (ix i)) :: st) σ) : V S w x M cn pc ls (.int i :: .ref a :: st) σ := by
  intro H locs la h1 h2 h3
  obtain ⟨hf, ⟨hx, hb, -, hown, hts⟩, hK, -⟩ := id o
  have ha : a ∈ S.1 := hf.2.1 a (by rw [hk]; decide)
  obtain ⟨q, hq⟩ := Wws_get hf σ ha
  rw [cll_longs hk] at hq
  exact va_lald hx hb hK h1 q 1 hq rfl hi hd (k H locs la h1 h2 h3)
def rfv (r : Option Nat) : Value := match r with
  | some t => .ref t
  | none => .null
theorem V_aald {a : Nat} {i : Int32} (o : Ok S w x own M) (hd : decode M.2.1 pc = .ok (.aaload, 1)) (hk : S.2.1 a = 12 ∨ S.2.1 a = 13) (hi : vp_in i (S.2.2.1 a))
    (k : V S w x M cn (pc + 1) ls (rfv (trr S σ a (ix i)) :: st) σ) : V S w x M cn pc ls (.int i :: .ref a :: st) σ := by
  intro H locs la h1 h2 h3
  obtain ⟨hf, ⟨hx, hb, -, hown, hts⟩, hK, -⟩ := id o
  have ha : a ∈ S.1 := hf.2.1 a (by rcases hk with hk | hk <;> (rw [hk]; decide))
  obtain ⟨q, hq⟩ := Wws_get hf σ ha
  rw [cll_refs hk] at hq
  refine va_aldq hx hb hK h1 q 2 hq rfl hi hd ?_
  have e : va_rf ((trr S σ a (ix i)).map w.ad) = cvv w (rfv (trr S σ a (ix i))) := by cases trr S σ a (ix i) <;> rfl
  show W _ _ _ _ _ _ _ _ _ _ _ _ _ _ _ (F0 x.m (pc + 1) la (va_rf ((trr S σ a (ix i)).map w.ad) :: st.map (cvv w)))
  rw [e]
  exact k H locs la h1 h2 h3
theorem V_aaldS {a t : Nat} {i : Int32} (o : Ok S w x own M) (hd : decode M.2.1 pc = .ok (.aaload, 1)) (hk : S.2.1 a = 12 ∨ S.2.1 a = 13) (hi : vp_in i (S.2.2.1 a)) (ht : trr S σ a (ix i) = some t)
    (k : V S w x M cn (pc + 1) ls (.ref t :: st) σ) : V S w x M cn pc ls (.int i :: .ref a :: st) σ := V_aald o hd hk hi (by rw [ht]; exact k)
theorem V_aaldN {a : Nat} {i : Int32} (o : Ok S w x own M) (hd : decode M.2.1 pc = .ok (.aaload, 1)) (hk : S.2.1 a = 12 ∨ S.2.1 a = 13) (hi : vp_in i (S.2.2.1 a)) (ht : trr S σ a (ix i) = none)
    (k : V S w x M cn (pc + 1) ls (.null :: st) σ) : V S w x M cn pc ls (.int i :: .ref a :: st) σ := V_aald o hd hk hi (by rw [ht]; exact k)
theorem V_alen {a : Nat} {v : Int32} (o : Ok S w x own M) (hd : decode M.2.1 pc = .ok (.arraylength, 1)) (hk : S.2.1 a = 10 ∨ S.2.1 a = 11 ∨ S.2.1 a = 12 ∨ S.2.1 a = 13) (hv : Int32.ofNat (S.2.2.1 a) = v)
    (k : V S w x M cn (pc + 1) ls (.int v :: st) σ) : V S w x M cn pc ls (.ref a :: st) σ := by
  intro H locs la h1 h2 h3
  obtain ⟨hf, ⟨hx, hb, -, hown, hts⟩, hK, -⟩ := id o
  have ha : a ∈ S.1 := hf.2.1 a (by rcases hk with hk | hk | hk | hk <;> (rw [hk]; decide))
  obtain ⟨q, hq⟩ := Wws_get hf σ ha
  rcases hk with hk | hk | hk
  · rw [cll_ints hk] at hq
    exact va_alen hx hb hK h1 q 0 hq rfl hv hd (k H locs la h1 h2 h3)
  · rw [cll_longs hk] at hq
    exact va_alen hx hb hK h1 q 1 hq rfl hv hd (k H locs la h1 h2 h3)
  · rw [cll_refs hk] at hq
    exact va_alen hx hb hK h1 q 2 hq rfl hv hd (k H locs la h1 h2 h3)
theorem cll_wI_ints {a j : Nat} {v : Int32} (hk : S.2.1 a = 10) : cll S w (wI σ a j v) a = .inl (w.2.2.2.2.2.1, S.2.2.1 a, .inl (upd (σ.1 a) j v)) := by
  rw [cll_ints hk]
  have e : (wI σ a j v).1 a = upd (σ.1 a) j v := by funext i; simp [wI, up2, upd]
  rw [e]
theorem V_iast {a : Nat} {i v : Int32} (o : Ok S w x own M) (hd : decode M.2.1 pc = .ok (.iastore, 1)) (hk : S.2.1 a = 10) (hi : vp_in i (S.2.2.1 a))
    (k : V S w x M cn (pc + 1) ls st (wI σ a (ix i) v)) : V S w x M cn pc ls (.int v :: .int i :: .ref a :: st) σ := by
  intro H locs la h1 h2 h3
  obtain ⟨hf, ⟨hx, hb, -, hown, hts⟩, hK, -⟩ := id o
  have ha : a ∈ S.1 := hf.2.1 a (by rw [hk]; decide)
  obtain ⟨q, hq0⟩ := Wws_get hf σ ha
  have hq := hq0
  rw [cll_ints hk] at hq
  refine va_iast hx hb hK h1 (Wws_D hf σ) h2 q 0 hq rfl hi hd (fun H1 locs1 g1 _ g3 => ?_)
  refine k H1 locs1 la ?_ g3 h3
  show va_P w.D vwCl (Wws S w (wI σ a (ix i) v)) H1
  rw [← Wws_set hf ha hq0 (fun b hb => cll_wI b hb), cll_wI_ints hk]
  exact g1
theorem cll_wL {a j : Nat} {v : Int64} (b : Nat) (h : b ≠ a) : cll S w (wL σ a j v) b = cll S w σ b := by
  have e1 : fvv S w (wL σ a j v) b = fvv S w σ b := by funext i; rfl
  have e2 : (wL σ a j v).2.1 b = σ.2.1 b := by funext i; simp [wL, up2, h]
  have e3 : ∀ i, trr S (wL σ a j v) b i = trr S σ b i := fun i => rfl
  simp only [cll, e1, e2, e3]; rfl
theorem V_last {a : Nat} {i : Int32} {v : Int64} (o : Ok S w x own M) (hd : decode M.2.1 pc = .ok (.lastore, 1)) (hk : S.2.1 a = 11) (hi : vp_in i (S.2.2.1 a))
    (k : V S w x M cn (pc + 1) ls st (wL σ a (ix i) v)) : V S w x M cn pc ls (.long v :: .int i :: .ref a :: st) σ := by
  intro H locs la h1 h2 h3
  obtain ⟨hf, ⟨hx, hb, -, hown, hts⟩, hK, -⟩ := id o
  have ha : a ∈ S.1 := hf.2.1 a (by rw [hk]; decide)
  obtain ⟨q, hq0⟩ := Wws_get hf σ ha
  have hq := hq0
  rw [cll_longs hk] at hq
  refine va_last hx hb hK h1 (Wws_D hf σ) h2 q 1 hq rfl hi hd (fun H1 locs1 g1 _ g3 => ?_)
  refine k H1 locs1 la ?_ g3 h3
  show va_P w.D vwCl (Wws S w (wL σ a (ix i) v)) H1
  rw [← Wws_set hf ha hq0 (fun b hb => cll_wL b hb), cll_longs hk]
  have e : (wL σ a (ix i) v).2.1 a = vp_updL (σ.2.1 a) (ix i) v := by funext j; simp [wL, up2, vp_updL]
  rw [e]
  exact g1
theorem cll_wT {a j : Nat} {v : Option Nat} (b : Nat) (h : b ≠ a) : cll S w (wT σ a j v) b = cll S w σ b := by
  have e1 : fvv S w (wT σ a j v) b = fvv S w σ b := by funext i; rfl
  have e3 : ∀ i, trr S (wT σ a j v) b i = trr S σ b i := fun i => by simp [trr, wT, up2, h]
  simp only [cll, e1, e3]; rfl
theorem V_aast {a t : Nat} {i : Int32} (o : Ok S w x own M) (hd : decode M.2.1 pc = .ok (.aastore, 1)) (hk : S.2.1 a = 12) (hi : vp_in i (S.2.2.1 a)) (ht : S.2.1 t = 6)
    (k : V S w x M cn (pc + 1) ls st (wT σ a (ix i) (some t))) : V S w x M cn pc ls (.ref t :: .int i :: .ref a :: st) σ := by
  intro H locs la h1 h2 h3
  obtain ⟨hf, ⟨hx, hb, -, hown, hts⟩, hK, -⟩ := id o
  have ha : a ∈ S.1 := hf.2.1 a (by rw [hk]; decide)
  have hta : t ∈ S.1 := hf.2.1 t (by rw [ht]; decide)
  obtain ⟨q, hq0⟩ := Wws_get hf σ ha
  obtain ⟨r, hr⟩ := Wws_get hf σ hta
  rw [cll_obj ht (by decide)] at hr
  have hq := hq0
  rw [cll_refs (Or.inl hk)] at hq
  refine va_astq hx hb hK h1 (Wws_D hf σ) h2 q 2 r 6 hq rfl hr rfl hi hd (fun H1 locs1 g1 _ g3 => ?_)
  refine k H1 locs1 la ?_ g3 h3
  show va_P w.D vwCl (Wws S w (wT σ a (ix i) (some t))) H1
  rw [← Wws_set hf ha hq0 (fun b hb => cll_wT b hb), cll_refs (Or.inl hk)]
  have e : (fun j => (trr S (wT σ a (ix i) (some t)) a j).map w.ad) = va_up (fun j => (trr S σ a j).map w.ad) (ix i) (some (w.ad t)) := by
    funext j
    by_cases hj : j = ix i
    · subst hj; simp [trr, hk, wT, up2, va_up]
    · simp [trr, hk, wT, up2, va_up, hj]
  rw [e]
  exact g1
end MEM
