
theorem Met_mono {S : Sh} {w : Wp} {d : Nat} {M : Md} {as : List Value} {σ : Mm} {Q Q' : Option Value → Mm → Prop} (h : Ct S w d M as σ Q) (hq : ∀ r σ', Q r σ' → Q' r σ') : Ct S w d M as σ Q' := by
  unfold Ct Met at *
  intro p e ha hc hk s m args below hf happ hP hK
  obtain ⟨k, o, h1, h2, h3, ⟨v, σ', e1, e2, e3⟩, h5⟩ := h p e ha hc hk s m args below hf happ hP hK
  exact ⟨k, o, h1, h2, h3, ⟨v, σ', e1, hq v σ' e2, e3⟩, h5⟩

theorem tick_6 {M : Nat → Int32} {L r : Nat} (h : Iv M L r) : tickM M L r 6 = M 6 + 1 := by
  have hA := Iv_tkA h
  have ht := tellM_inv (g := (tkLn M L).1) (tkLn M L).2 0 (tkA M L, r) hA.2.2.1 hA.2.1 (fun k _ hk => lineM_lt (show k < (tkLn M L).2 by omega))
  have hT : ∀ t, t < 16 → isT (tellM (tkA M L) r (tkLn M L).1 (tkLn M L).2).1 t → Pq (tellM (tkA M L) r (tkLn M L).1 (tkLn M L).2).1 t := fun t h1 hl => Pq_same (hA.2.2.2 t h1 ((ht.2.2 _ (by omega) (by omega) (by omega)).symm.trans hl)) (ht.2.2 _ (by omega) (by omega) (by omega))
  have hc := comes_inv (L := L) (g := (tkLn M L).1) (N := (tkLn M L).2) (fun k hk => lineM_lt hk) (tkLn M L).2 0 (tellM (tkA M L) r (tkLn M L).1 (tkLn M L).2).1 (by omega) (fun k hk => by
    have h1 : (tkLn M L).1 k < 16 := lineM_lt hk
    exact hT _ h1 ((ht.2.2 (215 + (tkLn M L).1 k) (by omega) (by omega) (by omega)).trans (tkSel_T (lineM_sel hk)))) hT
  exact (hc.2 6 (by omega) (by omega)).trans ((ht.2.2 6 (by omega) (by omega) (by omega)).trans ((Lo.tkA 6 (by omega) (by omega)).trans (uM_self _ _ _)))
/-- the desk at its clock c -/
def Ck (M : Nat → Int32) (L r c : Nat) : Prop := Iv M L r ∧ M 6 = nI c
theorem Ck_tick {M : Nat → Int32} {L r c : Nat} (h : Ck M L r c) : Ck (tickM M L r) L (tkR M L r) (c + 1) := ⟨Iv_tick h.1, by rw [tick_6 h.1, h.2]; exact nI_1 c⟩
theorem nI_ngt {a : Nat} (h : a ≤ 1000000000) : ¬ nI a > 1000000000 := Int32.not_lt.mpr (nI_le (b := 1000000000) h (by omega))
set_option maxRecDepth 20000 in
set_option maxHeartbeats 4000000 in
theorem c9_tick1 {w : Wp} (hf : Fit sh0 w) {σ : Mm} {d : Nat} {M : Nat → Int32} (hd : σ.1 67 8 = nI d) (hd4 : d ≤ 423) {L r c : Nat} (hI : Ck M L r c) (hc : c + 1 ≤ 1000000000) {LN : (Nat → Nat) × Nat} (hLN : tkLn M L = LN) {M2 : Nat → Int32} (hM2 : tickM M L r = M2) : Ct sh0 w 7 mX9_ticksOf [.ref 67, .int 1] (sM σ d M) (fun r' σ' => ∃ fl nl f1 f2, r' = some (.int (nI LN.2)) ∧ σ' = sM (sHd (sLn σ fl nl) f1 f2 LN.2) d M2 ∧ ∀ j, j < LN.2 → f1 j = nI (LN.1 j)) := by
  have h := c9_ticksOf hf hd hd4 hI.1 (k := 1) (m := 1) rfl (by omega) (by rw [hI.2]; show ¬ nI c + 1 > _; rw [nI_1]; exact nI_ngt hc)
  have e : tks L 1 (M, r, ([] : List (Nat × Int32))) = (M2, tkR M L r, hl1 LN.1 (fun _ => M 6 + 1) LN.2) := by
    unfold tks
    rw [itr_succ]
    show tk1 L (M, r, []) = _
    unfold tk1
    rw [hM2, hLN, List.nil_append]
  rw [e] at h
  refine Met_mono h (fun r' σ' hq => ?_)
  obtain ⟨fl, nl, f1, f2, q1, q2, q3⟩ := hq
  rw [show (M2, tkR M L r, hl1 LN.1 (fun _ => M 6 + 1) LN.2).2.2.length = LN.2 from hl1_len _ _ _] at q1 q2
  refine ⟨fl, nl, f1, f2, q1, q2, fun j hj => ?_⟩
  have := (q3 j (by rw [show (M2, tkR M L r, hl1 LN.1 (fun _ => M 6 + 1) LN.2).2.2.length = LN.2 from hl1_len _ _ _]; exact hj)).1
  rw [this]
  show nI ((hl1 LN.1 (fun _ => M 6 + 1) LN.2).getD j (0, 0)).1 = _
  unfold hl1
  rw [List.getD_eq_getElem?_getD, List.getElem?_map, List.getElem?_range hj]
  rfl
