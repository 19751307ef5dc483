theorem leap_lo {M : Nat → Int32} {L r j : Nat} {v : Int32} (h : j < 391) (h8 : j ≠ 8) : leapM M L r v j = ringM (lpS M v).1 L r (lpS M v).2.1 (lpS M v).2.2 j := by
  unfold leapM
  exact Lo_layAll j h h8
theorem leap_hT {M : Nat → Int32} {L r : Nat} {v : Int32} {τ : Mm} (hC : Cv M L r) (hW : WRel 2 (leapM M L r v) L τ) (hd : ∀ j, j < (lpS M v).2.2 → τ.1 (2 + 7 + (lpS M v).2.1 j) 3 = (lpS M v).1 (231 + (lpS M v).2.1 j)) : τ.1 2 3 = (lpS M v).1 6 ∧ ∀ j, j < (lpS M v).2.2 → τ.1 (9 + (lpS M v).2.1 j) 0 = nI ((lpS M v).2.1 j) ∧ τ.1 (9 + (lpS M v).2.1 j) 3 = (lpS M v).1 (231 + (lpS M v).2.1 j) ∧ τ.1 (9 + (lpS M v).2.1 j) 5 = (lpS M v).1 (263 + (lpS M v).2.1 j) ∧ τ.1 (9 + (lpS M v).2.1 j) 9 = (lpS M v).1 (375 + (lpS M v).2.1 j) + 1 := by
  have hA := Iv_lpS (n := v) hC.1
  obtain ⟨hS, hG, hD⟩ := lpC_all (n := v) hC.2.2.1 hC.2.2.2
  obtain ⟨k1, k2⟩ := ring_kp (L := L) (g := (lpS M v).2.1) (n := (lpS M v).2.2) hA.2.1 hA.2.2.1 (fun k hk => (lpS_T hk).1)
  refine ⟨hW.1.1.trans ((leap_lo (by omega) (by omega)).trans (k1 6 (by unfold Kp; omega))), fun j hj => ?_⟩
  have hg := (lpS_T hj).1
  have ht := hW.2.2 _ hg
  refine ⟨ht.no, hd j hj, ht.grp.trans ((leap_lo (by omega) (by omega)).trans (k1 _ (by unfold Kp; omega))), ht.rang.trans ((leap_lo (by omega) (by omega)).trans ?_)⟩
  have a := ring_agree (L := L) hC.1.1.2.2.1 hA.2.1 hA.2.2.1 hD (fun k hk => lpS_T hk) (375 + (lpS M v).2.1 j) (by omega) (by omega)
  exact a.trans (ringC_rang hD (fun k hk => (lpS_T hk).1) hC.1.1.2.2.1 hj)
theorem leap_ct {M : Nat → Int32} {L r : Nat} {v : Int32} (hC : Cv M L r) {j : Nat} (h1 : 10 ≤ j) (h2 : j < 14) : leapM M L r v j = lp0 M v j := by
  have hA := Iv_lpS (n := v) hC.1
  rw [leap_lo (by omega) (by omega), (ring_kp (L := L) (g := (lpS M v).2.1) (n := (lpS M v).2.2) hA.2.1 hA.2.2.1 (fun k hk => (lpS_T hk).1)).1 j (by unfold Kp; omega)]
  exact lpS_all.2.2 j (by omega)
theorem leap_log {M : Nat → Int32} {L r j : Nat} {v : Int32} (h : j < 215) (h8 : j ≠ 8) (h9 : j ≠ 9) : leapM M L r v j = (tellM (lpS M v).1 r (lpS M v).2.1 (lpS M v).2.2).1 j := (leap_lo (by omega) h8).trans (ring_log h h9)
theorem lpS_lg {M : Nat → Int32} {v : Int32} {j : Nat} (h : j = 7 ∨ 15 ≤ j ∧ j < 215) : (lpS M v).1 j = M j := (lpS_all.2.2 j (by omega)).trans (lp0_ne (by omega) (by omega) (by omega))
set_option maxRecDepth 20000 in
set_option maxHeartbeats 4000000 in
theorem c8_leaps {w : Wp} (hf : Fit sh0 w) {σ : Mm} {M : Nat → Int32} {L r n : Nat} {l : List Int64} {T : Nat → Int32} (hK : KR M L r l T n σ) (hF : Wf M L) (hB : Bo M) (hC : Cv M L r) {c : Nat} (h6 : M 6 = nI c) (hc : c ≤ 1000000000) {k : Int32} (hk : k ≠ 0 ∧ -1000000 ≤ k ∧ k ≤ 1000000) (h64 : C64 M k) : Ct sh0 w 4 mX8_leaps [.ref 1, .int k] σ (fun r' σ' => r' = some (.int (nI (lpS M k).2.2)) ∧ Off 1 62 σ σ' ∧ KR (leapM M L r k) (L) (tellM (lpS M k).1 r (lpS M k).2.1 (lpS M k).2.2).2 (rowH ((hl1 (lpS M k).2.1 (fun j => (lpS M k).1 (231 + (lpS M k).2.1 j)) (lpS M k).2.2).drop ((hl1 (lpS M k).2.1 (fun j => (lpS M k).1 (231 + (lpS M k).2.1 j)) (lpS M k).2.2).length - 20))) (T) (n) σ') := by
  have hL := hF.2.2.1
  have hW := hK.1
  have hA := Iv_lpS (n := k) hC.1
  have hD := (lpC_all (n := k) hC.2.2.1 hC.2.2.2).2.2
  have hle : (lpS M k).2.2 ≤ 16 := lpS_all.1
  refine Ct_of hf (by decide) rfl (Nat.le_of_ble_eq_true rfl) (fun x o rt => ?_)
  have tail : ∀ ρ τ : Mm, Off 2 25 σ ρ → WRel 2 (leapM M L r k) L ρ → LnR 2 (lpS M k).2.1 (lpS M k).2.2 ρ → (∀ j, j < (lpS M k).2.2 → ρ.1 (2 + 7 + (lpS M k).2.1 j) 3 = (lpS M k).1 (231 + (lpS M k).2.1 j)) → Off 1 2 ρ τ → CtR (leapM M L r k) τ → V sh0 w x mX8_leaps (0, 0) 47 [(0, .ref 1), (1, .int k)] [] τ := by
    intro ρ τ ho hWr hln hd ho1 hCt
    have hWt : WRel 2 (leapM M L r k) L τ := hWr.off hL (fun _ _ _ => rfl) ho1 (by omega)
    have hlt : LnR 2 (lpS M k).2.1 (lpS M k).2.2 τ := hln.off ho1 (by omega)
    obtain ⟨g6, gT⟩ := leap_hT hC hWt (fun j hj => (congrFun (ho1 _ (by omega)).1 3).trans (hd j hj))
    have hLgA : LgR (lpS M k).1 r τ := ((hK.2.2.1.off ho (by omega)).off ho1 (by omega)).cg (fun j hj => lpS_lg hj)
    refine V_aload_n o dX8_leaps_47 rfl rfl ?_
    refine V_callV o rt dX8_leaps_48 ml_X8_93 (c8_keep hf hlt hD hLgA g6 gT rfl) rfl rfl rfl (Nat.le_of_ble_eq_true rfl) rfl (fun r_48 σ_48 q_48 => ?_)
    obtain ⟨rfl, ho3, hLg3⟩ := q_48
    have hK3 : KR (leapM M L r k) L (tellM (lpS M k).1 r (lpS M k).2.1 (lpS M k).2.2).2 l T n σ_48 := ⟨hWt.off hL (fun _ _ _ => rfl) ho3 (by omega), hCt.off ho3 (by omega), hLg3.cg (fun j hj => leap_log (by omega) (by omega) (by omega)), ((hK.2.2.2.1.off ho (by omega)).off ho1 (by omega)).off ho3 (by omega), ((hK.2.2.2.2.1.off ho (by omega)).off ho1 (by omega)).off ho3 (by omega), ((hK.2.2.2.2.2.off ho (by omega)).off ho1 (by omega)).off ho3 (by omega)⟩
    have hH : HL (leapM M L r k) (tellM (lpS M k).1 r (lpS M k).2.1 (lpS M k).2.2).2 (hl1 (lpS M k).2.1 (fun j => (lpS M k).1 (231 + (lpS M k).2.1 j)) (lpS M k).2.2) 2 := HL.cg (T := (tellM (lpS M k).1 r (lpS M k).2.1 (lpS M k).2.2).1) (by
      have := HL_tell (c := 2) (hl := []) (v := fun j => (lpS M k).1 (231 + (lpS M k).2.1 j)) hA.2.1 hA.2.2.1 (Or.inr rfl) HL_nil (lpS M k).2.2 (fun j hj => ⟨(lpS_T hj).1, rfl⟩)
      rw [List.nil_append] at this
      exact this) (by omega) (Cv_leap hC).1.2.2.1 (fun j h1 h2 => leap_log (by omega) (by omega) (by omega))
    have hlen : (hl1 (lpS M k).2.1 (fun j => (lpS M k).1 (231 + (lpS M k).2.1 j)) (lpS M k).2.2).length = (lpS M k).2.2 := hl1_len _ _ _
    show V sh0 w x mX8_leaps (0, 0) _ _ (.int (nI (lpS M k).2.2) :: []) _
    refine V_istore_n (ls' := [(3, _), (0, _), (1, _)]) o dX8_leaps_51 rfl (by decide) rfl ?_
    refine V_aload_n o dX8_leaps_52 rfl rfl ?_
    refine V_iload_n o dX8_leaps_53 rfl rfl ?_
    refine V_topI (v' := nI (hl1 (lpS M k).2.1 (fun j => (lpS M k).1 (231 + (lpS M k).2.1 j)) (lpS M k).2.2).length) (by rw [hlen]) ?_
    refine V_iconst (v := 1) o dX8_leaps_54 (by decide) ?_
    refine V_topI (v' := bz (2 = 2)) (bz_t rfl).symm ?_
    refine V_callV o rt dX8_leaps_55 ml_X8_97 (c8_tellLatest hf hK3.2.2.1 (Or.inr rfl) hH (by omega)) rfl rfl rfl (Nat.le_of_ble_eq_true rfl) rfl (fun r_55 σ_55 q_55 => ?_)
    obtain ⟨rfl, ho4, hR4⟩ := q_55
    show V sh0 w x mX8_leaps (0, 0) _ _ [] _
    refine V_iload_n o dX8_leaps_58 rfl rfl ?_
    refine V_iret o rt dX8_leaps_59 rfl rfl ?_
    exact ⟨rfl, (((ho.wd (by omega) (by omega)).tr (ho1.wd (by omega) (by omega))).tr (ho3.wd (by omega) (by omega))).tr (ho4.wd (by omega) (by omega)), hK3.rw hL ho4 hR4⟩
  refine V_aload_n o dX8_leaps_0 rfl rfl ?_
  refine V_iload_n o dX8_leaps_1 rfl rfl ?_
  refine V_cVi o rt dX8_leaps_2 ml_X8_101 (c8_refL hf hW h6 hc hk) rfl rfl rfl (Nat.le_of_ble_eq_true rfl) rfl ?_
  refine V_istore_n (ls' := [(2, _), (0, _), (1, _)]) o dX8_leaps_5 rfl (by decide) rfl ?_
  refine V_iload_n o dX8_leaps_6 rfl rfl ?_
  refine V_topI (v' := 0) (if_pos h64) ?_
  refine V_if_ge (tgt := 12) o dX8_leaps_7 (by decide) (fun c_7 => ?_) (fun c_7 => False.elim (absurd (Int32.le_refl 0) c_7))
  refine V_aload_n o dX8_leaps_12 rfl rfl ?_
  refine V_getR (t := 2) o dX8_leaps_13 rfl fl_X8_10 rfl ?_
  refine V_iload_n o dX8_leaps_16 rfl rfl ?_
  refine V_callV o rt dX8_leaps_17 ml_X8_104 (c7_leap_2 hf hW hC) rfl rfl rfl (Nat.le_of_ble_eq_true rfl) rfl (fun r_17 σ_17 q_17 => ?_)
  obtain ⟨rfl, ho2, hln, hd2, hW2⟩ := q_17
  show V sh0 w x mX8_leaps (0, 0) _ _ [] _
  refine V_iload_n o dX8_leaps_20 rfl rfl ?_
  refine V_if_le (tgt := 37) o dX8_leaps_21 (by decide) (fun c_21 => ?_) (fun c_21 => ?_)
  · refine V_aload_n o dX8_leaps_37 rfl rfl ?_
    refine V_dup o dX8_leaps_38 rfl ?_
    refine V_getI o dX8_leaps_39 rfl fl_X8_111 rfl ?_
    refine V_topI (v' := M 12) ((congrFun (ho2 1 (by omega)).1 11).trans hK.2.1.2.2.2) ?_
    refine V_iload_n o dX8_leaps_42 rfl rfl ?_
    refine V_isub o dX8_leaps_43 ?_
    refine V_putI o dX8_leaps_44 rfl fl_X8_111 rfl rfl rfl ?_
    have hpos : ¬ k > 0 := Int32.not_lt.mpr c_21
    have hneg : ¬ k ≥ 0 := fun q => hk.1 (Int32.le_antisymm c_21 q)
    have e1 := (ho2 1 (by omega)).1
    refine V_sub (by simp) (tail σ_17 (wI σ_17 1 11 (M 12 - k)) ho2 hW2 hln hd2 (Off.rf.wI (by omega) (by omega)) ⟨?_, ?_, ?_, ?_⟩)
    · rw [wI_nj (by decide), e1, leap_ct hC (by omega) (by omega), lp0_ne (by omega) (by omega) (by omega)]; exact hK.2.1.1
    · rw [wI_nj (by decide), e1, leap_ct hC (by omega) (by omega), lp0_ne (by omega) (by omega) (by omega)]; exact hK.2.1.2.1
    · rw [wI_nj (by decide), e1, leap_ct hC (by omega) (by omega), lp0, if_neg hpos, uM_ne _ _ (by omega), uM_ne _ _ (by omega)]; exact hK.2.1.2.2.1
    · rw [wI_at, leap_ct hC (by omega) (by omega), lp0, if_neg hpos, uM_self, uM_ne _ _ (by omega), abI, if_neg hneg, Int32.sub_eq_add_neg]
  · refine V_aload_n o dX8_leaps_24 rfl rfl ?_
    refine V_dup o dX8_leaps_25 rfl ?_
    refine V_getI o dX8_leaps_26 rfl fl_X8_108 rfl ?_
    refine V_topI (v' := M 11) ((congrFun (ho2 1 (by omega)).1 10).trans hK.2.1.2.2.1) ?_
    refine V_iload_n o dX8_leaps_29 rfl rfl ?_
    refine V_iadd o dX8_leaps_30 ?_
    refine V_putI o dX8_leaps_31 rfl fl_X8_108 rfl rfl rfl ?_
    refine V_goto (tgt := 47) o dX8_leaps_34 (by decide) ?_
    have hpos : k > 0 := Int32.not_le.mp c_21
    have e1 := (ho2 1 (by omega)).1
    refine V_sub (by simp) (tail σ_17 (wI σ_17 1 10 (M 11 + k)) ho2 hW2 hln hd2 (Off.rf.wI (by omega) (by omega)) ⟨?_, ?_, ?_, ?_⟩)
    · rw [wI_nj (by decide), e1, leap_ct hC (by omega) (by omega), lp0_ne (by omega) (by omega) (by omega)]; exact hK.2.1.1
    · rw [wI_nj (by decide), e1, leap_ct hC (by omega) (by omega), lp0_ne (by omega) (by omega) (by omega)]; exact hK.2.1.2.1
    · rw [wI_at, leap_ct hC (by omega) (by omega), lp0, if_pos hpos, uM_self, uM_ne _ _ (by omega), abI, if_pos (Int32.le_of_lt hpos)]
    · rw [wI_nj (by decide), e1, leap_ct hC (by omega) (by omega), lp0, if_pos hpos, uM_ne _ _ (by omega), uM_ne _ _ (by omega)]; exact hK.2.1.2.2.2
set_option maxRecDepth 20000 in
set_option maxHeartbeats 4000000 in
theorem c8_leaps_end {w : Wp} (hf : Fit sh0 w) {σ : Mm} {M : Nat → Int32} {L r n : Nat} {l : List Int64} {T : Nat → Int32} (hK : KR M L r l T n σ) (hF : Wf M L) (hB : Bo M) {c : Nat} (h6 : M 6 = nI c) (hc : c ≤ 1000000000) {k : Int32} (hk : k ≠ 0 ∧ -1000000 ≤ k ∧ k ≤ 1000000) (h64 : ¬ C64 M k) : Ct sh0 w 4 mX8_leaps [.ref 1, .int k] σ (fun r' σ' => r' = some (.int (-4)) ∧ Off 1 62 σ σ' ∧ KR (M) (L) r (l) (T) (n) σ') := by
  have hL := hF.2.2.1
  have hW := hK.1
  refine Ct_of hf (by decide) rfl (Nat.le_of_ble_eq_true rfl) (fun x o rt => ?_)
  refine V_aload_n o dX8_leaps_0 rfl rfl ?_
  refine V_iload_n o dX8_leaps_1 rfl rfl ?_
  refine V_cVi o rt dX8_leaps_2 ml_X8_101 (c8_refL hf hW h6 hc hk) rfl rfl rfl (Nat.le_of_ble_eq_true rfl) rfl ?_
  refine V_topI (v' := -4) (if_neg h64) ?_
  refine V_istore_n (ls' := [(2, _), (0, _), (1, _)]) o dX8_leaps_5 rfl (by decide) rfl ?_
  refine V_iload_n o dX8_leaps_6 rfl rfl ?_
  refine V_if_ge (tgt := 12) o dX8_leaps_7 (by decide) (fun c_7 => False.elim (absurd c_7 (by decide))) (fun c_7 => ?_)
  refine V_iload_n o dX8_leaps_10 rfl rfl ?_
  refine V_iret o rt dX8_leaps_11 rfl rfl ?_
  exact ⟨rfl, Off.rf, hK⟩
set_option maxRecDepth 20000 in
set_option maxHeartbeats 4000000 in
theorem c8_leaps_no {w : Wp} (hf : Fit sh0 w) {σ : Mm} {M : Nat → Int32} {L r n : Nat} {l : List Int64} {T : Nat → Int32} (hK : KR M L r l T n σ) (hF : Wf M L) (hB : Bo M) {k : Int32} (hk : ¬ (k ≠ 0 ∧ -1000000 ≤ k ∧ k ≤ 1000000)) : Ct sh0 w 4 mX8_leaps [.ref 1, .int k] σ (fun r' σ' => r' = some (.int (-1)) ∧ Off 1 62 σ σ' ∧ KR (M) (L) r (l) (T) (n) σ') := by
  have hL := hF.2.2.1
  have hW := hK.1
  refine Ct_of hf (by decide) rfl (Nat.le_of_ble_eq_true rfl) (fun x o rt => ?_)
  refine V_aload_n o dX8_leaps_0 rfl rfl ?_
  refine V_iload_n o dX8_leaps_1 rfl rfl ?_
  refine V_cVi o rt dX8_leaps_2 ml_X8_101 (c8_refL_no hf hk) rfl rfl rfl (Nat.le_of_ble_eq_true rfl) rfl ?_
  refine V_istore_n (ls' := [(2, _), (0, _), (1, _)]) o dX8_leaps_5 rfl (by decide) rfl ?_
  refine V_iload_n o dX8_leaps_6 rfl rfl ?_
  refine V_if_ge (tgt := 12) o dX8_leaps_7 (by decide) (fun c_7 => False.elim (absurd c_7 (by decide))) (fun c_7 => ?_)
  refine V_iload_n o dX8_leaps_10 rfl rfl ?_
  refine V_iret o rt dX8_leaps_11 rfl rfl ?_
  exact ⟨rfl, Off.rf, hK⟩
