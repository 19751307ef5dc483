theorem Bo_rg {M : Nat → Int32} {t : Nat} (ht : t < 16) (h : Bo M) : Bo (rgC M t) := fun u hu => by
  rw [rgC_ne (t := t) (j := 327 + u) (by omega) (by omega) (by omega) (by omega) (by omega) (by omega), rgC_ne (t := t) (j := 343 + u) (by omega) (by omega) (by omega) (by omega) (by omega) (by omega)]
  refine ⟨?_, (h u hu).2⟩
  unfold rgC
  split
  · unfold uM
    split
    · exact Or.inl rfl
    · rw [if_neg (by omega)]; exact (h u hu).1
  · rw [cmS_ne (by omega) (by omega) (by omega), cmT_ne (by omega), uM_ne _ _ (by omega)]
    exact (h u hu).1
theorem Wf_rg {M : Nat → Int32} {L t : Nat} (h : Wf M L) : Wf (rgC M t) L := Wf_same h (fun j hj => rgC_ne (by omega) (by omega) (by omega) (by omega) (by omega) (by omega))
theorem Bo_mov1 {M : Nat → Int32} {L t : Nat} (h : Bo M) : Bo (mov1M M L t) := Bo_same h (fun j h1 h2 _ => mov1M_ne (by omega) (by omega))
theorem cLv_at {M : Nat → Int32} {t : Nat} {v : Int32} (hB : M (343 + t) = 0 ∨ M (343 + t) = 1) (h : cLv M t = v) (hv : v ≠ -2) : M (343 + t) = 0 ∧ M (391 + t) = v := by
  unfold cLv at h
  rcases hB with e | e
  · rw [if_neg (by rw [e]; decide)] at h
    exact ⟨e, h⟩
  · rw [if_pos e] at h
    exact absurd h.symm hv
theorem cLv_0 {M : Nat → Int32} {t : Nat} (h : M (343 + t) = 0) : cLv M t = M (391 + t) := by unfold cLv; rw [if_neg (by rw [h]; decide)]
theorem cSl_0 {M : Nat → Int32} {t : Nat} (h : M (343 + t) = 0) : cSl M t = M (407 + t) := by unfold cSl; rw [if_neg (by rw [h]; decide)]
theorem nI_ne_m2 {k : Nat} (h : k < 2147483648) : nI k ≠ -2 := fun q => by
  have h1 := nI_le (a := 0) (b := k) (Nat.zero_le _) h
  rw [q] at h1
  exact absurd h1 (by decide)
theorem div1 (a : Int32) : a / 1 = a := Int32.div_one
theorem WRel_mov1 {b L t : Nat} {M : Nat → Int32} {σ : Mm} (h : WRel b M L σ) (hL : L ≤ 4) (ht : t < 16) (hp : M (343 + t) = 0) : WRel b (mov1M M L t) L (wI (laySg b M L t σ) b 5 (M 8 + 1)) := by
  have h2 := WRel_mov (v := layM M L t 8 + 1) (WRel_lay hL ht (h.pre ht) hp) hL
  rw [show layM M L t 8 + 1 = M 8 + 1 by rw [layM_ne (by omega)]] at h2
  unfold mov1M
  rw [show layM M L t 8 + 1 = M 8 + 1 by rw [layM_ne (by omega)]]
  exact h2
set_option maxRecDepth 20000 in
set_option maxHeartbeats 4000000 in
theorem c7_ringLine_2 {w : Wp} (hf : Fit sh0 w) {σ : Mm} {M : Nat → Int32} {L : Nat} (hW0 : WRel 2 M L σ) (hF0 : Wf M L) (hB0 : Bo M) {g : Nat → Nat} {n : Nat} (hln : LnR 2 g n σ) (hD : Dg g n) (hg : ∀ k, k < n → g k < 16 ∧ M (343 + g k) = 0 ∧ Pq M (g k)) {R : Nat → Int32} (hR0 : layC (ringC M g n) L g n = R) : Ct sh0 w 2 mX7_ringLine [.ref 2] σ (fun r' σ' => r' = none ∧ OffL 2 σ σ' ∧ (∀ j, j < n → σ'.1 (2 + 7 + g j) 3 = M (231 + g j)) ∧ WRel 2 R L σ') := by
  have hL := hF0.2.2.1
  have hn16 := hln.2.1
  unfold layC at hR0
  obtain ⟨R1, hR1⟩ : ∃ R1, ringC M g n = R1 := ⟨_, rfl⟩
  rw [hR1] at hR0
  unfold ringC at hR1
  refine Ct_of hf (by decide) rfl (Nat.le_of_ble_eq_true rfl) (fun x o rt => ?_)
  have loop2 : ∀ m k (τ : Mm) (N : Nat → Int32), k + m = n → OffL 2 σ τ → (∀ j, j < n → τ.1 (2 + 7 + g j) 3 = M (231 + g j)) → WRel 2 N L τ → Wf N L → Bo N → (∀ j, j < n → N (343 + g j) = 0) → itr (fun k M => if isT M (g k) then layM M L (g k) else M) k m N = R → V sh0 w x mX7_ringLine (0, 0) 39 [(1, .int (nI k)), (0, .ref 2)] [] τ := by
    intro m
    induction m with
    | zero =>
      intro k τ N hkm ho hd hW hF hB hp hR
      have hn := hln.offL ho
      have hs : N = R := hR
      subst hs
      refine V_iload_n o dX7_ringLine_39 rfl rfl ?_
      refine V_aload_n o dX7_ringLine_40 rfl rfl ?_
      refine V_getR (t := 7) o dX7_ringLine_41 rfl fl_X7_27 rfl ?_
      refine V_getIE (v := nI (n)) o dX7_ringLine_44 rfl fl_X7_131 rfl hn.1 ?_
      refine V_icmp_ge (tgt := 81) o dX7_ringLine_47 (by decide) (fun c_47 => ?_) (fun c_47 => False.elim (c_47 (nI_le (by omega) (by omega))))
      refine V_ret o rt dX7_ringLine_81 rfl ?_
      exact ⟨rfl, ho, hd, hW⟩
    | succ m ih =>
      intro k τ N hkm ho hd hW hF hB hp hR
      have hk : k < n := by omega
      have hgk := (hg k hk).1
      have hn := hln.offL ho
      rw [itr_succ] at hR
      refine V_iload_n o dX7_ringLine_39 rfl rfl ?_
      refine V_aload_n o dX7_ringLine_40 rfl rfl ?_
      refine V_getR (t := 7) o dX7_ringLine_41 rfl fl_X7_27 rfl ?_
      refine V_getIE (v := nI (n)) o dX7_ringLine_44 rfl fl_X7_131 rfl hn.1 ?_
      refine V_icmp_ge (tgt := 81) o dX7_ringLine_47 (by decide) (fun c_47 => False.elim (absurd c_47 (nI_ge (by omega) (by omega)))) (fun c_47 => ?_)
      refine V_aload_n o dX7_ringLine_50 rfl rfl ?_
      refine V_getR (t := 7) o dX7_ringLine_51 rfl fl_X7_27 rfl ?_
      refine V_iload_n o dX7_ringLine_54 rfl rfl ?_
      refine V_cVr o rt dX7_ringLine_55 ml_X7_134 (c1_at_2 hf hn hk) rfl rfl rfl (Nat.le_of_ble_eq_true rfl) rfl ?_
      refine V_astore_n (ls' := [(2, _), (1, _), (0, _)]) o dX7_ringLine_58 rfl (by decide) rfl ?_
      refine V_aload_n o dX7_ringLine_59 rfl rfl ?_
      refine V_ifnull_r o dX7_ringLine_60 ?_
      refine V_aload_n o dX7_ringLine_63 rfl rfl ?_
      refine V_getI o dX7_ringLine_64 (kT9 (g k) hgk) fl_X7_58 (rT9 hgk) ?_
      refine V_topI (v' := N (215 + g k)) (hW.2.2 (g k) hgk).live ?_
      refine V_if_eq (tgt := 75) o dX7_ringLine_67 (by decide) (fun c_67 => ?_) (fun c_67 => ?_)
      · refine V_iincV (v := nI (k + 1)) (ls' := [(1, _), (2, _), (0, _)]) o dX7_ringLine_75 rfl (ninc 1 rfl) (by decide) rfl ?_
        refine V_goto (tgt := 39) o dX7_ringLine_78 (by decide) ?_
        rw [if_neg (fun q => absurd (c_67.symm.trans q) (by decide))] at hR
        exact V_sub (by simp) (ih (k + 1) τ N (by omega) ho hd hW hF hB hp hR)
      · refine V_aload_n o dX7_ringLine_70 rfl rfl ?_
        refine V_aload_n o dX7_ringLine_71 rfl rfl ?_
        refine V_cVv o rt dX7_ringLine_72 ml_X7_89 (c7_lay_2 hf hgk (hW.pre hgk) hF) rfl rfl rfl (Nat.le_of_ble_eq_true rfl) rfl ?_
        refine V_iincV (v := nI (k + 1)) (ls' := [(1, _), (2, _), (0, _)]) o dX7_ringLine_75 rfl (ninc 1 rfl) (by decide) rfl ?_
        refine V_goto (tgt := 39) o dX7_ringLine_78 (by decide) ?_
        have hT : isT N (g k) := (hB (g k) hgk).1.resolve_left c_67
        rw [if_pos hT] at hR
        exact V_sub (by simp) (ih (k + 1) (laySg 2 N L (g k) τ) (layM N L (g k)) (by omega) (OffL_lay ho hgk) (fun j hj => ((Dr_lay Dr.rf) (g j) (hg j hj).1).trans (hd j hj)) (WRel_lay hL hgk (hW.pre hgk) (hp k hk)) (Wf_lay hF) (Bo_lay hB) (fun j hj => (layM_ne (by have := (hg j hj).1; omega)).trans (hp j hj)) hR)
  have loop : ∀ m k (τ : Mm) (N : Nat → Int32), k + m = n → OffL 2 σ τ → (∀ j, j < k → τ.1 (2 + 7 + g j) 3 = M (231 + g j)) → WRel 2 N L τ → Wf N L → Bo N → (∀ j, j < n → N (343 + g j) = 0) → (∀ j, k ≤ j → j < n → N (231 + g j) = M (231 + g j) ∧ Pq N (g j)) → itr (fun k M => rgC M (g k)) k m N = R1 → V sh0 w x mX7_ringLine (0, 0) 2 [(1, .int (nI k)), (0, .ref 2)] [] τ := by
    intro m
    induction m with
    | zero =>
      intro k τ N hkm ho hd hW hF hB hp hq hR
      have hn := hln.offL ho
      have hs : N = R1 := hR
      have hkn : k = n := by omega
      subst hs
      refine V_iload_n o dX7_ringLine_2 rfl rfl ?_
      refine V_aload_n o dX7_ringLine_3 rfl rfl ?_
      refine V_getR (t := 7) o dX7_ringLine_4 rfl fl_X7_27 rfl ?_
      refine V_getIE (v := nI (n)) o dX7_ringLine_7 rfl fl_X7_131 rfl hn.1 ?_
      refine V_icmp_ge (tgt := 37) o dX7_ringLine_10 (by decide) (fun c_10 => ?_) (fun c_10 => False.elim (c_10 (nI_le (by omega) (by omega))))
      refine V_iconst (v := 0) o dX7_ringLine_37 (by decide) ?_
      refine V_istore_n (ls' := [(1, _), (0, _)]) o dX7_ringLine_38 rfl (by decide) rfl ?_
      exact V_sub (by simp; rfl) (loop2 n 0 τ N (by omega) ho (fun j hj => hd j (by omega)) hW hF hB hp hR0)
    | succ m ih =>
      intro k τ N hkm ho hd hW hF hB hp hq hR
      have hk : k < n := by omega
      have hgk := (hg k hk).1
      have hn := hln.offL ho
      rw [itr_succ] at hR
      have hne : ∀ j, j < n → j ≠ k → g j ≠ g k := fun j hj hjk q => hjk (hD j k hj hk q)
      refine V_iload_n o dX7_ringLine_2 rfl rfl ?_
      refine V_aload_n o dX7_ringLine_3 rfl rfl ?_
      refine V_getR (t := 7) o dX7_ringLine_4 rfl fl_X7_27 rfl ?_
      refine V_getIE (v := nI (n)) o dX7_ringLine_7 rfl fl_X7_131 rfl hn.1 ?_
      refine V_icmp_ge (tgt := 37) o dX7_ringLine_10 (by decide) (fun c_10 => False.elim (absurd c_10 (nI_ge (by omega) (by omega)))) (fun c_10 => ?_)
      refine V_aload_n o dX7_ringLine_13 rfl rfl ?_
      refine V_getR (t := 7) o dX7_ringLine_14 rfl fl_X7_27 rfl ?_
      refine V_iload_n o dX7_ringLine_17 rfl rfl ?_
      refine V_cVr o rt dX7_ringLine_18 ml_X7_134 (c1_at_2 hf hn hk) rfl rfl rfl (Nat.le_of_ble_eq_true rfl) rfl ?_
      refine V_astore_n (ls' := [(2, _), (1, _), (0, _)]) o dX7_ringLine_21 rfl (by decide) rfl ?_
      refine V_aload_n o dX7_ringLine_22 rfl rfl ?_
      refine V_ifnull_r o dX7_ringLine_23 ?_
      refine V_aload_n o dX7_ringLine_26 rfl rfl ?_
      refine V_aload_n o dX7_ringLine_27 rfl rfl ?_
      refine V_callV o rt dX7_ringLine_28 ml_X7_137 (c7_ring_2 hf hW hL hgk (hq k (Nat.le_refl k) hk).2 rfl) rfl rfl rfl (Nat.le_of_ble_eq_true rfl) rfl (fun r_28 σ_28 q_28 => ?_)
      obtain ⟨rfl, ho2, hd2, h4⟩ := q_28
      show V sh0 w x mX7_ringLine (0, 0) _ _ [] _
      refine V_iincV (v := nI (k + 1)) (ls' := [(1, _), (2, _), (0, _)]) o dX7_ringLine_31 rfl (ninc 1 rfl) (by decide) rfl ?_
      refine V_goto (tgt := 2) o dX7_ringLine_34 (by decide) ?_
      refine V_sub (by simp) (ih (k + 1) σ_28 (rgC N (g k)) (by omega) (ho.tr ho2) (fun j hj => ?_) h4 (Wf_rg hF) (Bo_rg hgk hB) (fun j hj => ?_) (fun j h1 h2 => ?_) hR)
      · by_cases e : j = k
        · rw [e, hd2.2]
          exact (hq k (Nat.le_refl k) hk).1
        · rw [hd2.1 (g j) (hg j (by omega)).1 (hne j (by omega) e)]
          exact hd j (by omega)
      · have hgj := (hg j hj).1
        rw [rgC_ne (by omega) (by omega) (by omega) (by omega) (by omega) (by omega)]
        exact hp j hj
      · have hgj := (hg j h2).1
        have := hne j h2 (by omega)
        exact ⟨(rgC_ne (by omega) (by omega) (by omega) (by omega) (by omega) (by omega)).trans (hq j (by omega) h2).1, Pq_same (hq j (by omega) h2).2 (rgC_ne (by omega) (by omega) (by omega) (by omega) (by omega) (by omega))⟩
  refine V_iconst (v := 0) o dX7_ringLine_0 (by decide) ?_
  refine V_istore_n (ls' := [(1, _), (0, _)]) o dX7_ringLine_1 rfl (by decide) rfl ?_
  exact V_sub (by simp; rfl) (loop n 0 σ M (by omega) OffL.rf (fun j hj => absurd hj (Nat.not_lt_zero j)) hW0 hF0 hB0 (fun j hj => (hg j hj).2.1) (fun j _ hj => ⟨rfl, (hg j hj).2.2⟩) hR1)
set_option maxRecDepth 20000 in
set_option maxHeartbeats 4000000 in
theorem c7_bringFar_2 {w : Wp} (hf : Fit sh0 w) {σ : Mm} {M : Nat → Int32} {L : Nat} (hW0 : WRel 2 M L σ) (hB0 : Bo M) (hF0 : Wf M L) {clk : Int32} (hc0 : M 6 = clk) {R : Nat → Int32} (hR0 : farM M L clk = R) : Ct sh0 w 2 mX7_bringFarOnes [.ref 2] σ (fun r' σ' => r' = none ∧ OffL 2 σ σ' ∧ Dr 2 σ σ' ∧ WRel 2 R L σ') := by
  have hL := hF0.2.2.1
  unfold farM at hR0
  refine Ct_of hf (by decide) rfl (Nat.le_of_ble_eq_true rfl) (fun x o rt => ?_)
  have loop : ∀ n t (τ : Mm) (N : Nat → Int32), t + n = 16 → OffL 2 σ τ → Dr 2 σ τ → WRel 2 N L τ → Bo N → Wf N L → N 6 = clk → itr (farF L clk) t n N = R → V sh0 w x mX7_bringFarOnes (0, 0) 2 [(1, .int (nI t)), (0, .ref 2)] [] τ := by
    intro n
    induction n with
    | zero =>
      intro t τ N htn ho hD hW hB hF hc hR
      have h16 : t = 16 := by omega
      have hs : N = R := hR
      subst hs
      refine V_iload_n o dX7_bringFarOnes_2 rfl rfl ?_
      refine V_bipush (v := 16) o dX7_bringFarOnes_3 (by decide) ?_
      refine V_icmp_ge (tgt := 66) o dX7_bringFarOnes_5 (by decide) (fun c_5 => ?_) (fun c_5 => False.elim (c_5 (by rw [h16]; decide)))
      refine V_ret o rt dX7_bringFarOnes_66 rfl ?_
      exact ⟨rfl, ho, hD, hW⟩
    | succ n ih =>
      intro t τ N htn ho hD hW hB hF hc hR
      have ht : t < 16 := by omega
      rw [itr_succ, farF] at hR
      refine V_iload_n o dX7_bringFarOnes_2 rfl rfl ?_
      refine V_bipush (v := 16) o dX7_bringFarOnes_3 (by decide) ?_
      refine V_icmp_ge (tgt := 66) o dX7_bringFarOnes_5 (by decide) (fun c_5 => False.elim (absurd c_5 (nI_ge (b := 16) (by omega) (by omega)))) (fun c_5 => ?_)
      refine V_aload_n o dX7_bringFarOnes_8 rfl rfl ?_
      refine V_iload_n o dX7_bringFarOnes_9 rfl rfl ?_
      rcases (hB t ht).1 with hG0 | hG
      · refine V_cVn o rt dX7_bringFarOnes_10 ml_X7_62 (c7_find_n_2 hf hW ht hG0) rfl rfl rfl (Nat.le_of_ble_eq_true rfl) rfl ?_
        refine V_astore_nN (ls' := [(2, _), (1, _), (0, _)]) o dX7_bringFarOnes_13 rfl (by decide) rfl ?_
        refine V_aload_nN o dX7_bringFarOnes_14 rfl rfl ?_
        refine V_ifnull_n (tgt := 60) o dX7_bringFarOnes_15 (by decide) ?_
        refine V_iincV (v := nI (t + 1)) (ls' := [(1, _), (2, _), (0, _)]) o dX7_bringFarOnes_60 rfl (ninc 1 rfl) (by decide) rfl ?_
        refine V_goto (tgt := 2) o dX7_bringFarOnes_63 (by decide) ?_
        rw [if_neg (fun q => absurd (hG0.symm.trans q.1.1) (by decide))] at hR
        exact V_sub (by simp) (ih (t + 1) τ N (by omega) ho hD hW hB hF hc hR)
      · refine V_cVr o rt dX7_bringFarOnes_10 ml_X7_62 (c7_find_2 hf hW ht hG) rfl rfl rfl (Nat.le_of_ble_eq_true rfl) rfl ?_
        refine V_astore_n (ls' := [(2, _), (1, _), (0, _)]) o dX7_bringFarOnes_13 rfl (by decide) rfl ?_
        refine V_aload_n o dX7_bringFarOnes_14 rfl rfl ?_
        refine V_ifnull_r o dX7_bringFarOnes_15 ?_
        refine V_aload_n o dX7_bringFarOnes_18 rfl rfl ?_
        refine V_getI o dX7_bringFarOnes_19 (kT9 t ht) fl_X7_75 (rT9 ht) ?_
        refine V_topI (v' := cLv N t) ((hW.2.2 t ht).lv (hB t ht).2.2) ?_
        refine V_iconst (v := -1) o dX7_bringFarOnes_22 (by decide) ?_
        refine V_icmp_ne (tgt := 60) o dX7_bringFarOnes_23 (by decide) (fun c_23 => ?_) (fun c_23 => ?_)
        · refine V_iincV (v := nI (t + 1)) (ls' := [(1, _), (2, _), (0, _)]) o dX7_bringFarOnes_60 rfl (ninc 1 rfl) (by decide) rfl ?_
          refine V_goto (tgt := 2) o dX7_bringFarOnes_63 (by decide) ?_
          rw [if_neg (fun q => c_23 ((cLv_0 q.1.2).trans q.2.1))] at hR
          exact V_sub (by simp) (ih (t + 1) τ N (by omega) ho hD hW hB hF hc hR)
        · refine V_aload_n o dX7_bringFarOnes_26 rfl rfl ?_
          refine V_getI o dX7_bringFarOnes_27 (kT9 t ht) fl_X7_72 (rT9 ht) ?_
          refine V_topI (v' := N (231 + t)) (hW.2.2 t ht).due ?_
          refine V_aload_n o dX7_bringFarOnes_30 rfl rfl ?_
          refine V_getI o dX7_bringFarOnes_31 rfl fl_X7_45 rfl ?_
          refine V_topI (v' := clk) (hW.1.1.trans hc) ?_
          refine V_isub o dX7_bringFarOnes_34 ?_
          refine V_aload_n o dX7_bringFarOnes_35 rfl rfl ?_
          refine V_getR (t := 3) o dX7_bringFarOnes_36 rfl fl_X7_12 rfl ?_
          refine V_getI o dX7_bringFarOnes_39 rfl fl_X7_95 rfl ?_
          refine V_topI (v' := spanM N L) hW.2.1.2.1 ?_
          refine V_icmp_ge (tgt := 60) o dX7_bringFarOnes_42 (by decide) (fun c_42 => ?_) (fun c_42 => ?_)
          · refine V_iincV (v := nI (t + 1)) (ls' := [(1, _), (2, _), (0, _)]) o dX7_bringFarOnes_60 rfl (ninc 1 rfl) (by decide) rfl ?_
            refine V_goto (tgt := 2) o dX7_bringFarOnes_63 (by decide) ?_
            rw [if_neg (fun q => absurd c_42 (Int32.not_le.mpr q.2.2))] at hR
            exact V_sub (by simp) (ih (t + 1) τ N (by omega) ho hD hW hB hF hc hR)
          · refine V_aload_n o dX7_bringFarOnes_45 rfl rfl ?_
            refine V_aload_n o dX7_bringFarOnes_46 rfl rfl ?_
            refine V_cVv o rt dX7_bringFarOnes_47 ml_X7_89 (c7_lay_2 hf ht (hW.pre ht) hF) rfl rfl rfl (Nat.le_of_ble_eq_true rfl) rfl ?_
            refine V_aload_n o dX7_bringFarOnes_50 rfl rfl ?_
            refine V_dup o dX7_bringFarOnes_51 rfl ?_
            refine V_getI o dX7_bringFarOnes_52 rfl fl_X7_52 rfl ?_
            refine V_topI (v' := N 8) ((congrFun (laySg_ne (by omega)) 5).trans hW.1.2.2.1) ?_
            refine V_iconst (v := 1) o dX7_bringFarOnes_55 (by decide) ?_
            refine V_iadd o dX7_bringFarOnes_56 ?_
            refine V_putI o dX7_bringFarOnes_57 rfl fl_X7_52 rfl rfl rfl ?_
            refine V_iincV (v := nI (t + 1)) (ls' := [(1, _), (2, _), (0, _)]) o dX7_bringFarOnes_60 rfl (ninc 1 rfl) (by decide) rfl ?_
            refine V_goto (tgt := 2) o dX7_bringFarOnes_63 (by decide) ?_
            obtain ⟨hp, hlv⟩ := cLv_at (hB t ht).2.2 c_23 (by decide)
            rw [if_pos ⟨⟨hG, hp⟩, hlv, Int32.not_le.mp c_42⟩] at hR
            exact V_sub (by simp) (ih (t + 1) (wI (laySg 2 N L t τ) 2 5 (N 8 + 1)) (mov1M N L t) (by omega) ((OffL_lay ho ht).wI (by omega) (by omega) (by omega) (by omega)) ((Dr_lay hD).wI (by decide)) (WRel_mov1 hW hL ht hp) (Bo_mov1 hB) (Wf_mov1 hF) ((mov1M_ne (by omega) (by omega)).trans hc) hR)
  refine V_iconst (v := 0) o dX7_bringFarOnes_0 (by decide) ?_
  refine V_istore_n (ls' := [(1, _), (0, _)]) o dX7_bringFarOnes_1 rfl (by decide) rfl ?_
  exact V_sub (by simp; rfl) (loop 16 0 σ M (by omega) OffL.rf Dr.rf hW0 hB0 hF0 hc0 hR0)
set_option maxRecDepth 20000 in
set_option maxHeartbeats 4000000 in
theorem c7_moveFrom_2 {w : Wp} (hf : Fit sh0 w) {σ : Mm} {M : Nat → Int32} {L : Nat} (hW0 : WRel 2 M L σ) (hB0 : Bo M) (hF0 : Wf M L) {clk : Int32} (hc0 : M 6 = clk) {lv : Nat} (hlv4 : lv < 4) {sl : Int32} {R : Nat → Int32} (hR0 : itr (mvF L lv sl) 0 16 M = R) : Ct sh0 w 2 mX7_moveFrom [.ref 2, .int (nI lv), .int sl] σ (fun r' σ' => r' = none ∧ OffL 2 σ σ' ∧ Dr 2 σ σ' ∧ WRel 2 R L σ') := by
  have hL := hF0.2.2.1
  refine Ct_of hf (by decide) rfl (Nat.le_of_ble_eq_true rfl) (fun x o rt => ?_)
  have loop : ∀ n t (τ : Mm) (N : Nat → Int32), t + n = 16 → OffL 2 σ τ → Dr 2 σ τ → WRel 2 N L τ → Bo N → Wf N L → N 6 = clk → itr (mvF L lv sl) t n N = R → V sh0 w x mX7_moveFrom (0, 0) 2 [(3, .int (nI t)), (0, .ref 2), (1, .int (nI lv)), (2, .int sl)] [] τ := by
    intro n
    induction n with
    | zero =>
      intro t τ N htn ho hD hW hB hF hc hR
      have h16 : t = 16 := by omega
      have hs : N = R := hR
      subst hs
      refine V_iload_n o dX7_moveFrom_2 rfl rfl ?_
      refine V_bipush (v := 16) o dX7_moveFrom_3 (by decide) ?_
      refine V_icmp_ge (tgt := 60) o dX7_moveFrom_5 (by decide) (fun c_5 => ?_) (fun c_5 => False.elim (c_5 (by rw [h16]; decide)))
      refine V_ret o rt dX7_moveFrom_60 rfl ?_
      exact ⟨rfl, ho, hD, hW⟩
    | succ n ih =>
      intro t τ N htn ho hD hW hB hF hc hR
      have ht : t < 16 := by omega
      rw [itr_succ, mvF] at hR
      refine V_iload_n o dX7_moveFrom_2 rfl rfl ?_
      refine V_bipush (v := 16) o dX7_moveFrom_3 (by decide) ?_
      refine V_icmp_ge (tgt := 60) o dX7_moveFrom_5 (by decide) (fun c_5 => False.elim (absurd c_5 (nI_ge (b := 16) (by omega) (by omega)))) (fun c_5 => ?_)
      refine V_aload_n o dX7_moveFrom_8 rfl rfl ?_
      refine V_iload_n o dX7_moveFrom_9 rfl rfl ?_
      rcases (hB t ht).1 with hG0 | hG
      · refine V_cVn o rt dX7_moveFrom_10 ml_X7_62 (c7_find_n_2 hf hW ht hG0) rfl rfl rfl (Nat.le_of_ble_eq_true rfl) rfl ?_
        refine V_astoreN (ls' := [(4, _), (3, _), (0, _), (1, _), (2, _)]) o dX7_moveFrom_13 (by decide) rfl ?_
        refine V_aloadN o dX7_moveFrom_15 rfl ?_
        refine V_ifnull_n (tgt := 54) o dX7_moveFrom_17 (by decide) ?_
        refine V_iincV (v := nI (t + 1)) (ls' := [(3, _), (4, _), (0, _), (1, _), (2, _)]) o dX7_moveFrom_54 rfl (ninc 1 rfl) (by decide) rfl ?_
        refine V_goto (tgt := 2) o dX7_moveFrom_57 (by decide) ?_
        rw [if_neg (fun q => absurd (hG0.symm.trans q.1.1) (by decide))] at hR
        exact V_sub (by simp) (ih (t + 1) τ N (by omega) ho hD hW hB hF hc hR)
      · refine V_cVr o rt dX7_moveFrom_10 ml_X7_62 (c7_find_2 hf hW ht hG) rfl rfl rfl (Nat.le_of_ble_eq_true rfl) rfl ?_
        refine V_astore (ls' := [(4, _), (3, _), (0, _), (1, _), (2, _)]) o dX7_moveFrom_13 (by decide) rfl ?_
        refine V_aload o dX7_moveFrom_15 rfl ?_
        refine V_ifnull_r o dX7_moveFrom_17 ?_
        refine V_aload o dX7_moveFrom_20 rfl ?_
        refine V_getI o dX7_moveFrom_22 (kT9 t ht) fl_X7_75 (rT9 ht) ?_
        refine V_topI (v' := cLv N t) ((hW.2.2 t ht).lv (hB t ht).2.2) ?_
        refine V_iload_n o dX7_moveFrom_25 rfl rfl ?_
        refine V_icmp_ne (tgt := 54) o dX7_moveFrom_26 (by decide) (fun c_26 => ?_) (fun c_26 => ?_)
        · refine V_iincV (v := nI (t + 1)) (ls' := [(3, _), (4, _), (0, _), (1, _), (2, _)]) o dX7_moveFrom_54 rfl (ninc 1 rfl) (by decide) rfl ?_
          refine V_goto (tgt := 2) o dX7_moveFrom_57 (by decide) ?_
          rw [if_neg (fun q => c_26 ((cLv_0 q.1.2).trans q.2.1))] at hR
          exact V_sub (by simp) (ih (t + 1) τ N (by omega) ho hD hW hB hF hc hR)
        · refine V_aload o dX7_moveFrom_29 rfl ?_
          refine V_getI o dX7_moveFrom_31 (kT9 t ht) fl_X7_78 (rT9 ht) ?_
          refine V_topI (v' := cSl N t) ((hW.2.2 t ht).sl (hB t ht).2.2) ?_
          refine V_iload_n o dX7_moveFrom_34 rfl rfl ?_
          refine V_icmp_ne (tgt := 54) o dX7_moveFrom_35 (by decide) (fun c_35 => ?_) (fun c_35 => ?_)
          · refine V_iincV (v := nI (t + 1)) (ls' := [(3, _), (4, _), (0, _), (1, _), (2, _)]) o dX7_moveFrom_54 rfl (ninc 1 rfl) (by decide) rfl ?_
            refine V_goto (tgt := 2) o dX7_moveFrom_57 (by decide) ?_
            rw [if_neg (fun q => c_35 ((cSl_0 q.1.2).trans q.2.2))] at hR
            exact V_sub (by simp) (ih (t + 1) τ N (by omega) ho hD hW hB hF hc hR)
          · refine V_aload_n o dX7_moveFrom_38 rfl rfl ?_
            refine V_aload o dX7_moveFrom_39 rfl ?_
            refine V_cVv o rt dX7_moveFrom_41 ml_X7_89 (c7_lay_2 hf ht (hW.pre ht) hF) rfl rfl rfl (Nat.le_of_ble_eq_true rfl) rfl ?_
            refine V_aload_n o dX7_moveFrom_44 rfl rfl ?_
            refine V_dup o dX7_moveFrom_45 rfl ?_
            refine V_getI o dX7_moveFrom_46 rfl fl_X7_52 rfl ?_
            refine V_topI (v' := N 8) ((congrFun (laySg_ne (by omega)) 5).trans hW.1.2.2.1) ?_
            refine V_iconst (v := 1) o dX7_moveFrom_49 (by decide) ?_
            refine V_iadd o dX7_moveFrom_50 ?_
            refine V_putI o dX7_moveFrom_51 rfl fl_X7_52 rfl rfl rfl ?_
            refine V_iincV (v := nI (t + 1)) (ls' := [(3, _), (4, _), (0, _), (1, _), (2, _)]) o dX7_moveFrom_54 rfl (ninc 1 rfl) (by decide) rfl ?_
            refine V_goto (tgt := 2) o dX7_moveFrom_57 (by decide) ?_
            obtain ⟨hp, hlv⟩ := cLv_at (hB t ht).2.2 c_26 (nI_ne_m2 (by omega))
            rw [if_pos ⟨⟨hG, hp⟩, hlv, (cSl_0 hp).symm.trans c_35⟩] at hR
            exact V_sub (by simp) (ih (t + 1) (wI (laySg 2 N L t τ) 2 5 (N 8 + 1)) (mov1M N L t) (by omega) ((OffL_lay ho ht).wI (by omega) (by omega) (by omega) (by omega)) ((Dr_lay hD).wI (by decide)) (WRel_mov1 hW hL ht hp) (Bo_mov1 hB) (Wf_mov1 hF) ((mov1M_ne (by omega) (by omega)).trans hc) hR)
  refine V_iconst (v := 0) o dX7_moveFrom_0 (by decide) ?_
  refine V_istore_n (ls' := [(3, _), (0, _), (1, _), (2, _)]) o dX7_moveFrom_1 rfl (by decide) rfl ?_
  exact V_sub (by simp; rfl) (loop 16 0 σ M (by omega) OffL.rf Dr.rf hW0 hB0 hF0 hc0 hR0)
set_option maxRecDepth 20000 in
set_option maxHeartbeats 4000000 in
theorem c7_ringLine_25 {w : Wp} (hf : Fit sh0 w) {σ : Mm} {M : Nat → Int32} {L : Nat} (hW0 : WRel 25 M L σ) (hF0 : Wf M L) (hB0 : Bo M) {g : Nat → Nat} {n : Nat} (hln : LnR 25 g n σ) (hD : Dg g n) (hg : ∀ k, k < n → g k < 16 ∧ M (343 + g k) = 0 ∧ Pq M (g k)) {R : Nat → Int32} (hR0 : layC (ringC M g n) L g n = R) : Ct sh0 w 2 mX7_ringLine [.ref 25] σ (fun r' σ' => r' = none ∧ OffL 25 σ σ' ∧ (∀ j, j < n → σ'.1 (25 + 7 + g j) 3 = M (231 + g j)) ∧ WRel 25 R L σ') := by
  have hL := hF0.2.2.1
  have hn16 := hln.2.1
  unfold layC at hR0
  obtain ⟨R1, hR1⟩ : ∃ R1, ringC M g n = R1 := ⟨_, rfl⟩
  rw [hR1] at hR0
  unfold ringC at hR1
  refine Ct_of hf (by decide) rfl (Nat.le_of_ble_eq_true rfl) (fun x o rt => ?_)
  have loop2 : ∀ m k (τ : Mm) (N : Nat → Int32), k + m = n → OffL 25 σ τ → (∀ j, j < n → τ.1 (25 + 7 + g j) 3 = M (231 + g j)) → WRel 25 N L τ → Wf N L → Bo N → (∀ j, j < n → N (343 + g j) = 0) → itr (fun k M => if isT M (g k) then layM M L (g k) else M) k m N = R → V sh0 w x mX7_ringLine (0, 0) 39 [(1, .int (nI k)), (0, .ref 25)] [] τ := by
    intro m
    induction m with
    | zero =>
      intro k τ N hkm ho hd hW hF hB hp hR
      have hn := hln.offL ho
      have hs : N = R := hR
      subst hs
      refine V_iload_n o dX7_ringLine_39 rfl rfl ?_
      refine V_aload_n o dX7_ringLine_40 rfl rfl ?_
      refine V_getR (t := 30) o dX7_ringLine_41 rfl fl_X7_27 rfl ?_
      refine V_getIE (v := nI (n)) o dX7_ringLine_44 rfl fl_X7_131 rfl hn.1 ?_
      refine V_icmp_ge (tgt := 81) o dX7_ringLine_47 (by decide) (fun c_47 => ?_) (fun c_47 => False.elim (c_47 (nI_le (by omega) (by omega))))
      refine V_ret o rt dX7_ringLine_81 rfl ?_
      exact ⟨rfl, ho, hd, hW⟩
    | succ m ih =>
      intro k τ N hkm ho hd hW hF hB hp hR
      have hk : k < n := by omega
      have hgk := (hg k hk).1
      have hn := hln.offL ho
      rw [itr_succ] at hR
      refine V_iload_n o dX7_ringLine_39 rfl rfl ?_
      refine V_aload_n o dX7_ringLine_40 rfl rfl ?_
      refine V_getR (t := 30) o dX7_ringLine_41 rfl fl_X7_27 rfl ?_
      refine V_getIE (v := nI (n)) o dX7_ringLine_44 rfl fl_X7_131 rfl hn.1 ?_
      refine V_icmp_ge (tgt := 81) o dX7_ringLine_47 (by decide) (fun c_47 => False.elim (absurd c_47 (nI_ge (by omega) (by omega)))) (fun c_47 => ?_)
      refine V_aload_n o dX7_ringLine_50 rfl rfl ?_
      refine V_getR (t := 30) o dX7_ringLine_51 rfl fl_X7_27 rfl ?_
      refine V_iload_n o dX7_ringLine_54 rfl rfl ?_
      refine V_cVr o rt dX7_ringLine_55 ml_X7_134 (c1_at_25 hf hn hk) rfl rfl rfl (Nat.le_of_ble_eq_true rfl) rfl ?_
      refine V_astore_n (ls' := [(2, _), (1, _), (0, _)]) o dX7_ringLine_58 rfl (by decide) rfl ?_
      refine V_aload_n o dX7_ringLine_59 rfl rfl ?_
      refine V_ifnull_r o dX7_ringLine_60 ?_
      refine V_aload_n o dX7_ringLine_63 rfl rfl ?_
      refine V_getI o dX7_ringLine_64 (kT32 (g k) hgk) fl_X7_58 (rT32 hgk) ?_
      refine V_topI (v' := N (215 + g k)) (hW.2.2 (g k) hgk).live ?_
      refine V_if_eq (tgt := 75) o dX7_ringLine_67 (by decide) (fun c_67 => ?_) (fun c_67 => ?_)
      · refine V_iincV (v := nI (k + 1)) (ls' := [(1, _), (2, _), (0, _)]) o dX7_ringLine_75 rfl (ninc 1 rfl) (by decide) rfl ?_
        refine V_goto (tgt := 39) o dX7_ringLine_78 (by decide) ?_
        rw [if_neg (fun q => absurd (c_67.symm.trans q) (by decide))] at hR
        exact V_sub (by simp) (ih (k + 1) τ N (by omega) ho hd hW hF hB hp hR)
      · refine V_aload_n o dX7_ringLine_70 rfl rfl ?_
        refine V_aload_n o dX7_ringLine_71 rfl rfl ?_
        refine V_cVv o rt dX7_ringLine_72 ml_X7_89 (c7_lay_25 hf hgk (hW.pre hgk) hF) rfl rfl rfl (Nat.le_of_ble_eq_true rfl) rfl ?_
        refine V_iincV (v := nI (k + 1)) (ls' := [(1, _), (2, _), (0, _)]) o dX7_ringLine_75 rfl (ninc 1 rfl) (by decide) rfl ?_
        refine V_goto (tgt := 39) o dX7_ringLine_78 (by decide) ?_
        have hT : isT N (g k) := (hB (g k) hgk).1.resolve_left c_67
        rw [if_pos hT] at hR
        exact V_sub (by simp) (ih (k + 1) (laySg 25 N L (g k) τ) (layM N L (g k)) (by omega) (OffL_lay ho hgk) (fun j hj => ((Dr_lay Dr.rf) (g j) (hg j hj).1).trans (hd j hj)) (WRel_lay hL hgk (hW.pre hgk) (hp k hk)) (Wf_lay hF) (Bo_lay hB) (fun j hj => (layM_ne (by have := (hg j hj).1; omega)).trans (hp j hj)) hR)
  have loop : ∀ m k (τ : Mm) (N : Nat → Int32), k + m = n → OffL 25 σ τ → (∀ j, j < k → τ.1 (25 + 7 + g j) 3 = M (231 + g j)) → WRel 25 N L τ → Wf N L → Bo N → (∀ j, j < n → N (343 + g j) = 0) → (∀ j, k ≤ j → j < n → N (231 + g j) = M (231 + g j) ∧ Pq N (g j)) → itr (fun k M => rgC M (g k)) k m N = R1 → V sh0 w x mX7_ringLine (0, 0) 2 [(1, .int (nI k)), (0, .ref 25)] [] τ := by
    intro m
    induction m with
    | zero =>
      intro k τ N hkm ho hd hW hF hB hp hq hR
      have hn := hln.offL ho
      have hs : N = R1 := hR
      have hkn : k = n := by omega
      subst hs
      refine V_iload_n o dX7_ringLine_2 rfl rfl ?_
      refine V_aload_n o dX7_ringLine_3 rfl rfl ?_
      refine V_getR (t := 30) o dX7_ringLine_4 rfl fl_X7_27 rfl ?_
      refine V_getIE (v := nI (n)) o dX7_ringLine_7 rfl fl_X7_131 rfl hn.1 ?_
      refine V_icmp_ge (tgt := 37) o dX7_ringLine_10 (by decide) (fun c_10 => ?_) (fun c_10 => False.elim (c_10 (nI_le (by omega) (by omega))))
      refine V_iconst (v := 0) o dX7_ringLine_37 (by decide) ?_
      refine V_istore_n (ls' := [(1, _), (0, _)]) o dX7_ringLine_38 rfl (by decide) rfl ?_
      exact V_sub (by simp; rfl) (loop2 n 0 τ N (by omega) ho (fun j hj => hd j (by omega)) hW hF hB hp hR0)
    | succ m ih =>
      intro k τ N hkm ho hd hW hF hB hp hq hR
      have hk : k < n := by omega
      have hgk := (hg k hk).1
      have hn := hln.offL ho
      rw [itr_succ] at hR
      have hne : ∀ j, j < n → j ≠ k → g j ≠ g k := fun j hj hjk q => hjk (hD j k hj hk q)
      refine V_iload_n o dX7_ringLine_2 rfl rfl ?_
      refine V_aload_n o dX7_ringLine_3 rfl rfl ?_
      refine V_getR (t := 30) o dX7_ringLine_4 rfl fl_X7_27 rfl ?_
      refine V_getIE (v := nI (n)) o dX7_ringLine_7 rfl fl_X7_131 rfl hn.1 ?_
      refine V_icmp_ge (tgt := 37) o dX7_ringLine_10 (by decide) (fun c_10 => False.elim (absurd c_10 (nI_ge (by omega) (by omega)))) (fun c_10 => ?_)
      refine V_aload_n o dX7_ringLine_13 rfl rfl ?_
      refine V_getR (t := 30) o dX7_ringLine_14 rfl fl_X7_27 rfl ?_
      refine V_iload_n o dX7_ringLine_17 rfl rfl ?_
      refine V_cVr o rt dX7_ringLine_18 ml_X7_134 (c1_at_25 hf hn hk) rfl rfl rfl (Nat.le_of_ble_eq_true rfl) rfl ?_
      refine V_astore_n (ls' := [(2, _), (1, _), (0, _)]) o dX7_ringLine_21 rfl (by decide) rfl ?_
      refine V_aload_n o dX7_ringLine_22 rfl rfl ?_
      refine V_ifnull_r o dX7_ringLine_23 ?_
      refine V_aload_n o dX7_ringLine_26 rfl rfl ?_
      refine V_aload_n o dX7_ringLine_27 rfl rfl ?_
      refine V_callV o rt dX7_ringLine_28 ml_X7_137 (c7_ring_25 hf hW hL hgk (hq k (Nat.le_refl k) hk).2 rfl) rfl rfl rfl (Nat.le_of_ble_eq_true rfl) rfl (fun r_28 σ_28 q_28 => ?_)
      obtain ⟨rfl, ho2, hd2, h4⟩ := q_28
      show V sh0 w x mX7_ringLine (0, 0) _ _ [] _
      refine V_iincV (v := nI (k + 1)) (ls' := [(1, _), (2, _), (0, _)]) o dX7_ringLine_31 rfl (ninc 1 rfl) (by decide) rfl ?_
      refine V_goto (tgt := 2) o dX7_ringLine_34 (by decide) ?_
      refine V_sub (by simp) (ih (k + 1) σ_28 (rgC N (g k)) (by omega) (ho.tr ho2) (fun j hj => ?_) h4 (Wf_rg hF) (Bo_rg hgk hB) (fun j hj => ?_) (fun j h1 h2 => ?_) hR)
      · by_cases e : j = k
        · rw [e, hd2.2]
          exact (hq k (Nat.le_refl k) hk).1
        · rw [hd2.1 (g j) (hg j (by omega)).1 (hne j (by omega) e)]
          exact hd j (by omega)
      · have hgj := (hg j hj).1
        rw [rgC_ne (by omega) (by omega) (by omega) (by omega) (by omega) (by omega)]
        exact hp j hj
      · have hgj := (hg j h2).1
        have := hne j h2 (by omega)
        exact ⟨(rgC_ne (by omega) (by omega) (by omega) (by omega) (by omega) (by omega)).trans (hq j (by omega) h2).1, Pq_same (hq j (by omega) h2).2 (rgC_ne (by omega) (by omega) (by omega) (by omega) (by omega) (by omega))⟩
  refine V_iconst (v := 0) o dX7_ringLine_0 (by decide) ?_
  refine V_istore_n (ls' := [(1, _), (0, _)]) o dX7_ringLine_1 rfl (by decide) rfl ?_
  exact V_sub (by simp; rfl) (loop n 0 σ M (by omega) OffL.rf (fun j hj => absurd hj (Nat.not_lt_zero j)) hW0 hF0 hB0 (fun j hj => (hg j hj).2.1) (fun j _ hj => ⟨rfl, (hg j hj).2.2⟩) hR1)
set_option maxRecDepth 20000 in
set_option maxHeartbeats 4000000 in
theorem c7_bringFar_25 {w : Wp} (hf : Fit sh0 w) {σ : Mm} {M : Nat → Int32} {L : Nat} (hW0 : WRel 25 M L σ) (hB0 : Bo M) (hF0 : Wf M L) {clk : Int32} (hc0 : M 6 = clk) {R : Nat → Int32} (hR0 : farM M L clk = R) : Ct sh0 w 2 mX7_bringFarOnes [.ref 25] σ (fun r' σ' => r' = none ∧ OffL 25 σ σ' ∧ Dr 25 σ σ' ∧ WRel 25 R L σ') := by
  have hL := hF0.2.2.1
  unfold farM at hR0
  refine Ct_of hf (by decide) rfl (Nat.le_of_ble_eq_true rfl) (fun x o rt => ?_)
  have loop : ∀ n t (τ : Mm) (N : Nat → Int32), t + n = 16 → OffL 25 σ τ → Dr 25 σ τ → WRel 25 N L τ → Bo N → Wf N L → N 6 = clk → itr (farF L clk) t n N = R → V sh0 w x mX7_bringFarOnes (0, 0) 2 [(1, .int (nI t)), (0, .ref 25)] [] τ := by
    intro n
    induction n with
    | zero =>
      intro t τ N htn ho hD hW hB hF hc hR
      have h16 : t = 16 := by omega
      have hs : N = R := hR
      subst hs
      refine V_iload_n o dX7_bringFarOnes_2 rfl rfl ?_
      refine V_bipush (v := 16) o dX7_bringFarOnes_3 (by decide) ?_
      refine V_icmp_ge (tgt := 66) o dX7_bringFarOnes_5 (by decide) (fun c_5 => ?_) (fun c_5 => False.elim (c_5 (by rw [h16]; decide)))
      refine V_ret o rt dX7_bringFarOnes_66 rfl ?_
      exact ⟨rfl, ho, hD, hW⟩
    | succ n ih =>
      intro t τ N htn ho hD hW hB hF hc hR
      have ht : t < 16 := by omega
      rw [itr_succ, farF] at hR
      refine V_iload_n o dX7_bringFarOnes_2 rfl rfl ?_
      refine V_bipush (v := 16) o dX7_bringFarOnes_3 (by decide) ?_
      refine V_icmp_ge (tgt := 66) o dX7_bringFarOnes_5 (by decide) (fun c_5 => False.elim (absurd c_5 (nI_ge (b := 16) (by omega) (by omega)))) (fun c_5 => ?_)
      refine V_aload_n o dX7_bringFarOnes_8 rfl rfl ?_
      refine V_iload_n o dX7_bringFarOnes_9 rfl rfl ?_
      rcases (hB t ht).1 with hG0 | hG
      · refine V_cVn o rt dX7_bringFarOnes_10 ml_X7_62 (c7_find_n_25 hf hW ht hG0) rfl rfl rfl (Nat.le_of_ble_eq_true rfl) rfl ?_
        refine V_astore_nN (ls' := [(2, _), (1, _), (0, _)]) o dX7_bringFarOnes_13 rfl (by decide) rfl ?_
        refine V_aload_nN o dX7_bringFarOnes_14 rfl rfl ?_
        refine V_ifnull_n (tgt := 60) o dX7_bringFarOnes_15 (by decide) ?_
        refine V_iincV (v := nI (t + 1)) (ls' := [(1, _), (2, _), (0, _)]) o dX7_bringFarOnes_60 rfl (ninc 1 rfl) (by decide) rfl ?_
        refine V_goto (tgt := 2) o dX7_bringFarOnes_63 (by decide) ?_
        rw [if_neg (fun q => absurd (hG0.symm.trans q.1.1) (by decide))] at hR
        exact V_sub (by simp) (ih (t + 1) τ N (by omega) ho hD hW hB hF hc hR)
      · refine V_cVr o rt dX7_bringFarOnes_10 ml_X7_62 (c7_find_25 hf hW ht hG) rfl rfl rfl (Nat.le_of_ble_eq_true rfl) rfl ?_
        refine V_astore_n (ls' := [(2, _), (1, _), (0, _)]) o dX7_bringFarOnes_13 rfl (by decide) rfl ?_
        refine V_aload_n o dX7_bringFarOnes_14 rfl rfl ?_
        refine V_ifnull_r o dX7_bringFarOnes_15 ?_
        refine V_aload_n o dX7_bringFarOnes_18 rfl rfl ?_
        refine V_getI o dX7_bringFarOnes_19 (kT32 t ht) fl_X7_75 (rT32 ht) ?_
        refine V_topI (v' := cLv N t) ((hW.2.2 t ht).lv (hB t ht).2.2) ?_
        refine V_iconst (v := -1) o dX7_bringFarOnes_22 (by decide) ?_
        refine V_icmp_ne (tgt := 60) o dX7_bringFarOnes_23 (by decide) (fun c_23 => ?_) (fun c_23 => ?_)
        · refine V_iincV (v := nI (t + 1)) (ls' := [(1, _), (2, _), (0, _)]) o dX7_bringFarOnes_60 rfl (ninc 1 rfl) (by decide) rfl ?_
          refine V_goto (tgt := 2) o dX7_bringFarOnes_63 (by decide) ?_
          rw [if_neg (fun q => c_23 ((cLv_0 q.1.2).trans q.2.1))] at hR
          exact V_sub (by simp) (ih (t + 1) τ N (by omega) ho hD hW hB hF hc hR)
        · refine V_aload_n o dX7_bringFarOnes_26 rfl rfl ?_
          refine V_getI o dX7_bringFarOnes_27 (kT32 t ht) fl_X7_72 (rT32 ht) ?_
          refine V_topI (v' := N (231 + t)) (hW.2.2 t ht).due ?_
          refine V_aload_n o dX7_bringFarOnes_30 rfl rfl ?_
          refine V_getI o dX7_bringFarOnes_31 rfl fl_X7_45 rfl ?_
          refine V_topI (v' := clk) (hW.1.1.trans hc) ?_
          refine V_isub o dX7_bringFarOnes_34 ?_
          refine V_aload_n o dX7_bringFarOnes_35 rfl rfl ?_
          refine V_getR (t := 26) o dX7_bringFarOnes_36 rfl fl_X7_12 rfl ?_
          refine V_getI o dX7_bringFarOnes_39 rfl fl_X7_95 rfl ?_
          refine V_topI (v' := spanM N L) hW.2.1.2.1 ?_
          refine V_icmp_ge (tgt := 60) o dX7_bringFarOnes_42 (by decide) (fun c_42 => ?_) (fun c_42 => ?_)
          · refine V_iincV (v := nI (t + 1)) (ls' := [(1, _), (2, _), (0, _)]) o dX7_bringFarOnes_60 rfl (ninc 1 rfl) (by decide) rfl ?_
            refine V_goto (tgt := 2) o dX7_bringFarOnes_63 (by decide) ?_
            rw [if_neg (fun q => absurd c_42 (Int32.not_le.mpr q.2.2))] at hR
            exact V_sub (by simp) (ih (t + 1) τ N (by omega) ho hD hW hB hF hc hR)
          · refine V_aload_n o dX7_bringFarOnes_45 rfl rfl ?_
            refine V_aload_n o dX7_bringFarOnes_46 rfl rfl ?_
            refine V_cVv o rt dX7_bringFarOnes_47 ml_X7_89 (c7_lay_25 hf ht (hW.pre ht) hF) rfl rfl rfl (Nat.le_of_ble_eq_true rfl) rfl ?_
            refine V_aload_n o dX7_bringFarOnes_50 rfl rfl ?_
            refine V_dup o dX7_bringFarOnes_51 rfl ?_
            refine V_getI o dX7_bringFarOnes_52 rfl fl_X7_52 rfl ?_
            refine V_topI (v' := N 8) ((congrFun (laySg_ne (by omega)) 5).trans hW.1.2.2.1) ?_
            refine V_iconst (v := 1) o dX7_bringFarOnes_55 (by decide) ?_
            refine V_iadd o dX7_bringFarOnes_56 ?_
            refine V_putI o dX7_bringFarOnes_57 rfl fl_X7_52 rfl rfl rfl ?_
            refine V_iincV (v := nI (t + 1)) (ls' := [(1, _), (2, _), (0, _)]) o dX7_bringFarOnes_60 rfl (ninc 1 rfl) (by decide) rfl ?_
            refine V_goto (tgt := 2) o dX7_bringFarOnes_63 (by decide) ?_
            obtain ⟨hp, hlv⟩ := cLv_at (hB t ht).2.2 c_23 (by decide)
            rw [if_pos ⟨⟨hG, hp⟩, hlv, Int32.not_le.mp c_42⟩] at hR
            exact V_sub (by simp) (ih (t + 1) (wI (laySg 25 N L t τ) 25 5 (N 8 + 1)) (mov1M N L t) (by omega) ((OffL_lay ho ht).wI (by omega) (by omega) (by omega) (by omega)) ((Dr_lay hD).wI (by decide)) (WRel_mov1 hW hL ht hp) (Bo_mov1 hB) (Wf_mov1 hF) ((mov1M_ne (by omega) (by omega)).trans hc) hR)
  refine V_iconst (v := 0) o dX7_bringFarOnes_0 (by decide) ?_
  refine V_istore_n (ls' := [(1, _), (0, _)]) o dX7_bringFarOnes_1 rfl (by decide) rfl ?_
  exact V_sub (by simp; rfl) (loop 16 0 σ M (by omega) OffL.rf Dr.rf hW0 hB0 hF0 hc0 hR0)
set_option maxRecDepth 20000 in
set_option maxHeartbeats 4000000 in
theorem c7_moveFrom_25 {w : Wp} (hf : Fit sh0 w) {σ : Mm} {M : Nat → Int32} {L : Nat} (hW0 : WRel 25 M L σ) (hB0 : Bo M) (hF0 : Wf M L) {clk : Int32} (hc0 : M 6 = clk) {lv : Nat} (hlv4 : lv < 4) {sl : Int32} {R : Nat → Int32} (hR0 : itr (mvF L lv sl) 0 16 M = R) : Ct sh0 w 2 mX7_moveFrom [.ref 25, .int (nI lv), .int sl] σ (fun r' σ' => r' = none ∧ OffL 25 σ σ' ∧ Dr 25 σ σ' ∧ WRel 25 R L σ') := by
  have hL := hF0.2.2.1
  refine Ct_of hf (by decide) rfl (Nat.le_of_ble_eq_true rfl) (fun x o rt => ?_)
  have loop : ∀ n t (τ : Mm) (N : Nat → Int32), t + n = 16 → OffL 25 σ τ → Dr 25 σ τ → WRel 25 N L τ → Bo N → Wf N L → N 6 = clk → itr (mvF L lv sl) t n N = R → V sh0 w x mX7_moveFrom (0, 0) 2 [(3, .int (nI t)), (0, .ref 25), (1, .int (nI lv)), (2, .int sl)] [] τ := by
    intro n
    induction n with
    | zero =>
      intro t τ N htn ho hD hW hB hF hc hR
      have h16 : t = 16 := by omega
      have hs : N = R := hR
      subst hs
      refine V_iload_n o dX7_moveFrom_2 rfl rfl ?_
      refine V_bipush (v := 16) o dX7_moveFrom_3 (by decide) ?_
      refine V_icmp_ge (tgt := 60) o dX7_moveFrom_5 (by decide) (fun c_5 => ?_) (fun c_5 => False.elim (c_5 (by rw [h16]; decide)))
      refine V_ret o rt dX7_moveFrom_60 rfl ?_
      exact ⟨rfl, ho, hD, hW⟩
    | succ n ih =>
      intro t τ N htn ho hD hW hB hF hc hR
      have ht : t < 16 := by omega
      rw [itr_succ, mvF] at hR
      refine V_iload_n o dX7_moveFrom_2 rfl rfl ?_
      refine V_bipush (v := 16) o dX7_moveFrom_3 (by decide) ?_
      refine V_icmp_ge (tgt := 60) o dX7_moveFrom_5 (by decide) (fun c_5 => False.elim (absurd c_5 (nI_ge (b := 16) (by omega) (by omega)))) (fun c_5 => ?_)
      refine V_aload_n o dX7_moveFrom_8 rfl rfl ?_
      refine V_iload_n o dX7_moveFrom_9 rfl rfl ?_
      rcases (hB t ht).1 with hG0 | hG
      · refine V_cVn o rt dX7_moveFrom_10 ml_X7_62 (c7_find_n_25 hf hW ht hG0) rfl rfl rfl (Nat.le_of_ble_eq_true rfl) rfl ?_
        refine V_astoreN (ls' := [(4, _), (3, _), (0, _), (1, _), (2, _)]) o dX7_moveFrom_13 (by decide) rfl ?_
        refine V_aloadN o dX7_moveFrom_15 rfl ?_
        refine V_ifnull_n (tgt := 54) o dX7_moveFrom_17 (by decide) ?_
        refine V_iincV (v := nI (t + 1)) (ls' := [(3, _), (4, _), (0, _), (1, _), (2, _)]) o dX7_moveFrom_54 rfl (ninc 1 rfl) (by decide) rfl ?_
        refine V_goto (tgt := 2) o dX7_moveFrom_57 (by decide) ?_
        rw [if_neg (fun q => absurd (hG0.symm.trans q.1.1) (by decide))] at hR
        exact V_sub (by simp) (ih (t + 1) τ N (by omega) ho hD hW hB hF hc hR)
      · refine V_cVr o rt dX7_moveFrom_10 ml_X7_62 (c7_find_25 hf hW ht hG) rfl rfl rfl (Nat.le_of_ble_eq_true rfl) rfl ?_
        refine V_astore (ls' := [(4, _), (3, _), (0, _), (1, _), (2, _)]) o dX7_moveFrom_13 (by decide) rfl ?_
        refine V_aload o dX7_moveFrom_15 rfl ?_
        refine V_ifnull_r o dX7_moveFrom_17 ?_
        refine V_aload o dX7_moveFrom_20 rfl ?_
        refine V_getI o dX7_moveFrom_22 (kT32 t ht) fl_X7_75 (rT32 ht) ?_
        refine V_topI (v' := cLv N t) ((hW.2.2 t ht).lv (hB t ht).2.2) ?_
        refine V_iload_n o dX7_moveFrom_25 rfl rfl ?_
        refine V_icmp_ne (tgt := 54) o dX7_moveFrom_26 (by decide) (fun c_26 => ?_) (fun c_26 => ?_)
        · refine V_iincV (v := nI (t + 1)) (ls' := [(3, _), (4, _), (0, _), (1, _), (2, _)]) o dX7_moveFrom_54 rfl (ninc 1 rfl) (by decide) rfl ?_
          refine V_goto (tgt := 2) o dX7_moveFrom_57 (by decide) ?_
          rw [if_neg (fun q => c_26 ((cLv_0 q.1.2).trans q.2.1))] at hR
          exact V_sub (by simp) (ih (t + 1) τ N (by omega) ho hD hW hB hF hc hR)
        · refine V_aload o dX7_moveFrom_29 rfl ?_
          refine V_getI o dX7_moveFrom_31 (kT32 t ht) fl_X7_78 (rT32 ht) ?_
          refine V_topI (v' := cSl N t) ((hW.2.2 t ht).sl (hB t ht).2.2) ?_
          refine V_iload_n o dX7_moveFrom_34 rfl rfl ?_
          refine V_icmp_ne (tgt := 54) o dX7_moveFrom_35 (by decide) (fun c_35 => ?_) (fun c_35 => ?_)
          · refine V_iincV (v := nI (t + 1)) (ls' := [(3, _), (4, _), (0, _), (1, _), (2, _)]) o dX7_moveFrom_54 rfl (ninc 1 rfl) (by decide) rfl ?_
            refine V_goto (tgt := 2) o dX7_moveFrom_57 (by decide) ?_
            rw [if_neg (fun q => c_35 ((cSl_0 q.1.2).trans q.2.2))] at hR
            exact V_sub (by simp) (ih (t + 1) τ N (by omega) ho hD hW hB hF hc hR)
          · refine V_aload_n o dX7_moveFrom_38 rfl rfl ?_
            refine V_aload o dX7_moveFrom_39 rfl ?_
            refine V_cVv o rt dX7_moveFrom_41 ml_X7_89 (c7_lay_25 hf ht (hW.pre ht) hF) rfl rfl rfl (Nat.le_of_ble_eq_true rfl) rfl ?_
            refine V_aload_n o dX7_moveFrom_44 rfl rfl ?_
            refine V_dup o dX7_moveFrom_45 rfl ?_
            refine V_getI o dX7_moveFrom_46 rfl fl_X7_52 rfl ?_
            refine V_topI (v' := N 8) ((congrFun (laySg_ne (by omega)) 5).trans hW.1.2.2.1) ?_
            refine V_iconst (v := 1) o dX7_moveFrom_49 (by decide) ?_
            refine V_iadd o dX7_moveFrom_50 ?_
            refine V_putI o dX7_moveFrom_51 rfl fl_X7_52 rfl rfl rfl ?_
            refine V_iincV (v := nI (t + 1)) (ls' := [(3, _), (4, _), (0, _), (1, _), (2, _)]) o dX7_moveFrom_54 rfl (ninc 1 rfl) (by decide) rfl ?_
            refine V_goto (tgt := 2) o dX7_moveFrom_57 (by decide) ?_
            obtain ⟨hp, hlv⟩ := cLv_at (hB t ht).2.2 c_26 (nI_ne_m2 (by omega))
            rw [if_pos ⟨⟨hG, hp⟩, hlv, (cSl_0 hp).symm.trans c_35⟩] at hR
            exact V_sub (by simp) (ih (t + 1) (wI (laySg 25 N L t τ) 25 5 (N 8 + 1)) (mov1M N L t) (by omega) ((OffL_lay ho ht).wI (by omega) (by omega) (by omega) (by omega)) ((Dr_lay hD).wI (by decide)) (WRel_mov1 hW hL ht hp) (Bo_mov1 hB) (Wf_mov1 hF) ((mov1M_ne (by omega) (by omega)).trans hc) hR)
  refine V_iconst (v := 0) o dX7_moveFrom_0 (by decide) ?_
  refine V_istore_n (ls' := [(3, _), (0, _), (1, _), (2, _)]) o dX7_moveFrom_1 rfl (by decide) rfl ?_
  exact V_sub (by simp; rfl) (loop 16 0 σ M (by omega) OffL.rf Dr.rf hW0 hB0 hF0 hc0 hR0)
