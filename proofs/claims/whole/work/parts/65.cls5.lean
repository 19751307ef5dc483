/-- one rings, as the class has it: not yet laid -/
def rgC (M : Nat → Int32) (t : Nat) : Nat → Int32 :=
  if M (311 + t) = 1 ∨ M (279 + t) = 0 then uM (uM M (375 + t) (M (375 + t) + 1)) (215 + t) 0 else cmS (cmT (uM M (375 + t) (M (375 + t) + 1)) t) (M (279 + t)) t
def ringC (M : Nat → Int32) (g : Nat → Nat) (n : Nat) : Nat → Int32 := itr (fun k M => rgC M (g k)) 0 n M
def layC (M : Nat → Int32) (L : Nat) (g : Nat → Nat) (n : Nat) : Nat → Int32 := itr (fun k M => if isT M (g k) then layM M L (g k) else M) 0 n M
theorem mnI_comm (a b : Int32) : mnI a b = mnI b a := by
  unfold mnI
  by_cases h : a ≤ b
  · by_cases h2 : b ≤ a
    · rw [if_pos h, if_pos h2]; exact Int32.le_antisymm h h2
    · rw [if_pos h, if_neg h2]
  · rw [if_neg h, if_pos (Int32.le_of_lt (Int32.not_le.mp h))]
theorem uM_uM_self {M : Nat → Int32} {k : Nat} {v : Int32} (h : M k = v) : uM M k v = M := by
  funext j
  unfold uM
  split
  · next q => rw [q, h]
  · rfl
set_option maxRecDepth 20000 in
set_option maxHeartbeats 4000000 in
theorem c7_catchUp_2 {w : Wp} (hf : Fit sh0 w) {σ : Mm} {M : Nat → Int32} {L : Nat} (hW : WRel 2 M L σ) (hL : L ≤ 4) {t : Nat} (ht : t < 16) (hq : Pq M t) : Ct sh0 w 0 mX7_catchUp [.ref 2, .ref (9 + t)] σ (fun r' σ' => r' = none ∧ OffL 2 σ σ' ∧ Dr 2 σ σ' ∧ WRel 2 (cmS M 1 t) L σ') := by
  obtain ⟨q, hq1, hq2, hq3⟩ := hq
  have hper : σ.1 (9 + t) 7 = nI q := (hW.2.2 t ht).per.trans hq1
  have hdue : σ.1 (9 + t) 2 = M (231 + t) := (hW.2.2 t ht).due
  obtain ⟨v, hv⟩ : ∃ v, (M 6 - M (231 + t)) / M (295 + t) = v := ⟨_, rfl⟩
  have h1 := WRel_due (v := M (231 + t) + (v + 1) * nI q) hW hL ht
  have h2 := WRel_mis (v := M 9 + v) h1 hL
  have e : uM (uM M (231 + t) (M (231 + t) + (v + 1) * nI q)) 9 (M 9 + v) = cmS M 1 t := by
    unfold cmS cm1 cmN
    rw [if_pos rfl, hv, hq1, uM_ne _ _ (by omega), Int32.add_sub_cancel]
  rw [e] at h2
  refine Ct_of hf (by decide) rfl (Nat.le_of_ble_eq_true rfl) (fun x o rt => ?_)
  refine V_aload_n o dX7_catchUp_0 rfl rfl ?_
  refine V_getIE (v := nI (q)) o dX7_catchUp_1 (kT9 t ht) fl_X7_155 (rT9 ht) hper ?_
  refine V_iconst (v := 1) o dX7_catchUp_4 (by decide) ?_
  refine V_icmp_ge (tgt := 12) o dX7_catchUp_5 (by decide) (fun c_5 => ?_) (fun c_5 => False.elim (c_5 (nI_le (a := 1) (by omega) (by omega))))
  refine V_aload_n o dX7_catchUp_12 rfl rfl ?_
  refine V_getI o dX7_catchUp_13 rfl fl_X7_45 rfl ?_
  refine V_topI (v' := M 6) hW.1.1 ?_
  refine V_aload_n o dX7_catchUp_16 rfl rfl ?_
  refine V_getI o dX7_catchUp_17 (kT9 t ht) fl_X7_72 (rT9 ht) ?_
  refine V_topI (v' := M (231 + t)) hdue ?_
  refine V_isub o dX7_catchUp_20 ?_
  refine V_aload_n o dX7_catchUp_21 rfl rfl ?_
  refine V_getIE (v := nI (q)) o dX7_catchUp_22 (kT9 t ht) fl_X7_155 (rT9 ht) hper ?_
  refine V_idiv o dX7_catchUp_25 (nI_ne0 (by omega) (by omega)) ?_
  refine V_topI (v' := v) (by rw [← hv, hq1]) ?_
  refine V_istore_n (ls' := [(2, _), (0, _), (1, _)]) o dX7_catchUp_26 rfl (by decide) rfl ?_
  refine V_aload_n o dX7_catchUp_27 rfl rfl ?_
  refine V_dup o dX7_catchUp_28 rfl ?_
  refine V_getI o dX7_catchUp_29 (kT9 t ht) fl_X7_72 (rT9 ht) ?_
  refine V_topI (v' := M (231 + t)) hdue ?_
  refine V_iload_n o dX7_catchUp_32 rfl rfl ?_
  refine V_iconst (v := 1) o dX7_catchUp_33 (by decide) ?_
  refine V_iadd o dX7_catchUp_34 ?_
  refine V_aload_n o dX7_catchUp_35 rfl rfl ?_
  refine V_getIE (v := nI (q)) o dX7_catchUp_36 (kT9 t ht) fl_X7_155 (rT9 ht) hper ?_
  refine V_imul o dX7_catchUp_39 ?_
  refine V_iadd o dX7_catchUp_40 ?_
  refine V_putI o dX7_catchUp_41 (kT9 t ht) fl_X7_72 (rT9 ht) rfl rfl ?_
  refine V_aload_n o dX7_catchUp_44 rfl rfl ?_
  refine V_dup o dX7_catchUp_45 rfl ?_
  refine V_getI o dX7_catchUp_46 rfl fl_X7_55 rfl ?_
  refine V_topI (v' := M 9) ((congrFun (wI_ne (by omega)) 6).trans hW.1.2.2.2) ?_
  refine V_iload_n o dX7_catchUp_49 rfl rfl ?_
  refine V_iadd o dX7_catchUp_50 ?_
  refine V_putI o dX7_catchUp_51 rfl fl_X7_55 rfl rfl rfl ?_
  refine V_ret o rt dX7_catchUp_54 rfl ?_
  exact ⟨rfl, (OffL.rf.wI (by omega) (by omega) (by omega) (by omega)).wI (by omega) (by omega) (by omega) (by omega), (Dr.rf.wI (by decide)).wI (by decide), h2⟩
theorem DrT_wI2 {σ τ : Mm} {t j : Nat} {v x : Int32} (h : (∀ u, u < 16 → u ≠ t → τ.1 (2 + 7 + u) 3 = σ.1 (2 + 7 + u) 3) ∧ τ.1 (2 + 7 + t) 3 = x) (hj : j ≠ 3) (a : Nat) : (∀ u, u < 16 → u ≠ t → (wI τ a j v).1 (2 + 7 + u) 3 = σ.1 (2 + 7 + u) 3) ∧ (wI τ a j v).1 (2 + 7 + t) 3 = x :=
  ⟨fun u hu hut => (up2_ne _ _ (Or.inr (Ne.symm hj))).trans (h.1 u hu hut), (up2_ne _ _ (Or.inr (Ne.symm hj))).trans h.2⟩
set_option maxRecDepth 20000 in
set_option maxHeartbeats 4000000 in
theorem c7_ring_2 {w : Wp} (hf : Fit sh0 w) {σ : Mm} {M : Nat → Int32} {L : Nat} (hW : WRel 2 M L σ) (hL : L ≤ 4) {t : Nat} (ht : t < 16) (hq : Pq M t) {R : Nat → Int32} (hR0 : rgC M t = R) : Ct sh0 w 1 mX7_ring [.ref 2, .ref (9 + t)] σ (fun r' σ' => r' = none ∧ OffL 2 σ σ' ∧ ((∀ u, u < 16 → u ≠ t → σ'.1 (2 + 7 + u) 3 = σ.1 (2 + 7 + u) 3) ∧ σ'.1 (2 + 7 + t) 3 = M (231 + t)) ∧ WRel 2 R L σ') := by
  have hrang : σ.1 (9 + t) 9 = M (375 + t) := (hW.2.2 t ht).rang
  have h1 := WRel_rang (v := M (375 + t) + 1) hW hL ht
  have h2 := WRel_dar (v := M (231 + t)) h1 hL ht
  unfold rgC at hR0
  generalize hM1 : uM M (375 + t) (M (375 + t) + 1) = M1 at h1 h2 hR0
  have eM1 : ∀ j, j ≠ 375 + t → M1 j = M j := fun j hj => by rw [← hM1]; exact uM_ne _ _ hj
  have dt2 : (∀ u, u < 16 → u ≠ t → (wI (wI σ (9 + t) 9 (M (375 + t) + 1)) (9 + t) 3 (M (231 + t))).1 (2 + 7 + u) 3 = σ.1 (2 + 7 + u) 3) ∧ (wI (wI σ (9 + t) 9 (M (375 + t) + 1)) (9 + t) 3 (M (231 + t))).1 (2 + 7 + t) 3 = M (231 + t) := ⟨fun u hu hut => by rw [wI_ne (by omega), wI_ne (by omega)], wI_at⟩
  have hdue : (wI σ (9 + t) 9 (M (375 + t) + 1)).1 (9 + t) 2 = M (231 + t) := (wI_nj (by decide)).trans (hW.2.2 t ht).due
  refine Ct_of hf (by decide) rfl (Nat.le_of_ble_eq_true rfl) (fun x o rt => ?_)
  have per : ∀ (τ : Mm) (N : Nat → Int32), OffL 2 σ τ → ((∀ u, u < 16 → u ≠ t → τ.1 (2 + 7 + u) 3 = σ.1 (2 + 7 + u) 3) ∧ τ.1 (2 + 7 + t) 3 = M (231 + t)) → WRel 2 N L τ → uM N (231 + t) (N 6 + N (295 + t)) = R → V sh0 w x mX7_ring (0, 0) 94 [(0, .ref 2), (1, .ref (9 + t))] [] τ := by
    intro τ N ho hd h3 hR
    have h4 := WRel_due (v := N 6 + N (295 + t)) h3 hL ht
    rw [hR] at h4
    refine V_aload_n o dX7_ring_94 rfl rfl ?_
    refine V_aload_n o dX7_ring_95 rfl rfl ?_
    refine V_getI o dX7_ring_96 rfl fl_X7_45 rfl ?_
    refine V_topI (v' := N 6) h3.1.1 ?_
    refine V_aload_n o dX7_ring_99 rfl rfl ?_
    refine V_getI o dX7_ring_100 (kT9 t ht) fl_X7_155 (rT9 ht) ?_
    refine V_topI (v' := N (295 + t)) (h3.2.2 t ht).per ?_
    refine V_iadd o dX7_ring_103 ?_
    refine V_putI o dX7_ring_104 (kT9 t ht) fl_X7_72 (rT9 ht) rfl rfl ?_
    refine V_ret o rt dX7_ring_107 rfl ?_
    exact ⟨rfl, ho.wI (by omega) (by omega) (by omega) (by omega), DrT_wI2 hd (by decide) _, h4⟩
  have srt : ∀ (τ : Mm) (N : Nat → Int32), OffL 2 σ τ → ((∀ u, u < 16 → u ≠ t → τ.1 (2 + 7 + u) 3 = σ.1 (2 + 7 + u) 3) ∧ τ.1 (2 + 7 + t) 3 = M (231 + t)) → WRel 2 N L τ → Pq N t → cmS N (N (279 + t)) t = R → V sh0 w x mX7_ring (0, 0) 56 [(0, .ref 2), (1, .ref (9 + t))] [] τ := by
    intro τ N ho hd h3 hqN hR
    refine V_aload_n o dX7_ring_56 rfl rfl ?_
    refine V_getI o dX7_ring_57 (kT9 t ht) fl_X7_149 (rT9 ht) ?_
    refine V_topI (v' := N (279 + t)) (h3.2.2 t ht).sort ?_
    refine V_iconst (v := 1) o dX7_ring_60 (by decide) ?_
    refine V_icmp_ne (tgt := 70) o dX7_ring_61 (by decide) (fun c_61 => ?_) (fun c_61 => ?_)
    · refine V_aload_n o dX7_ring_70 rfl rfl ?_
      refine V_getI o dX7_ring_71 (kT9 t ht) fl_X7_149 (rT9 ht) ?_
      refine V_topI (v' := N (279 + t)) (h3.2.2 t ht).sort ?_
      refine V_iconst (v := 3) o dX7_ring_74 (by decide) ?_
      refine V_icmp_ne (tgt := 94) o dX7_ring_75 (by decide) (fun c_75 => ?_) (fun c_75 => ?_)
      · unfold cmS at hR
        rw [if_neg c_61] at hR
        refine per τ N ho hd h3 ?_
        rw [← hR]
        unfold cm2 cmP
        rw [if_neg c_75, uM_uM_self rfl]
      · refine V_aload_n o dX7_ring_78 rfl rfl ?_
        refine V_iconst (v := 2) o dX7_ring_79 (by decide) ?_
        refine V_aload_n o dX7_ring_80 rfl rfl ?_
        refine V_getI o dX7_ring_81 (kT9 t ht) fl_X7_155 (rT9 ht) ?_
        refine V_topI (v' := N (295 + t)) (h3.2.2 t ht).per ?_
        refine V_imul o dX7_ring_84 ?_
        refine V_sipush (v := 1000) o dX7_ring_85 (by decide) ?_
        refine V_cSi o rt dX7_ring_88 ms_X7_158 (cJ_min hf) rfl rfl (Nat.le_of_ble_eq_true rfl) rfl ?_
        refine V_putI o dX7_ring_91 (kT9 t ht) fl_X7_155 (rT9 ht) rfl rfl ?_
        unfold cmS at hR
        rw [if_neg c_61] at hR
        have h4 := WRel_per (v := mnI (2 * N (295 + t)) 1000) h3 hL ht
        refine per _ _ (ho.wI (by omega) (by omega) (by omega) (by omega)) (DrT_wI2 hd (by decide) _) h4 ?_
        rw [← hR]
        unfold cm2 cmP
        rw [if_pos c_75, mnI_comm 1000]
    · refine V_aload_n o dX7_ring_64 rfl rfl ?_
      refine V_aload_n o dX7_ring_65 rfl rfl ?_
      refine V_callV o rt dX7_ring_66 ml_X7_152 (c7_catchUp_2 hf h3 hL ht hqN) rfl rfl rfl (Nat.le_of_ble_eq_true rfl) rfl (fun r_66 σ_66 q_66 => ?_)
      obtain ⟨rfl, ho2, hd2, h4⟩ := q_66
      show V sh0 w x mX7_ring (0, 0) _ _ [] _
      refine V_ret o rt dX7_ring_69 rfl ?_
      rw [c_61] at hR
      rw [hR] at h4
      exact ⟨rfl, ho.tr ho2, ⟨fun u hu hut => (hd2 u hu).trans (hd.1 u hu hut), (hd2 t ht).trans hd.2⟩, h4⟩
  refine V_aload_n o dX7_ring_0 rfl rfl ?_
  refine V_dup o dX7_ring_1 rfl ?_
  refine V_getI o dX7_ring_2 (kT9 t ht) fl_X7_140 (rT9 ht) ?_
  refine V_topI (v' := M (375 + t)) hrang ?_
  refine V_iconst (v := 1) o dX7_ring_5 (by decide) ?_
  refine V_iadd o dX7_ring_6 ?_
  refine V_putI o dX7_ring_7 (kT9 t ht) fl_X7_140 (rT9 ht) rfl rfl ?_
  refine V_aload_n o dX7_ring_10 rfl rfl ?_
  refine V_aload_n o dX7_ring_11 rfl rfl ?_
  refine V_getI o dX7_ring_12 (kT9 t ht) fl_X7_72 (rT9 ht) ?_
  refine V_topI (v' := M (231 + t)) hdue ?_
  refine V_putI o dX7_ring_15 (kT9 t ht) fl_X7_143 (rT9 ht) rfl rfl ?_
  refine V_aload_n o dX7_ring_18 rfl rfl ?_
  refine V_getI o dX7_ring_19 (kT9 t ht) fl_X7_146 (rT9 ht) ?_
  refine V_topI (v' := M1 (311 + t)) (h2.2.2 t ht).tms ?_
  refine V_iconst (v := 1) o dX7_ring_22 (by decide) ?_
  refine V_icmp_eq (tgt := 33) o dX7_ring_23 (by decide) (fun c_23 => ?_) (fun c_23 => ?_)
  · refine V_aload_n o dX7_ring_33 rfl rfl ?_
    refine V_iconst (v := 0) o dX7_ring_34 (by decide) ?_
    refine V_putZ o dX7_ring_35 (kT9 t ht) fl_X7_58 (rT9 ht) rfl rfl (by simp) ?_
    refine V_ret o rt dX7_ring_38 rfl ?_
    have h3 := WRel_live (v := 0) h2 hL ht
    rw [if_pos (Or.inl (by rw [← eM1 (311 + t) (by omega)]; exact c_23))] at hR0
    rw [hR0] at h3
    exact ⟨rfl, (((OffL.rf.wI (by omega) (by omega) (by omega) (by omega)).wI (by omega) (by omega) (by omega) (by omega)).wI (by omega) (by omega) (by omega) (by omega)), DrT_wI2 dt2 (by decide) _, h3⟩
  · refine V_aload_n o dX7_ring_26 rfl rfl ?_
    refine V_getI o dX7_ring_27 (kT9 t ht) fl_X7_149 (rT9 ht) ?_
    refine V_topI (v' := M1 (279 + t)) (h2.2.2 t ht).sort ?_
    refine V_if_ne (tgt := 39) o dX7_ring_30 (by decide) (fun c_30 => ?_) (fun c_30 => ?_)
    · refine V_aload_n o dX7_ring_39 rfl rfl ?_
      refine V_getI o dX7_ring_40 (kT9 t ht) fl_X7_146 (rT9 ht) ?_
      refine V_topI (v' := M1 (311 + t)) (h2.2.2 t ht).tms ?_
      refine V_if_le (tgt := 56) o dX7_ring_43 (by decide) (fun c_43 => ?_) (fun c_43 => ?_)
      · rw [if_neg (fun q => q.elim (fun q => c_23 (by rw [eM1 (311 + t) (by omega)]; exact q)) (fun q => c_30 (by rw [eM1 (279 + t) (by omega)]; exact q)))] at hR0
        have hqq : Pq M1 t := Pq_same hq (eM1 _ (by omega))
        have es : M1 (279 + t) = M (279 + t) := eM1 _ (by omega)
        have ec : cmT M1 t = M1 := by unfold cmT; rw [if_neg (Int32.not_lt.mpr c_43)]
        rw [ec, ← es] at hR0
        exact srt _ M1 ((OffL.rf.wI (by omega) (by omega) (by omega) (by omega)).wI (by omega) (by omega) (by omega) (by omega)) dt2 h2 hqq hR0
      · refine V_aload_n o dX7_ring_46 rfl rfl ?_
        refine V_dup o dX7_ring_47 rfl ?_
        refine V_getI o dX7_ring_48 (kT9 t ht) fl_X7_146 (rT9 ht) ?_
        refine V_topI (v' := M1 (311 + t)) (h2.2.2 t ht).tms ?_
        refine V_iconst (v := 1) o dX7_ring_51 (by decide) ?_
        refine V_isub o dX7_ring_52 ?_
        refine V_putI o dX7_ring_53 (kT9 t ht) fl_X7_146 (rT9 ht) rfl rfl ?_
        rw [if_neg (fun q => q.elim (fun q => c_23 (by rw [eM1 (311 + t) (by omega)]; exact q)) (fun q => c_30 (by rw [eM1 (279 + t) (by omega)]; exact q)))] at hR0
        have hqq : Pq M1 t := Pq_same hq (eM1 _ (by omega))
        have es : M1 (279 + t) = M (279 + t) := eM1 _ (by omega)
        have h3 := WRel_tms (v := M1 (311 + t) - 1) h2 hL ht
        have ec : cmT M1 t = uM M1 (311 + t) (M1 (311 + t) - 1) := by unfold cmT; rw [if_pos (Int32.not_le.mp c_43), Int32.sub_eq_add_neg]
        rw [ec, ← es, ← uM_ne M1 (k := 311 + t) (M1 (311 + t) - 1) (show 279 + t ≠ 311 + t by omega)] at hR0
        exact srt _ _ (((OffL.rf.wI (by omega) (by omega) (by omega) (by omega)).wI (by omega) (by omega) (by omega) (by omega)).wI (by omega) (by omega) (by omega) (by omega)) (DrT_wI2 dt2 (by decide) _) h3 (Pq_same hqq (uM_ne _ _ (by omega))) hR0
    · refine V_aload_n o dX7_ring_33 rfl rfl ?_
      refine V_iconst (v := 0) o dX7_ring_34 (by decide) ?_
      refine V_putZ o dX7_ring_35 (kT9 t ht) fl_X7_58 (rT9 ht) rfl rfl (by simp) ?_
      refine V_ret o rt dX7_ring_38 rfl ?_
      have h3 := WRel_live (v := 0) h2 hL ht
      rw [if_pos (Or.inr (by rw [← eM1 (279 + t) (by omega)]; exact c_30))] at hR0
      rw [hR0] at h3
      exact ⟨rfl, (((OffL.rf.wI (by omega) (by omega) (by omega) (by omega)).wI (by omega) (by omega) (by omega) (by omega)).wI (by omega) (by omega) (by omega) (by omega)), DrT_wI2 dt2 (by decide) _, h3⟩
set_option maxRecDepth 20000 in
set_option maxHeartbeats 4000000 in
theorem c7_catchUp_25 {w : Wp} (hf : Fit sh0 w) {σ : Mm} {M : Nat → Int32} {L : Nat} (hW : WRel 25 M L σ) (hL : L ≤ 4) {t : Nat} (ht : t < 16) (hq : Pq M t) : Ct sh0 w 0 mX7_catchUp [.ref 25, .ref (32 + t)] σ (fun r' σ' => r' = none ∧ OffL 25 σ σ' ∧ Dr 25 σ σ' ∧ WRel 25 (cmS M 1 t) L σ') := by
  obtain ⟨q, hq1, hq2, hq3⟩ := hq
  have hper : σ.1 (32 + t) 7 = nI q := (hW.2.2 t ht).per.trans hq1
  have hdue : σ.1 (32 + t) 2 = M (231 + t) := (hW.2.2 t ht).due
  obtain ⟨v, hv⟩ : ∃ v, (M 6 - M (231 + t)) / M (295 + t) = v := ⟨_, rfl⟩
  have h1 := WRel_due (v := M (231 + t) + (v + 1) * nI q) hW hL ht
  have h2 := WRel_mis (v := M 9 + v) h1 hL
  have e : uM (uM M (231 + t) (M (231 + t) + (v + 1) * nI q)) 9 (M 9 + v) = cmS M 1 t := by
    unfold cmS cm1 cmN
    rw [if_pos rfl, hv, hq1, uM_ne _ _ (by omega), Int32.add_sub_cancel]
  rw [e] at h2
  refine Ct_of hf (by decide) rfl (Nat.le_of_ble_eq_true rfl) (fun x o rt => ?_)
  refine V_aload_n o dX7_catchUp_0 rfl rfl ?_
  refine V_getIE (v := nI (q)) o dX7_catchUp_1 (kT32 t ht) fl_X7_155 (rT32 ht) hper ?_
  refine V_iconst (v := 1) o dX7_catchUp_4 (by decide) ?_
  refine V_icmp_ge (tgt := 12) o dX7_catchUp_5 (by decide) (fun c_5 => ?_) (fun c_5 => False.elim (c_5 (nI_le (a := 1) (by omega) (by omega))))
  refine V_aload_n o dX7_catchUp_12 rfl rfl ?_
  refine V_getI o dX7_catchUp_13 rfl fl_X7_45 rfl ?_
  refine V_topI (v' := M 6) hW.1.1 ?_
  refine V_aload_n o dX7_catchUp_16 rfl rfl ?_
  refine V_getI o dX7_catchUp_17 (kT32 t ht) fl_X7_72 (rT32 ht) ?_
  refine V_topI (v' := M (231 + t)) hdue ?_
  refine V_isub o dX7_catchUp_20 ?_
  refine V_aload_n o dX7_catchUp_21 rfl rfl ?_
  refine V_getIE (v := nI (q)) o dX7_catchUp_22 (kT32 t ht) fl_X7_155 (rT32 ht) hper ?_
  refine V_idiv o dX7_catchUp_25 (nI_ne0 (by omega) (by omega)) ?_
  refine V_topI (v' := v) (by rw [← hv, hq1]) ?_
  refine V_istore_n (ls' := [(2, _), (0, _), (1, _)]) o dX7_catchUp_26 rfl (by decide) rfl ?_
  refine V_aload_n o dX7_catchUp_27 rfl rfl ?_
  refine V_dup o dX7_catchUp_28 rfl ?_
  refine V_getI o dX7_catchUp_29 (kT32 t ht) fl_X7_72 (rT32 ht) ?_
  refine V_topI (v' := M (231 + t)) hdue ?_
  refine V_iload_n o dX7_catchUp_32 rfl rfl ?_
  refine V_iconst (v := 1) o dX7_catchUp_33 (by decide) ?_
  refine V_iadd o dX7_catchUp_34 ?_
  refine V_aload_n o dX7_catchUp_35 rfl rfl ?_
  refine V_getIE (v := nI (q)) o dX7_catchUp_36 (kT32 t ht) fl_X7_155 (rT32 ht) hper ?_
  refine V_imul o dX7_catchUp_39 ?_
  refine V_iadd o dX7_catchUp_40 ?_
  refine V_putI o dX7_catchUp_41 (kT32 t ht) fl_X7_72 (rT32 ht) rfl rfl ?_
  refine V_aload_n o dX7_catchUp_44 rfl rfl ?_
  refine V_dup o dX7_catchUp_45 rfl ?_
  refine V_getI o dX7_catchUp_46 rfl fl_X7_55 rfl ?_
  refine V_topI (v' := M 9) ((congrFun (wI_ne (by omega)) 6).trans hW.1.2.2.2) ?_
  refine V_iload_n o dX7_catchUp_49 rfl rfl ?_
  refine V_iadd o dX7_catchUp_50 ?_
  refine V_putI o dX7_catchUp_51 rfl fl_X7_55 rfl rfl rfl ?_
  refine V_ret o rt dX7_catchUp_54 rfl ?_
  exact ⟨rfl, (OffL.rf.wI (by omega) (by omega) (by omega) (by omega)).wI (by omega) (by omega) (by omega) (by omega), (Dr.rf.wI (by decide)).wI (by decide), h2⟩
theorem DrT_wI25 {σ τ : Mm} {t j : Nat} {v x : Int32} (h : (∀ u, u < 16 → u ≠ t → τ.1 (25 + 7 + u) 3 = σ.1 (25 + 7 + u) 3) ∧ τ.1 (25 + 7 + t) 3 = x) (hj : j ≠ 3) (a : Nat) : (∀ u, u < 16 → u ≠ t → (wI τ a j v).1 (25 + 7 + u) 3 = σ.1 (25 + 7 + u) 3) ∧ (wI τ a j v).1 (25 + 7 + t) 3 = x :=
  ⟨fun u hu hut => (up2_ne _ _ (Or.inr (Ne.symm hj))).trans (h.1 u hu hut), (up2_ne _ _ (Or.inr (Ne.symm hj))).trans h.2⟩
set_option maxRecDepth 20000 in
set_option maxHeartbeats 4000000 in
theorem c7_ring_25 {w : Wp} (hf : Fit sh0 w) {σ : Mm} {M : Nat → Int32} {L : Nat} (hW : WRel 25 M L σ) (hL : L ≤ 4) {t : Nat} (ht : t < 16) (hq : Pq M t) {R : Nat → Int32} (hR0 : rgC M t = R) : Ct sh0 w 1 mX7_ring [.ref 25, .ref (32 + t)] σ (fun r' σ' => r' = none ∧ OffL 25 σ σ' ∧ ((∀ u, u < 16 → u ≠ t → σ'.1 (25 + 7 + u) 3 = σ.1 (25 + 7 + u) 3) ∧ σ'.1 (25 + 7 + t) 3 = M (231 + t)) ∧ WRel 25 R L σ') := by
  have hrang : σ.1 (32 + t) 9 = M (375 + t) := (hW.2.2 t ht).rang
  have h1 := WRel_rang (v := M (375 + t) + 1) hW hL ht
  have h2 := WRel_dar (v := M (231 + t)) h1 hL ht
  unfold rgC at hR0
  generalize hM1 : uM M (375 + t) (M (375 + t) + 1) = M1 at h1 h2 hR0
  have eM1 : ∀ j, j ≠ 375 + t → M1 j = M j := fun j hj => by rw [← hM1]; exact uM_ne _ _ hj
  have dt2 : (∀ u, u < 16 → u ≠ t → (wI (wI σ (32 + t) 9 (M (375 + t) + 1)) (32 + t) 3 (M (231 + t))).1 (25 + 7 + u) 3 = σ.1 (25 + 7 + u) 3) ∧ (wI (wI σ (32 + t) 9 (M (375 + t) + 1)) (32 + t) 3 (M (231 + t))).1 (25 + 7 + t) 3 = M (231 + t) := ⟨fun u hu hut => by rw [wI_ne (by omega), wI_ne (by omega)], wI_at⟩
  have hdue : (wI σ (32 + t) 9 (M (375 + t) + 1)).1 (32 + t) 2 = M (231 + t) := (wI_nj (by decide)).trans (hW.2.2 t ht).due
  refine Ct_of hf (by decide) rfl (Nat.le_of_ble_eq_true rfl) (fun x o rt => ?_)
  have per : ∀ (τ : Mm) (N : Nat → Int32), OffL 25 σ τ → ((∀ u, u < 16 → u ≠ t → τ.1 (25 + 7 + u) 3 = σ.1 (25 + 7 + u) 3) ∧ τ.1 (25 + 7 + t) 3 = M (231 + t)) → WRel 25 N L τ → uM N (231 + t) (N 6 + N (295 + t)) = R → V sh0 w x mX7_ring (0, 0) 94 [(0, .ref 25), (1, .ref (32 + t))] [] τ := by
    intro τ N ho hd h3 hR
    have h4 := WRel_due (v := N 6 + N (295 + t)) h3 hL ht
    rw [hR] at h4
    refine V_aload_n o dX7_ring_94 rfl rfl ?_
    refine V_aload_n o dX7_ring_95 rfl rfl ?_
    refine V_getI o dX7_ring_96 rfl fl_X7_45 rfl ?_
    refine V_topI (v' := N 6) h3.1.1 ?_
    refine V_aload_n o dX7_ring_99 rfl rfl ?_
    refine V_getI o dX7_ring_100 (kT32 t ht) fl_X7_155 (rT32 ht) ?_
    refine V_topI (v' := N (295 + t)) (h3.2.2 t ht).per ?_
    refine V_iadd o dX7_ring_103 ?_
    refine V_putI o dX7_ring_104 (kT32 t ht) fl_X7_72 (rT32 ht) rfl rfl ?_
    refine V_ret o rt dX7_ring_107 rfl ?_
    exact ⟨rfl, ho.wI (by omega) (by omega) (by omega) (by omega), DrT_wI25 hd (by decide) _, h4⟩
  have srt : ∀ (τ : Mm) (N : Nat → Int32), OffL 25 σ τ → ((∀ u, u < 16 → u ≠ t → τ.1 (25 + 7 + u) 3 = σ.1 (25 + 7 + u) 3) ∧ τ.1 (25 + 7 + t) 3 = M (231 + t)) → WRel 25 N L τ → Pq N t → cmS N (N (279 + t)) t = R → V sh0 w x mX7_ring (0, 0) 56 [(0, .ref 25), (1, .ref (32 + t))] [] τ := by
    intro τ N ho hd h3 hqN hR
    refine V_aload_n o dX7_ring_56 rfl rfl ?_
    refine V_getI o dX7_ring_57 (kT32 t ht) fl_X7_149 (rT32 ht) ?_
    refine V_topI (v' := N (279 + t)) (h3.2.2 t ht).sort ?_
    refine V_iconst (v := 1) o dX7_ring_60 (by decide) ?_
    refine V_icmp_ne (tgt := 70) o dX7_ring_61 (by decide) (fun c_61 => ?_) (fun c_61 => ?_)
    · refine V_aload_n o dX7_ring_70 rfl rfl ?_
      refine V_getI o dX7_ring_71 (kT32 t ht) fl_X7_149 (rT32 ht) ?_
      refine V_topI (v' := N (279 + t)) (h3.2.2 t ht).sort ?_
      refine V_iconst (v := 3) o dX7_ring_74 (by decide) ?_
      refine V_icmp_ne (tgt := 94) o dX7_ring_75 (by decide) (fun c_75 => ?_) (fun c_75 => ?_)
      · unfold cmS at hR
        rw [if_neg c_61] at hR
        refine per τ N ho hd h3 ?_
        rw [← hR]
        unfold cm2 cmP
        rw [if_neg c_75, uM_uM_self rfl]
      · refine V_aload_n o dX7_ring_78 rfl rfl ?_
        refine V_iconst (v := 2) o dX7_ring_79 (by decide) ?_
        refine V_aload_n o dX7_ring_80 rfl rfl ?_
        refine V_getI o dX7_ring_81 (kT32 t ht) fl_X7_155 (rT32 ht) ?_
        refine V_topI (v' := N (295 + t)) (h3.2.2 t ht).per ?_
        refine V_imul o dX7_ring_84 ?_
        refine V_sipush (v := 1000) o dX7_ring_85 (by decide) ?_
        refine V_cSi o rt dX7_ring_88 ms_X7_158 (cJ_min hf) rfl rfl (Nat.le_of_ble_eq_true rfl) rfl ?_
        refine V_putI o dX7_ring_91 (kT32 t ht) fl_X7_155 (rT32 ht) rfl rfl ?_
        unfold cmS at hR
        rw [if_neg c_61] at hR
        have h4 := WRel_per (v := mnI (2 * N (295 + t)) 1000) h3 hL ht
        refine per _ _ (ho.wI (by omega) (by omega) (by omega) (by omega)) (DrT_wI25 hd (by decide) _) h4 ?_
        rw [← hR]
        unfold cm2 cmP
        rw [if_pos c_75, mnI_comm 1000]
    · refine V_aload_n o dX7_ring_64 rfl rfl ?_
      refine V_aload_n o dX7_ring_65 rfl rfl ?_
      refine V_callV o rt dX7_ring_66 ml_X7_152 (c7_catchUp_25 hf h3 hL ht hqN) rfl rfl rfl (Nat.le_of_ble_eq_true rfl) rfl (fun r_66 σ_66 q_66 => ?_)
      obtain ⟨rfl, ho2, hd2, h4⟩ := q_66
      show V sh0 w x mX7_ring (0, 0) _ _ [] _
      refine V_ret o rt dX7_ring_69 rfl ?_
      rw [c_61] at hR
      rw [hR] at h4
      exact ⟨rfl, ho.tr ho2, ⟨fun u hu hut => (hd2 u hu).trans (hd.1 u hu hut), (hd2 t ht).trans hd.2⟩, h4⟩
  refine V_aload_n o dX7_ring_0 rfl rfl ?_
  refine V_dup o dX7_ring_1 rfl ?_
  refine V_getI o dX7_ring_2 (kT32 t ht) fl_X7_140 (rT32 ht) ?_
  refine V_topI (v' := M (375 + t)) hrang ?_
  refine V_iconst (v := 1) o dX7_ring_5 (by decide) ?_
  refine V_iadd o dX7_ring_6 ?_
  refine V_putI o dX7_ring_7 (kT32 t ht) fl_X7_140 (rT32 ht) rfl rfl ?_
  refine V_aload_n o dX7_ring_10 rfl rfl ?_
  refine V_aload_n o dX7_ring_11 rfl rfl ?_
  refine V_getI o dX7_ring_12 (kT32 t ht) fl_X7_72 (rT32 ht) ?_
  refine V_topI (v' := M (231 + t)) hdue ?_
  refine V_putI o dX7_ring_15 (kT32 t ht) fl_X7_143 (rT32 ht) rfl rfl ?_
  refine V_aload_n o dX7_ring_18 rfl rfl ?_
  refine V_getI o dX7_ring_19 (kT32 t ht) fl_X7_146 (rT32 ht) ?_
  refine V_topI (v' := M1 (311 + t)) (h2.2.2 t ht).tms ?_
  refine V_iconst (v := 1) o dX7_ring_22 (by decide) ?_
  refine V_icmp_eq (tgt := 33) o dX7_ring_23 (by decide) (fun c_23 => ?_) (fun c_23 => ?_)
  · refine V_aload_n o dX7_ring_33 rfl rfl ?_
    refine V_iconst (v := 0) o dX7_ring_34 (by decide) ?_
    refine V_putZ o dX7_ring_35 (kT32 t ht) fl_X7_58 (rT32 ht) rfl rfl (by simp) ?_
    refine V_ret o rt dX7_ring_38 rfl ?_
    have h3 := WRel_live (v := 0) h2 hL ht
    rw [if_pos (Or.inl (by rw [← eM1 (311 + t) (by omega)]; exact c_23))] at hR0
    rw [hR0] at h3
    exact ⟨rfl, (((OffL.rf.wI (by omega) (by omega) (by omega) (by omega)).wI (by omega) (by omega) (by omega) (by omega)).wI (by omega) (by omega) (by omega) (by omega)), DrT_wI25 dt2 (by decide) _, h3⟩
  · refine V_aload_n o dX7_ring_26 rfl rfl ?_
    refine V_getI o dX7_ring_27 (kT32 t ht) fl_X7_149 (rT32 ht) ?_
    refine V_topI (v' := M1 (279 + t)) (h2.2.2 t ht).sort ?_
    refine V_if_ne (tgt := 39) o dX7_ring_30 (by decide) (fun c_30 => ?_) (fun c_30 => ?_)
    · refine V_aload_n o dX7_ring_39 rfl rfl ?_
      refine V_getI o dX7_ring_40 (kT32 t ht) fl_X7_146 (rT32 ht) ?_
      refine V_topI (v' := M1 (311 + t)) (h2.2.2 t ht).tms ?_
      refine V_if_le (tgt := 56) o dX7_ring_43 (by decide) (fun c_43 => ?_) (fun c_43 => ?_)
      · rw [if_neg (fun q => q.elim (fun q => c_23 (by rw [eM1 (311 + t) (by omega)]; exact q)) (fun q => c_30 (by rw [eM1 (279 + t) (by omega)]; exact q)))] at hR0
        have hqq : Pq M1 t := Pq_same hq (eM1 _ (by omega))
        have es : M1 (279 + t) = M (279 + t) := eM1 _ (by omega)
        have ec : cmT M1 t = M1 := by unfold cmT; rw [if_neg (Int32.not_lt.mpr c_43)]
        rw [ec, ← es] at hR0
        exact srt _ M1 ((OffL.rf.wI (by omega) (by omega) (by omega) (by omega)).wI (by omega) (by omega) (by omega) (by omega)) dt2 h2 hqq hR0
      · refine V_aload_n o dX7_ring_46 rfl rfl ?_
        refine V_dup o dX7_ring_47 rfl ?_
        refine V_getI o dX7_ring_48 (kT32 t ht) fl_X7_146 (rT32 ht) ?_
        refine V_topI (v' := M1 (311 + t)) (h2.2.2 t ht).tms ?_
        refine V_iconst (v := 1) o dX7_ring_51 (by decide) ?_
        refine V_isub o dX7_ring_52 ?_
        refine V_putI o dX7_ring_53 (kT32 t ht) fl_X7_146 (rT32 ht) rfl rfl ?_
        rw [if_neg (fun q => q.elim (fun q => c_23 (by rw [eM1 (311 + t) (by omega)]; exact q)) (fun q => c_30 (by rw [eM1 (279 + t) (by omega)]; exact q)))] at hR0
        have hqq : Pq M1 t := Pq_same hq (eM1 _ (by omega))
        have es : M1 (279 + t) = M (279 + t) := eM1 _ (by omega)
        have h3 := WRel_tms (v := M1 (311 + t) - 1) h2 hL ht
        have ec : cmT M1 t = uM M1 (311 + t) (M1 (311 + t) - 1) := by unfold cmT; rw [if_pos (Int32.not_le.mp c_43), Int32.sub_eq_add_neg]
        rw [ec, ← es, ← uM_ne M1 (k := 311 + t) (M1 (311 + t) - 1) (show 279 + t ≠ 311 + t by omega)] at hR0
        exact srt _ _ (((OffL.rf.wI (by omega) (by omega) (by omega) (by omega)).wI (by omega) (by omega) (by omega) (by omega)).wI (by omega) (by omega) (by omega) (by omega)) (DrT_wI25 dt2 (by decide) _) h3 (Pq_same hqq (uM_ne _ _ (by omega))) hR0
    · refine V_aload_n o dX7_ring_33 rfl rfl ?_
      refine V_iconst (v := 0) o dX7_ring_34 (by decide) ?_
      refine V_putZ o dX7_ring_35 (kT32 t ht) fl_X7_58 (rT32 ht) rfl rfl (by simp) ?_
      refine V_ret o rt dX7_ring_38 rfl ?_
      have h3 := WRel_live (v := 0) h2 hL ht
      rw [if_pos (Or.inr (by rw [← eM1 (279 + t) (by omega)]; exact c_30))] at hR0
      rw [hR0] at h3
      exact ⟨rfl, (((OffL.rf.wI (by omega) (by omega) (by omega) (by omega)).wI (by omega) (by omega) (by omega) (by omega)).wI (by omega) (by omega) (by omega) (by omega)), DrT_wI25 dt2 (by decide) _, h3⟩
