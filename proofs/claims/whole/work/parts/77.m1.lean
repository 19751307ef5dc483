set_option maxRecDepth 20000 in
set_option maxHeartbeats 4000000 in
theorem c8_order {w : Wp} (hf : Fit sh0 w) {σ : Mm} {M : Nat → Int32} {L r n : Nat} {l : List Int64} {T : Nat → Int32} (hK : KR M L r l T n σ) (hF : Wf M L) (hB : Bo M) {k : Int32} : Ct sh0 w 1 mX8_order [.ref 1, .int k] σ (fun r' σ' => r' = some (.int (orderR M k)) ∧ Off 1 67 σ σ' ∧ KR (orderM M k) (L) r (l) (T) (n) σ') := by
  have hL := hF.2.2.1
  have hW := hK.1
  refine Ct_of hf (by decide) rfl (Nat.le_of_ble_eq_true rfl) (fun x o rt => ?_)
  refine V_iload_n o dX8_order_0 rfl rfl ?_
  refine V_iconst (v := 0) o dX8_order_1 (by decide) ?_
  refine V_iconst (v := 2) o dX8_order_2 (by decide) ?_
  refine V_cSi o rt dX8_order_3 ms_X8_79 (c8_isWithin hf) rfl rfl (Nat.le_of_ble_eq_true rfl) rfl ?_
  refine V_if_ne (tgt := 11) o dX8_order_6 (by decide) (fun c_6 => ?_) (fun c_6 => ?_)
  · refine V_iload_n o dX8_order_11 rfl rfl ?_
    refine V_aload_n o dX8_order_12 rfl rfl ?_
    refine V_getR (t := 2) o dX8_order_13 rfl fl_X8_10 rfl ?_
    refine V_getI o dX8_order_16 rfl fl_X8_83 rfl ?_
    refine V_topI (v' := M 5) hW.1.2.1 ?_
    refine V_icmp_ne (tgt := 25) o dX8_order_19 (by decide) (fun c_19 => ?_) (fun c_19 => ?_)
    · refine V_aload_n o dX8_order_25 rfl rfl ?_
      refine V_getR (t := 2) o dX8_order_26 rfl fl_X8_10 rfl ?_
      refine V_getI o dX8_order_29 rfl fl_X8_83 rfl ?_
      refine V_topI (v' := M 5) hW.1.2.1 ?_
      refine V_istore_n (ls' := [(2, _), (0, _), (1, _)]) o dX8_order_32 rfl (by decide) rfl ?_
      refine V_aload_n o dX8_order_33 rfl rfl ?_
      refine V_getR (t := 2) o dX8_order_34 rfl fl_X8_10 rfl ?_
      refine V_iload_n o dX8_order_37 rfl rfl ?_
      refine V_putI o dX8_order_38 rfl fl_X8_83 rfl rfl rfl ?_
      refine V_iload_n o dX8_order_41 rfl rfl ?_
      refine V_iret o rt dX8_order_42 rfl rfl ?_
      exact ⟨by rw [orderR, if_pos (bz_n0.mp c_6), if_neg (fun q => c_19 q.symm)], Off.rf.wI (by omega) (by omega), by rw [orderM, if_pos ⟨bz_n0.mp c_6, fun q => c_19 q.symm⟩]; exact hK.wk (Off.rf.wI (by omega) (by omega)) (WRel_rule hW hL) (fun j h1 h2 _ _ => uM_ne _ _ (by omega))⟩
    · refine V_bipush (v := -2) o dX8_order_22 (by decide) ?_
      refine V_iret o rt dX8_order_24 rfl rfl ?_
      exact ⟨by rw [orderR, if_pos (bz_n0.mp c_6), if_pos c_19.symm], Off.rf, by rw [orderM, if_neg (fun q => q.2 c_19.symm)]; exact hK⟩
  · refine V_iconst (v := -1) o dX8_order_9 (by decide) ?_
    refine V_iret o rt dX8_order_10 rfl rfl ?_
    exact ⟨by rw [orderR, if_neg (bz_0.mp c_6)], Off.rf, by rw [orderM, if_neg (fun q => bz_0.mp c_6 q.1)]; exact hK⟩
set_option maxRecDepth 20000 in
set_option maxHeartbeats 4000000 in
theorem c8_cancels {w : Wp} (hf : Fit sh0 w) {σ : Mm} {M : Nat → Int32} {L r n : Nat} {l : List Int64} {T : Nat → Int32} (hK : KR M L r l T n σ) (hF : Wf M L) (hB : Bo M) {k : Int32} : Ct sh0 w 2 mX8_cancels [.ref 1, .int k] σ (fun r' σ' => r' = some (.int (cancelsR M k)) ∧ Off 1 62 σ σ' ∧ KR (cancelsM M k) (L) r (l) (T) (n) σ') := by
  have hL := hF.2.2.1
  have hW := hK.1
  refine Ct_of hf (by decide) rfl (Nat.le_of_ble_eq_true rfl) (fun x o rt => ?_)
  refine V_aload_n o dX8_cancels_0 rfl rfl ?_
  refine V_getR (t := 2) o dX8_cancels_1 rfl fl_X8_10 rfl ?_
  refine V_iload_n o dX8_cancels_4 rfl rfl ?_
  rcases fnd3 hB k with hk | ⟨t, ht, rfl, hT⟩ | ⟨t, ht, rfl, hT⟩
  · refine V_cVn o rt dX8_cancels_5 ml_X8_154 (c7_find_out_2 hf hk) rfl rfl rfl (Nat.le_of_ble_eq_true rfl) rfl ?_
    refine V_astore_nN (ls' := [(2, _), (0, _), (1, _)]) o dX8_cancels_8 rfl (by decide) rfl ?_
    refine V_aload_nN o dX8_cancels_9 rfl rfl ?_
    refine V_ifnonnull_n o dX8_cancels_10 ?_
    refine V_iconst (v := -1) o dX8_cancels_13 (by decide) ?_
    refine V_iret o rt dX8_cancels_14 rfl rfl ?_
    exact ⟨by rw [cancelsR, if_neg (isTm_o hk)], Off.rf, by rw [cancelsM, if_neg (isTm_o hk)]; exact hK⟩
  · refine V_cVn o rt dX8_cancels_5 ml_X8_154 (c7_find_n_2 hf hW ht hT) rfl rfl rfl (Nat.le_of_ble_eq_true rfl) rfl ?_
    refine V_astore_nN (ls' := [(2, _), (0, _), (1, _)]) o dX8_cancels_8 rfl (by decide) rfl ?_
    refine V_aload_nN o dX8_cancels_9 rfl rfl ?_
    refine V_ifnonnull_n o dX8_cancels_10 ?_
    refine V_iconst (v := -1) o dX8_cancels_13 (by decide) ?_
    refine V_iret o rt dX8_cancels_14 rfl rfl ?_
    exact ⟨by rw [cancelsR, if_neg (isTm_0 ht hT)], Off.rf, by rw [cancelsM, if_neg (isTm_0 ht hT)]; exact hK⟩
  · refine V_cVr o rt dX8_cancels_5 ml_X8_154 (c7_find_2 hf hW ht hT) rfl rfl rfl (Nat.le_of_ble_eq_true rfl) rfl ?_
    refine V_astore_n (ls' := [(2, _), (0, _), (1, _)]) o dX8_cancels_8 rfl (by decide) rfl ?_
    refine V_aload_n o dX8_cancels_9 rfl rfl ?_
    refine V_ifnonnull_r (tgt := 15) o dX8_cancels_10 (by decide) ?_
    refine V_aload_n o dX8_cancels_15 rfl rfl ?_
    refine V_iconst (v := 0) o dX8_cancels_16 (by decide) ?_
    refine V_putZ o dX8_cancels_17 (kT9 t ht) fl_X8_158 (rT9 ht) rfl rfl (by simp) ?_
    refine V_aload_n o dX8_cancels_20 rfl rfl ?_
    refine V_dup o dX8_cancels_21 rfl ?_
    refine V_getI o dX8_cancels_22 rfl fl_X8_162 rfl ?_
    refine V_topI (v' := M 10) ((congrFun (wI_ne (by omega)) 9).trans hK.2.1.2.1) ?_
    refine V_iconst (v := 1) o dX8_cancels_25 (by decide) ?_
    refine V_iadd o dX8_cancels_26 ?_
    refine V_putI o dX8_cancels_27 rfl fl_X8_162 rfl rfl rfl ?_
    have hW2 : WRel 2 (caM M t) L (wI (wI σ (9 + t) 1 0) 1 9 (M 10 + 1)) := ((WRel_live (v := 0) hW hL ht).off (lo := 1) (hi := 2) hL (fun _ _ _ => rfl) (Off.rf.wI (by omega) (by omega)) (by omega)).cg hL (fun j h1 h2 => uM_ne _ _ (by omega))
    have hB2 : Bo (caM M t) := Bo_ca hB
    refine V_aload_n o dX8_cancels_30 rfl rfl ?_
    refine V_getR (t := 2) o dX8_cancels_31 rfl fl_X8_10 rfl ?_
    refine V_cVi o rt dX8_cancels_34 ml_X8_165 (c7_countSet hf hW2 hB2 rfl) rfl rfl rfl (Nat.le_of_ble_eq_true rfl) rfl ?_
    refine V_iret o rt dX8_cancels_37 rfl rfl ?_
    have hR : cancelsR M (nI t) = manyM (caM M t) := by rw [cancelsR, if_pos (isTm_t ht hT), ix_nI (by omega)]
    have hM : cancelsM M (nI t) = caM M t := by rw [cancelsM, if_pos (isTm_t ht hT), ix_nI (by omega)]
    refine ⟨by rw [hR], (Off.rf.wI (by omega) (by omega)).wI (by omega) (by omega), ?_⟩
    rw [hM]
    have hK1 : KR (uM M (215 + t) 0) L r l T n (wI σ (9 + t) 1 0) := hK.wk (Off.rf.wI (by omega) (by omega)) (WRel_live (v := 0) hW hL ht) (fun j h1 h2 _ _ => uM_ne _ _ (by omega))
    refine hK1.ct hL ⟨?_, ?_, ?_, ?_⟩ (fun j h1 h2 => uM_ne _ _ (by omega))
    · rw [wI_nj (by decide)]; unfold caM; rw [uM_ne _ _ (by omega)]; exact hK1.2.1.1
    · rw [wI_at]; unfold caM; rw [uM_self]
    · rw [wI_nj (by decide)]; unfold caM; rw [uM_ne _ _ (by omega)]; exact hK1.2.1.2.2.1
    · rw [wI_nj (by decide)]; unfold caM; rw [uM_ne _ _ (by omega)]; exact hK1.2.1.2.2.2
set_option maxRecDepth 20000 in
set_option maxHeartbeats 4000000 in
theorem c8_steady {w : Wp} (hf : Fit sh0 w) {σ : Mm} {M : Nat → Int32} {L r n : Nat} {l : List Int64} {T : Nat → Int32} (hK : KR M L r l T n σ) (hF : Wf M L) (hB : Bo M) {k b : Int32} (hb : b = 0 ∨ b = 1) : Ct sh0 w 1 mX8_steady [.ref 1, .int k, .int b] σ (fun r' σ' => r' = some (.int (steadyR M k b)) ∧ Off 1 67 σ σ' ∧ KR (steadyM M k b) (L) r (l) (T) (n) σ') := by
  have hL := hF.2.2.1
  have hW := hK.1
  refine Ct_of hf (by decide) rfl (Nat.le_of_ble_eq_true rfl) (fun x o rt => ?_)
  refine V_aload_n o dX8_steady_0 rfl rfl ?_
  refine V_getR (t := 2) o dX8_steady_1 rfl fl_X8_10 rfl ?_
  refine V_iload_n o dX8_steady_4 rfl rfl ?_
  rcases fnd3 hB k with hk | ⟨t, ht, rfl, hT⟩ | ⟨t, ht, rfl, hT⟩
  · refine V_cVn o rt dX8_steady_5 ml_X8_154 (c7_find_out_2 hf hk) rfl rfl rfl (Nat.le_of_ble_eq_true rfl) rfl ?_
    refine V_astore_nN (ls' := [(3, _), (0, _), (1, _), (2, _)]) o dX8_steady_8 rfl (by decide) rfl ?_
    refine V_aload_nN o dX8_steady_9 rfl rfl ?_
    refine V_ifnonnull_n o dX8_steady_10 ?_
    refine V_iconst (v := -1) o dX8_steady_13 (by decide) ?_
    refine V_iret o rt dX8_steady_14 rfl rfl ?_
    exact ⟨by rw [steadyR, if_neg (isTm_o hk)], Off.rf, by rw [steadyM, if_neg (fun q => (isTm_o hk) q.1)]; exact hK⟩
  · refine V_cVn o rt dX8_steady_5 ml_X8_154 (c7_find_n_2 hf hW ht hT) rfl rfl rfl (Nat.le_of_ble_eq_true rfl) rfl ?_
    refine V_astore_nN (ls' := [(3, _), (0, _), (1, _), (2, _)]) o dX8_steady_8 rfl (by decide) rfl ?_
    refine V_aload_nN o dX8_steady_9 rfl rfl ?_
    refine V_ifnonnull_n o dX8_steady_10 ?_
    refine V_iconst (v := -1) o dX8_steady_13 (by decide) ?_
    refine V_iret o rt dX8_steady_14 rfl rfl ?_
    exact ⟨by rw [steadyR, if_neg (isTm_0 ht hT)], Off.rf, by rw [steadyM, if_neg (fun q => (isTm_0 ht hT) q.1)]; exact hK⟩
  · refine V_cVr o rt dX8_steady_5 ml_X8_154 (c7_find_2 hf hW ht hT) rfl rfl rfl (Nat.le_of_ble_eq_true rfl) rfl ?_
    refine V_astore_n (ls' := [(3, _), (0, _), (1, _), (2, _)]) o dX8_steady_8 rfl (by decide) rfl ?_
    refine V_aload_n o dX8_steady_9 rfl rfl ?_
    refine V_ifnonnull_r (tgt := 15) o dX8_steady_10 (by decide) ?_
    refine V_aload_n o dX8_steady_15 rfl rfl ?_
    refine V_getI o dX8_steady_16 (kT9 t ht) fl_X8_168 (rT9 ht) ?_
    refine V_topI (v' := M (327 + t)) (hW.2.2 t ht).ste ?_
    refine V_iload_n o dX8_steady_19 rfl rfl ?_
    refine V_icmp_ne (tgt := 26) o dX8_steady_20 (by decide) (fun c_20 => ?_) (fun c_20 => ?_)
    · refine V_aload_n o dX8_steady_26 rfl rfl ?_
      refine V_iload_n o dX8_steady_27 rfl rfl ?_
      refine V_putZ o dX8_steady_28 (kT9 t ht) fl_X8_168 (rT9 ht) rfl rfl hb ?_
      refine V_iload_n o dX8_steady_31 rfl rfl ?_
      refine V_if_eq (tgt := 39) o dX8_steady_32 (by decide) (fun c_32 => ?_) (fun c_32 => ?_)
      · refine V_iconst (v := 1) o dX8_steady_39 (by decide) ?_
        refine V_iret o rt dX8_steady_40 rfl rfl ?_
        have e2 : M (327 + t) = 1 := (hB t ht).2.1.resolve_left (fun q => c_20 (q.trans c_32.symm))
        exact ⟨by rw [steadyR, if_pos (isTm_t ht hT), ix_nI (by omega), if_neg c_20, e2], Off.rf.wI (by omega) (by omega), by rw [steadyM, if_pos ⟨isTm_t ht hT, by rw [ix_nI (by omega)]; exact c_20⟩, ix_nI (by omega)]; exact hK.wk (Off.rf.wI (by omega) (by omega)) (WRel_ste hW hL ht) (fun j h1 h2 _ _ => uM_ne _ _ (by omega))⟩
      · refine V_iconst (v := 0) o dX8_steady_35 (by decide) ?_
        refine V_goto (tgt := 40) o dX8_steady_36 (by decide) ?_
        refine V_iret o rt dX8_steady_40 rfl rfl ?_
        have e2 : M (327 + t) = 0 := (hB t ht).2.1.resolve_right (fun q => c_20 (q.trans (hb.resolve_left c_32).symm))
        exact ⟨by rw [steadyR, if_pos (isTm_t ht hT), ix_nI (by omega), if_neg c_20, e2], Off.rf.wI (by omega) (by omega), by rw [steadyM, if_pos ⟨isTm_t ht hT, by rw [ix_nI (by omega)]; exact c_20⟩, ix_nI (by omega)]; exact hK.wk (Off.rf.wI (by omega) (by omega)) (WRel_ste hW hL ht) (fun j h1 h2 _ _ => uM_ne _ _ (by omega))⟩
    · refine V_bipush (v := -2) o dX8_steady_23 (by decide) ?_
      refine V_iret o rt dX8_steady_25 rfl rfl ?_
      exact ⟨by rw [steadyR, if_pos (isTm_t ht hT), ix_nI (by omega), if_pos c_20], Off.rf, by rw [steadyM, if_neg (fun q => q.2 (by rw [ix_nI (by omega)]; exact c_20))]; exact hK⟩
set_option maxRecDepth 20000 in
set_option maxHeartbeats 4000000 in
theorem c8_pauses {w : Wp} (hf : Fit sh0 w) {σ : Mm} {M : Nat → Int32} {L r n : Nat} {l : List Int64} {T : Nat → Int32} (hK : KR M L r l T n σ) (hF : Wf M L) (hB : Bo M) {k : Int32} : Ct sh0 w 1 mX8_pauses [.ref 1, .int k] σ (fun r' σ' => r' = some (.int (pausesR M k)) ∧ Off 1 67 σ σ' ∧ KR (pausesM M k) (L) r (l) (T) (n) σ') := by
  have hL := hF.2.2.1
  have hW := hK.1
  refine Ct_of hf (by decide) rfl (Nat.le_of_ble_eq_true rfl) (fun x o rt => ?_)
  refine V_aload_n o dX8_pauses_0 rfl rfl ?_
  refine V_getR (t := 2) o dX8_pauses_1 rfl fl_X8_10 rfl ?_
  refine V_iload_n o dX8_pauses_4 rfl rfl ?_
  rcases fnd3 hB k with hk | ⟨t, ht, rfl, hT⟩ | ⟨t, ht, rfl, hT⟩
  · refine V_cVn o rt dX8_pauses_5 ml_X8_154 (c7_find_out_2 hf hk) rfl rfl rfl (Nat.le_of_ble_eq_true rfl) rfl ?_
    refine V_astore_nN (ls' := [(2, _), (0, _), (1, _)]) o dX8_pauses_8 rfl (by decide) rfl ?_
    refine V_aload_nN o dX8_pauses_9 rfl rfl ?_
    refine V_ifnonnull_n o dX8_pauses_10 ?_
    refine V_iconst (v := -1) o dX8_pauses_13 (by decide) ?_
    refine V_iret o rt dX8_pauses_14 rfl rfl ?_
    exact ⟨by rw [pausesR, if_neg (isTm_o hk)], Off.rf, by rw [pausesM, if_neg (fun q => (isTm_o hk) q.1)]; exact hK⟩
  · refine V_cVn o rt dX8_pauses_5 ml_X8_154 (c7_find_n_2 hf hW ht hT) rfl rfl rfl (Nat.le_of_ble_eq_true rfl) rfl ?_
    refine V_astore_nN (ls' := [(2, _), (0, _), (1, _)]) o dX8_pauses_8 rfl (by decide) rfl ?_
    refine V_aload_nN o dX8_pauses_9 rfl rfl ?_
    refine V_ifnonnull_n o dX8_pauses_10 ?_
    refine V_iconst (v := -1) o dX8_pauses_13 (by decide) ?_
    refine V_iret o rt dX8_pauses_14 rfl rfl ?_
    exact ⟨by rw [pausesR, if_neg (isTm_0 ht hT)], Off.rf, by rw [pausesM, if_neg (fun q => (isTm_0 ht hT) q.1)]; exact hK⟩
  · refine V_cVr o rt dX8_pauses_5 ml_X8_154 (c7_find_2 hf hW ht hT) rfl rfl rfl (Nat.le_of_ble_eq_true rfl) rfl ?_
    refine V_astore_n (ls' := [(2, _), (0, _), (1, _)]) o dX8_pauses_8 rfl (by decide) rfl ?_
    refine V_aload_n o dX8_pauses_9 rfl rfl ?_
    refine V_ifnonnull_r (tgt := 15) o dX8_pauses_10 (by decide) ?_
    refine V_aload_n o dX8_pauses_15 rfl rfl ?_
    refine V_getI o dX8_pauses_16 (kT9 t ht) fl_X8_171 (rT9 ht) ?_
    refine V_topI (v' := M (343 + t)) (hW.2.2 t ht).pau ?_
    refine V_if_eq (tgt := 25) o dX8_pauses_19 (by decide) (fun c_19 => ?_) (fun c_19 => ?_)
    · refine V_aload_n o dX8_pauses_25 rfl rfl ?_
      refine V_getR (t := 2) o dX8_pauses_26 rfl fl_X8_10 rfl ?_
      refine V_aload_n o dX8_pauses_29 rfl rfl ?_
      refine V_cVv o rt dX8_pauses_30 ml_X8_174 (c7_pause_2 hf hW ht) rfl rfl rfl (Nat.le_of_ble_eq_true rfl) rfl ?_
      refine V_aload_n o dX8_pauses_33 rfl rfl ?_
      refine V_getI o dX8_pauses_34 (kT9 t ht) fl_X8_177 (rT9 ht) ?_
      refine V_topI (v' := M (231 + t) - M 6) (by unfold paSg; rw [wI_nj (by decide), wI_nj (by decide), wI_at]) ?_
      refine V_iret o rt dX8_pauses_37 rfl rfl ?_
      have h1 : ¬ M (343 + t) = 1 := by rw [c_19]; decide
      have ho : Off 2 25 σ (paSg 2 M t σ) := (((Off.rf.wI (by omega) (by omega)).wI (by omega) (by omega)).wI (by omega) (by omega)).wI (by omega) (by omega)
      exact ⟨by rw [pausesR, if_pos (isTm_t ht hT), ix_nI (by omega), if_neg h1], ho.wd (by omega) (by omega), by rw [pausesM, if_pos ⟨isTm_t ht hT, by rw [ix_nI (by omega)]; exact h1⟩, ix_nI (by omega)]; exact hK.wk ho (WRel_pause hW hL ht) (fun j h1 h2 _ _ => by unfold paM; rw [uM_ne _ _ (by omega), uM_ne _ _ (by omega)])⟩
    · refine V_bipush (v := -2) o dX8_pauses_22 (by decide) ?_
      refine V_iret o rt dX8_pauses_24 rfl rfl ?_
      have h1 := (hB t ht).2.2.resolve_left c_19
      exact ⟨by rw [pausesR, if_pos (isTm_t ht hT), ix_nI (by omega), if_pos h1], Off.rf, by rw [pausesM, if_neg (fun q => q.2 (by rw [ix_nI (by omega)]; exact h1))]; exact hK⟩
set_option maxRecDepth 20000 in
set_option maxHeartbeats 4000000 in
theorem c8_resumes {w : Wp} (hf : Fit sh0 w) {σ : Mm} {M : Nat → Int32} {L r n : Nat} {l : List Int64} {T : Nat → Int32} (hK : KR M L r l T n σ) (hF : Wf M L) (hB : Bo M) {k : Int32} : Ct sh0 w 3 mX8_resumes [.ref 1, .int k] σ (fun r' σ' => r' = some (.int (resumesR M k)) ∧ Off 1 67 σ σ' ∧ KR (resumesM M L k) (L) r (l) (T) (n) σ') := by
  have hL := hF.2.2.1
  have hW := hK.1
  refine Ct_of hf (by decide) rfl (Nat.le_of_ble_eq_true rfl) (fun x o rt => ?_)
  refine V_aload_n o dX8_resumes_0 rfl rfl ?_
  refine V_getR (t := 2) o dX8_resumes_1 rfl fl_X8_10 rfl ?_
  refine V_iload_n o dX8_resumes_4 rfl rfl ?_
  rcases fnd3 hB k with hk | ⟨t, ht, rfl, hT⟩ | ⟨t, ht, rfl, hT⟩
  · refine V_cVn o rt dX8_resumes_5 ml_X8_154 (c7_find_out_2 hf hk) rfl rfl rfl (Nat.le_of_ble_eq_true rfl) rfl ?_
    refine V_astore_nN (ls' := [(2, _), (0, _), (1, _)]) o dX8_resumes_8 rfl (by decide) rfl ?_
    refine V_aload_nN o dX8_resumes_9 rfl rfl ?_
    refine V_ifnonnull_n o dX8_resumes_10 ?_
    refine V_iconst (v := -1) o dX8_resumes_13 (by decide) ?_
    refine V_iret o rt dX8_resumes_14 rfl rfl ?_
    exact ⟨by rw [resumesR, if_neg (isTm_o hk)], Off.rf, by rw [resumesM, if_neg (fun q => (isTm_o hk) q.1)]; exact hK⟩
  · refine V_cVn o rt dX8_resumes_5 ml_X8_154 (c7_find_n_2 hf hW ht hT) rfl rfl rfl (Nat.le_of_ble_eq_true rfl) rfl ?_
    refine V_astore_nN (ls' := [(2, _), (0, _), (1, _)]) o dX8_resumes_8 rfl (by decide) rfl ?_
    refine V_aload_nN o dX8_resumes_9 rfl rfl ?_
    refine V_ifnonnull_n o dX8_resumes_10 ?_
    refine V_iconst (v := -1) o dX8_resumes_13 (by decide) ?_
    refine V_iret o rt dX8_resumes_14 rfl rfl ?_
    exact ⟨by rw [resumesR, if_neg (isTm_0 ht hT)], Off.rf, by rw [resumesM, if_neg (fun q => (isTm_0 ht hT) q.1)]; exact hK⟩
  · refine V_cVr o rt dX8_resumes_5 ml_X8_154 (c7_find_2 hf hW ht hT) rfl rfl rfl (Nat.le_of_ble_eq_true rfl) rfl ?_
    refine V_astore_n (ls' := [(2, _), (0, _), (1, _)]) o dX8_resumes_8 rfl (by decide) rfl ?_
    refine V_aload_n o dX8_resumes_9 rfl rfl ?_
    refine V_ifnonnull_r (tgt := 15) o dX8_resumes_10 (by decide) ?_
    refine V_aload_n o dX8_resumes_15 rfl rfl ?_
    refine V_getI o dX8_resumes_16 (kT9 t ht) fl_X8_171 (rT9 ht) ?_
    refine V_topI (v' := M (343 + t)) (hW.2.2 t ht).pau ?_
    refine V_if_ne (tgt := 25) o dX8_resumes_19 (by decide) (fun c_19 => ?_) (fun c_19 => ?_)
    · refine V_aload_n o dX8_resumes_25 rfl rfl ?_
      refine V_getR (t := 2) o dX8_resumes_26 rfl fl_X8_10 rfl ?_
      refine V_aload_n o dX8_resumes_29 rfl rfl ?_
      refine V_callV o rt dX8_resumes_30 ml_X8_180 (c7_resume_2 hf hW hF ht ((hB t ht).2.2.resolve_left c_19)) rfl rfl rfl (Nat.le_of_ble_eq_true rfl) rfl (fun r_30 σ_30 q_30 => ?_)
      obtain ⟨rfl, ho, hW2⟩ := q_30
      show V sh0 w x mX8_resumes (0, 0) _ _ [] _
      refine V_aload_n o dX8_resumes_33 rfl rfl ?_
      refine V_getI o dX8_resumes_34 (kT9 t ht) fl_X8_183 (rT9 ht) ?_
      refine V_topI (v' := M 6 + M (359 + t)) ((hW2.2.2 t ht).due.trans (by unfold reM; rw [layM_ne (by omega), uM_self])) ?_
      refine V_iret o rt dX8_resumes_37 rfl rfl ?_
      exact ⟨by rw [resumesR, if_pos (isTm_t ht hT), ix_nI (by omega), if_neg c_19], ho.wd (by omega) (by omega), by rw [resumesM, if_pos ⟨isTm_t ht hT, by rw [ix_nI (by omega)]; exact c_19⟩, ix_nI (by omega)]; exact hK.wk (ho.wd (by omega) (by omega)) hW2 (fun j h1 h2 _ _ => by unfold reM; rw [layM_ne (by omega), uM_ne _ _ (by omega), uM_ne _ _ (by omega)])⟩
    · refine V_bipush (v := -2) o dX8_resumes_22 (by decide) ?_
      refine V_iret o rt dX8_resumes_24 rfl rfl ?_
      exact ⟨by rw [resumesR, if_pos (isTm_t ht hT), ix_nI (by omega), if_pos c_19], Off.rf, by rw [resumesM, if_neg (fun q => q.2 (by rw [ix_nI (by omega)]; exact c_19))]; exact hK⟩
