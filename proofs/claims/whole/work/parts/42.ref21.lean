set_option maxRecDepth 20000 in
set_option maxHeartbeats 4000000 in
theorem c9_cost {w : Wp} (hf : Fit sh0 w) {σ : Mm} {M : Nat → Int32} (hd : σ.1 67 8 = nI 0) {a b c e : Int32} {W : Nat → Int32} (hWi : wiW (σ.1 74) a b c e = W) (hok : wiOk W = true) {M1 : Nat → Int32} (hM1 : layAllM (wiM (trM M) W (wiN W 4 0)) (wiN W 4 0) = M1) {S : Int32 × Int32 × Int32} (hS : coS (wiN W 4 0) M1 = S) : Ct sh0 w 7 mX9_cost [.ref 67, .int a, .int b, .int c, .int e] (sM σ 0 M) (fun r' σ' => ∃ fc fl fr, r' = some (.int S.1) ∧ σ' = sM (sRw (wI (sCo (sWy (sWi (wI σ 67 0 0) W) fc fl) S.2.1 S.2.2) 67 8 0) fr 2) 0 (bkM M M1) ∧ RwR fr [S.2.1.toInt64, S.2.2.toInt64]) := by
  have hwf := Wf_wiM (M := trM M) hok
  have hsp := wiOk_spec hok
  have hR : wiR W = nI (wiN W 4 0) := if_pos hok
  generalize hN : wiN W 4 0 = N at hwf hsp hR hM1 hS
  refine Ct_of hf (by decide) rfl (Nat.le_of_ble_eq_true rfl) (fun x o rt => ?_)
  refine V_aload_n o dX9_cost_0 rfl rfl ?_
  refine V_iconst (v := 0) o dX9_cost_1 (by decide) ?_
  refine V_putI o dX9_cost_2 rfl fl_X9_1 rfl rfl rfl ?_
  rw [wI_sM67]
  refine V_aload_n o dX9_cost_5 rfl rfl ?_
  refine V_iload_n o dX9_cost_6 rfl rfl ?_
  refine V_iload_n o dX9_cost_7 rfl rfl ?_
  refine V_iload_n o dX9_cost_8 rfl rfl ?_
  refine V_iload o dX9_cost_9 rfl ?_
  refine V_cVi o rt dX9_cost_11 ml_X9_173 (c9_wishes hf) rfl rfl rfl (Nat.le_of_ble_eq_true rfl) rfl ?_
  rw [show wiW ((wI σ 67 0 0).1 74) a b c e = W from hWi]
  refine V_topI (v' := nI N) hR ?_
  refine V_istore (ls' := [(5, _), (0, _), (1, _), (2, _), (3, _), (4, _)]) o dX9_cost_14 (by decide) rfl ?_
  refine V_iload o dX9_cost_16 rfl ?_
  refine V_if_ge (tgt := 23) o dX9_cost_18 (by decide) (fun c_18 => ?_) (fun c_18 => False.elim (c_18 (nI_pos' (by omega))))
  refine V_aload_n o dX9_cost_23 rfl rfl ?_
  refine V_iload o dX9_cost_24 rfl ?_
  refine V_callV o rt dX9_cost_26 ml_X9_267 (c9_costOf (σ := sWi (wI σ 67 0 0) W) (N := N) (M1 := M1) (S := S) hf rfl hM1 hwf hS) rfl rfl rfl (Nat.le_of_ble_eq_true rfl) rfl (fun r_26 σ_26 q_26 => ?_)
  obtain ⟨fc, fl, rfl, rfl⟩ := q_26
  show V sh0 w x mX9_cost (0, 0) _ _ (.int S.1 :: []) _
  refine V_istore (ls' := [(6, _), (5, _), (0, _), (1, _), (2, _), (3, _), (4, _)]) o dX9_cost_29 (by decide) rfl ?_
  refine V_aload_n o dX9_cost_31 rfl rfl ?_
  refine V_iconst (v := 0) o dX9_cost_32 (by decide) ?_
  refine V_putI o dX9_cost_33 rfl fl_X9_11 rfl rfl rfl ?_
  rw [wI_sM67]
  rw [wI_sRw0]
  refine V_aload_n o dX9_cost_36 rfl rfl ?_
  refine V_aload_n o dX9_cost_37 rfl rfl ?_
  refine V_getI o dX9_cost_38 rfl fl_X9_261 rfl ?_
  refine V_i2l o dX9_cost_41 ?_
  refine V_cVv o rt dX9_cost_42 ml_X9_153 (c9_enters hf (by omega)) rfl rfl rfl (Nat.le_of_ble_eq_true rfl) rfl ?_
  refine V_aload_n o dX9_cost_45 rfl rfl ?_
  refine V_aload_n o dX9_cost_46 rfl rfl ?_
  refine V_getI o dX9_cost_47 rfl fl_X9_264 rfl ?_
  refine V_i2l o dX9_cost_50 ?_
  refine V_cVv o rt dX9_cost_51 ml_X9_153 (c9_enters hf (by omega)) rfl rfl rfl (Nat.le_of_ble_eq_true rfl) rfl ?_
  refine V_iload o dX9_cost_54 rfl ?_
  refine V_iret o rt dX9_cost_56 rfl rfl ?_
  exact ⟨fc, fl, _, rfl, rfl, RwR_push (l := [_]) rfl (RwR_push (l := []) rfl RwR_nil)⟩
set_option maxRecDepth 20000 in
set_option maxHeartbeats 4000000 in
theorem c9_cost_no {w : Wp} (hf : Fit sh0 w) {σ : Mm} {M : Nat → Int32} (hd : σ.1 67 8 = nI 0) {a b c e : Int32} {W : Nat → Int32} (hWi : wiW (σ.1 74) a b c e = W) (hok : ¬ wiOk W = true) : Cf sh0 w 7 mX9_cost [.ref 67, .int a, .int b, .int c, .int e] (sM σ 0 M) (some (.int (-1))) (sM (sWi (wI σ 67 0 0) W) 0 M) := by
  have hR : wiR W = -1 := if_neg hok
  refine Ct_of hf (by decide) rfl (Nat.le_of_ble_eq_true rfl) (fun x o rt => ?_)
  refine V_aload_n o dX9_cost_0 rfl rfl ?_
  refine V_iconst (v := 0) o dX9_cost_1 (by decide) ?_
  refine V_putI o dX9_cost_2 rfl fl_X9_1 rfl rfl rfl ?_
  rw [wI_sM67]
  refine V_aload_n o dX9_cost_5 rfl rfl ?_
  refine V_iload_n o dX9_cost_6 rfl rfl ?_
  refine V_iload_n o dX9_cost_7 rfl rfl ?_
  refine V_iload_n o dX9_cost_8 rfl rfl ?_
  refine V_iload o dX9_cost_9 rfl ?_
  refine V_cVi o rt dX9_cost_11 ml_X9_173 (c9_wishes hf) rfl rfl rfl (Nat.le_of_ble_eq_true rfl) rfl ?_
  rw [show wiW ((wI σ 67 0 0).1 74) a b c e = W from hWi]
  refine V_topI (v' := -1) hR ?_
  refine V_istore (ls' := [(5, _), (0, _), (1, _), (2, _), (3, _), (4, _)]) o dX9_cost_14 (by decide) rfl ?_
  refine V_iload o dX9_cost_16 rfl ?_
  refine V_if_ge (tgt := 23) o dX9_cost_18 (by decide) (fun c_18 => False.elim (absurd c_18 (by decide))) (fun c_18 => ?_)
  refine V_iconst (v := -1) o dX9_cost_21 (by decide) ?_
  refine V_iret o rt dX9_cost_22 rfl rfl ?_
  exact ⟨rfl, rfl⟩
abbrev ahC (M : Nat → Int32) (a b : Int32) : Prop := isTm M a ∧ isTm M b ∧ a ≠ b
abbrev ahG (M : Nat → Int32) (a b : Int32) : Prop := isG M (ix a) ∧ isG M (ix b)
set_option maxRecDepth 20000 in
set_option maxHeartbeats 4000000 in
theorem c9_ahead {w : Wp} (hf : Fit sh0 w) {σ : Mm} {M : Nat → Int32} (hd : σ.1 67 8 = nI 0) {a b : Int32} (hc : ahC M a b) (hg : ahG M a b) : Ct sh0 w 3 mX9_ahead [.ref 67, .int a, .int b] (sM σ 0 M) (fun r' σ' => ∃ fr, r' = some (.int (bz (¬ soonB M true (ix a) (ix b) = true))) ∧ σ' = sM (sRw (wI σ 67 0 0) fr 1) 0 M ∧ RwR fr [(mnI (M (231 + ix a)) (M (231 + ix b))).toInt64]) := by
  refine Ct_of hf (by decide) rfl (Nat.le_of_ble_eq_true rfl) (fun x o rt => ?_)
  have hxa := isTm_ix hc.1.1
  have hxb := isTm_ix hc.2.1.1
  refine V_aload_n o dX9_ahead_0 rfl rfl ?_
  refine V_iconst (v := 0) o dX9_ahead_1 (by decide) ?_
  refine V_putI o dX9_ahead_2 rfl fl_X9_1 rfl rfl rfl ?_
  rw [wI_sM67]
  refine V_aload_n o dX9_ahead_5 rfl rfl ?_
  refine V_iload_n o dX9_ahead_6 rfl rfl ?_
  refine V_cVi o rt dX9_ahead_7 ml_X9_89 (c9_isTm hf (by exact hd) (Nat.zero_le 423)) rfl rfl rfl (Nat.le_of_ble_eq_true rfl) rfl ?_
  refine V_if_eq (tgt := 26) o dX9_ahead_10 (by decide) (fun c_10 => False.elim (bz_0.mp c_10 hc.1)) (fun c_10 => ?_)
  refine V_aload_n o dX9_ahead_13 rfl rfl ?_
  refine V_iload_n o dX9_ahead_14 rfl rfl ?_
  refine V_cVi o rt dX9_ahead_15 ml_X9_89 (c9_isTm hf (by exact hd) (Nat.zero_le 423)) rfl rfl rfl (Nat.le_of_ble_eq_true rfl) rfl ?_
  refine V_if_eq (tgt := 26) o dX9_ahead_18 (by decide) (fun c_18 => False.elim (bz_0.mp c_18 hc.2.1)) (fun c_18 => ?_)
  refine V_iload_n o dX9_ahead_21 rfl rfl ?_
  refine V_iload_n o dX9_ahead_22 rfl rfl ?_
  refine V_icmp_ne (tgt := 28) o dX9_ahead_23 (by decide) (fun c_23 => ?_) (fun c_23 => False.elim (hc.2.2 c_23))
  refine V_aload_n o dX9_ahead_28 rfl rfl ?_
  refine V_iload_n o dX9_ahead_29 rfl rfl ?_
  refine V_cVi o rt dX9_ahead_30 ml_X9_99 (c9_goes hf (by exact hd) (Nat.zero_le 423) hxa.1 (by omega)) rfl rfl rfl (Nat.le_of_ble_eq_true rfl) rfl ?_
  refine V_if_eq (tgt := 44) o dX9_ahead_33 (by decide) (fun c_33 => False.elim (bz_0.mp c_33 hg.1)) (fun c_33 => ?_)
  refine V_aload_n o dX9_ahead_36 rfl rfl ?_
  refine V_iload_n o dX9_ahead_37 rfl rfl ?_
  refine V_cVi o rt dX9_ahead_38 ml_X9_99 (c9_goes hf (by exact hd) (Nat.zero_le 423) hxb.1 (by omega)) rfl rfl rfl (Nat.le_of_ble_eq_true rfl) rfl ?_
  refine V_if_ne (tgt := 47) o dX9_ahead_41 (by decide) (fun c_41 => ?_) (fun c_41 => False.elim (bz_n0.mpr hg.2 c_41))
  refine V_aload_n o dX9_ahead_47 rfl rfl ?_
  refine V_iload_n o dX9_ahead_48 rfl rfl ?_
  refine V_iload_n o dX9_ahead_49 rfl rfl ?_
  refine V_iconst (v := 1) o dX9_ahead_50 (by decide) ?_
  refine V_cVi o rt dX9_ahead_51 ml_X9_112 (c9_isSooner hf (by exact hd) (Nat.zero_le 423) hxa.1 hxa.2 hxb.1 hxb.2 true rfl) rfl rfl rfl (Nat.le_of_ble_eq_true rfl) rfl ?_
  refine V_istore_n (ls' := [(3, _), (0, _), (1, _), (2, _)]) o dX9_ahead_54 rfl (by decide) rfl ?_
  refine V_aload_n o dX9_ahead_55 rfl rfl ?_
  refine V_iconst (v := 0) o dX9_ahead_56 (by decide) ?_
  refine V_putI o dX9_ahead_57 rfl fl_X9_11 rfl rfl rfl ?_
  rw [wI_sM67]
  rw [wI_sRw0]
  refine V_aload_n o dX9_ahead_60 rfl rfl ?_
  refine V_aload_n o dX9_ahead_61 rfl rfl ?_
  refine V_sipush (v := 231) o dX9_ahead_62 (by decide) ?_
  refine V_iload_n o dX9_ahead_65 rfl rfl ?_
  refine V_iadd o dX9_ahead_66 ?_
  refine V_cVi o rt dX9_ahead_67 ml_X9_85 (c9_of hf (by exact hd) (nadd (show (231 : Int32) = nI 231 from rfl) hxa.1) (by omega)) rfl rfl rfl (Nat.le_of_ble_eq_true rfl) rfl ?_
  refine V_aload_n o dX9_ahead_70 rfl rfl ?_
  refine V_sipush (v := 231) o dX9_ahead_71 (by decide) ?_
  refine V_iload_n o dX9_ahead_74 rfl rfl ?_
  refine V_iadd o dX9_ahead_75 ?_
  refine V_cVi o rt dX9_ahead_76 ml_X9_85 (c9_of hf (by exact hd) (nadd (show (231 : Int32) = nI 231 from rfl) hxb.1) (by omega)) rfl rfl rfl (Nat.le_of_ble_eq_true rfl) rfl ?_
  refine V_cSi o rt dX9_ahead_79 ms_X9_120 (cJ_min hf) rfl rfl (Nat.le_of_ble_eq_true rfl) rfl ?_
  refine V_i2l o dX9_ahead_82 ?_
  refine V_cVv o rt dX9_ahead_83 ml_X9_153 (c9_enters hf (by omega)) rfl rfl rfl (Nat.le_of_ble_eq_true rfl) rfl ?_
  refine V_iload_n o dX9_ahead_86 rfl rfl ?_
  refine V_if_ne (tgt := 94) o dX9_ahead_87 (by decide) (fun c_87 => ?_) (fun c_87 => ?_)
  · refine V_iconst (v := 0) o dX9_ahead_94 (by decide) ?_
    refine V_cSi o rt dX9_ahead_95 ms_X9_31 (c9_flag hf (by simp)) rfl rfl (Nat.le_of_ble_eq_true rfl) rfl ?_
    refine V_iret o rt dX9_ahead_98 rfl rfl ?_
    refine ⟨_, ?_, rfl, RwR_push (l := []) rfl RwR_nil⟩
    rw [bz_f (fun q => q (bz_n0.mp c_87))]
  · refine V_iconst (v := 1) o dX9_ahead_90 (by decide) ?_
    refine V_goto (tgt := 95) o dX9_ahead_91 (by decide) ?_
    refine V_cSi o rt dX9_ahead_95 ms_X9_31 (c9_flag hf (by simp)) rfl rfl (Nat.le_of_ble_eq_true rfl) rfl ?_
    refine V_iret o rt dX9_ahead_98 rfl rfl ?_
    refine ⟨_, ?_, rfl, RwR_push (l := []) rfl RwR_nil⟩
    rw [bz_t (bz_0.mp c_87)]
set_option maxRecDepth 20000 in
set_option maxHeartbeats 4000000 in
theorem c9_ahead_pa {w : Wp} (hf : Fit sh0 w) {σ : Mm} {M : Nat → Int32} (hd : σ.1 67 8 = nI 0) {a b : Int32} (hc : ahC M a b) (hg : ¬ ahG M a b) : Cf sh0 w 3 mX9_ahead [.ref 67, .int a, .int b] (sM σ 0 M) (some (.int (-2))) (sM (wI σ 67 0 0) 0 M) := by
  refine Ct_of hf (by decide) rfl (Nat.le_of_ble_eq_true rfl) (fun x o rt => ?_)
  have hxa := isTm_ix hc.1.1
  have hxb := isTm_ix hc.2.1.1
  refine V_aload_n o dX9_ahead_0 rfl rfl ?_
  refine V_iconst (v := 0) o dX9_ahead_1 (by decide) ?_
  refine V_putI o dX9_ahead_2 rfl fl_X9_1 rfl rfl rfl ?_
  rw [wI_sM67]
  refine V_aload_n o dX9_ahead_5 rfl rfl ?_
  refine V_iload_n o dX9_ahead_6 rfl rfl ?_
  refine V_cVi o rt dX9_ahead_7 ml_X9_89 (c9_isTm hf (by exact hd) (Nat.zero_le 423)) rfl rfl rfl (Nat.le_of_ble_eq_true rfl) rfl ?_
  refine V_if_eq (tgt := 26) o dX9_ahead_10 (by decide) (fun c_10 => False.elim (bz_0.mp c_10 hc.1)) (fun c_10 => ?_)
  refine V_aload_n o dX9_ahead_13 rfl rfl ?_
  refine V_iload_n o dX9_ahead_14 rfl rfl ?_
  refine V_cVi o rt dX9_ahead_15 ml_X9_89 (c9_isTm hf (by exact hd) (Nat.zero_le 423)) rfl rfl rfl (Nat.le_of_ble_eq_true rfl) rfl ?_
  refine V_if_eq (tgt := 26) o dX9_ahead_18 (by decide) (fun c_18 => False.elim (bz_0.mp c_18 hc.2.1)) (fun c_18 => ?_)
  refine V_iload_n o dX9_ahead_21 rfl rfl ?_
  refine V_iload_n o dX9_ahead_22 rfl rfl ?_
  refine V_icmp_ne (tgt := 28) o dX9_ahead_23 (by decide) (fun c_23 => ?_) (fun c_23 => False.elim (hc.2.2 c_23))
  refine V_aload_n o dX9_ahead_28 rfl rfl ?_
  refine V_iload_n o dX9_ahead_29 rfl rfl ?_
  refine V_cVi o rt dX9_ahead_30 ml_X9_99 (c9_goes hf (by exact hd) (Nat.zero_le 423) hxa.1 (by omega)) rfl rfl rfl (Nat.le_of_ble_eq_true rfl) rfl ?_
  refine V_if_eq (tgt := 44) o dX9_ahead_33 (by decide) (fun c_33 => ?_) (fun c_33 => ?_)
  · refine V_bipush (v := -2) o dX9_ahead_44 (by decide) ?_
    refine V_iret o rt dX9_ahead_46 rfl rfl ?_
    exact ⟨rfl, rfl⟩
  · refine V_aload_n o dX9_ahead_36 rfl rfl ?_
    refine V_iload_n o dX9_ahead_37 rfl rfl ?_
    refine V_cVi o rt dX9_ahead_38 ml_X9_99 (c9_goes hf (by exact hd) (Nat.zero_le 423) hxb.1 (by omega)) rfl rfl rfl (Nat.le_of_ble_eq_true rfl) rfl ?_
    refine V_if_ne (tgt := 47) o dX9_ahead_41 (by decide) (fun c_41 => False.elim (hg ⟨bz_n0.mp c_33, bz_n0.mp c_41⟩)) (fun c_41 => ?_)
    refine V_bipush (v := -2) o dX9_ahead_44 (by decide) ?_
    refine V_iret o rt dX9_ahead_46 rfl rfl ?_
    exact ⟨rfl, rfl⟩
set_option maxRecDepth 20000 in
set_option maxHeartbeats 4000000 in
theorem c9_ahead_no {w : Wp} (hf : Fit sh0 w) {σ : Mm} {M : Nat → Int32} (hd : σ.1 67 8 = nI 0) {a b : Int32} (hc : ¬ ahC M a b) : Cf sh0 w 3 mX9_ahead [.ref 67, .int a, .int b] (sM σ 0 M) (some (.int (-1))) (sM (wI σ 67 0 0) 0 M) := by
  refine Ct_of hf (by decide) rfl (Nat.le_of_ble_eq_true rfl) (fun x o rt => ?_)
  refine V_aload_n o dX9_ahead_0 rfl rfl ?_
  refine V_iconst (v := 0) o dX9_ahead_1 (by decide) ?_
  refine V_putI o dX9_ahead_2 rfl fl_X9_1 rfl rfl rfl ?_
  rw [wI_sM67]
  refine V_aload_n o dX9_ahead_5 rfl rfl ?_
  refine V_iload_n o dX9_ahead_6 rfl rfl ?_
  refine V_cVi o rt dX9_ahead_7 ml_X9_89 (c9_isTm hf (by exact hd) (Nat.zero_le 423)) rfl rfl rfl (Nat.le_of_ble_eq_true rfl) rfl ?_
  refine V_if_eq (tgt := 26) o dX9_ahead_10 (by decide) (fun c_10 => ?_) (fun c_10 => ?_)
  · refine V_iconst (v := -1) o dX9_ahead_26 (by decide) ?_
    refine V_iret o rt dX9_ahead_27 rfl rfl ?_
    exact ⟨rfl, rfl⟩
  · refine V_aload_n o dX9_ahead_13 rfl rfl ?_
    refine V_iload_n o dX9_ahead_14 rfl rfl ?_
    refine V_cVi o rt dX9_ahead_15 ml_X9_89 (c9_isTm hf (by exact hd) (Nat.zero_le 423)) rfl rfl rfl (Nat.le_of_ble_eq_true rfl) rfl ?_
    refine V_if_eq (tgt := 26) o dX9_ahead_18 (by decide) (fun c_18 => ?_) (fun c_18 => ?_)
    · refine V_iconst (v := -1) o dX9_ahead_26 (by decide) ?_
      refine V_iret o rt dX9_ahead_27 rfl rfl ?_
      exact ⟨rfl, rfl⟩
    · refine V_iload_n o dX9_ahead_21 rfl rfl ?_
      refine V_iload_n o dX9_ahead_22 rfl rfl ?_
      refine V_icmp_ne (tgt := 28) o dX9_ahead_23 (by decide) (fun c_23 => False.elim (hc ⟨bz_n0.mp c_10, bz_n0.mp c_18, c_23⟩)) (fun c_23 => ?_)
      refine V_iconst (v := -1) o dX9_ahead_26 (by decide) ?_
      refine V_iret o rt dX9_ahead_27 rfl rfl ?_
      exact ⟨rfl, rfl⟩
