set_option maxRecDepth 20000 in
theorem c9_thrown {w : Wp} (hf : Fit sh0 w) (σ : Mm) : Cf sh0 w 0 mX9_thrown [.ref 67] σ (some (.int (σ.1 67 0))) σ := by
  refine Ct_of hf (by decide) rfl (Nat.le_of_ble_eq_true rfl) (fun x o rt => ?_)
  refine V_aload_n o dX9_thrown_0 rfl rfl ?_
  refine V_getI o dX9_thrown_1 rfl fl_X9_1 rfl ?_
  refine V_iret o rt dX9_thrown_4 rfl rfl ?_
  exact ⟨rfl, rfl⟩
set_option maxRecDepth 20000 in
theorem c9_flag {w : Wp} (hf : Fit sh0 w) (σ : Mm) (b : Int32) : Cf sh0 w 0 mX9_flag [.int b] σ (some (.int (bz (b ≠ 0)))) σ := by
  refine Ct_of hf (by decide) rfl (Nat.le_of_ble_eq_true rfl) (fun x o rt => ?_)
  refine V_iload_n o dX9_flag_0 rfl rfl ?_
  refine V_if_eq (tgt := 8) o dX9_flag_1 (by decide) (fun c_1 => ?_) (fun c_1 => ?_)
  · refine V_iconst (v := 0) o dX9_flag_8 (by decide) ?_
    refine V_iret o rt dX9_flag_9 rfl rfl ?_
    exact ⟨by simp [bz, *], rfl⟩
  · refine V_iconst (v := 1) o dX9_flag_4 (by decide) ?_
    refine V_goto (tgt := 9) o dX9_flag_5 (by decide) ?_
    refine V_iret o rt dX9_flag_9 rfl rfl ?_
    exact ⟨by simp [bz, *], rfl⟩
set_option maxRecDepth 20000 in
theorem c9_in {w : Wp} (hf : Fit sh0 w) (σ : Mm) (v lo hi : Int64) : Cf sh0 w 0 mX9_in [.long v, .long lo, .long hi] σ (some (.int (bz (lo ≤ v ∧ v ≤ hi)))) σ := by
  refine Ct_of hf (by decide) rfl (Nat.le_of_ble_eq_true rfl) (fun x o rt => ?_)
  refine V_lload_n o dX9_in_0 rfl rfl ?_
  refine V_lload_n o dX9_in_1 rfl rfl ?_
  refine V_lcmp o dX9_in_2 ?_
  refine V_if_lt (tgt := 17) o dX9_in_3 (by decide) (fun c_3 => ?_) (fun c_3 => ?_)
  · refine V_iconst (v := 0) o dX9_in_17 (by decide) ?_
    refine V_iret o rt dX9_in_18 rfl (by first | rfl | simp) ?_
    exact ⟨by congr 2; rw [lg_cmp_lt] at *; sorry, rfl⟩
  · refine V_lload_n o dX9_in_6 rfl rfl ?_
    refine V_lload o dX9_in_7 rfl ?_
    refine V_lcmp o dX9_in_9 ?_
    refine V_if_gt (tgt := 17) o dX9_in_10 (by decide) (fun c_10 => ?_) (fun c_10 => ?_)
    · refine V_iconst (v := 0) o dX9_in_17 (by decide) ?_
      refine V_iret o rt dX9_in_18 rfl (by first | rfl | simp) ?_
      exact ⟨by congr 2; rw [lg_cmp_lt] at *; sorry, rfl⟩
    · refine V_iconst (v := 1) o dX9_in_13 (by decide) ?_
      refine V_goto (tgt := 18) o dX9_in_14 (by decide) ?_
      refine V_iret o rt dX9_in_18 rfl (by first | rfl | simp) ?_
      exact ⟨by congr 2; rw [lg_cmp_lt] at *; sorry, rfl⟩
set_option maxRecDepth 20000 in
theorem c9_of {w : Wp} (hf : Fit sh0 w) (σ : Mm) (k : Int32) (n : Nat) (hk : σ.1 67 8 + k = Int32.ofNat n) (hn : n < 846) : Cf sh0 w 0 mX9_of [.ref 67, .int k] σ (some (.int (σ.1 70 n))) σ := by
  refine Ct_of hf (by decide) rfl (Nat.le_of_ble_eq_true rfl) (fun x o rt => ?_)
  refine V_aload_n o dX9_of_0 rfl rfl ?_
  refine V_getR o dX9_of_1 rfl fl_X9_49 rfl ?_
  refine V_aload_n o dX9_of_4 rfl rfl ?_
  refine V_getI o dX9_of_5 rfl fl_X9_80 rfl ?_
  refine V_iload_n o dX9_of_8 rfl rfl ?_
  refine V_iadd o dX9_of_9 ?_
  refine V_iald o dX9_of_10 rfl (by rw [hk]; exact vp_in_nI hn (by omega)) ?_
  refine V_iret o rt dX9_of_11 rfl rfl ?_
  exact ⟨by rw [hk]; sorry, rfl⟩
