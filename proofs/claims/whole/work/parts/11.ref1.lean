set_option maxRecDepth 20000 in
set_option maxHeartbeats 4000000 in
theorem c9_thrown {w : Wp} (hf : Fit sh0 w) (σ : Mm) : Cf sh0 w 0 mX9_thrown [.ref 67] σ (some (.int (σ.1 67 0))) σ := by
  refine Ct_of hf (by decide) rfl (Nat.le_of_ble_eq_true rfl) (fun x o rt => ?_)
  refine V_aload_n o dX9_thrown_0 rfl rfl ?_
  refine V_getI o dX9_thrown_1 rfl fl_X9_1 rfl ?_
  refine V_iret o rt dX9_thrown_4 rfl rfl ?_
  exact ⟨rfl, rfl⟩
set_option maxRecDepth 20000 in
set_option maxHeartbeats 4000000 in
theorem c9_flag {w : Wp} (hf : Fit sh0 w) {σ : Mm} {b : Int32} (hb : b = 0 ∨ b = 1) : Cf sh0 w 0 mX9_flag [.int b] σ (some (.int b)) σ := by
  refine Ct_of hf (by decide) rfl (Nat.le_of_ble_eq_true rfl) (fun x o rt => ?_)
  refine V_iload_n o dX9_flag_0 rfl rfl ?_
  refine V_if_eq (tgt := 8) o dX9_flag_1 (by decide) (fun c_1 => ?_) (fun c_1 => ?_)
  · refine V_iconst (v := 0) o dX9_flag_8 (by decide) ?_
    refine V_iret o rt dX9_flag_9 rfl rfl ?_
    exact ⟨by rcases hb with rfl | rfl <;> simp_all, rfl⟩
  · refine V_iconst (v := 1) o dX9_flag_4 (by decide) ?_
    refine V_goto (tgt := 9) o dX9_flag_5 (by decide) ?_
    refine V_iret o rt dX9_flag_9 rfl rfl ?_
    exact ⟨by rcases hb with rfl | rfl <;> simp_all, rfl⟩
set_option maxRecDepth 20000 in
set_option maxHeartbeats 4000000 in
theorem c9_in {w : Wp} (hf : Fit sh0 w) {σ : Mm} {v lo hi : Int64} : Cf sh0 w 0 mX9_in [.long v, .long lo, .long hi] σ (some (.int (bz (lo ≤ v ∧ v ≤ hi)))) σ := by
  refine Ct_of hf (by decide) rfl (Nat.le_of_ble_eq_true rfl) (fun x o rt => ?_)
  refine V_lload_n o dX9_in_0 rfl rfl ?_
  refine V_lload_n o dX9_in_1 rfl rfl ?_
  refine V_lcmp o dX9_in_2 ?_
  refine V_if_lt (tgt := 17) o dX9_in_3 (by decide) (fun c_3 => ?_) (fun c_3 => ?_)
  · refine V_iconst (v := 0) o dX9_in_17 (by decide) ?_
    refine V_iret o rt dX9_in_18 rfl (by first | rfl | exact bz_z) ?_
    exact ⟨by simp only [lg_cmp_lt, lg_cmp_gt, gt_iff_lt] at *; simp only [bz]; split <;> simp_all [Int64.not_lt, Int64.not_le], rfl⟩
  · refine V_lload_n o dX9_in_6 rfl rfl ?_
    refine V_lload o dX9_in_7 rfl ?_
    refine V_lcmp o dX9_in_9 ?_
    refine V_if_gt (tgt := 17) o dX9_in_10 (by decide) (fun c_10 => ?_) (fun c_10 => ?_)
    · refine V_iconst (v := 0) o dX9_in_17 (by decide) ?_
      refine V_iret o rt dX9_in_18 rfl (by first | rfl | exact bz_z) ?_
      exact ⟨by simp only [lg_cmp_lt, lg_cmp_gt, gt_iff_lt] at *; simp only [bz]; split <;> simp_all [Int64.not_lt, Int64.not_le], rfl⟩
    · refine V_iconst (v := 1) o dX9_in_13 (by decide) ?_
      refine V_goto (tgt := 18) o dX9_in_14 (by decide) ?_
      refine V_iret o rt dX9_in_18 rfl (by first | rfl | exact bz_z) ?_
      exact ⟨by simp only [lg_cmp_lt, lg_cmp_gt, gt_iff_lt] at *; simp only [bz]; split <;> simp_all [Int64.not_lt, Int64.not_le], rfl⟩
set_option maxRecDepth 20000 in
set_option maxHeartbeats 4000000 in
theorem c9_of {w : Wp} (hf : Fit sh0 w) {σ : Mm} {d : Nat} {M : Nat → Int32} (hd : σ.1 67 8 = nI d) {k : Int32} {n : Nat} (hk : k = nI n) (hn : d + n < 846) : Cf sh0 w 0 mX9_of [.ref 67, .int k] (sM σ d M) (some (.int (M n))) (sM σ d M) := by
  refine Ct_of hf (by decide) rfl (Nat.le_of_ble_eq_true rfl) (fun x o rt => ?_)
  refine V_aload_n o dX9_of_0 rfl rfl ?_
  refine V_getR (t := 70) o dX9_of_1 rfl fl_X9_49 rfl ?_
  refine V_aload_n o dX9_of_4 rfl rfl ?_
  refine V_getI o dX9_of_5 rfl fl_X9_80 rfl ?_
  refine V_iload_n o dX9_of_8 rfl rfl ?_
  refine V_iadd o dX9_of_9 ?_
  refine V_ialdN 846 o dX9_of_10 rfl rfl (nadd hd hk) (by omega) rfl ?_
  refine V_iret o rt dX9_of_11 rfl rfl ?_
  exact ⟨by rw [sM_at], rfl⟩
set_option maxRecDepth 20000 in
set_option maxHeartbeats 4000000 in
theorem c9_puts {w : Wp} (hf : Fit sh0 w) {σ : Mm} {d : Nat} {M : Nat → Int32} (hd : σ.1 67 8 = nI d) {k v : Int32} {n : Nat} (hk : k = nI n) (hn : d + n < 846) : Cf sh0 w 0 mX9_puts [.ref 67, .int k, .int v] (sM σ d M) none (sM σ d (uM M n v)) := by
  refine Ct_of hf (by decide) rfl (Nat.le_of_ble_eq_true rfl) (fun x o rt => ?_)
  refine V_aload_n o dX9_puts_0 rfl rfl ?_
  refine V_getR (t := 70) o dX9_puts_1 rfl fl_X9_49 rfl ?_
  refine V_aload_n o dX9_puts_4 rfl rfl ?_
  refine V_getI o dX9_puts_5 rfl fl_X9_80 rfl ?_
  refine V_iload_n o dX9_puts_8 rfl rfl ?_
  refine V_iadd o dX9_puts_9 ?_
  refine V_iload_n o dX9_puts_10 rfl rfl ?_
  refine V_iastN 846 o dX9_puts_11 rfl rfl (nadd hd hk) (by omega) rfl ?_
  refine V_ret o rt dX9_puts_12 rfl ?_
  exact ⟨rfl, wM_sM⟩
