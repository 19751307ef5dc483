set_option maxRecDepth 20000 in
set_option maxHeartbeats 4000000 in
theorem c9_thrown {w : Wp} (hf : Fit sh0 w) (σ : Mm) : Cf sh0 w 0 mX9_thrown [.ref 67] σ (some (.int (σ.1 67 0))) σ := by
  refine Ct_of hf (by decide) rfl (Nat.le_of_ble_eq_true rfl) (fun x o rt => ?_)
  refine V_aload_n o dX9_thrown_0 rfl rfl ?_
  refine V_getI o dX9_thrown_1 rfl fl_X9_1 rfl ?_
  refine V_iret o rt dX9_thrown_4 rfl rfl ?_
  exact ⟨rfl, rfl⟩
set_option maxRecDepth 20000 in
set_option maxHeartbeats 4000000 in
theorem c9_flag {w : Wp} (hf : Fit sh0 w) {σ : Mm} {b : Int32} (hb : b = 0 ∨ b = 1) : Cf sh0 w 0 mX9_flag [.int b] σ (some (.int b)) σ := by
  refine Ct_of hf (by decide) rfl (Nat.le_of_ble_eq_true rfl) (fun x o rt => ?_)
  refine V_iload_n o dX9_flag_0 rfl rfl ?_
  refine V_if_eq (tgt := 8) o dX9_flag_1 (by decide) (fun c_1 => ?_) (fun c_1 => ?_)
  · refine V_iconst (v := 0) o dX9_flag_8 (by decide) ?_
    refine V_iret o rt dX9_flag_9 rfl rfl ?_
    exact ⟨by rcases hb with rfl | rfl <;> simp_all, rfl⟩
  · refine V_iconst (v := 1) o dX9_flag_4 (by decide) ?_
    refine V_goto (tgt := 9) o dX9_flag_5 (by decide) ?_
    refine V_iret o rt dX9_flag_9 rfl rfl ?_
    exact ⟨by rcases hb with rfl | rfl <;> simp_all, rfl⟩
set_option maxRecDepth 20000 in
set_option maxHeartbeats 4000000 in
theorem c9_in {w : Wp} (hf : Fit sh0 w) {σ : Mm} {v lo hi : Int64} : Cf sh0 w 0 mX9_in [.long v, .long lo, .long hi] σ (some (.int (bz (lo ≤ v ∧ v ≤ hi)))) σ := by
  refine Ct_of hf (by decide) rfl (Nat.le_of_ble_eq_true rfl) (fun x o rt => ?_)
  refine V_lload_n o dX9_in_0 rfl rfl ?_
  refine V_lload_n o dX9_in_1 rfl rfl ?_
  refine V_lcmp o dX9_in_2 ?_
  refine V_if_lt (tgt := 17) o dX9_in_3 (by decide) (fun c_3 => ?_) (fun c_3 => ?_)
  · refine V_iconst (v := 0) o dX9_in_17 (by decide) ?_
    refine V_iret o rt dX9_in_18 rfl (by first | rfl | exact bz_z) ?_
    refine ⟨?_, rfl⟩
    first | (rw [bz_f (fun h => absurd h.1 (Int64.not_le.mpr ((lg_cmp_lt _ _).mp c_3)))]; done) | (rw [bz_f (fun h => absurd h.2 (Int64.not_le.mpr ((lg_cmp_gt _ _).mp c_10)))]; done) | rw [bz_t ⟨Int64.not_lt.mp (fun z => c_3 ((lg_cmp_lt _ _).mpr z)), Int64.not_lt.mp (fun z => c_10 ((lg_cmp_gt _ _).mpr z))⟩]
  · refine V_lload_n o dX9_in_6 rfl rfl ?_
    refine V_lload o dX9_in_7 rfl ?_
    refine V_lcmp o dX9_in_9 ?_
    refine V_if_gt (tgt := 17) o dX9_in_10 (by decide) (fun c_10 => ?_) (fun c_10 => ?_)
    · refine V_iconst (v := 0) o dX9_in_17 (by decide) ?_
      refine V_iret o rt dX9_in_18 rfl (by first | rfl | exact bz_z) ?_
      refine ⟨?_, rfl⟩
      first | (rw [bz_f (fun h => absurd h.1 (Int64.not_le.mpr ((lg_cmp_lt _ _).mp c_3)))]; done) | (rw [bz_f (fun h => absurd h.2 (Int64.not_le.mpr ((lg_cmp_gt _ _).mp c_10)))]; done) | rw [bz_t ⟨Int64.not_lt.mp (fun z => c_3 ((lg_cmp_lt _ _).mpr z)), Int64.not_lt.mp (fun z => c_10 ((lg_cmp_gt _ _).mpr z))⟩]
    · refine V_iconst (v := 1) o dX9_in_13 (by decide) ?_
      refine V_goto (tgt := 18) o dX9_in_14 (by decide) ?_
      refine V_iret o rt dX9_in_18 rfl (by first | rfl | exact bz_z) ?_
      refine ⟨?_, rfl⟩
      first | (rw [bz_f (fun h => absurd h.1 (Int64.not_le.mpr ((lg_cmp_lt _ _).mp c_3)))]; done) | (rw [bz_f (fun h => absurd h.2 (Int64.not_le.mpr ((lg_cmp_gt _ _).mp c_10)))]; done) | rw [bz_t ⟨Int64.not_lt.mp (fun z => c_3 ((lg_cmp_lt _ _).mpr z)), Int64.not_lt.mp (fun z => c_10 ((lg_cmp_gt _ _).mpr z))⟩]
set_option maxRecDepth 20000 in
set_option maxHeartbeats 4000000 in
theorem c9_of {w : Wp} (hf : Fit sh0 w) {σ : Mm} {d : Nat} {M : Nat → Int32} (hd : σ.1 67 8 = nI d) {k : Int32} {n : Nat} (hk : k = nI n) (hn : d + n < 846) : Cf sh0 w 0 mX9_of [.ref 67, .int k] (sM σ d M) (some (.int (M n))) (sM σ d M) := by
  refine Ct_of hf (by decide) rfl (Nat.le_of_ble_eq_true rfl) (fun x o rt => ?_)
  refine V_aload_n o dX9_of_0 rfl rfl ?_
  refine V_getR (t := 70) o dX9_of_1 rfl fl_X9_49 rfl ?_
  refine V_aload_n o dX9_of_4 rfl rfl ?_
  refine V_getI o dX9_of_5 rfl fl_X9_80 rfl ?_
  refine V_iload_n o dX9_of_8 rfl rfl ?_
  refine V_iadd o dX9_of_9 ?_
  refine V_ialdN 846 o dX9_of_10 rfl rfl (nadd hd hk) (by omega) rfl ?_
  refine V_iret o rt dX9_of_11 rfl rfl ?_
  exact ⟨by rw [sM_at], rfl⟩
set_option maxRecDepth 20000 in
set_option maxHeartbeats 4000000 in
theorem c9_puts {w : Wp} (hf : Fit sh0 w) {σ : Mm} {d : Nat} {M : Nat → Int32} (hd : σ.1 67 8 = nI d) {k v : Int32} {n : Nat} (hk : k = nI n) (hn : d + n < 846) : Cf sh0 w 0 mX9_puts [.ref 67, .int k, .int v] (sM σ d M) none (sM σ d (uM M n v)) := by
  refine Ct_of hf (by decide) rfl (Nat.le_of_ble_eq_true rfl) (fun x o rt => ?_)
  refine V_aload_n o dX9_puts_0 rfl rfl ?_
  refine V_getR (t := 70) o dX9_puts_1 rfl fl_X9_49 rfl ?_
  refine V_aload_n o dX9_puts_4 rfl rfl ?_
  refine V_getI o dX9_puts_5 rfl fl_X9_80 rfl ?_
  refine V_iload_n o dX9_puts_8 rfl rfl ?_
  refine V_iadd o dX9_puts_9 ?_
  refine V_iload_n o dX9_puts_10 rfl rfl ?_
  refine V_iastN 846 o dX9_puts_11 rfl rfl (nadd hd hk) (by omega) rfl ?_
  refine V_ret o rt dX9_puts_12 rfl ?_
  exact ⟨rfl, wM_sM⟩
set_option maxRecDepth 20000 in
set_option maxHeartbeats 4000000 in
theorem c9_more {w : Wp} (hf : Fit sh0 w) {σ : Mm} {d : Nat} {M : Nat → Int32} (hd : σ.1 67 8 = nI d) {k v : Int32} {n : Nat} (hk : k = nI n) (hn : d + n < 846) : Cf sh0 w 0 mX9_more [.ref 67, .int k, .int v] (sM σ d M) none (sM σ d (uM M n (M n + v))) := by
  refine Ct_of hf (by decide) rfl (Nat.le_of_ble_eq_true rfl) (fun x o rt => ?_)
  refine V_aload_n o dX9_more_0 rfl rfl ?_
  refine V_getR (t := 70) o dX9_more_1 rfl fl_X9_49 rfl ?_
  refine V_aload_n o dX9_more_4 rfl rfl ?_
  refine V_getI o dX9_more_5 rfl fl_X9_80 rfl ?_
  refine V_iload_n o dX9_more_8 rfl rfl ?_
  refine V_iadd o dX9_more_9 ?_
  refine V_dup2 o dX9_more_10 rfl rfl ?_
  refine V_ialdN 846 o dX9_more_11 rfl rfl (nadd hd hk) (by omega) rfl ?_
  rw [sM_at]
  refine V_iload_n o dX9_more_12 rfl rfl ?_
  refine V_iadd o dX9_more_13 ?_
  refine V_iastN 846 o dX9_more_14 rfl rfl (nadd hd hk) (by omega) rfl ?_
  refine V_ret o rt dX9_more_15 rfl ?_
  exact ⟨rfl, wM_sM⟩
theorem in_out {k : Int32} (h : ¬ (0 ≤ k ∧ k ≤ 15)) : ¬ ((0 : Int64) ≤ k.toInt64 ∧ k.toInt64 ≤ 15) := by
  intro q
  apply h
  obtain ⟨q1, q2⟩ := q
  rw [Int64.le_iff_toInt_le, Int32.toInt_toInt64] at q1 q2
  exact ⟨Int32.le_iff_toInt_le.mpr q1, Int32.le_iff_toInt_le.mpr q2⟩
theorem in_lo {k lo hi : Int32} {l h : Int64} (hl : l = lo.toInt64) (hh : h = hi.toInt64) : (l ≤ k.toInt64 ∧ k.toInt64 ≤ h) ↔ (lo ≤ k ∧ k ≤ hi) := by
  subst hl; subst hh
  rw [Int64.le_iff_toInt_le, Int64.le_iff_toInt_le, Int32.toInt_toInt64, Int32.toInt_toInt64, Int32.toInt_toInt64, Int32.le_iff_toInt_le, Int32.le_iff_toInt_le]
theorem bz_congr {p q : Prop} [Decidable p] [Decidable q] (h : p ↔ q) : bz p = bz q := by
  unfold bz
  by_cases hq : q
  · rw [if_pos hq, if_pos (h.mpr hq)]
  · rw [if_neg hq, if_neg (fun z => hq (h.mp z))]
theorem nI_rng {i N : Nat} (h : i ≤ N) (hN : N < 2147483648) : (0 : Int32) ≤ nI i ∧ nI i ≤ nI N := ⟨nI_pos' (by omega), nI_le h hN⟩
set_option maxRecDepth 20000 in
set_option maxHeartbeats 4000000 in
theorem c9_isTimer {w : Wp} (hf : Fit sh0 w) {σ : Mm} {d : Nat} {M : Nat → Int32} (hd : σ.1 67 8 = nI d) (hd4 : d ≤ 423) {k : Int32} {i : Nat} (hk : k = nI i) (hi : i < 16) : Cf sh0 w 1 mX9_isTimer [.ref 67, .int k] (sM σ d M) (some (.int (bz (isT M i)))) (sM σ d M) := by
  refine Ct_of hf (by decide) rfl (Nat.le_of_ble_eq_true rfl) (fun x o rt => ?_)
  refine V_iload_n o dX9_isTimer_0 rfl rfl ?_
  refine V_i2l o dX9_isTimer_1 ?_
  refine V_lconst (v := 0) o dX9_isTimer_2 (by decide) ?_
  refine V_ldc2 o dX9_isTimer_3 kc_X9_83 ?_
  refine V_cSi o rt dX9_isTimer_6 ms_X9_21 (c9_in hf) rfl rfl (Nat.le_of_ble_eq_true rfl) rfl ?_
  refine V_if_eq (tgt := 29) o dX9_isTimer_9 (by decide) (fun c_9 => False.elim (absurd ((bz_0.mp c_9)) (fun h => h ((in_lo (lo := 0) (hi := 15) (by decide) (by decide)).mpr (by rw [hk]; exact nI_rng (N := 15) (by omega) (by omega)))))) (fun c_9 => ?_)
  refine V_aload_n o dX9_isTimer_12 rfl rfl ?_
  refine V_sipush (v := 215) o dX9_isTimer_13 (by decide) ?_
  refine V_iload_n o dX9_isTimer_16 rfl rfl ?_
  refine V_iadd o dX9_isTimer_17 ?_
  refine V_cVi o rt dX9_isTimer_18 ml_X9_85 (c9_of hf hd (nadd (show (215 : Int32) = nI 215 from rfl) hk) (by omega)) rfl rfl rfl (Nat.le_of_ble_eq_true rfl) rfl ?_
  refine V_iconst (v := 1) o dX9_isTimer_21 (by decide) ?_
  refine V_icmp_ne (tgt := 29) o dX9_isTimer_22 (by decide) (fun c_22 => ?_) (fun c_22 => ?_)
  · refine V_iconst (v := 0) o dX9_isTimer_29 (by decide) ?_
    refine V_iret o rt dX9_isTimer_30 rfl (by first | rfl | exact bz_z) ?_
    refine ⟨?_, rfl⟩
    first | (rw [bz_t (show isT M i from c_22)]; done) | (rw [bz_f (show ¬ isT M i from c_22)]; done)
  · refine V_iconst (v := 1) o dX9_isTimer_25 (by decide) ?_
    refine V_goto (tgt := 30) o dX9_isTimer_26 (by decide) ?_
    refine V_iret o rt dX9_isTimer_30 rfl (by first | rfl | exact bz_z) ?_
    refine ⟨?_, rfl⟩
    first | (rw [bz_t (show isT M i from c_22)]; done) | (rw [bz_f (show ¬ isT M i from c_22)]; done)
set_option maxRecDepth 20000 in
set_option maxHeartbeats 4000000 in
theorem c9_isTimer_out {w : Wp} (hf : Fit sh0 w) {σ : Mm} {d : Nat} {M : Nat → Int32} (hd : σ.1 67 8 = nI d) (hd4 : d ≤ 423) {k : Int32} (hk : ¬ (0 ≤ k ∧ k ≤ 15)) : Cf sh0 w 1 mX9_isTimer [.ref 67, .int k] (sM σ d M) (some (.int 0)) (sM σ d M) := by
  refine Ct_of hf (by decide) rfl (Nat.le_of_ble_eq_true rfl) (fun x o rt => ?_)
  refine V_iload_n o dX9_isTimer_0 rfl rfl ?_
  refine V_i2l o dX9_isTimer_1 ?_
  refine V_lconst (v := 0) o dX9_isTimer_2 (by decide) ?_
  refine V_ldc2 o dX9_isTimer_3 kc_X9_83 ?_
  refine V_cSi o rt dX9_isTimer_6 ms_X9_21 (c9_in hf) rfl rfl (Nat.le_of_ble_eq_true rfl) rfl ?_
  refine V_if_eq (tgt := 29) o dX9_isTimer_9 (by decide) (fun c_9 => ?_) (fun c_9 => False.elim (absurd (bz_n0.mp c_9) (in_out hk)))
  refine V_iconst (v := 0) o dX9_isTimer_29 (by decide) ?_
  refine V_iret o rt dX9_isTimer_30 rfl (by first | rfl | exact bz_z) ?_
  exact ⟨rfl, rfl⟩
set_option maxRecDepth 20000 in
set_option maxHeartbeats 4000000 in
theorem c9_goes {w : Wp} (hf : Fit sh0 w) {σ : Mm} {d : Nat} {M : Nat → Int32} (hd : σ.1 67 8 = nI d) (hd4 : d ≤ 423) {k : Int32} {i : Nat} (hk : k = nI i) (hi : i < 16) : Cf sh0 w 2 mX9_goes [.ref 67, .int k] (sM σ d M) (some (.int (bz (isG M i)))) (sM σ d M) := by
  refine Ct_of hf (by decide) rfl (Nat.le_of_ble_eq_true rfl) (fun x o rt => ?_)
  refine V_aload_n o dX9_goes_0 rfl rfl ?_
  refine V_iload_n o dX9_goes_1 rfl rfl ?_
  refine V_cVi o rt dX9_goes_2 ml_X9_89 (c9_isTimer hf hd hd4 hk hi) rfl rfl rfl (Nat.le_of_ble_eq_true rfl) rfl ?_
  refine V_if_eq (tgt := 24) o dX9_goes_5 (by decide) (fun c_5 => ?_) (fun c_5 => ?_)
  · refine V_iconst (v := 0) o dX9_goes_24 (by decide) ?_
    refine V_iret o rt dX9_goes_25 rfl (by first | rfl | exact bz_z) ?_
    refine ⟨?_, rfl⟩
    first | (rw [bz_f (show ¬ isG M i from fun h => bz_0.mp c_5 h.1)]; done) | (rw [bz_f (show ¬ isG M i from fun h => c_17 h.2)]; done) | (rw [bz_t (show isG M i from ⟨bz_n0.mp c_5, c_17⟩)]; done)
  · refine V_aload_n o dX9_goes_8 rfl rfl ?_
    refine V_sipush (v := 343) o dX9_goes_9 (by decide) ?_
    refine V_iload_n o dX9_goes_12 rfl rfl ?_
    refine V_iadd o dX9_goes_13 ?_
    refine V_cVi o rt dX9_goes_14 ml_X9_85 (c9_of hf hd (nadd (show (343 : Int32) = nI 343 from rfl) hk) (by omega)) rfl rfl rfl (Nat.le_of_ble_eq_true rfl) rfl ?_
    refine V_if_ne (tgt := 24) o dX9_goes_17 (by decide) (fun c_17 => ?_) (fun c_17 => ?_)
    · refine V_iconst (v := 0) o dX9_goes_24 (by decide) ?_
      refine V_iret o rt dX9_goes_25 rfl (by first | rfl | exact bz_z) ?_
      refine ⟨?_, rfl⟩
      first | (rw [bz_f (show ¬ isG M i from fun h => bz_0.mp c_5 h.1)]; done) | (rw [bz_f (show ¬ isG M i from fun h => c_17 h.2)]; done) | (rw [bz_t (show isG M i from ⟨bz_n0.mp c_5, c_17⟩)]; done)
    · refine V_iconst (v := 1) o dX9_goes_20 (by decide) ?_
      refine V_goto (tgt := 25) o dX9_goes_21 (by decide) ?_
      refine V_iret o rt dX9_goes_25 rfl (by first | rfl | exact bz_z) ?_
      refine ⟨?_, rfl⟩
      first | (rw [bz_f (show ¬ isG M i from fun h => bz_0.mp c_5 h.1)]; done) | (rw [bz_f (show ¬ isG M i from fun h => c_17 h.2)]; done) | (rw [bz_t (show isG M i from ⟨bz_n0.mp c_5, c_17⟩)]; done)
set_option maxRecDepth 20000 in
set_option maxHeartbeats 4000000 in
theorem c9_goes_out {w : Wp} (hf : Fit sh0 w) {σ : Mm} {d : Nat} {M : Nat → Int32} (hd : σ.1 67 8 = nI d) (hd4 : d ≤ 423) {k : Int32} (hk : ¬ (0 ≤ k ∧ k ≤ 15)) : Cf sh0 w 2 mX9_goes [.ref 67, .int k] (sM σ d M) (some (.int 0)) (sM σ d M) := by
  refine Ct_of hf (by decide) rfl (Nat.le_of_ble_eq_true rfl) (fun x o rt => ?_)
  refine V_aload_n o dX9_goes_0 rfl rfl ?_
  refine V_iload_n o dX9_goes_1 rfl rfl ?_
  refine V_cVi o rt dX9_goes_2 ml_X9_89 (c9_isTimer_out hf hd hd4 hk) rfl rfl rfl (Nat.le_of_ble_eq_true rfl) rfl ?_
  refine V_if_eq (tgt := 24) o dX9_goes_5 (by decide) (fun c_5 => ?_) (fun c_5 => False.elim (c_5 rfl))
  refine V_iconst (v := 0) o dX9_goes_24 (by decide) ?_
  refine V_iret o rt dX9_goes_25 rfl (by first | rfl | exact bz_z) ?_
  exact ⟨rfl, rfl⟩
set_option maxRecDepth 20000 in
set_option maxHeartbeats 4000000 in
theorem c9_span {w : Wp} (hf : Fit sh0 w) {σ : Mm} {d : Nat} {M : Nat → Int32} (hd : σ.1 67 8 = nI d) (hd4 : d ≤ 423) {k : Int32} {m : Nat} (hk : k = nI m) (hm : m ≤ 4) : Cf sh0 w 1 mX9_span [.ref 67, .int k] (sM σ d M) (some (.int (spanM M m))) (sM σ d M) := by
  refine Ct_of hf (by decide) rfl (Nat.le_of_ble_eq_true rfl) (fun x o rt => ?_)
  subst hk
  have loop : ∀ n i v, i + n = m → itr (fun i v => v * M (1 + i)) i n v = spanM M m → V sh0 w x mX9_span (0, 0) 4 [(3, .int (nI i)), (2, .int v), (0, .ref 67), (1, .int (nI m))] [] (sM σ d M) := by
    intro n
    induction n with
    | zero =>
      intro i v hin hR
      have hi : i = m := by omega
      refine V_iload_n o dX9_span_4 rfl rfl ?_
      refine V_iload_n o dX9_span_5 rfl rfl ?_
      refine V_icmp_ge (tgt := 25) o dX9_span_6 (by decide) (fun c_6 => ?_) (fun c_6 => False.elim (c_6 (by rw [hi]; exact Int32.le_refl _)))
      refine V_iload_n o dX9_span_25 rfl rfl ?_
      refine V_iret o rt dX9_span_26 rfl rfl ?_
      exact ⟨by rw [← hR]; rfl, rfl⟩
    | succ n ih =>
      intro i v hin hR
      refine V_iload_n o dX9_span_4 rfl rfl ?_
      refine V_iload_n o dX9_span_5 rfl rfl ?_
      refine V_icmp_ge (tgt := 25) o dX9_span_6 (by decide) (fun c_6 => False.elim (absurd c_6 (nI_ge (by omega) (by omega)))) (fun c_6 => ?_)
      refine V_iload_n o dX9_span_9 rfl rfl ?_
      refine V_aload_n o dX9_span_10 rfl rfl ?_
      refine V_iconst (v := 1) o dX9_span_11 (by decide) ?_
      refine V_iload_n o dX9_span_12 rfl rfl ?_
      refine V_iadd o dX9_span_13 ?_
      refine V_cVi o rt dX9_span_14 ml_X9_85 (c9_of hf hd (nadd (show (1 : Int32) = nI 1 from rfl) rfl) (by omega)) rfl rfl rfl (Nat.le_of_ble_eq_true rfl) rfl ?_
      refine V_imul o dX9_span_17 ?_
      refine V_istore_n (ls' := [(2, _), (3, _), (0, _), (1, _)]) o dX9_span_18 rfl (by decide) rfl ?_
      refine V_iincV (v := nI (i + 1)) (ls' := [(3, _), (2, _), (0, _), (1, _)]) o dX9_span_19 rfl (ninc 1 rfl) (by decide) rfl ?_
      refine V_goto (tgt := 4) o dX9_span_22 (by decide) ?_
      exact ih (i + 1) _ (by omega) hR
  refine V_iconst (v := 1) o dX9_span_0 (by decide) ?_
  refine V_istore_n (ls' := [(2, _), (0, _), (1, _)]) o dX9_span_1 rfl (by decide) rfl ?_
  refine V_iconst (v := 0) o dX9_span_2 (by decide) ?_
  refine V_istore_n (ls' := [(3, _), (2, _), (0, _), (1, _)]) o dX9_span_3 rfl (by decide) rfl ?_
  exact loop m 0 1 (by omega) rfl
set_option maxRecDepth 20000 in
set_option maxHeartbeats 4000000 in
theorem c9_whole {w : Wp} (hf : Fit sh0 w) {σ : Mm} {d : Nat} {M : Nat → Int32} (hd : σ.1 67 8 = nI d) (hd4 : d ≤ 423) {L : Nat} (hW : Wf M L) : Cf sh0 w 2 mX9_whole [.ref 67] (sM σ d M) (some (.int (spanM M L))) (sM σ d M) := by
  refine Ct_of hf (by decide) rfl (Nat.le_of_ble_eq_true rfl) (fun x o rt => ?_)
  refine V_aload_n o dX9_whole_0 rfl rfl ?_
  refine V_aload_n o dX9_whole_1 rfl rfl ?_
  refine V_iconst (v := 0) o dX9_whole_2 (by decide) ?_
  refine V_cVi o rt dX9_whole_3 ml_X9_85 (c9_of hf hd (show (0 : Int32) = nI 0 from rfl) (by omega)) rfl rfl rfl (Nat.le_of_ble_eq_true rfl) rfl ?_
  refine V_cVi o rt dX9_whole_6 ml_X9_93 (c9_span hf hd hd4 hW.1 hW.2.2.1) rfl rfl rfl (Nat.le_of_ble_eq_true rfl) rfl ?_
  refine V_iret o rt dX9_whole_9 rfl rfl ?_
  exact ⟨rfl, rfl⟩
set_option maxRecDepth 20000 in
set_option maxHeartbeats 4000000 in
theorem c9_levelFor {w : Wp} (hf : Fit sh0 w) {σ : Mm} {d : Nat} {M : Nat → Int32} (hd : σ.1 67 8 = nI d) (hd4 : d ≤ 423) {L : Nat} (hW : Wf M L) {far : Int32} : Cf sh0 w 2 mX9_levelFor [.ref 67, .int far] (sM σ d M) (some (.int (lvF M far L 0))) (sM σ d M) := by
  refine Ct_of hf (by decide) rfl (Nat.le_of_ble_eq_true rfl) (fun x o rt => ?_)
  have hL4 := hW.2.2.1
  have loop : ∀ n i, i + n = L → lvF M far n i = lvF M far L 0 → V sh0 w x mX9_levelFor (0, 0) 2 [(2, .int (nI i)), (0, .ref 67), (1, .int far)] [] (sM σ d M) := by
    intro n
    induction n with
    | zero =>
      intro i hin hR
      refine V_iload_n o dX9_levelFor_2 rfl rfl ?_
      refine V_aload_n o dX9_levelFor_3 rfl rfl ?_
      refine V_iconst (v := 0) o dX9_levelFor_4 (by decide) ?_
      refine V_cVi o rt dX9_levelFor_5 ml_X9_85 (c9_of hf hd (show (0 : Int32) = nI 0 from rfl) (by omega)) rfl rfl rfl (Nat.le_of_ble_eq_true rfl) rfl ?_
      refine V_icmp_ge (tgt := 30) o dX9_levelFor_8 (by decide) (fun c_8 => ?_) (fun c_8 => False.elim (c_8 (by rw [hW.1]; exact nI_le (by omega) (by omega))))
      refine V_iconst (v := -1) o dX9_levelFor_30 (by decide) ?_
      refine V_iret o rt dX9_levelFor_31 rfl rfl ?_
      exact ⟨by rw [← hR]; rfl, rfl⟩
    | succ n ih =>
      intro i hin hR
      rw [lvF] at hR
      refine V_iload_n o dX9_levelFor_2 rfl rfl ?_
      refine V_aload_n o dX9_levelFor_3 rfl rfl ?_
      refine V_iconst (v := 0) o dX9_levelFor_4 (by decide) ?_
      refine V_cVi o rt dX9_levelFor_5 ml_X9_85 (c9_of hf hd (show (0 : Int32) = nI 0 from rfl) (by omega)) rfl rfl rfl (Nat.le_of_ble_eq_true rfl) rfl ?_
      refine V_icmp_ge (tgt := 30) o dX9_levelFor_8 (by decide) (fun c_8 => False.elim (absurd c_8 (by rw [hW.1]; exact nI_ge (by omega) (by omega)))) (fun c_8 => ?_)
      refine V_aload_n o dX9_levelFor_11 rfl rfl ?_
      refine V_iload_n o dX9_levelFor_12 rfl rfl ?_
      refine V_iconst (v := 1) o dX9_levelFor_13 (by decide) ?_
      refine V_iadd o dX9_levelFor_14 ?_
      refine V_cVi o rt dX9_levelFor_15 ml_X9_93 (c9_span hf hd hd4 (nadd rfl (show (1 : Int32) = nI 1 from rfl)) (by omega)) rfl rfl rfl (Nat.le_of_ble_eq_true rfl) rfl ?_
      refine V_iload_n o dX9_levelFor_18 rfl rfl ?_
      refine V_icmp_le (tgt := 24) o dX9_levelFor_19 (by decide) (fun c_19 => ?_) (fun c_19 => ?_)
      · refine V_iincV (v := nI (i + 1)) (ls' := [(2, _), (0, _), (1, _)]) o dX9_levelFor_24 rfl (ninc 1 rfl) (by decide) rfl ?_
        refine V_goto (tgt := 2) o dX9_levelFor_27 (by decide) ?_
        exact ih (i + 1) (by omega) (by rw [if_neg (Int32.not_lt.mpr c_19)] at hR; exact hR)
      · refine V_iload_n o dX9_levelFor_22 rfl rfl ?_
        refine V_iret o rt dX9_levelFor_23 rfl rfl ?_
        exact ⟨by rw [← hR, if_pos (Int32.not_le.mp c_19)], rfl⟩
  refine V_iconst (v := 0) o dX9_levelFor_0 (by decide) ?_
  refine V_istore_n (ls' := [(2, _), (0, _), (1, _)]) o dX9_levelFor_1 rfl (by decide) rfl ?_
  exact loop L 0 (by omega) rfl
theorem Wf_span {M : Nat → Int32} {L : Nat} (h : Wf M L) : ∀ k, k ≤ L → ∃ s : Nat, spanM M k = nI s ∧ 1 ≤ s ∧ s ≤ 16 ^ k := by
  intro k
  induction k with
  | zero => intro _; exact ⟨1, rfl, by omega, by simp⟩
  | succ k ih =>
    intro hk
    obtain ⟨s, e, h1, h2⟩ := ih (by omega)
    obtain ⟨t, e2, g1, g2⟩ := h.2.2.2 k (by omega)
    refine ⟨s * t, ?_, ?_, ?_⟩
    · unfold spanM at e ⊢
      rw [itr_last, e, Nat.zero_add, e2]
      exact (nmul rfl rfl)
    · exact Nat.le_trans (by omega) (Nat.mul_le_mul h1 g1)
    · rw [Nat.pow_succ]
      exact Nat.mul_le_mul h2 g2
theorem pow16 {k : Nat} (h : k ≤ 4) : 16 ^ k ≤ 65536 := by
  have : k = 0 ∨ k = 1 ∨ k = 2 ∨ k = 3 ∨ k = 4 := by omega
  rcases this with rfl | rfl | rfl | rfl | rfl <;> decide
theorem Wf_span0 {M : Nat → Int32} {L : Nat} (h : Wf M L) {k : Nat} (hk : k ≤ L) : ¬ spanM M k = 0 := by
  obtain ⟨s, e, h1, h2⟩ := Wf_span h k hk
  rw [e]
  have := pow16 (Nat.le_trans hk h.2.2.1)
  exact nI_ne0 (by omega) (by omega)
theorem Wf_size0 {M : Nat → Int32} {L : Nat} (h : Wf M L) {k : Nat} (hk : k < L) : ¬ M (1 + k) = 0 := by
  obtain ⟨t, e2, g1, g2⟩ := h.2.2.2 k hk
  rw [e2]
  exact nI_ne0 (by omega) (by omega)
/-- the level found: none, or one there is -/
theorem lvF_cases (M : Nat → Int32) (far : Int32) : ∀ n k, lvF M far n k = -1 ∨ ∃ j, k ≤ j ∧ j < k + n ∧ lvF M far n k = nI j
  | 0, k => Or.inl rfl
  | n + 1, k => by
    unfold lvF
    split
    · exact Or.inr ⟨k, Nat.le_refl k, by omega, rfl⟩
    · rcases lvF_cases M far n (k + 1) with h | ⟨j, h1, h2, h3⟩
      · exact Or.inl h
      · exact Or.inr ⟨j, by omega, by omega, h3⟩
theorem ix_nI {n : Nat} (h : n < 2147483648) : ix (nI n) = n := nI_clamp h
theorem Wf_uM {M : Nat → Int32} {L k : Nat} {v : Int32} (h : Wf M L) (hk : 5 ≤ k) : Wf (uM M k v) L := by
  obtain ⟨h1, h2, h3, h4⟩ := h
  refine ⟨by rw [uM_ne _ _ (by omega)]; exact h1, h2, h3, fun j hj => ?_⟩
  rw [uM_ne _ _ (by omega)]
  exact h4 j hj
theorem spanM_congr {M M' : Nat → Int32} {k : Nat} (hk : k ≤ 4) (h : ∀ j, j < 5 → M' j = M j) : spanM M' k = spanM M k := by
  unfold spanM
  exact itr_congr _ _ _ (fun j s h1 h2 => by rw [h (1 + j) (by omega)])
theorem spanM_uM {M : Nat → Int32} {k n : Nat} {v : Int32} (hk : k ≤ 4) (hn : 5 ≤ n) : spanM (uM M n v) k = spanM M k := spanM_congr hk (fun j hj => uM_ne _ _ (by omega))
set_option maxRecDepth 20000 in
set_option maxHeartbeats 4000000 in
theorem c9_lays {w : Wp} (hf : Fit sh0 w) {σ : Mm} {d : Nat} {M : Nat → Int32} (hd : σ.1 67 8 = nI d) (hd4 : d ≤ 423) {L : Nat} (hW : Wf M L) {k : Int32} {i : Nat} (hk : k = nI i) (hi : i < 16) : Cf sh0 w 3 mX9_lays [.ref 67, .int k] (sM σ d M) none (sM σ d (layM M L i)) := by
  refine Ct_of hf (by decide) rfl (Nat.le_of_ble_eq_true rfl) (fun x o rt => ?_)
  subst hk
  have hL4 := hW.2.2.1
  rcases lvF_cases M (M (231 + i) - M 6) L 0 with hlv | ⟨j, -, hj, hlv⟩
  · refine V_aload_n o dX9_lays_0 rfl rfl ?_
    refine V_aload_n o dX9_lays_1 rfl rfl ?_
    refine V_sipush (v := 231) o dX9_lays_2 (by decide) ?_
    refine V_iload_n o dX9_lays_5 rfl rfl ?_
    refine V_iadd o dX9_lays_6 ?_
    refine V_cVi o rt dX9_lays_7 ml_X9_85 (c9_of hf hd (nadd (show (231 : Int32) = nI 231 from rfl) rfl) (by omega)) rfl rfl rfl (Nat.le_of_ble_eq_true rfl) rfl ?_
    refine V_aload_n o dX9_lays_10 rfl rfl ?_
    refine V_bipush (v := 6) o dX9_lays_11 (by decide) ?_
    refine V_cVi o rt dX9_lays_13 ml_X9_85 (c9_of hf hd (show (6 : Int32) = nI 6 from rfl) (by omega)) rfl rfl rfl (Nat.le_of_ble_eq_true rfl) rfl ?_
    refine V_isub o dX9_lays_16 ?_
    refine V_cVi o rt dX9_lays_17 ml_X9_96 (c9_levelFor hf hd hd4 hW) rfl rfl rfl (Nat.le_of_ble_eq_true rfl) rfl ?_
    refine V_istore_n (ls' := [(2, _), (0, _), (1, _)]) o dX9_lays_20 rfl (by decide) rfl ?_
    refine V_aload_n o dX9_lays_21 rfl rfl ?_
    refine V_sipush (v := 391) o dX9_lays_22 (by decide) ?_
    refine V_iload_n o dX9_lays_25 rfl rfl ?_
    refine V_iadd o dX9_lays_26 ?_
    refine V_iload_n o dX9_lays_27 rfl rfl ?_
    refine V_cVv o rt dX9_lays_28 ml_X9_76 (c9_puts hf hd (nadd (show (391 : Int32) = nI 391 from rfl) rfl) (by omega)) rfl rfl rfl (Nat.le_of_ble_eq_true rfl) rfl ?_
    refine V_aload_n o dX9_lays_31 rfl rfl ?_
    refine V_sipush (v := 407) o dX9_lays_32 (by decide) ?_
    refine V_iload_n o dX9_lays_35 rfl rfl ?_
    refine V_iadd o dX9_lays_36 ?_
    refine V_iload_n o dX9_lays_37 rfl rfl ?_
    refine V_if_ge (tgt := 45) o dX9_lays_38 (by decide) (fun c_38 => False.elim (absurd c_38 (by rw [hlv]; decide))) (fun c_38 => ?_)
    refine V_iconst (v := -1) o dX9_lays_41 (by decide) ?_
    refine V_goto (tgt := 68) o dX9_lays_42 (by decide) ?_
    refine V_cVv o rt dX9_lays_68 ml_X9_76 (c9_puts hf hd (nadd (show (407 : Int32) = nI 407 from rfl) rfl) (by omega)) rfl rfl rfl (Nat.le_of_ble_eq_true rfl) rfl ?_
    refine V_ret o rt dX9_lays_71 rfl ?_
    exact ⟨rfl, by rw [layM, hlv]; rfl⟩
  · refine V_aload_n o dX9_lays_0 rfl rfl ?_
    refine V_aload_n o dX9_lays_1 rfl rfl ?_
    refine V_sipush (v := 231) o dX9_lays_2 (by decide) ?_
    refine V_iload_n o dX9_lays_5 rfl rfl ?_
    refine V_iadd o dX9_lays_6 ?_
    refine V_cVi o rt dX9_lays_7 ml_X9_85 (c9_of hf hd (nadd (show (231 : Int32) = nI 231 from rfl) rfl) (by omega)) rfl rfl rfl (Nat.le_of_ble_eq_true rfl) rfl ?_
    refine V_aload_n o dX9_lays_10 rfl rfl ?_
    refine V_bipush (v := 6) o dX9_lays_11 (by decide) ?_
    refine V_cVi o rt dX9_lays_13 ml_X9_85 (c9_of hf hd (show (6 : Int32) = nI 6 from rfl) (by omega)) rfl rfl rfl (Nat.le_of_ble_eq_true rfl) rfl ?_
    refine V_isub o dX9_lays_16 ?_
    refine V_cVi o rt dX9_lays_17 ml_X9_96 (c9_levelFor hf hd hd4 hW) rfl rfl rfl (Nat.le_of_ble_eq_true rfl) rfl ?_
    refine V_istore_n (ls' := [(2, _), (0, _), (1, _)]) o dX9_lays_20 rfl (by decide) rfl ?_
    refine V_aload_n o dX9_lays_21 rfl rfl ?_
    refine V_sipush (v := 391) o dX9_lays_22 (by decide) ?_
    refine V_iload_n o dX9_lays_25 rfl rfl ?_
    refine V_iadd o dX9_lays_26 ?_
    refine V_iload_n o dX9_lays_27 rfl rfl ?_
    refine V_cVv o rt dX9_lays_28 ml_X9_76 (c9_puts hf hd (nadd (show (391 : Int32) = nI 391 from rfl) rfl) (by omega)) rfl rfl rfl (Nat.le_of_ble_eq_true rfl) rfl ?_
    refine V_aload_n o dX9_lays_31 rfl rfl ?_
    refine V_sipush (v := 407) o dX9_lays_32 (by decide) ?_
    refine V_iload_n o dX9_lays_35 rfl rfl ?_
    refine V_iadd o dX9_lays_36 ?_
    refine V_iload_n o dX9_lays_37 rfl rfl ?_
    refine V_if_ge (tgt := 45) o dX9_lays_38 (by decide) (fun c_38 => ?_) (fun c_38 => False.elim (c_38 (by rw [hlv]; exact nI_pos' (by omega))))
    refine V_aload_n o dX9_lays_45 rfl rfl ?_
    refine V_sipush (v := 231) o dX9_lays_46 (by decide) ?_
    refine V_iload_n o dX9_lays_49 rfl rfl ?_
    refine V_iadd o dX9_lays_50 ?_
    refine V_cVi o rt dX9_lays_51 ml_X9_85 (c9_of hf hd (nadd (show (231 : Int32) = nI 231 from rfl) rfl) (by omega)) rfl rfl rfl (Nat.le_of_ble_eq_true rfl) rfl ?_
    refine V_aload_n o dX9_lays_54 rfl rfl ?_
    refine V_iload_n o dX9_lays_55 rfl rfl ?_
    refine V_cVi o rt dX9_lays_56 ml_X9_93 (c9_span hf hd hd4 hlv (by omega)) rfl rfl rfl (Nat.le_of_ble_eq_true rfl) rfl ?_
    refine V_idiv o dX9_lays_59 (by rw [spanM_uM (by omega) (by omega)]; exact Wf_span0 hW (by omega)) ?_
    refine V_aload_n o dX9_lays_60 rfl rfl ?_
    refine V_iconst (v := 1) o dX9_lays_61 (by decide) ?_
    refine V_iload_n o dX9_lays_62 rfl rfl ?_
    refine V_iadd o dX9_lays_63 ?_
    refine V_cVi o rt dX9_lays_64 ml_X9_85 (c9_of hf hd (nadd (show (1 : Int32) = nI 1 from rfl) hlv) (by omega)) rfl rfl rfl (Nat.le_of_ble_eq_true rfl) rfl ?_
    refine V_irem o dX9_lays_67 (by rw [uM_ne _ _ (by omega)]; exact Wf_size0 hW (by omega)) ?_
    refine V_cVv o rt dX9_lays_68 ml_X9_76 (c9_puts hf hd (nadd (show (407 : Int32) = nI 407 from rfl) rfl) (by omega)) rfl rfl rfl (Nat.le_of_ble_eq_true rfl) rfl ?_
    refine V_ret o rt dX9_lays_71 rfl ?_
    exact ⟨rfl, by rw [layM, slM, if_neg (by rw [hlv]; exact nI_pos (by omega)), hlv, ix_nI (by omega), spanM_uM (by omega) (by omega), uM_ne (j := 231 + i) _ _ (by omega), uM_ne (j := 1 + j) _ _ (by omega)]; rfl⟩
