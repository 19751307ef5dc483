set_option maxRecDepth 20000 in
set_option maxHeartbeats 4000000 in
theorem cJ_min {w : Wp} (hf : Fit sh0 w) {σ : Mm} {a b : Int32} : Cf sh0 w 0 mJ9_min_7cf53 [.int a, .int b] σ (some (.int (mnI a b))) σ := by
  refine Ct_ofF hf (by decide +kernel) rfl (Nat.le_of_ble_eq_true rfl) (fun x o rt => ?_)
  refine V_iload_n o dJ9_min_7cf53_0 rfl rfl ?_
  refine V_iload_n o dJ9_min_7cf53_1 rfl rfl ?_
  refine V_icmp_gt (tgt := 9) o dJ9_min_7cf53_2 (by decide) (fun c_2 => ?_) (fun c_2 => ?_)
  · refine V_iload_n o dJ9_min_7cf53_9 rfl rfl ?_
    refine V_iret o rt dJ9_min_7cf53_10 rfl rfl ?_
    refine ⟨?_, rfl⟩
    first | (rw [mnI, if_pos c_2]; done) | (rw [mnI, if_neg c_2]; done) | (rw [mnI, if_neg (Int32.not_le.mpr c_2)]; done) | (rw [mnI, if_pos (Int32.not_lt.mp c_2)]; done)
  · refine V_iload_n o dJ9_min_7cf53_5 rfl rfl ?_
    refine V_goto (tgt := 10) o dJ9_min_7cf53_6 (by decide) ?_
    refine V_iret o rt dJ9_min_7cf53_10 rfl rfl ?_
    refine ⟨?_, rfl⟩
    first | (rw [mnI, if_pos c_2]; done) | (rw [mnI, if_neg c_2]; done) | (rw [mnI, if_neg (Int32.not_le.mpr c_2)]; done) | (rw [mnI, if_pos (Int32.not_lt.mp c_2)]; done)
set_option maxRecDepth 20000 in
set_option maxHeartbeats 4000000 in
theorem cJ_max {w : Wp} (hf : Fit sh0 w) {σ : Mm} {a b : Int32} : Cf sh0 w 0 mJ9_max_7cf53 [.int a, .int b] σ (some (.int (mxI a b))) σ := by
  refine Ct_ofF hf (by decide +kernel) rfl (Nat.le_of_ble_eq_true rfl) (fun x o rt => ?_)
  refine V_iload_n o dJ9_max_7cf53_0 rfl rfl ?_
  refine V_iload_n o dJ9_max_7cf53_1 rfl rfl ?_
  refine V_icmp_lt (tgt := 9) o dJ9_max_7cf53_2 (by decide) (fun c_2 => ?_) (fun c_2 => ?_)
  · refine V_iload_n o dJ9_max_7cf53_9 rfl rfl ?_
    refine V_iret o rt dJ9_max_7cf53_10 rfl rfl ?_
    refine ⟨?_, rfl⟩
    first | (rw [mxI, if_pos c_2]; done) | (rw [mxI, if_neg c_2]; done) | (rw [mxI, if_neg (Int32.not_lt.mpr c_2)]; done)
  · refine V_iload_n o dJ9_max_7cf53_5 rfl rfl ?_
    refine V_goto (tgt := 10) o dJ9_max_7cf53_6 (by decide) ?_
    refine V_iret o rt dJ9_max_7cf53_10 rfl rfl ?_
    refine ⟨?_, rfl⟩
    first | (rw [mxI, if_pos c_2]; done) | (rw [mxI, if_neg c_2]; done) | (rw [mxI, if_neg (Int32.not_lt.mpr c_2)]; done)
set_option maxRecDepth 20000 in
set_option maxHeartbeats 4000000 in
theorem cJ_abs {w : Wp} (hf : Fit sh0 w) {σ : Mm} {a : Int32} : Cf sh0 w 0 mJ9_abs_0f7a4 [.int a] σ (some (.int (abI a))) σ := by
  refine Ct_ofF hf (by decide +kernel) rfl (Nat.le_of_ble_eq_true rfl) (fun x o rt => ?_)
  refine V_iload_n o dJ9_abs_0f7a4_0 rfl rfl ?_
  refine V_if_ge (tgt := 9) o dJ9_abs_0f7a4_1 (by decide) (fun c_1 => ?_) (fun c_1 => ?_)
  · refine V_iload_n o dJ9_abs_0f7a4_9 rfl rfl ?_
    refine V_iret o rt dJ9_abs_0f7a4_10 rfl rfl ?_
    refine ⟨?_, rfl⟩
    first | (rw [abI, if_pos c_1]; done) | (rw [abI, if_neg c_1]; done)
  · refine V_iload_n o dJ9_abs_0f7a4_4 rfl rfl ?_
    refine V_ineg o dJ9_abs_0f7a4_5 ?_
    refine V_goto (tgt := 10) o dJ9_abs_0f7a4_6 (by decide) ?_
    refine V_iret o rt dJ9_abs_0f7a4_10 rfl rfl ?_
    refine ⟨?_, rfl⟩
    first | (rw [abI, if_pos c_1]; done) | (rw [abI, if_neg c_1]; done)
set_option maxRecDepth 20000 in
set_option maxHeartbeats 4000000 in
theorem c9_queues {w : Wp} (hf : Fit sh0 w) {σ : Mm} {d : Nat} {M : Nat → Int32} (hd : σ.1 67 8 = nI d) (hd4 : d ≤ 423) {k bd : Int32} {t n : Nat} {g : Nat → Nat} (hk : k = nI t) (ht : t < 16) (B : Bool) (hB : bd = bz (B = true)) (hl : σ.1 67 10 = nI n) (hn : n < 16) (hg : ∀ j, j < n → σ.1 71 j = nI (g j) ∧ g j < 16) : Ct sh0 w 3 mX9_queues [.ref 67, .int k, .int bd] (sM σ d M) (fun r σ' => r = none ∧ ∃ f, σ' = sM (sLn σ f (n + 1)) d M ∧ ∀ j, j < n + 1 → f j = nI (qG (soonB M B) t n g j)) := by
  refine Ct_of hf (by decide) rfl (Nat.le_of_ble_eq_true rfl) (fun x o rt => ?_)
  subst hk
  have fin : ∀ k (f : Nat → Int32) (gk : Nat → Nat), k ≤ n → (∀ j, j < n + 1 → j ≠ k → f j = nI (gk j)) → uG gk k t = qG (soonB M B) t n g → V sh0 w x mX9_queues (0, 0) 46 [(3, .int (nI k)), (0, .ref 67), (1, .int (nI t)), (2, .int bd)] [] (sM (sLn σ f n) d M) := by
    intro k f gk hkn hfk hR
    refine V_aload_n o dX9_queues_46 rfl rfl ?_
    refine V_getR (t := 71) o dX9_queues_47 rfl fl_X9_52 rfl ?_
    refine V_iload_n o dX9_queues_50 rfl rfl ?_
    refine V_iload_n o dX9_queues_51 rfl rfl ?_
    refine V_iastN 16 o dX9_queues_52 rfl rfl rfl (by omega) rfl ?_
    rw [wI_sM71, wI_sLn71]
    refine V_aload_n o dX9_queues_53 rfl rfl ?_
    refine V_dup o dX9_queues_54 rfl ?_
    refine V_getI o dX9_queues_55 rfl fl_X9_109 rfl ?_
    refine V_iconst (v := 1) o dX9_queues_58 (by decide) ?_
    refine V_iadd o dX9_queues_59 ?_
    refine V_putI o dX9_queues_60 rfl fl_X9_109 rfl rfl rfl ?_
    rw [wI_sM67, show (sM (sLn σ (upd f k (nI t)) n) d M).1 67 10 + 1 = nI (n + 1) from nI_1 n, wI_sLn10]
    refine V_ret o rt dX9_queues_63 rfl ?_
    refine ⟨rfl, _, rfl, fun j hj => ?_⟩
    rw [← hR]
    unfold upd uG
    split
    · rfl
    · exact hfk j hj (by assumption)
  have loop : ∀ k (f : Nat → Int32) (gk : Nat → Nat), k ≤ n → (∀ j, j < n + 1 → j ≠ k → f j = nI (gk j) ∧ gk j < 16) → qG (soonB M B) t k gk = qG (soonB M B) t n g → V sh0 w x mX9_queues (0, 0) 5 [(3, .int (nI k)), (0, .ref 67), (1, .int (nI t)), (2, .int bd)] [] (sM (sLn σ f n) d M) := by
    intro k
    induction k with
    | zero =>
      intro f gk hkn hfk hR
      refine V_iload_n o dX9_queues_5 rfl rfl ?_
      refine V_if_le (tgt := 46) o dX9_queues_6 (by decide) (fun c_6 => ?_) (fun c_6 => False.elim (c_6 (by decide)))
      exact fin 0 f gk hkn (fun j h1 h2 => (hfk j h1 h2).1) hR
    | succ k ih =>
      intro f gk hkn hfk hR
      rw [qG] at hR
      have hfk0 := hfk k (by omega) (by omega)
      refine V_iload_n o dX9_queues_5 rfl rfl ?_
      refine V_if_le (tgt := 46) o dX9_queues_6 (by decide) (fun c_6 => False.elim (absurd c_6 (nI_nle (by omega) (by omega)))) (fun c_6 => ?_)
      refine V_aload_n o dX9_queues_9 rfl rfl ?_
      refine V_iload_n o dX9_queues_10 rfl rfl ?_
      refine V_aload_n o dX9_queues_11 rfl rfl ?_
      refine V_getR (t := 71) o dX9_queues_12 rfl fl_X9_52 rfl ?_
      refine V_iload_n o dX9_queues_15 rfl rfl ?_
      refine V_iconst (v := 1) o dX9_queues_16 (by decide) ?_
      refine V_isub o dX9_queues_17 ?_
      refine V_ialdE (v := nI (gk k)) 16 o dX9_queues_18 rfl rfl (nI_pred k) (by omega) rfl hfk0.1 ?_
      refine V_iload_n o dX9_queues_19 rfl rfl ?_
      refine V_cVi o rt dX9_queues_20 ml_X9_112 (c9_isSooner hf (by exact hd) hd4 rfl ht rfl hfk0.2 B hB) rfl rfl rfl (Nat.le_of_ble_eq_true rfl) rfl ?_
      refine V_if_eq (tgt := 46) o dX9_queues_23 (by decide) (fun c_23 => ?_) (fun c_23 => ?_)
      · rw [if_neg (bz_0.mp c_23)] at hR
        exact fin (k + 1) f gk hkn (fun j h1 h2 => (hfk j h1 h2).1) hR
      · refine V_aload_n o dX9_queues_26 rfl rfl ?_
        refine V_getR (t := 71) o dX9_queues_27 rfl fl_X9_52 rfl ?_
        refine V_iload_n o dX9_queues_30 rfl rfl ?_
        refine V_aload_n o dX9_queues_31 rfl rfl ?_
        refine V_getR (t := 71) o dX9_queues_32 rfl fl_X9_52 rfl ?_
        refine V_iload_n o dX9_queues_35 rfl rfl ?_
        refine V_iconst (v := 1) o dX9_queues_36 (by decide) ?_
        refine V_isub o dX9_queues_37 ?_
        refine V_ialdN 16 o dX9_queues_38 rfl rfl (nI_pred k) (by omega) rfl ?_
        refine V_iastN 16 o dX9_queues_39 rfl rfl rfl (by omega) rfl ?_
        rw [wI_sM71, wI_sLn71]
        refine V_iincV (v := nI (k)) (ls' := [(3, _), (0, _), (1, _), (2, _)]) o dX9_queues_40 rfl (ndec rfl) (by decide) rfl ?_
        refine V_goto (tgt := 5) o dX9_queues_43 (by decide) ?_
        rw [if_pos (bz_n0.mp c_23)] at hR
        refine ih _ (uG gk (k + 1) (gk k)) (by omega) (fun j h1 h2 => ?_) hR
        unfold upd uG
        split
        · exact hfk0
        · exact hfk j h1 (by assumption)
  rw [← sLn_of hl]
  refine V_aload_n o dX9_queues_0 rfl rfl ?_
  refine V_getIE (v := nI (n)) o dX9_queues_1 rfl fl_X9_109 rfl rfl ?_
  refine V_istore_n (ls' := [(3, _), (0, _), (1, _), (2, _)]) o dX9_queues_4 rfl (by decide) rfl ?_
  exact loop n (σ.1 71) g (Nat.le_refl n) (fun j h1 h2 => hg j (by omega)) rfl
