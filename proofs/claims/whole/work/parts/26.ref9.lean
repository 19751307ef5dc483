theorem mx_le {n : Nat} (h : n ≤ 20) : nI n - 20 ≤ 0 := by
  have : n = 0 ∨ n = 1 ∨ n = 2 ∨ n = 3 ∨ n = 4 ∨ n = 5 ∨ n = 6 ∨ n = 7 ∨ n = 8 ∨ n = 9 ∨ n = 10 ∨ n = 11 ∨ n = 12 ∨ n = 13 ∨ n = 14 ∨ n = 15 ∨ n = 16 ∨ n = 17 ∨ n = 18 ∨ n = 19 ∨ n = 20 := by omega
  rcases this with rfl | rfl | rfl | rfl | rfl | rfl | rfl | rfl | rfl | rfl | rfl | rfl | rfl | rfl | rfl | rfl | rfl | rfl | rfl | rfl | rfl <;> decide
set_option maxRecDepth 20000 in
set_option maxHeartbeats 4000000 in
theorem c9_leapsBy_no {w : Wp} (hf : Fit sh0 w) {σ : Mm} {d : Nat} {M : Nat → Int32} (hd : σ.1 67 8 = nI d) (hd4 : d ≤ 423) {k : Int32} (hc : ¬ ((0 : Int64) ≤ (M 6).toInt64 + k.toInt64 ∧ (M 6).toInt64 + k.toInt64 ≤ 1000000000)) : Cf sh0 w 7 mX9_leapsBy [.ref 67, .int k] (sM σ d M) (some (.int (-4))) (sM σ d M) := by
  refine Ct_of hf (by decide) rfl (Nat.le_of_ble_eq_true rfl) (fun x o rt => ?_)
  refine V_aload_n o dX9_leapsBy_0 rfl rfl ?_
  refine V_bipush (v := 6) o dX9_leapsBy_1 (by decide) ?_
  refine V_cVi o rt dX9_leapsBy_3 ml_X9_85 (c9_of hf (by exact hd) (show (6 : Int32) = nI 6 from rfl) (by omega)) rfl rfl rfl (Nat.le_of_ble_eq_true rfl) rfl ?_
  refine V_i2l o dX9_leapsBy_6 ?_
  refine V_iload_n o dX9_leapsBy_7 rfl rfl ?_
  refine V_i2l o dX9_leapsBy_8 ?_
  refine V_ladd o dX9_leapsBy_9 ?_
  refine V_lconst (v := 0) o dX9_leapsBy_10 (by decide) ?_
  refine V_ldc2 o dX9_leapsBy_11 kc_X9_161 ?_
  refine V_cSi o rt dX9_leapsBy_14 ms_X9_21 (c9_in hf) rfl rfl (Nat.le_of_ble_eq_true rfl) rfl ?_
  refine V_if_ne (tgt := 23) o dX9_leapsBy_17 (by decide) (fun c_17 => False.elim (absurd (bz_n0.mp c_17) hc)) (fun c_17 => ?_)
  refine V_bipush (v := -4) o dX9_leapsBy_20 (by decide) ?_
  refine V_iret o rt dX9_leapsBy_22 rfl rfl ?_
  exact ⟨rfl, rfl⟩
set_option maxRecDepth 20000 in
set_option maxHeartbeats 4000000 in
theorem c9_leapsBy {w : Wp} (hf : Fit sh0 w) {σ : Mm} {d : Nat} {M : Nat → Int32} (hd : σ.1 67 8 = nI d) (hd4 : d ≤ 423) {L r : Nat} (hI : Iv M L r) {k : Int32} (hc : ((0 : Int64) ≤ (M 6).toInt64 + k.toInt64 ∧ (M 6).toInt64 + k.toInt64 ≤ 1000000000)) {S : (Nat → Int32) × (Nat → Nat) × Nat} (hS : lpS M k = S) : Ct sh0 w 7 mX9_leapsBy [.ref 67, .int k] (sM σ d M) (fun r' σ' => r' = some (.int (nI S.2.2)) ∧ ∃ f, σ' = sM (sHd (sLn σ f S.2.2) (hcat (σ.1 72) 0 S.2.2 (fun j => nI (S.2.1 j))) (hcat (σ.1 73) 0 S.2.2 (fun j => S.1 (231 + S.2.1 j))) (0 + S.2.2)) d (layAllM (ringM S.1 L r S.2.1 S.2.2) L)) := by
  refine Ct_of hf (by decide) rfl (Nat.le_of_ble_eq_true rfl) (fun x o rt => ?_)
  have hA := lpS_all (M := M) (n := k)
  rw [hS] at hA
  have hIs := Iv_lpS (n := k) hI
  rw [hS] at hIs
  have fin : ∀ (f : Nat → Int32), (∀ j, j < S.2.2 → f j = nI (S.2.1 j)) → V sh0 w x mX9_leapsBy (0, 0) 135 [(0, .ref 67)] [] (sM (sHd (sLn σ f S.2.2) (σ.1 72) (σ.1 73) 0) d S.1) := by
    intro f hfg
    have hT : ∀ j, j < S.2.2 → isT S.1 (S.2.1 j) := fun j hj => by
      have h1 := (hA.2.1 j hj).1
      exact (hA.2.2 (215 + _) (Or.inl (by omega))).trans (hA.2.1 j hj).2
    have hIr := ringM_Iv hIs (fun j hj => ⟨(hA.2.1 j hj).1, hT j hj⟩)
    refine V_aload_n o dX9_leapsBy_135 rfl rfl ?_
    refine V_iconst (v := 1) o dX9_leapsBy_136 (by decide) ?_
    refine V_cVv o rt dX9_leapsBy_137 ml_X9_146 (c9_ringsAll (h := 0) (n := S.2.2) (g := S.2.1) (r := r) hf (by exact hd) hd4 hIs.1 true rfl hIs.2.1 hIs.2.2.1 rfl hA.1 (fun j hj => ⟨hfg j hj, (hA.2.1 j hj).1, hIs.2.2.2 _ (hA.2.1 j hj).1 (hT j hj)⟩) rfl (by have := hA.1; omega)) rfl rfl rfl (Nat.le_of_ble_eq_true rfl) rfl ?_
    refine V_aload_n o dX9_leapsBy_140 rfl rfl ?_
    refine V_cVv o rt dX9_leapsBy_141 ml_X9_166 (c9_laysAll hf (by exact hd) hd4 hIr.1) rfl rfl rfl (Nat.le_of_ble_eq_true rfl) rfl ?_
    refine V_aload_n o dX9_leapsBy_144 rfl rfl ?_
    refine V_getIE (v := nI (0 + S.2.2)) o dX9_leapsBy_145 rfl fl_X9_129 rfl rfl ?_
    refine V_iret o rt dX9_leapsBy_148 rfl rfl ?_
    rw [sHd_sHd]
    refine ⟨by rw [Nat.zero_add], f, ?_⟩
    rfl
  have loop : ∀ n t (f : Nat → Int32) (s : (Nat → Int32) × (Nat → Nat) × Nat), t + n = 16 → s.2.2 ≤ t → (∀ j, j < s.2.2 → f j = nI (s.2.1 j) ∧ s.2.1 j < 16) → itr (lpF k) t n s = S → V sh0 w x mX9_leapsBy (0, 0) 62 [(2, .int (nI t)), (0, .ref 67), (1, .int k)] [] (sM (sHd (sLn σ f s.2.2) (σ.1 72) (σ.1 73) 0) d s.1) := by
    intro n
    induction n with
    | zero =>
      intro t f s htn hst hfg hR
      have ht : t = 16 := by omega
      refine V_iload_n o dX9_leapsBy_62 rfl rfl ?_
      refine V_bipush (v := 16) o dX9_leapsBy_63 (by decide) ?_
      refine V_icmp_ge (tgt := 135) o dX9_leapsBy_65 (by decide) (fun c_65 => ?_) (fun c_65 => False.elim (c_65 (by rw [ht]; exact Int32.le_refl _)))
      have hs : s = S := hR
      subst hs
      exact V_sub (by simp) (fin f (fun j hj => (hfg j hj).1))
    | succ n ih =>
      intro t f s htn hst hfg hR
      rw [itr_succ, lpF] at hR
      refine V_iload_n o dX9_leapsBy_62 rfl rfl ?_
      refine V_bipush (v := 16) o dX9_leapsBy_63 (by decide) ?_
      refine V_icmp_ge (tgt := 135) o dX9_leapsBy_65 (by decide) (fun c_65 => False.elim (absurd c_65 (nI_ge (b := 16) (by omega) (by omega)))) (fun c_65 => ?_)
      refine V_aload_n o dX9_leapsBy_68 rfl rfl ?_
      refine V_iload_n o dX9_leapsBy_69 rfl rfl ?_
      refine V_cVi o rt dX9_leapsBy_70 ml_X9_99 (c9_goes hf (by exact hd) hd4 rfl (by omega)) rfl rfl rfl (Nat.le_of_ble_eq_true rfl) rfl ?_
      refine V_if_ne (tgt := 79) o dX9_leapsBy_73 (by decide) (fun c_73 => ?_) (fun c_73 => ?_)
      · refine V_aload_n o dX9_leapsBy_79 rfl rfl ?_
        refine V_sipush (v := 327) o dX9_leapsBy_80 (by decide) ?_
        refine V_iload_n o dX9_leapsBy_83 rfl rfl ?_
        refine V_iadd o dX9_leapsBy_84 ?_
        refine V_cVi o rt dX9_leapsBy_85 ml_X9_85 (c9_of hf (by exact hd) (nadd (show (327 : Int32) = nI 327 from rfl) rfl) (by omega)) rfl rfl rfl (Nat.le_of_ble_eq_true rfl) rfl ?_
        refine V_iconst (v := 1) o dX9_leapsBy_88 (by decide) ?_
        refine V_icmp_ne (tgt := 105) o dX9_leapsBy_89 (by decide) (fun c_89 => ?_) (fun c_89 => ?_)
        · refine V_aload_n o dX9_leapsBy_105 rfl rfl ?_
          refine V_sipush (v := 231) o dX9_leapsBy_106 (by decide) ?_
          refine V_iload_n o dX9_leapsBy_109 rfl rfl ?_
          refine V_iadd o dX9_leapsBy_110 ?_
          refine V_cVi o rt dX9_leapsBy_111 ml_X9_85 (c9_of hf (by exact hd) (nadd (show (231 : Int32) = nI 231 from rfl) rfl) (by omega)) rfl rfl rfl (Nat.le_of_ble_eq_true rfl) rfl ?_
          refine V_aload_n o dX9_leapsBy_114 rfl rfl ?_
          refine V_bipush (v := 6) o dX9_leapsBy_115 (by decide) ?_
          refine V_cVi o rt dX9_leapsBy_117 ml_X9_85 (c9_of hf (by exact hd) (show (6 : Int32) = nI 6 from rfl) (by omega)) rfl rfl rfl (Nat.le_of_ble_eq_true rfl) rfl ?_
          refine V_icmp_gt (tgt := 129) o dX9_leapsBy_120 (by decide) (fun c_120 => ?_) (fun c_120 => ?_)
          · refine V_iincV (v := nI (t + 1)) (ls' := [(2, _), (0, _), (1, _)]) o dX9_leapsBy_129 rfl (ninc 1 rfl) (by decide) rfl ?_
            refine V_goto (tgt := 62) o dX9_leapsBy_132 (by decide) ?_
            first
              | (rw [if_neg (bz_0.mp c_73)] at hR; exact ih (t + 1) f s (by omega) (by omega) hfg hR)
              | (rw [if_pos (bz_n0.mp c_73), if_pos c_89] at hR; exact ih (t + 1) f (uM s.1 (231 + t) (s.1 (231 + t) + k), s.2) (by omega) (Nat.le_succ_of_le hst) hfg hR)
              | (rw [if_pos (bz_n0.mp c_73), if_neg c_89, if_neg (Int32.not_le.mpr c_120)] at hR; exact ih (t + 1) f s (by omega) (by omega) hfg hR)
              | (rw [if_pos (bz_n0.mp c_73), if_neg c_89, if_pos (Int32.not_lt.mp c_120)] at hR
                 exact ih (t + 1) f1 (s.1, qG (soonB s.1 true) t s.2.2 s.2.1, s.2.2 + 1) (by omega) (Nat.succ_le_succ hst) (fun j hj => ⟨hf1 j hj, qG_lt (by omega) s.2.2 s.2.2 s.2.1 (Nat.le_refl _) (fun k hk hne => (hfg k (by omega)).2) j hj⟩) hR)
          · refine V_aload_n o dX9_leapsBy_123 rfl rfl ?_
            refine V_iload_n o dX9_leapsBy_124 rfl rfl ?_
            refine V_iconst (v := 1) o dX9_leapsBy_125 (by decide) ?_
            refine V_callV o rt dX9_leapsBy_126 ml_X9_142 (c9_queues (n := s.2.2) (g := s.2.1) hf (by exact hd) hd4 rfl (by omega) true rfl rfl (by omega) (fun j hj => ⟨(hfg j hj).1, (hfg j hj).2⟩)) rfl rfl rfl (Nat.le_of_ble_eq_true rfl) rfl (fun r_126 σ_126 q_126 => ?_)
            obtain ⟨rfl, f1, rfl, hf1⟩ := q_126
            rw [sLn_sHd, sLn_sLn]
            refine V_iincV (v := nI (t + 1)) (ls' := [(2, _), (0, _), (1, _)]) o dX9_leapsBy_129 rfl (ninc 1 rfl) (by decide) rfl ?_
            refine V_goto (tgt := 62) o dX9_leapsBy_132 (by decide) ?_
            first
              | (rw [if_neg (bz_0.mp c_73)] at hR; exact ih (t + 1) f s (by omega) (by omega) hfg hR)
              | (rw [if_pos (bz_n0.mp c_73), if_pos c_89] at hR; exact ih (t + 1) f (uM s.1 (231 + t) (s.1 (231 + t) + k), s.2) (by omega) (Nat.le_succ_of_le hst) hfg hR)
              | (rw [if_pos (bz_n0.mp c_73), if_neg c_89, if_neg (Int32.not_le.mpr c_120)] at hR; exact ih (t + 1) f s (by omega) (by omega) hfg hR)
              | (rw [if_pos (bz_n0.mp c_73), if_neg c_89, if_pos (Int32.not_lt.mp c_120)] at hR
                 exact ih (t + 1) f1 (s.1, qG (soonB s.1 true) t s.2.2 s.2.1, s.2.2 + 1) (by omega) (Nat.succ_le_succ hst) (fun j hj => ⟨hf1 j hj, qG_lt (by omega) s.2.2 s.2.2 s.2.1 (Nat.le_refl _) (fun k hk hne => (hfg k (by omega)).2) j hj⟩) hR)
        · refine V_aload_n o dX9_leapsBy_92 rfl rfl ?_
          refine V_sipush (v := 231) o dX9_leapsBy_93 (by decide) ?_
          refine V_iload_n o dX9_leapsBy_96 rfl rfl ?_
          refine V_iadd o dX9_leapsBy_97 ?_
          refine V_iload_n o dX9_leapsBy_98 rfl rfl ?_
          refine V_cVv o rt dX9_leapsBy_99 ml_X9_106 (c9_more hf (by exact hd) (nadd (show (231 : Int32) = nI 231 from rfl) rfl) (by omega)) rfl rfl rfl (Nat.le_of_ble_eq_true rfl) rfl ?_
          refine V_goto (tgt := 129) o dX9_leapsBy_102 (by decide) ?_
          refine V_iincV (v := nI (t + 1)) (ls' := [(2, _), (0, _), (1, _)]) o dX9_leapsBy_129 rfl (ninc 1 rfl) (by decide) rfl ?_
          refine V_goto (tgt := 62) o dX9_leapsBy_132 (by decide) ?_
          first
            | (rw [if_neg (bz_0.mp c_73)] at hR; exact ih (t + 1) f s (by omega) (by omega) hfg hR)
            | (rw [if_pos (bz_n0.mp c_73), if_pos c_89] at hR; exact ih (t + 1) f (uM s.1 (231 + t) (s.1 (231 + t) + k), s.2) (by omega) (Nat.le_succ_of_le hst) hfg hR)
            | (rw [if_pos (bz_n0.mp c_73), if_neg c_89, if_neg (Int32.not_le.mpr c_120)] at hR; exact ih (t + 1) f s (by omega) (by omega) hfg hR)
            | (rw [if_pos (bz_n0.mp c_73), if_neg c_89, if_pos (Int32.not_lt.mp c_120)] at hR
               exact ih (t + 1) f1 (s.1, qG (soonB s.1 true) t s.2.2 s.2.1, s.2.2 + 1) (by omega) (Nat.succ_le_succ hst) (fun j hj => ⟨hf1 j hj, qG_lt (by omega) s.2.2 s.2.2 s.2.1 (Nat.le_refl _) (fun k hk hne => (hfg k (by omega)).2) j hj⟩) hR)
      · refine V_goto (tgt := 129) o dX9_leapsBy_76 (by decide) ?_
        refine V_iincV (v := nI (t + 1)) (ls' := [(2, _), (0, _), (1, _)]) o dX9_leapsBy_129 rfl (ninc 1 rfl) (by decide) rfl ?_
        refine V_goto (tgt := 62) o dX9_leapsBy_132 (by decide) ?_
        first
          | (rw [if_neg (bz_0.mp c_73)] at hR; exact ih (t + 1) f s (by omega) (by omega) hfg hR)
          | (rw [if_pos (bz_n0.mp c_73), if_pos c_89] at hR; exact ih (t + 1) f (uM s.1 (231 + t) (s.1 (231 + t) + k), s.2) (by omega) (Nat.le_succ_of_le hst) hfg hR)
          | (rw [if_pos (bz_n0.mp c_73), if_neg c_89, if_neg (Int32.not_le.mpr c_120)] at hR; exact ih (t + 1) f s (by omega) (by omega) hfg hR)
          | (rw [if_pos (bz_n0.mp c_73), if_neg c_89, if_pos (Int32.not_lt.mp c_120)] at hR
             exact ih (t + 1) f1 (s.1, qG (soonB s.1 true) t s.2.2 s.2.1, s.2.2 + 1) (by omega) (Nat.succ_le_succ hst) (fun j hj => ⟨hf1 j hj, qG_lt (by omega) s.2.2 s.2.2 s.2.1 (Nat.le_refl _) (fun k hk hne => (hfg k (by omega)).2) j hj⟩) hR)
  refine V_aload_n o dX9_leapsBy_0 rfl rfl ?_
  refine V_bipush (v := 6) o dX9_leapsBy_1 (by decide) ?_
  refine V_cVi o rt dX9_leapsBy_3 ml_X9_85 (c9_of hf (by exact hd) (show (6 : Int32) = nI 6 from rfl) (by omega)) rfl rfl rfl (Nat.le_of_ble_eq_true rfl) rfl ?_
  refine V_i2l o dX9_leapsBy_6 ?_
  refine V_iload_n o dX9_leapsBy_7 rfl rfl ?_
  refine V_i2l o dX9_leapsBy_8 ?_
  refine V_ladd o dX9_leapsBy_9 ?_
  refine V_lconst (v := 0) o dX9_leapsBy_10 (by decide) ?_
  refine V_ldc2 o dX9_leapsBy_11 kc_X9_161 ?_
  refine V_cSi o rt dX9_leapsBy_14 ms_X9_21 (c9_in hf) rfl rfl (Nat.le_of_ble_eq_true rfl) rfl ?_
  refine V_if_ne (tgt := 23) o dX9_leapsBy_17 (by decide) (fun c_17 => ?_) (fun c_17 => False.elim (bz_n0.mpr hc c_17))
  refine V_aload_n o dX9_leapsBy_23 rfl rfl ?_
  refine V_iconst (v := 0) o dX9_leapsBy_24 (by decide) ?_
  refine V_putI o dX9_leapsBy_25 rfl fl_X9_129 rfl rfl rfl ?_
  rw [wI_sM67, wI_sHd0]
  refine V_aload_n o dX9_leapsBy_28 rfl rfl ?_
  refine V_bipush (v := 6) o dX9_leapsBy_29 (by decide) ?_
  refine V_iload_n o dX9_leapsBy_31 rfl rfl ?_
  refine V_cVv o rt dX9_leapsBy_32 ml_X9_106 (c9_more hf (by exact hd) (show (6 : Int32) = nI 6 from rfl) (by omega)) rfl rfl rfl (Nat.le_of_ble_eq_true rfl) rfl ?_
  refine V_aload_n o dX9_leapsBy_35 rfl rfl ?_
  refine V_bipush (v := 7) o dX9_leapsBy_36 (by decide) ?_
  refine V_iload_n o dX9_leapsBy_38 rfl rfl ?_
  refine V_if_le (tgt := 46) o dX9_leapsBy_39 (by decide) (fun c_39 => ?_) (fun c_39 => ?_)
  · refine V_iconst (v := 5) o dX9_leapsBy_46 (by decide) ?_
    refine V_iadd o dX9_leapsBy_47 ?_
    refine V_iload_n o dX9_leapsBy_48 rfl rfl ?_
    refine V_cSi o rt dX9_leapsBy_49 ms_X9_163 (cJ_abs hf) rfl rfl (Nat.le_of_ble_eq_true rfl) rfl ?_
    refine V_cVv o rt dX9_leapsBy_52 ml_X9_106 (c9_more hf (by exact hd) (nadd (show (7 : Int32) = nI 7 from rfl) (show (5 : Int32) = nI 5 from rfl)) (by omega)) rfl rfl rfl (Nat.le_of_ble_eq_true rfl) rfl ?_
    refine V_aload_n o dX9_leapsBy_55 rfl rfl ?_
    refine V_iconst (v := 0) o dX9_leapsBy_56 (by decide) ?_
    refine V_putI o dX9_leapsBy_57 rfl fl_X9_109 rfl rfl rfl ?_
    rw [wI_sM67, show wI (sHd σ (σ.1 72) (σ.1 73) 0) 67 10 0 = sHd (sLn σ (σ.1 71) 0) (σ.1 72) (σ.1 73) 0 from wI_sLn0.trans sLn_sHd]
    refine V_iconst (v := 0) o dX9_leapsBy_60 (by decide) ?_
    refine V_istore_n (ls' := [(2, _), (0, _), (1, _)]) o dX9_leapsBy_61 rfl (by decide) rfl ?_
    have h0 := loop 16 0 (σ.1 71) (lp0 M k, fun _ => 0, 0) (by omega) (Nat.le_refl 0) (fun j hj => absurd hj (Nat.not_lt_zero j)) (by unfold lpS at hS; exact hS)
    rw [lp0] at h0
    first | (rw [if_pos (Int32.not_le.mp c_39)] at h0; exact h0) | (rw [if_neg (Int32.not_lt.mpr c_39)] at h0; exact h0)
  · refine V_iconst (v := 4) o dX9_leapsBy_42 (by decide) ?_
    refine V_goto (tgt := 47) o dX9_leapsBy_43 (by decide) ?_
    refine V_iadd o dX9_leapsBy_47 ?_
    refine V_iload_n o dX9_leapsBy_48 rfl rfl ?_
    refine V_cSi o rt dX9_leapsBy_49 ms_X9_163 (cJ_abs hf) rfl rfl (Nat.le_of_ble_eq_true rfl) rfl ?_
    refine V_cVv o rt dX9_leapsBy_52 ml_X9_106 (c9_more hf (by exact hd) (nadd (show (7 : Int32) = nI 7 from rfl) (show (4 : Int32) = nI 4 from rfl)) (by omega)) rfl rfl rfl (Nat.le_of_ble_eq_true rfl) rfl ?_
    refine V_aload_n o dX9_leapsBy_55 rfl rfl ?_
    refine V_iconst (v := 0) o dX9_leapsBy_56 (by decide) ?_
    refine V_putI o dX9_leapsBy_57 rfl fl_X9_109 rfl rfl rfl ?_
    rw [wI_sM67, show wI (sHd σ (σ.1 72) (σ.1 73) 0) 67 10 0 = sHd (sLn σ (σ.1 71) 0) (σ.1 72) (σ.1 73) 0 from wI_sLn0.trans sLn_sHd]
    refine V_iconst (v := 0) o dX9_leapsBy_60 (by decide) ?_
    refine V_istore_n (ls' := [(2, _), (0, _), (1, _)]) o dX9_leapsBy_61 rfl (by decide) rfl ?_
    have h0 := loop 16 0 (σ.1 71) (lp0 M k, fun _ => 0, 0) (by omega) (Nat.le_refl 0) (fun j hj => absurd hj (Nat.not_lt_zero j)) (by unfold lpS at hS; exact hS)
    rw [lp0] at h0
    first | (rw [if_pos (Int32.not_le.mp c_39)] at h0; exact h0) | (rw [if_neg (Int32.not_lt.mpr c_39)] at h0; exact h0)
set_option maxRecDepth 20000 in
set_option maxHeartbeats 4000000 in
theorem c9_enters {w : Wp} (hf : Fit sh0 w) {σ : Mm} {d : Nat} {M : Nat → Int32} {f : Nat → Int64} {n : Nat} (hn : n < 64) {v : Int64} : Cf sh0 w 0 mX9_enters [.ref 67, .long v] (sM (sRw σ f n) d M) none (sM (sRw σ (updL f n v) (n + 1)) d M) := by
  refine Ct_of hf (by decide) rfl (Nat.le_of_ble_eq_true rfl) (fun x o rt => ?_)
  refine V_aload_n o dX9_enters_0 rfl rfl ?_
  refine V_getR (t := 68) o dX9_enters_1 rfl fl_X9_7 rfl ?_
  refine V_aload_n o dX9_enters_4 rfl rfl ?_
  refine V_getIE (v := nI (n)) o dX9_enters_5 rfl fl_X9_11 rfl rfl ?_
  refine V_lload_n o dX9_enters_8 rfl rfl ?_
  refine V_lastN 64 o dX9_enters_9 rfl rfl rfl (by omega) rfl ?_
  rw [wL_sM]
  refine V_aload_n o dX9_enters_10 rfl rfl ?_
  refine V_dup o dX9_enters_11 rfl ?_
  refine V_getIE (v := nI (n)) o dX9_enters_12 rfl fl_X9_11 rfl rfl ?_
  refine V_iconst (v := 1) o dX9_enters_15 (by decide) ?_
  refine V_iadd o dX9_enters_16 ?_
  refine V_putI o dX9_enters_17 rfl fl_X9_11 rfl rfl rfl ?_
  rw [wI_sM67, show nI n + 1 = nI (n + 1) from nI_1 n, wLI_sRw]
  refine V_ret o rt dX9_enters_20 rfl ?_
  exact ⟨rfl, rfl⟩
set_option maxRecDepth 20000 in
set_option maxHeartbeats 4000000 in
theorem c9_tellsLine {w : Wp} (hf : Fit sh0 w) {σ : Mm} {d : Nat} {M : Nat → Int32} {n : Nat} {g : Nat → Nat} (hn : n ≤ 16) (hl : σ.1 67 10 = nI n) (hg : ∀ j, j < n → σ.1 71 j = nI (g j)) : Ct sh0 w 1 mX9_tellsLine [.ref 67] (sM σ d M) (fun r' σ' => r' = none ∧ ∃ f, σ' = sM (sRw σ f n) d M ∧ RwR f (rowG g n)) := by
  refine Ct_of hf (by decide) rfl (Nat.le_of_ble_eq_true rfl) (fun x o rt => ?_)
  have loop : ∀ m i (f : Nat → Int64), i + m = n → RwR f (rowG g i) → V sh0 w x mX9_tellsLine (0, 0) 7 [(1, .int (nI i)), (0, .ref 67)] [] (sM (sRw σ f i) d M) := by
    intro m
    induction m with
    | zero =>
      intro i f him hR
      have hi : i = n := by omega
      subst hi
      refine V_iload_n o dX9_tellsLine_7 rfl rfl ?_
      refine V_aload_n o dX9_tellsLine_8 rfl rfl ?_
      refine V_getIE (v := nI (i)) o dX9_tellsLine_9 rfl fl_X9_109 rfl hl ?_
      refine V_icmp_ge (tgt := 32) o dX9_tellsLine_12 (by decide) (fun c_12 => ?_) (fun c_12 => False.elim (c_12 (Int32.le_refl _)))
      refine V_ret o rt dX9_tellsLine_32 rfl ?_
      exact ⟨rfl, f, rfl, hR⟩
    | succ m ih =>
      intro i f him hR
      refine V_iload_n o dX9_tellsLine_7 rfl rfl ?_
      refine V_aload_n o dX9_tellsLine_8 rfl rfl ?_
      refine V_getIE (v := nI (n)) o dX9_tellsLine_9 rfl fl_X9_109 rfl hl ?_
      refine V_icmp_ge (tgt := 32) o dX9_tellsLine_12 (by decide) (fun c_12 => False.elim (absurd c_12 (nI_ge (by omega) (by omega)))) (fun c_12 => ?_)
      refine V_aload_n o dX9_tellsLine_15 rfl rfl ?_
      refine V_aload_n o dX9_tellsLine_16 rfl rfl ?_
      refine V_getR (t := 71) o dX9_tellsLine_17 rfl fl_X9_52 rfl ?_
      refine V_iload_n o dX9_tellsLine_20 rfl rfl ?_
      refine V_ialdE (v := nI (g i)) 16 o dX9_tellsLine_21 rfl rfl rfl (by omega) rfl (hg i (by omega)) ?_
      refine V_i2l o dX9_tellsLine_22 ?_
      refine V_cVv o rt dX9_tellsLine_23 ml_X9_153 (c9_enters hf (by omega)) rfl rfl rfl (Nat.le_of_ble_eq_true rfl) rfl ?_
      refine V_iincV (v := nI (i + 1)) (ls' := [(1, _), (0, _)]) o dX9_tellsLine_26 rfl (ninc 1 rfl) (by decide) rfl ?_
      refine V_goto (tgt := 7) o dX9_tellsLine_29 (by decide) ?_
      exact ih (i + 1) _ (by omega) (by rw [rowG_succ]; exact RwR_push (rowG_len g i).symm hR)
  refine V_aload_n o dX9_tellsLine_0 rfl rfl ?_
  refine V_iconst (v := 0) o dX9_tellsLine_1 (by decide) ?_
  refine V_putI o dX9_tellsLine_2 rfl fl_X9_11 rfl rfl rfl ?_
  rw [wI_sM67, wI_sRw0]
  refine V_iconst (v := 0) o dX9_tellsLine_5 (by decide) ?_
  refine V_istore_n (ls' := [(1, _), (0, _)]) o dX9_tellsLine_6 rfl (by decide) rfl ?_
  exact loop n 0 _ (by omega) RwR_nil
theorem take_succ_getD {α : Type} (l : List α) (k : Nat) (a : α) (h : k < l.length) : l.take (k + 1) = l.take k ++ [l.getD k a] := by rw [List.take_succ, List.getD_eq_getElem?_getD, List.getElem?_eq_getElem h]; rfl
set_option maxRecDepth 20000 in
set_option maxHeartbeats 4000000 in
theorem c9_tellsFirst {w : Wp} (hf : Fit sh0 w) {σ : Mm} {d : Nat} {M : Nat → Int32} {hl : List (Nat × Int32)} (hh : σ.1 67 13 = nI hl.length) (hh2 : hl.length ≤ 2000) (hH : HdR (σ.1 72) (σ.1 73) hl) : Ct sh0 w 1 mX9_tellsFirst [.ref 67] (sM σ d M) (fun r' σ' => r' = none ∧ ∃ f, σ' = sM (sRw σ f (2 * (hl.take 20).length)) d M ∧ RwR f (rowH (hl.take 20))) := by
  refine Ct_of hf (by decide) rfl (Nat.le_of_ble_eq_true rfl) (fun x o rt => ?_)
  have loop : ∀ m i (f : Nat → Int64), i + m = min hl.length 20 → RwR f (rowH (hl.take i)) → V sh0 w x mX9_tellsFirst (0, 0) 7 [(1, .int (nI i)), (0, .ref 67)] [] (sM (sRw σ f (2 * i)) d M) := by
    intro m
    induction m with
    | zero =>
      intro i f him hR
      have e : hl.take 20 = hl.take i := by
        by_cases q : hl.length ≤ 20
        · rw [List.take_of_length_le q, List.take_of_length_le (by omega)]
        · rw [show i = 20 by omega]
      refine V_iload_n o dX9_tellsFirst_7 rfl rfl ?_
      refine V_aload_n o dX9_tellsFirst_8 rfl rfl ?_
      refine V_getIE (v := nI (hl.length)) o dX9_tellsFirst_9 rfl fl_X9_129 rfl hh ?_
      refine V_bipush (v := 20) o dX9_tellsFirst_12 (by decide) ?_
      refine V_cSi o rt dX9_tellsFirst_14 ms_X9_120 (cJ_min hf) rfl rfl (Nat.le_of_ble_eq_true rfl) rfl ?_
      refine V_topI (v' := nI (min hl.length 20)) (mnI_nI (b := 20) (by omega) (by omega)) ?_
      refine V_icmp_ge (tgt := 48) o dX9_tellsFirst_17 (by decide) (fun c_17 => ?_) (fun c_17 => False.elim (c_17 (nI_le (by omega) (by omega))))
      refine V_ret o rt dX9_tellsFirst_48 rfl ?_
      refine ⟨rfl, f, ?_, by rw [e]; exact hR⟩
      rw [List.length_take, show 2 * min 20 hl.length = 2 * i by omega]
    | succ m ih =>
      intro i f him hR
      have hHi := hH i (by omega)
      refine V_iload_n o dX9_tellsFirst_7 rfl rfl ?_
      refine V_aload_n o dX9_tellsFirst_8 rfl rfl ?_
      refine V_getIE (v := nI (hl.length)) o dX9_tellsFirst_9 rfl fl_X9_129 rfl hh ?_
      refine V_bipush (v := 20) o dX9_tellsFirst_12 (by decide) ?_
      refine V_cSi o rt dX9_tellsFirst_14 ms_X9_120 (cJ_min hf) rfl rfl (Nat.le_of_ble_eq_true rfl) rfl ?_
      refine V_topI (v' := nI (min hl.length 20)) (mnI_nI (b := 20) (by omega) (by omega)) ?_
      refine V_icmp_ge (tgt := 48) o dX9_tellsFirst_17 (by decide) (fun c_17 => False.elim (absurd c_17 (nI_ge (by omega) (by omega)))) (fun c_17 => ?_)
      refine V_aload_n o dX9_tellsFirst_20 rfl rfl ?_
      refine V_aload_n o dX9_tellsFirst_21 rfl rfl ?_
      refine V_getR (t := 72) o dX9_tellsFirst_22 rfl fl_X9_55 rfl ?_
      refine V_iload_n o dX9_tellsFirst_25 rfl rfl ?_
      refine V_ialdE (v := nI ((hl.getD i (0, 0)).1)) 2000 o dX9_tellsFirst_26 rfl rfl rfl (by omega) rfl hHi.1 ?_
      refine V_i2l o dX9_tellsFirst_27 ?_
      refine V_cVv o rt dX9_tellsFirst_28 ml_X9_153 (c9_enters hf (by omega)) rfl rfl rfl (Nat.le_of_ble_eq_true rfl) rfl ?_
      refine V_aload_n o dX9_tellsFirst_31 rfl rfl ?_
      refine V_aload_n o dX9_tellsFirst_32 rfl rfl ?_
      refine V_getR (t := 73) o dX9_tellsFirst_33 rfl fl_X9_58 rfl ?_
      refine V_iload_n o dX9_tellsFirst_36 rfl rfl ?_
      refine V_ialdN 2000 o dX9_tellsFirst_37 rfl rfl rfl (by omega) rfl ?_
      refine V_topI (v' := (hl.getD i (0, 0)).2) hHi.2 ?_
      refine V_i2l o dX9_tellsFirst_38 ?_
      refine V_cVv o rt dX9_tellsFirst_39 ml_X9_153 (c9_enters hf (by omega)) rfl rfl rfl (Nat.le_of_ble_eq_true rfl) rfl ?_
      refine V_iincV (v := nI (i + 1)) (ls' := [(1, _), (0, _)]) o dX9_tellsFirst_42 rfl (ninc 1 rfl) (by decide) rfl ?_
      refine V_goto (tgt := 7) o dX9_tellsFirst_45 (by decide) ?_
      refine ih (i + 1) _ (by omega) ?_
      rw [take_succ_getD hl i (0, 0) (by omega), rowH_app]
      exact RwR_push (by rw [List.length_append, rowH_len, List.length_take]; simp; omega) (RwR_push (by rw [rowH_len, List.length_take]; omega) hR)
  refine V_aload_n o dX9_tellsFirst_0 rfl rfl ?_
  refine V_iconst (v := 0) o dX9_tellsFirst_1 (by decide) ?_
  refine V_putI o dX9_tellsFirst_2 rfl fl_X9_11 rfl rfl rfl ?_
  rw [wI_sM67, wI_sRw0]
  refine V_iconst (v := 0) o dX9_tellsFirst_5 (by decide) ?_
  refine V_istore_n (ls' := [(1, _), (0, _)]) o dX9_tellsFirst_6 rfl (by decide) rfl ?_
  exact loop (min hl.length 20) 0 _ (by omega) RwR_nil
set_option maxRecDepth 20000 in
set_option maxHeartbeats 4000000 in
theorem c9_tellsLatest {w : Wp} (hf : Fit sh0 w) {σ : Mm} {d : Nat} {M : Nat → Int32} {hl : List (Nat × Int32)} (hh : σ.1 67 13 = nI hl.length) (hh2 : hl.length ≤ 2000) (hH : HdR (σ.1 72) (σ.1 73) hl) : Ct sh0 w 1 mX9_tellsLatest [.ref 67] (sM σ d M) (fun r' σ' => r' = none ∧ ∃ f, σ' = sM (sRw σ f (2 * (hl.drop (hl.length - 20)).length)) d M ∧ RwR f (rowH (hl.drop (hl.length - 20)))) := by
  refine Ct_of hf (by decide) rfl (Nat.le_of_ble_eq_true rfl) (fun x o rt => ?_)
  have hmx : mxI 0 (nI hl.length - 20) = nI (hl.length - 20) := by
    unfold mxI
    by_cases q : hl.length ≤ 20
    · rw [if_neg (Int32.not_lt.mpr (mx_le q)), show hl.length - 20 = 0 by omega]; rfl
    · have e : nI hl.length - 20 = nI (hl.length - 20) := by
        rw [show hl.length = (hl.length - 20) + 20 by omega, ← nI_add]
        exact Int32.add_sub_cancel _ _
      rw [e, if_pos (by exact nI_lt (a := 0) (by omega) (by omega))]
  have loop : ∀ m i (f : Nat → Int64), i + m = (hl.drop (hl.length - 20)).length → RwR f (rowH ((hl.drop (hl.length - 20)).take i)) → V sh0 w x mX9_tellsLatest (0, 0) 17 [(1, .int (nI (hl.length - 20 + i))), (0, .ref 67)] [] (sM (sRw σ f (2 * i)) d M) := by
    intro m
    induction m with
    | zero =>
      intro i f him hR
      rw [List.length_drop] at him
      refine V_iload_n o dX9_tellsLatest_17 rfl rfl ?_
      refine V_aload_n o dX9_tellsLatest_18 rfl rfl ?_
      refine V_getIE (v := nI (hl.length)) o dX9_tellsLatest_19 rfl fl_X9_129 rfl hh ?_
      refine V_icmp_ge (tgt := 53) o dX9_tellsLatest_22 (by decide) (fun c_22 => ?_) (fun c_22 => False.elim (c_22 (nI_le (by omega) (by omega))))
      refine V_ret o rt dX9_tellsLatest_53 rfl ?_
      refine ⟨rfl, f, ?_, ?_⟩
      · rw [List.length_drop, show hl.length - (hl.length - 20) = i by omega]
      · rw [List.take_of_length_le (by rw [List.length_drop]; omega)] at hR
        exact hR
    | succ m ih =>
      intro i f him hR
      rw [List.length_drop] at him
      have hHi := hH (hl.length - 20 + i) (by omega)
      have eD : (hl.drop (hl.length - 20)).getD i (0, 0) = hl.getD (hl.length - 20 + i) (0, 0) := by
        rw [List.getD_eq_getElem?_getD, List.getElem?_drop, ← List.getD_eq_getElem?_getD]
      refine V_iload_n o dX9_tellsLatest_17 rfl rfl ?_
      refine V_aload_n o dX9_tellsLatest_18 rfl rfl ?_
      refine V_getIE (v := nI (hl.length)) o dX9_tellsLatest_19 rfl fl_X9_129 rfl hh ?_
      refine V_icmp_ge (tgt := 53) o dX9_tellsLatest_22 (by decide) (fun c_22 => False.elim (absurd c_22 (nI_ge (by omega) (by omega)))) (fun c_22 => ?_)
      refine V_aload_n o dX9_tellsLatest_25 rfl rfl ?_
      refine V_aload_n o dX9_tellsLatest_26 rfl rfl ?_
      refine V_getR (t := 72) o dX9_tellsLatest_27 rfl fl_X9_55 rfl ?_
      refine V_iload_n o dX9_tellsLatest_30 rfl rfl ?_
      refine V_ialdE (v := nI ((hl.getD (hl.length - 20 + i) (0, 0)).1)) 2000 o dX9_tellsLatest_31 rfl rfl rfl (by omega) rfl hHi.1 ?_
      refine V_i2l o dX9_tellsLatest_32 ?_
      refine V_cVv o rt dX9_tellsLatest_33 ml_X9_153 (c9_enters hf (by omega)) rfl rfl rfl (Nat.le_of_ble_eq_true rfl) rfl ?_
      refine V_aload_n o dX9_tellsLatest_36 rfl rfl ?_
      refine V_aload_n o dX9_tellsLatest_37 rfl rfl ?_
      refine V_getR (t := 73) o dX9_tellsLatest_38 rfl fl_X9_58 rfl ?_
      refine V_iload_n o dX9_tellsLatest_41 rfl rfl ?_
      refine V_ialdN 2000 o dX9_tellsLatest_42 rfl rfl rfl (by omega) rfl ?_
      refine V_topI (v' := (hl.getD (hl.length - 20 + i) (0, 0)).2) hHi.2 ?_
      refine V_i2l o dX9_tellsLatest_43 ?_
      refine V_cVv o rt dX9_tellsLatest_44 ml_X9_153 (c9_enters hf (by omega)) rfl rfl rfl (Nat.le_of_ble_eq_true rfl) rfl ?_
      refine V_iincV (v := nI (hl.length - 20 + i + 1)) (ls' := [(1, _), (0, _)]) o dX9_tellsLatest_47 rfl (ninc 1 rfl) (by decide) rfl ?_
      refine V_goto (tgt := 17) o dX9_tellsLatest_50 (by decide) ?_
      refine ih (i + 1) _ (by rw [List.length_drop]; omega) ?_
      rw [take_succ_getD _ i (0, 0) (by rw [List.length_drop]; omega), rowH_app, eD]
      exact RwR_push (by rw [List.length_append, rowH_len, List.length_take, List.length_drop]; simp; omega) (RwR_push (by rw [rowH_len, List.length_take, List.length_drop]; omega) hR)
  refine V_aload_n o dX9_tellsLatest_0 rfl rfl ?_
  refine V_iconst (v := 0) o dX9_tellsLatest_1 (by decide) ?_
  refine V_putI o dX9_tellsLatest_2 rfl fl_X9_11 rfl rfl rfl ?_
  rw [wI_sM67, wI_sRw0]
  refine V_iconst (v := 0) o dX9_tellsLatest_5 (by decide) ?_
  refine V_aload_n o dX9_tellsLatest_6 rfl rfl ?_
  refine V_getIE (v := nI (hl.length)) o dX9_tellsLatest_7 rfl fl_X9_129 rfl hh ?_
  refine V_bipush (v := 20) o dX9_tellsLatest_10 (by decide) ?_
  refine V_isub o dX9_tellsLatest_12 ?_
  refine V_cSi o rt dX9_tellsLatest_13 ms_X9_150 (cJ_max hf) rfl rfl (Nat.le_of_ble_eq_true rfl) rfl ?_
  refine V_topI (v' := nI (hl.length - 20)) hmx ?_
  refine V_istore_n (ls' := [(1, _), (0, _)]) o dX9_tellsLatest_16 rfl (by decide) rfl ?_
  exact loop _ 0 _ (Nat.zero_add _) RwR_nil
