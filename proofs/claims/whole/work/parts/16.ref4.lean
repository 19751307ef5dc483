set_option maxRecDepth 20000 in
set_option maxHeartbeats 4000000 in
theorem c9_keepsRung {w : Wp} (hf : Fit sh0 w) {σ : Mm} {d : Nat} {M : Nat → Int32} (hd : σ.1 67 8 = nI d) (hd4 : d ≤ 423) {k : Int32} {t r : Nat} (hk : k = nI t) (ht : t < 16) (hr : M 14 = nI r) (hr4 : r ≤ 40) : Cf sh0 w 1 mX9_keepsRung [.ref 67, .int k] (sM σ d M) none (sM σ d (keepM M r t)) := by
  refine Ct_of hf (by decide) rfl (Nat.le_of_ble_eq_true rfl) (fun x o rt => ?_)
  subst hk
  have fin : ∀ q (M' : Nat → Int32), q < 40 → M' 14 = nI q → kpM M' q t = keepM M r t → V sh0 w x mX9_keepsRung (0, 0) 51 [(0, .ref 67), (1, .int (nI t))] [] (sM σ d M') := by
    intro q M' hq hm hR
    refine V_bipush (v := 15) o dX9_keepsRung_51 (by decide) ?_
    refine V_iconst (v := 5) o dX9_keepsRung_53 (by decide) ?_
    refine V_aload_n o dX9_keepsRung_54 rfl rfl ?_
    refine V_bipush (v := 14) o dX9_keepsRung_55 (by decide) ?_
    refine V_cVi o rt dX9_keepsRung_57 ml_X9_85 (c9_of hf hd (show (14 : Int32) = nI 14 from rfl) (by omega)) rfl rfl rfl (Nat.le_of_ble_eq_true rfl) rfl ?_
    refine V_imul o dX9_keepsRung_60 ?_
    refine V_iadd o dX9_keepsRung_61 ?_
    refine V_istore_n (ls' := [(2, _), (0, _), (1, _)]) o dX9_keepsRung_62 rfl (by decide) rfl ?_
    refine V_aload_n o dX9_keepsRung_63 rfl rfl ?_
    refine V_iload_n o dX9_keepsRung_64 rfl rfl ?_
    refine V_iload_n o dX9_keepsRung_65 rfl rfl ?_
    refine V_cVv o rt dX9_keepsRung_66 ml_X9_76 (c9_puts hf (by exact hd) (nadd (show (15 : Int32) = nI 15 from rfl) (nmul (show (5 : Int32) = nI 5 from rfl) hm)) (by omega)) rfl rfl rfl (Nat.le_of_ble_eq_true rfl) rfl ?_
    refine V_aload_n o dX9_keepsRung_69 rfl rfl ?_
    refine V_iload_n o dX9_keepsRung_70 rfl rfl ?_
    refine V_iconst (v := 1) o dX9_keepsRung_71 (by decide) ?_
    refine V_iadd o dX9_keepsRung_72 ?_
    refine V_aload_n o dX9_keepsRung_73 rfl rfl ?_
    refine V_bipush (v := 6) o dX9_keepsRung_74 (by decide) ?_
    refine V_cVi o rt dX9_keepsRung_76 ml_X9_85 (c9_of hf (by exact hd) (show (6 : Int32) = nI 6 from rfl) (by omega)) rfl rfl rfl (Nat.le_of_ble_eq_true rfl) rfl ?_
    refine V_cVv o rt dX9_keepsRung_79 ml_X9_76 (c9_puts hf (by exact hd) (nadd (nadd (show (15 : Int32) = nI 15 from rfl) (nmul (show (5 : Int32) = nI 5 from rfl) hm)) (show (1 : Int32) = nI 1 from rfl)) (by omega)) rfl rfl rfl (Nat.le_of_ble_eq_true rfl) rfl ?_
    refine V_aload_n o dX9_keepsRung_82 rfl rfl ?_
    refine V_iload_n o dX9_keepsRung_83 rfl rfl ?_
    refine V_iconst (v := 2) o dX9_keepsRung_84 (by decide) ?_
    refine V_iadd o dX9_keepsRung_85 ?_
    refine V_aload_n o dX9_keepsRung_86 rfl rfl ?_
    refine V_sipush (v := 231) o dX9_keepsRung_87 (by decide) ?_
    refine V_iload_n o dX9_keepsRung_90 rfl rfl ?_
    refine V_iadd o dX9_keepsRung_91 ?_
    refine V_cVi o rt dX9_keepsRung_92 ml_X9_85 (c9_of hf (by exact hd) (nadd (show (231 : Int32) = nI 231 from rfl) rfl) (by omega)) rfl rfl rfl (Nat.le_of_ble_eq_true rfl) rfl ?_
    refine V_cVv o rt dX9_keepsRung_95 ml_X9_76 (c9_puts hf (by exact hd) (nadd (nadd (show (15 : Int32) = nI 15 from rfl) (nmul (show (5 : Int32) = nI 5 from rfl) hm)) (show (2 : Int32) = nI 2 from rfl)) (by omega)) rfl rfl rfl (Nat.le_of_ble_eq_true rfl) rfl ?_
    refine V_aload_n o dX9_keepsRung_98 rfl rfl ?_
    refine V_iload_n o dX9_keepsRung_99 rfl rfl ?_
    refine V_iconst (v := 3) o dX9_keepsRung_100 (by decide) ?_
    refine V_iadd o dX9_keepsRung_101 ?_
    refine V_aload_n o dX9_keepsRung_102 rfl rfl ?_
    refine V_sipush (v := 263) o dX9_keepsRung_103 (by decide) ?_
    refine V_iload_n o dX9_keepsRung_106 rfl rfl ?_
    refine V_iadd o dX9_keepsRung_107 ?_
    refine V_cVi o rt dX9_keepsRung_108 ml_X9_85 (c9_of hf (by exact hd) (nadd (show (263 : Int32) = nI 263 from rfl) rfl) (by omega)) rfl rfl rfl (Nat.le_of_ble_eq_true rfl) rfl ?_
    refine V_cVv o rt dX9_keepsRung_111 ml_X9_76 (c9_puts hf (by exact hd) (nadd (nadd (show (15 : Int32) = nI 15 from rfl) (nmul (show (5 : Int32) = nI 5 from rfl) hm)) (show (3 : Int32) = nI 3 from rfl)) (by omega)) rfl rfl rfl (Nat.le_of_ble_eq_true rfl) rfl ?_
    refine V_aload_n o dX9_keepsRung_114 rfl rfl ?_
    refine V_iload_n o dX9_keepsRung_115 rfl rfl ?_
    refine V_iconst (v := 4) o dX9_keepsRung_116 (by decide) ?_
    refine V_iadd o dX9_keepsRung_117 ?_
    refine V_aload_n o dX9_keepsRung_118 rfl rfl ?_
    refine V_sipush (v := 375) o dX9_keepsRung_119 (by decide) ?_
    refine V_iload_n o dX9_keepsRung_122 rfl rfl ?_
    refine V_iadd o dX9_keepsRung_123 ?_
    refine V_cVi o rt dX9_keepsRung_124 ml_X9_85 (c9_of hf (by exact hd) (nadd (show (375 : Int32) = nI 375 from rfl) rfl) (by omega)) rfl rfl rfl (Nat.le_of_ble_eq_true rfl) rfl ?_
    refine V_cVv o rt dX9_keepsRung_127 ml_X9_76 (c9_puts hf (by exact hd) (nadd (nadd (show (15 : Int32) = nI 15 from rfl) (nmul (show (5 : Int32) = nI 5 from rfl) hm)) (show (4 : Int32) = nI 4 from rfl)) (by omega)) rfl rfl rfl (Nat.le_of_ble_eq_true rfl) rfl ?_
    refine V_aload_n o dX9_keepsRung_130 rfl rfl ?_
    refine V_bipush (v := 14) o dX9_keepsRung_131 (by decide) ?_
    refine V_iconst (v := 1) o dX9_keepsRung_133 (by decide) ?_
    refine V_cVv o rt dX9_keepsRung_134 ml_X9_106 (c9_more hf (by exact hd) (show (14 : Int32) = nI 14 from rfl) (by omega)) rfl rfl rfl (Nat.le_of_ble_eq_true rfl) rfl ?_
    refine V_ret o rt dX9_keepsRung_137 rfl ?_
    refine ⟨rfl, ?_⟩
    rw [← hR, kpM]
    simp (disch := omega) only [uM_ne]
    rw [hm, nI_1]
  have loop : ∀ n i (M' : Nat → Int32), i + n = 195 → M' 14 = nI 40 → r = 40 → itr (fun k M => uM M (15 + k) (M (15 + k + 5))) i n M' = shfM M → V sh0 w x mX9_keepsRung (0, 0) 13 [(2, .int (nI i)), (0, .ref 67), (1, .int (nI t))] [] (sM σ d M') := by
    intro n
    induction n with
    | zero =>
      intro i M' hin h14 hr0 hR
      have hi : i = 195 := by omega
      refine V_iload_n o dX9_keepsRung_13 rfl rfl ?_
      refine V_sipush (v := 195) o dX9_keepsRung_14 (by decide) ?_
      refine V_icmp_ge (tgt := 44) o dX9_keepsRung_17 (by decide) (fun c_17 => ?_) (fun c_17 => False.elim (c_17 (by rw [hi]; exact nI_le (Nat.le_refl 195) (by omega))))
      refine V_aload_n o dX9_keepsRung_44 rfl rfl ?_
      refine V_bipush (v := 14) o dX9_keepsRung_45 (by decide) ?_
      refine V_iconst (v := -1) o dX9_keepsRung_47 (by decide) ?_
      refine V_cVv o rt dX9_keepsRung_48 ml_X9_106 (c9_more hf (by exact hd) (show (14 : Int32) = nI 14 from rfl) (by omega)) rfl rfl rfl (Nat.le_of_ble_eq_true rfl) rfl ?_
      refine V_drop ?_
      have e : M' 14 + (-1) = nI 39 := by rw [h14]; decide
      rw [e]
      refine fin 39 _ (by omega) (uM_self _ _ _) ?_
      rw [keepM, if_pos hr0, ← hR]
      rfl
    | succ n ih =>
      intro i M' hin h14 hr0 hR
      rw [itr_succ] at hR
      refine V_iload_n o dX9_keepsRung_13 rfl rfl ?_
      refine V_sipush (v := 195) o dX9_keepsRung_14 (by decide) ?_
      refine V_icmp_ge (tgt := 44) o dX9_keepsRung_17 (by decide) (fun c_17 => False.elim (absurd c_17 (nI_ge (b := 195) (by omega) (by omega)))) (fun c_17 => ?_)
      refine V_aload_n o dX9_keepsRung_20 rfl rfl ?_
      refine V_bipush (v := 15) o dX9_keepsRung_21 (by decide) ?_
      refine V_iload_n o dX9_keepsRung_23 rfl rfl ?_
      refine V_iadd o dX9_keepsRung_24 ?_
      refine V_aload_n o dX9_keepsRung_25 rfl rfl ?_
      refine V_bipush (v := 15) o dX9_keepsRung_26 (by decide) ?_
      refine V_iload_n o dX9_keepsRung_28 rfl rfl ?_
      refine V_iadd o dX9_keepsRung_29 ?_
      refine V_iconst (v := 5) o dX9_keepsRung_30 (by decide) ?_
      refine V_iadd o dX9_keepsRung_31 ?_
      refine V_cVi o rt dX9_keepsRung_32 ml_X9_85 (c9_of hf (by exact hd) (nadd (nadd (show (15 : Int32) = nI 15 from rfl) rfl) (show (5 : Int32) = nI 5 from rfl)) (by omega)) rfl rfl rfl (Nat.le_of_ble_eq_true rfl) rfl ?_
      refine V_cVv o rt dX9_keepsRung_35 ml_X9_76 (c9_puts hf (by exact hd) (nadd (show (15 : Int32) = nI 15 from rfl) rfl) (by omega)) rfl rfl rfl (Nat.le_of_ble_eq_true rfl) rfl ?_
      refine V_iincV (v := nI (i + 1)) (ls' := [(2, _), (0, _), (1, _)]) o dX9_keepsRung_38 rfl (ninc 1 rfl) (by decide) rfl ?_
      refine V_goto (tgt := 13) o dX9_keepsRung_41 (by decide) ?_
      exact ih (i + 1) _ (by omega) ((uM_ne _ _ (by omega)).trans h14) hr0 hR
  refine V_aload_n o dX9_keepsRung_0 rfl rfl ?_
  refine V_bipush (v := 14) o dX9_keepsRung_1 (by decide) ?_
  refine V_cVi o rt dX9_keepsRung_3 ml_X9_85 (c9_of hf (by exact hd) (show (14 : Int32) = nI 14 from rfl) (by omega)) rfl rfl rfl (Nat.le_of_ble_eq_true rfl) rfl ?_
  refine V_bipush (v := 40) o dX9_keepsRung_6 (by decide) ?_
  refine V_icmp_ne (tgt := 51) o dX9_keepsRung_8 (by decide) (fun c_8 => ?_) (fun c_8 => ?_)
  · have hr0 : ¬ r = 40 := fun q => c_8 (by rw [hr, q]; rfl)
    exact fin r M (by omega) hr (by rw [keepM, if_neg hr0])
  · refine V_iconst (v := 0) o dX9_keepsRung_11 (by decide) ?_
    refine V_istore_n (ls' := [(2, _), (0, _), (1, _)]) o dX9_keepsRung_12 rfl (by decide) rfl ?_
    have hr0 : r = 40 := (nI_eq (by omega) (by omega)).mp (hr.symm.trans c_8)
    subst hr0
    exact loop 195 0 M (by omega) hr rfl rfl
