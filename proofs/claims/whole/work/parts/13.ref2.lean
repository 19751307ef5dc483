set_option maxRecDepth 20000 in
set_option maxHeartbeats 4000000 in
theorem c9_moves1 {w : Wp} (hf : Fit sh0 w) {σ : Mm} {d : Nat} {M : Nat → Int32} (hd : σ.1 67 8 = nI d) (hd4 : d ≤ 423) {L : Nat} (hW : Wf M L) {k : Int32} {i : Nat} (hk : k = nI i) (hi : i < 16) : Cf sh0 w 4 mX9_moves1 [.ref 67, .int k] (sM σ d M) none (sM σ d (mov1M M L i)) := by
  refine Ct_of hf (by decide) rfl (Nat.le_of_ble_eq_true rfl) (fun x o rt => ?_)
  subst hk
  refine V_aload_n o dX9_moves1_0 rfl rfl ?_
  refine V_iload_n o dX9_moves1_1 rfl rfl ?_
  refine V_cVv o rt dX9_moves1_2 ml_X9_102 (c9_lays hf hd hd4 hW rfl (by omega)) rfl rfl rfl (Nat.le_of_ble_eq_true rfl) rfl ?_
  refine V_aload_n o dX9_moves1_5 rfl rfl ?_
  refine V_bipush (v := 8) o dX9_moves1_6 (by decide) ?_
  refine V_iconst (v := 1) o dX9_moves1_8 (by decide) ?_
  refine V_cVv o rt dX9_moves1_9 ml_X9_106 (c9_more hf hd (show (8 : Int32) = nI 8 from rfl) (by omega)) rfl rfl rfl (Nat.le_of_ble_eq_true rfl) rfl ?_
  refine V_ret o rt dX9_moves1_12 rfl ?_
  exact ⟨rfl, rfl⟩
set_option maxRecDepth 20000 in
set_option maxHeartbeats 4000000 in
theorem c9_laysAll {w : Wp} (hf : Fit sh0 w) {σ : Mm} {d : Nat} {M : Nat → Int32} (hd : σ.1 67 8 = nI d) (hd4 : d ≤ 423) {L : Nat} (hW : Wf M L) : Cf sh0 w 4 mX9_laysAll [.ref 67] (sM σ d M) none (sM σ d (layAllM M L)) := by
  refine Ct_of hf (by decide) rfl (Nat.le_of_ble_eq_true rfl) (fun x o rt => ?_)
  have loop : ∀ n i (M' : Nat → Int32), i + n = 16 → Wf M' L → itr (fun t M => if isG M t then layM M L t else M) i n M' = layAllM M L → V sh0 w x mX9_laysAll (0, 0) 2 [(1, .int (nI i)), (0, .ref 67)] [] (sM σ d M') := by
    intro n
    induction n with
    | zero =>
      intro i M' hin hW hR
      have hi : i = 16 := by omega
      refine V_iload_n o dX9_laysAll_2 rfl rfl ?_
      refine V_bipush (v := 16) o dX9_laysAll_3 (by decide) ?_
      refine V_icmp_ge (tgt := 27) o dX9_laysAll_5 (by decide) (fun c_5 => ?_) (fun c_5 => False.elim (c_5 (by rw [hi]; exact nI_le (Nat.le_refl 16) (by omega))))
      refine V_ret o rt dX9_laysAll_27 rfl ?_
      exact ⟨rfl, by rw [← hR]; rfl⟩
    | succ n ih =>
      intro i M' hin hW hR
      rw [itr_succ] at hR
      refine V_iload_n o dX9_laysAll_2 rfl rfl ?_
      refine V_bipush (v := 16) o dX9_laysAll_3 (by decide) ?_
      refine V_icmp_ge (tgt := 27) o dX9_laysAll_5 (by decide) (fun c_5 => False.elim (absurd c_5 (nI_ge (b := 16) (by omega) (by omega)))) (fun c_5 => ?_)
      refine V_aload_n o dX9_laysAll_8 rfl rfl ?_
      refine V_iload_n o dX9_laysAll_9 rfl rfl ?_
      refine V_cVi o rt dX9_laysAll_10 ml_X9_99 (c9_goes hf hd hd4 rfl (by omega)) rfl rfl rfl (Nat.le_of_ble_eq_true rfl) rfl ?_
      refine V_if_eq (tgt := 21) o dX9_laysAll_13 (by decide) (fun c_13 => ?_) (fun c_13 => ?_)
      · refine V_iincV (v := nI (i + 1)) (ls' := [(1, _), (0, _)]) o dX9_laysAll_21 rfl (ninc 1 rfl) (by decide) rfl ?_
        refine V_goto (tgt := 2) o dX9_laysAll_24 (by decide) ?_
        first | exact ih (i + 1) _ (by omega) hW (by rw [if_neg (bz_0.mp c_13)] at hR; exact hR) | exact ih (i + 1) _ (by omega) (Wf_lay hW) (by rw [if_pos (bz_n0.mp c_13)] at hR; exact hR)
      · refine V_aload_n o dX9_laysAll_16 rfl rfl ?_
        refine V_iload_n o dX9_laysAll_17 rfl rfl ?_
        refine V_cVv o rt dX9_laysAll_18 ml_X9_102 (c9_lays hf hd hd4 hW rfl (by omega)) rfl rfl rfl (Nat.le_of_ble_eq_true rfl) rfl ?_
        refine V_iincV (v := nI (i + 1)) (ls' := [(1, _), (0, _)]) o dX9_laysAll_21 rfl (ninc 1 rfl) (by decide) rfl ?_
        refine V_goto (tgt := 2) o dX9_laysAll_24 (by decide) ?_
        first | exact ih (i + 1) _ (by omega) hW (by rw [if_neg (bz_0.mp c_13)] at hR; exact hR) | exact ih (i + 1) _ (by omega) (Wf_lay hW) (by rw [if_pos (bz_n0.mp c_13)] at hR; exact hR)
  refine V_iconst (v := 0) o dX9_laysAll_0 (by decide) ?_
  refine V_istore_n (ls' := [(1, _), (0, _)]) o dX9_laysAll_1 rfl (by decide) rfl ?_
  exact loop 16 0 M (by omega) hW rfl
theorem i32_toInt_ne {a : Int32} {n : Int} {v : Int32} (h : ¬ a = v) (hv : v.toInt = n) : ¬ a.toInt = n := fun q => h (Int32.toInt_inj.mp (q.trans hv.symm))
theorem lk2 {a : Int32} (h0 : ¬ a = 0) (h1 : ¬ a = 1) : Op.lookupswitch.offset (#[((0 : Int), (28 : Int)), (1, 30)] : Array (Int × Int)).toList 82 a.toInt = 82 := by
  have g0 := i32_toInt_ne (n := 0) h0 (by decide)
  have g1 := i32_toInt_ne (n := 1) h1 (by decide)
  simp [Op.lookupswitch.offset, g0, g1, Ne.symm g0, Ne.symm g1]
set_option maxRecDepth 20000 in
set_option maxHeartbeats 4000000 in
theorem c9_isAhead {w : Wp} (hf : Fit sh0 w) {σ : Mm} {d : Nat} {M : Nat → Int32} (hd : σ.1 67 8 = nI d) (hd4 : d ≤ 423) {k k2 : Int32} {a b : Nat} (hk : k = nI a) (ha : a < 16) (hk2 : k2 = nI b) (hb : b < 16) : Cf sh0 w 1 mX9_isAhead [.ref 67, .int k, .int k2] (sM σ d M) (some (.int (bz (aheadB M a b = true)))) (sM σ d M) := by
  refine Ct_of hf (by decide) rfl (Nat.le_of_ble_eq_true rfl) (fun x o rt => ?_)
  subst hk
  subst hk2
  refine V_aload_n o dX9_isAhead_0 rfl rfl ?_
  refine V_sipush (v := 247) o dX9_isAhead_1 (by decide) ?_
  refine V_iload_n o dX9_isAhead_4 rfl rfl ?_
  refine V_iadd o dX9_isAhead_5 ?_
  refine V_cVi o rt dX9_isAhead_6 ml_X9_85 (c9_of hf hd (nadd (show (247 : Int32) = nI 247 from rfl) rfl) (by omega)) rfl rfl rfl (Nat.le_of_ble_eq_true rfl) rfl ?_
  refine V_aload_n o dX9_isAhead_9 rfl rfl ?_
  refine V_sipush (v := 247) o dX9_isAhead_10 (by decide) ?_
  refine V_iload_n o dX9_isAhead_13 rfl rfl ?_
  refine V_iadd o dX9_isAhead_14 ?_
  refine V_cVi o rt dX9_isAhead_15 ml_X9_85 (c9_of hf hd (nadd (show (247 : Int32) = nI 247 from rfl) rfl) (by omega)) rfl rfl rfl (Nat.le_of_ble_eq_true rfl) rfl ?_
  refine V_icmp_ge (tgt := 25) o dX9_isAhead_18 (by decide) (fun c_18 => ?_) (fun c_18 => ?_)
  · refine V_iconst (v := 0) o dX9_isAhead_25 (by decide) ?_
    refine V_istore_n (ls' := [(3, _), (0, _), (1, _), (2, _)]) o dX9_isAhead_26 rfl (by decide) rfl ?_
    refine V_aload_n o dX9_isAhead_27 rfl rfl ?_
    refine V_iconst (v := 5) o dX9_isAhead_28 (by decide) ?_
    refine V_cVi o rt dX9_isAhead_29 ml_X9_85 (c9_of hf hd (show (5 : Int32) = nI 5 from rfl) (by omega)) rfl rfl rfl (Nat.le_of_ble_eq_true rfl) rfl ?_
    by_cases h5 : M 5 = 0
    · refine V_lookup (off := 28) (tgt := 60) o dX9_isAhead_32 (by decide) (by rw [h5]; decide) (by decide) ?_
      refine V_iload_n o dX9_isAhead_60 rfl rfl ?_
      refine V_iret o rt dX9_isAhead_61 rfl (by first | rfl | exact bz_z) ?_
      refine ⟨?_, rfl⟩
      simp only [aheadB, bz]
      simp_all [Int32.not_lt, Int32.not_le]
    · by_cases h51 : M 5 = 1
      · refine V_lookup (off := 30) (tgt := 62) o dX9_isAhead_32 (by decide) (by rw [h51]; decide) (by decide) ?_
        refine V_aload_n o dX9_isAhead_62 rfl rfl ?_
        refine V_sipush (v := 263) o dX9_isAhead_63 (by decide) ?_
        refine V_iload_n o dX9_isAhead_66 rfl rfl ?_
        refine V_iadd o dX9_isAhead_67 ?_
        refine V_cVi o rt dX9_isAhead_68 ml_X9_85 (c9_of hf hd (nadd (show (263 : Int32) = nI 263 from rfl) rfl) (by omega)) rfl rfl rfl (Nat.le_of_ble_eq_true rfl) rfl ?_
        refine V_aload_n o dX9_isAhead_71 rfl rfl ?_
        refine V_sipush (v := 263) o dX9_isAhead_72 (by decide) ?_
        refine V_iload_n o dX9_isAhead_75 rfl rfl ?_
        refine V_iadd o dX9_isAhead_76 ?_
        refine V_cVi o rt dX9_isAhead_77 ml_X9_85 (c9_of hf hd (nadd (show (263 : Int32) = nI 263 from rfl) rfl) (by omega)) rfl rfl rfl (Nat.le_of_ble_eq_true rfl) rfl ?_
        refine V_icmp_ne (tgt := 87) o dX9_isAhead_80 (by decide) (fun c_80 => ?_) (fun c_80 => ?_)
        · refine V_aload_n o dX9_isAhead_87 rfl rfl ?_
          refine V_sipush (v := 263) o dX9_isAhead_88 (by decide) ?_
          refine V_iload_n o dX9_isAhead_91 rfl rfl ?_
          refine V_iadd o dX9_isAhead_92 ?_
          refine V_cVi o rt dX9_isAhead_93 ml_X9_85 (c9_of hf hd (nadd (show (263 : Int32) = nI 263 from rfl) rfl) (by omega)) rfl rfl rfl (Nat.le_of_ble_eq_true rfl) rfl ?_
          refine V_aload_n o dX9_isAhead_96 rfl rfl ?_
          refine V_sipush (v := 263) o dX9_isAhead_97 (by decide) ?_
          refine V_iload_n o dX9_isAhead_100 rfl rfl ?_
          refine V_iadd o dX9_isAhead_101 ?_
          refine V_cVi o rt dX9_isAhead_102 ml_X9_85 (c9_of hf hd (nadd (show (263 : Int32) = nI 263 from rfl) rfl) (by omega)) rfl rfl rfl (Nat.le_of_ble_eq_true rfl) rfl ?_
          refine V_icmp_ge (tgt := 112) o dX9_isAhead_105 (by decide) (fun c_105 => ?_) (fun c_105 => ?_)
          · refine V_iconst (v := 0) o dX9_isAhead_112 (by decide) ?_
            refine V_iret o rt dX9_isAhead_113 rfl (by first | rfl | exact bz_z) ?_
            refine ⟨?_, rfl⟩
            simp only [aheadB, bz]
            simp_all [Int32.not_lt, Int32.not_le]
          · refine V_iconst (v := 1) o dX9_isAhead_108 (by decide) ?_
            refine V_goto (tgt := 113) o dX9_isAhead_109 (by decide) ?_
            refine V_iret o rt dX9_isAhead_113 rfl (by first | rfl | exact bz_z) ?_
            refine ⟨?_, rfl⟩
            simp only [aheadB, bz]
            simp_all [Int32.not_lt, Int32.not_le]
        · refine V_iload_n o dX9_isAhead_83 rfl rfl ?_
          refine V_goto (tgt := 113) o dX9_isAhead_84 (by decide) ?_
          refine V_iret o rt dX9_isAhead_113 rfl (by first | rfl | exact bz_z) ?_
          refine ⟨?_, rfl⟩
          simp only [aheadB, bz]
          simp_all [Int32.not_lt, Int32.not_le]
      · refine V_lookup (off := 82) (tgt := 114) o dX9_isAhead_32 (by decide) (lk2 h5 h51) (by decide) ?_
        refine V_iload_n o dX9_isAhead_114 rfl rfl ?_
        refine V_if_ne (tgt := 122) o dX9_isAhead_115 (by decide) (fun c_115 => ?_) (fun c_115 => ?_)
        · refine V_iconst (v := 0) o dX9_isAhead_122 (by decide) ?_
          refine V_iret o rt dX9_isAhead_123 rfl (by first | rfl | exact bz_z) ?_
          refine ⟨?_, rfl⟩
          simp only [aheadB, bz]
          simp_all [Int32.not_lt, Int32.not_le]
        · refine V_iconst (v := 1) o dX9_isAhead_118 (by decide) ?_
          refine V_goto (tgt := 123) o dX9_isAhead_119 (by decide) ?_
          refine V_iret o rt dX9_isAhead_123 rfl (by first | rfl | exact bz_z) ?_
          refine ⟨?_, rfl⟩
          simp only [aheadB, bz]
          simp_all [Int32.not_lt, Int32.not_le]
  · refine V_iconst (v := 1) o dX9_isAhead_21 (by decide) ?_
    refine V_goto (tgt := 26) o dX9_isAhead_22 (by decide) ?_
    refine V_istore_n (ls' := [(3, _), (0, _), (1, _), (2, _)]) o dX9_isAhead_26 rfl (by decide) rfl ?_
    refine V_aload_n o dX9_isAhead_27 rfl rfl ?_
    refine V_iconst (v := 5) o dX9_isAhead_28 (by decide) ?_
    refine V_cVi o rt dX9_isAhead_29 ml_X9_85 (c9_of hf hd (show (5 : Int32) = nI 5 from rfl) (by omega)) rfl rfl rfl (Nat.le_of_ble_eq_true rfl) rfl ?_
    by_cases h5 : M 5 = 0
    · refine V_lookup (off := 28) (tgt := 60) o dX9_isAhead_32 (by decide) (by rw [h5]; decide) (by decide) ?_
      refine V_iload_n o dX9_isAhead_60 rfl rfl ?_
      refine V_iret o rt dX9_isAhead_61 rfl (by first | rfl | exact bz_z) ?_
      refine ⟨?_, rfl⟩
      simp only [aheadB, bz]
      simp_all [Int32.not_lt, Int32.not_le]
    · by_cases h51 : M 5 = 1
      · refine V_lookup (off := 30) (tgt := 62) o dX9_isAhead_32 (by decide) (by rw [h51]; decide) (by decide) ?_
        refine V_aload_n o dX9_isAhead_62 rfl rfl ?_
        refine V_sipush (v := 263) o dX9_isAhead_63 (by decide) ?_
        refine V_iload_n o dX9_isAhead_66 rfl rfl ?_
        refine V_iadd o dX9_isAhead_67 ?_
        refine V_cVi o rt dX9_isAhead_68 ml_X9_85 (c9_of hf hd (nadd (show (263 : Int32) = nI 263 from rfl) rfl) (by omega)) rfl rfl rfl (Nat.le_of_ble_eq_true rfl) rfl ?_
        refine V_aload_n o dX9_isAhead_71 rfl rfl ?_
        refine V_sipush (v := 263) o dX9_isAhead_72 (by decide) ?_
        refine V_iload_n o dX9_isAhead_75 rfl rfl ?_
        refine V_iadd o dX9_isAhead_76 ?_
        refine V_cVi o rt dX9_isAhead_77 ml_X9_85 (c9_of hf hd (nadd (show (263 : Int32) = nI 263 from rfl) rfl) (by omega)) rfl rfl rfl (Nat.le_of_ble_eq_true rfl) rfl ?_
        refine V_icmp_ne (tgt := 87) o dX9_isAhead_80 (by decide) (fun c_80 => ?_) (fun c_80 => ?_)
        · refine V_aload_n o dX9_isAhead_87 rfl rfl ?_
          refine V_sipush (v := 263) o dX9_isAhead_88 (by decide) ?_
          refine V_iload_n o dX9_isAhead_91 rfl rfl ?_
          refine V_iadd o dX9_isAhead_92 ?_
          refine V_cVi o rt dX9_isAhead_93 ml_X9_85 (c9_of hf hd (nadd (show (263 : Int32) = nI 263 from rfl) rfl) (by omega)) rfl rfl rfl (Nat.le_of_ble_eq_true rfl) rfl ?_
          refine V_aload_n o dX9_isAhead_96 rfl rfl ?_
          refine V_sipush (v := 263) o dX9_isAhead_97 (by decide) ?_
          refine V_iload_n o dX9_isAhead_100 rfl rfl ?_
          refine V_iadd o dX9_isAhead_101 ?_
          refine V_cVi o rt dX9_isAhead_102 ml_X9_85 (c9_of hf hd (nadd (show (263 : Int32) = nI 263 from rfl) rfl) (by omega)) rfl rfl rfl (Nat.le_of_ble_eq_true rfl) rfl ?_
          refine V_icmp_ge (tgt := 112) o dX9_isAhead_105 (by decide) (fun c_105 => ?_) (fun c_105 => ?_)
          · refine V_iconst (v := 0) o dX9_isAhead_112 (by decide) ?_
            refine V_iret o rt dX9_isAhead_113 rfl (by first | rfl | exact bz_z) ?_
            refine ⟨?_, rfl⟩
            simp only [aheadB, bz]
            simp_all [Int32.not_lt, Int32.not_le]
          · refine V_iconst (v := 1) o dX9_isAhead_108 (by decide) ?_
            refine V_goto (tgt := 113) o dX9_isAhead_109 (by decide) ?_
            refine V_iret o rt dX9_isAhead_113 rfl (by first | rfl | exact bz_z) ?_
            refine ⟨?_, rfl⟩
            simp only [aheadB, bz]
            simp_all [Int32.not_lt, Int32.not_le]
        · refine V_iload_n o dX9_isAhead_83 rfl rfl ?_
          refine V_goto (tgt := 113) o dX9_isAhead_84 (by decide) ?_
          refine V_iret o rt dX9_isAhead_113 rfl (by first | rfl | exact bz_z) ?_
          refine ⟨?_, rfl⟩
          simp only [aheadB, bz]
          simp_all [Int32.not_lt, Int32.not_le]
      · refine V_lookup (off := 82) (tgt := 114) o dX9_isAhead_32 (by decide) (lk2 h5 h51) (by decide) ?_
        refine V_iload_n o dX9_isAhead_114 rfl rfl ?_
        refine V_if_ne (tgt := 122) o dX9_isAhead_115 (by decide) (fun c_115 => ?_) (fun c_115 => ?_)
        · refine V_iconst (v := 0) o dX9_isAhead_122 (by decide) ?_
          refine V_iret o rt dX9_isAhead_123 rfl (by first | rfl | exact bz_z) ?_
          refine ⟨?_, rfl⟩
          simp only [aheadB, bz]
          simp_all [Int32.not_lt, Int32.not_le]
        · refine V_iconst (v := 1) o dX9_isAhead_118 (by decide) ?_
          refine V_goto (tgt := 123) o dX9_isAhead_119 (by decide) ?_
          refine V_iret o rt dX9_isAhead_123 rfl (by first | rfl | exact bz_z) ?_
          refine ⟨?_, rfl⟩
          simp only [aheadB, bz]
          simp_all [Int32.not_lt, Int32.not_le]
set_option maxRecDepth 20000 in
set_option maxHeartbeats 4000000 in
theorem c9_isSooner {w : Wp} (hf : Fit sh0 w) {σ : Mm} {d : Nat} {M : Nat → Int32} (hd : σ.1 67 8 = nI d) (hd4 : d ≤ 423) {k k2 bd : Int32} {a b : Nat} (hk : k = nI a) (ha : a < 16) (hk2 : k2 = nI b) (hb : b < 16) (B : Bool) (hB : bd = bz (B = true)) : Cf sh0 w 2 mX9_isSooner [.ref 67, .int k, .int k2, .int bd] (sM σ d M) (some (.int (bz (soonB M B a b = true)))) (sM σ d M) := by
  refine Ct_of hf (by decide) rfl (Nat.le_of_ble_eq_true rfl) (fun x o rt => ?_)
  subst hk
  subst hk2
  subst hB
  refine V_iload_n o dX9_isSooner_0 rfl rfl ?_
  refine V_if_eq (tgt := 52) o dX9_isSooner_1 (by decide) (fun c_1 => ?_) (fun c_1 => ?_)
  · refine V_aload_n o dX9_isSooner_52 rfl rfl ?_
    refine V_iload_n o dX9_isSooner_53 rfl rfl ?_
    refine V_iload_n o dX9_isSooner_54 rfl rfl ?_
    refine V_cVi o rt dX9_isSooner_55 ml_X9_116 (c9_isAhead hf hd hd4 rfl ha rfl hb) rfl rfl rfl (Nat.le_of_ble_eq_true rfl) rfl ?_
    refine V_iret o rt dX9_isSooner_58 rfl (by first | rfl | exact bz_z) ?_
    refine ⟨?_, rfl⟩
    simp only [soonB]
    simp only [bz_0, bz_n0] at c_1
    simp_all [bz, Int32.not_lt, Int32.not_le]
  · refine V_aload_n o dX9_isSooner_4 rfl rfl ?_
    refine V_sipush (v := 231) o dX9_isSooner_5 (by decide) ?_
    refine V_iload_n o dX9_isSooner_8 rfl rfl ?_
    refine V_iadd o dX9_isSooner_9 ?_
    refine V_cVi o rt dX9_isSooner_10 ml_X9_85 (c9_of hf hd (nadd (show (231 : Int32) = nI 231 from rfl) rfl) (by omega)) rfl rfl rfl (Nat.le_of_ble_eq_true rfl) rfl ?_
    refine V_aload_n o dX9_isSooner_13 rfl rfl ?_
    refine V_sipush (v := 231) o dX9_isSooner_14 (by decide) ?_
    refine V_iload_n o dX9_isSooner_17 rfl rfl ?_
    refine V_iadd o dX9_isSooner_18 ?_
    refine V_cVi o rt dX9_isSooner_19 ml_X9_85 (c9_of hf hd (nadd (show (231 : Int32) = nI 231 from rfl) rfl) (by omega)) rfl rfl rfl (Nat.le_of_ble_eq_true rfl) rfl ?_
    refine V_icmp_eq (tgt := 52) o dX9_isSooner_22 (by decide) (fun c_22 => ?_) (fun c_22 => ?_)
    · refine V_aload_n o dX9_isSooner_52 rfl rfl ?_
      refine V_iload_n o dX9_isSooner_53 rfl rfl ?_
      refine V_iload_n o dX9_isSooner_54 rfl rfl ?_
      refine V_cVi o rt dX9_isSooner_55 ml_X9_116 (c9_isAhead hf hd hd4 rfl ha rfl hb) rfl rfl rfl (Nat.le_of_ble_eq_true rfl) rfl ?_
      refine V_iret o rt dX9_isSooner_58 rfl (by first | rfl | exact bz_z) ?_
      refine ⟨?_, rfl⟩
      simp only [soonB]
      simp only [bz_0, bz_n0] at c_1
      simp_all [bz, Int32.not_lt, Int32.not_le]
    · refine V_aload_n o dX9_isSooner_25 rfl rfl ?_
      refine V_sipush (v := 231) o dX9_isSooner_26 (by decide) ?_
      refine V_iload_n o dX9_isSooner_29 rfl rfl ?_
      refine V_iadd o dX9_isSooner_30 ?_
      refine V_cVi o rt dX9_isSooner_31 ml_X9_85 (c9_of hf hd (nadd (show (231 : Int32) = nI 231 from rfl) rfl) (by omega)) rfl rfl rfl (Nat.le_of_ble_eq_true rfl) rfl ?_
      refine V_aload_n o dX9_isSooner_34 rfl rfl ?_
      refine V_sipush (v := 231) o dX9_isSooner_35 (by decide) ?_
      refine V_iload_n o dX9_isSooner_38 rfl rfl ?_
      refine V_iadd o dX9_isSooner_39 ?_
      refine V_cVi o rt dX9_isSooner_40 ml_X9_85 (c9_of hf hd (nadd (show (231 : Int32) = nI 231 from rfl) rfl) (by omega)) rfl rfl rfl (Nat.le_of_ble_eq_true rfl) rfl ?_
      refine V_icmp_ge (tgt := 50) o dX9_isSooner_43 (by decide) (fun c_43 => ?_) (fun c_43 => ?_)
      · refine V_iconst (v := 0) o dX9_isSooner_50 (by decide) ?_
        refine V_iret o rt dX9_isSooner_51 rfl (by first | rfl | exact bz_z) ?_
        refine ⟨?_, rfl⟩
        simp only [soonB]
        simp only [bz_0, bz_n0] at c_1
        simp_all [bz, Int32.not_lt, Int32.not_le]
      · refine V_iconst (v := 1) o dX9_isSooner_46 (by decide) ?_
        refine V_goto (tgt := 51) o dX9_isSooner_47 (by decide) ?_
        refine V_iret o rt dX9_isSooner_51 rfl (by first | rfl | exact bz_z) ?_
        refine ⟨?_, rfl⟩
        simp only [soonB]
        simp only [bz_0, bz_n0] at c_1
        simp_all [bz, Int32.not_lt, Int32.not_le]
