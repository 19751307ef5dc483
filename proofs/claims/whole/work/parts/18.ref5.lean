set_option maxRecDepth 20000 in
set_option maxHeartbeats 4000000 in
theorem c9_comesAgain {w : Wp} (hf : Fit sh0 w) {σ : Mm} {d : Nat} {M : Nat → Int32} (hd : σ.1 67 8 = nI d) (hd4 : d ≤ 423) {L : Nat} (hW : Wf M L) {k : Int32} {i : Nat} (hk : k = nI i) (hi : i < 16) (hp : Pq M i) : Cf sh0 w 4 mX9_comesAgain [.ref 67, .int k] (sM σ d M) none (sM σ d (comesM M L i)) := by
  refine Ct_of hf (by decide) rfl (Nat.le_of_ble_eq_true rfl) (fun x o rt => ?_)
  subst hk
  have hp0 := Pq_ne hp
  have lay : ∀ M' v2 v3, M' = cmS (cmT M i) (M (279 + i)) i → ¬ (M (311 + i) = 1 ∨ M (279 + i) = 0) → V sh0 w x mX9_comesAgain (0, 0) 194 [(3, v3), (2, v2), (0, .ref 67), (1, .int (nI i))] [] (sM σ d M') := by
    intro M' v2 v3 hM hn
    have hW : Wf M' L := by
      rw [hM]
      exact Wf_same hW (fun j hj => by rw [cmS_ne (by omega) (by omega) (by omega), cmT_ne (by omega)])
    refine V_aload_n o dX9_comesAgain_194 rfl rfl ?_
    refine V_iload_n o dX9_comesAgain_195 rfl rfl ?_
    refine V_cVv o rt dX9_comesAgain_196 ml_X9_102 (c9_lays hf (by exact hd) hd4 hW rfl (by omega)) rfl rfl rfl (Nat.le_of_ble_eq_true rfl) rfl ?_
    refine V_ret o rt dX9_comesAgain_199 rfl ?_
    exact ⟨rfl, by rw [comesM, if_neg hn, hM]⟩
  have lay2 : ∀ M' v2, M' = cmS (cmT M i) (M (279 + i)) i → ¬ (M (311 + i) = 1 ∨ M (279 + i) = 0) → V sh0 w x mX9_comesAgain (0, 0) 194 [(2, v2), (0, .ref 67), (1, .int (nI i))] [] (sM σ d M') := by
    intro M' v2 hM hn
    have hW : Wf M' L := by
      rw [hM]
      exact Wf_same hW (fun j hj => by rw [cmS_ne (by omega) (by omega) (by omega), cmT_ne (by omega)])
    refine V_aload_n o dX9_comesAgain_194 rfl rfl ?_
    refine V_iload_n o dX9_comesAgain_195 rfl rfl ?_
    refine V_cVv o rt dX9_comesAgain_196 ml_X9_102 (c9_lays hf (by exact hd) hd4 hW rfl (by omega)) rfl rfl rfl (Nat.le_of_ble_eq_true rfl) rfl ?_
    refine V_ret o rt dX9_comesAgain_199 rfl ?_
    exact ⟨rfl, by rw [comesM, if_neg hn, hM]⟩
  have low : ∀ M', M' = cmT M i → ¬ (M (311 + i) = 1 ∨ M (279 + i) = 0) → V sh0 w x mX9_comesAgain (0, 0) 60 [(2, .int (M (279 + i))), (0, .ref 67), (1, .int (nI i))] [] (sM σ d M') := by
    intro M' hM hn
    have hp1 : ¬ M' (295 + i) = 0 := by rw [hM, cmT_ne (by omega)]; exact hp0
    refine V_iload_n o dX9_comesAgain_60 rfl rfl ?_
    refine V_iconst (v := 1) o dX9_comesAgain_61 (by decide) ?_
    refine V_icmp_ne (tgt := 126) o dX9_comesAgain_62 (by decide) (fun c_62 => ?_) (fun c_62 => ?_)
    · refine V_aload_n o dX9_comesAgain_126 rfl rfl ?_
      refine V_sipush (v := 295) o dX9_comesAgain_127 (by decide) ?_
      refine V_iload_n o dX9_comesAgain_130 rfl rfl ?_
      refine V_iadd o dX9_comesAgain_131 ?_
      refine V_iload_n o dX9_comesAgain_132 rfl rfl ?_
      refine V_iconst (v := 3) o dX9_comesAgain_133 (by decide) ?_
      refine V_icmp_ne (tgt := 157) o dX9_comesAgain_134 (by decide) (fun c_134 => ?_) (fun c_134 => ?_)
      · refine V_aload_n o dX9_comesAgain_157 rfl rfl ?_
        refine V_sipush (v := 295) o dX9_comesAgain_158 (by decide) ?_
        refine V_iload_n o dX9_comesAgain_161 rfl rfl ?_
        refine V_iadd o dX9_comesAgain_162 ?_
        refine V_cVi o rt dX9_comesAgain_163 ml_X9_85 (c9_of hf (by exact hd) (nadd (show (295 : Int32) = nI 295 from rfl) rfl) (by omega)) rfl rfl rfl (Nat.le_of_ble_eq_true rfl) rfl ?_
        refine V_cVv o rt dX9_comesAgain_166 ml_X9_76 (c9_puts hf (by exact hd) (nadd (show (295 : Int32) = nI 295 from rfl) rfl) (by omega)) rfl rfl rfl (Nat.le_of_ble_eq_true rfl) rfl ?_
        refine V_aload_n o dX9_comesAgain_169 rfl rfl ?_
        refine V_sipush (v := 231) o dX9_comesAgain_170 (by decide) ?_
        refine V_iload_n o dX9_comesAgain_173 rfl rfl ?_
        refine V_iadd o dX9_comesAgain_174 ?_
        refine V_aload_n o dX9_comesAgain_175 rfl rfl ?_
        refine V_bipush (v := 6) o dX9_comesAgain_176 (by decide) ?_
        refine V_cVi o rt dX9_comesAgain_178 ml_X9_85 (c9_of hf (by exact hd) (show (6 : Int32) = nI 6 from rfl) (by omega)) rfl rfl rfl (Nat.le_of_ble_eq_true rfl) rfl ?_
        refine V_aload_n o dX9_comesAgain_181 rfl rfl ?_
        refine V_sipush (v := 295) o dX9_comesAgain_182 (by decide) ?_
        refine V_iload_n o dX9_comesAgain_185 rfl rfl ?_
        refine V_iadd o dX9_comesAgain_186 ?_
        refine V_cVi o rt dX9_comesAgain_187 ml_X9_85 (c9_of hf (by exact hd) (nadd (show (295 : Int32) = nI 295 from rfl) rfl) (by omega)) rfl rfl rfl (Nat.le_of_ble_eq_true rfl) rfl ?_
        refine V_iadd o dX9_comesAgain_190 ?_
        refine V_cVv o rt dX9_comesAgain_191 ml_X9_76 (c9_puts hf (by exact hd) (nadd (show (231 : Int32) = nI 231 from rfl) rfl) (by omega)) rfl rfl rfl (Nat.le_of_ble_eq_true rfl) rfl ?_
        refine V_sub (ls := [(2, _), (0, _), (1, _)]) (fun _ h => h) ?_
        exact lay2 _ _ (by rw [← hM, cmS, if_neg c_62, cm2, cmP]; first | rw [if_neg c_134] | rw [if_pos c_134]) hn
      · refine V_sipush (v := 1000) o dX9_comesAgain_137 (by decide) ?_
        refine V_iconst (v := 2) o dX9_comesAgain_140 (by decide) ?_
        refine V_aload_n o dX9_comesAgain_141 rfl rfl ?_
        refine V_sipush (v := 295) o dX9_comesAgain_142 (by decide) ?_
        refine V_iload_n o dX9_comesAgain_145 rfl rfl ?_
        refine V_iadd o dX9_comesAgain_146 ?_
        refine V_cVi o rt dX9_comesAgain_147 ml_X9_85 (c9_of hf (by exact hd) (nadd (show (295 : Int32) = nI 295 from rfl) rfl) (by omega)) rfl rfl rfl (Nat.le_of_ble_eq_true rfl) rfl ?_
        refine V_imul o dX9_comesAgain_150 ?_
        refine V_cSi o rt dX9_comesAgain_151 ms_X9_120 (cJ_min hf) rfl rfl (Nat.le_of_ble_eq_true rfl) rfl ?_
        refine V_goto (tgt := 166) o dX9_comesAgain_154 (by decide) ?_
        refine V_cVv o rt dX9_comesAgain_166 ml_X9_76 (c9_puts hf (by exact hd) (nadd (show (295 : Int32) = nI 295 from rfl) rfl) (by omega)) rfl rfl rfl (Nat.le_of_ble_eq_true rfl) rfl ?_
        refine V_aload_n o dX9_comesAgain_169 rfl rfl ?_
        refine V_sipush (v := 231) o dX9_comesAgain_170 (by decide) ?_
        refine V_iload_n o dX9_comesAgain_173 rfl rfl ?_
        refine V_iadd o dX9_comesAgain_174 ?_
        refine V_aload_n o dX9_comesAgain_175 rfl rfl ?_
        refine V_bipush (v := 6) o dX9_comesAgain_176 (by decide) ?_
        refine V_cVi o rt dX9_comesAgain_178 ml_X9_85 (c9_of hf (by exact hd) (show (6 : Int32) = nI 6 from rfl) (by omega)) rfl rfl rfl (Nat.le_of_ble_eq_true rfl) rfl ?_
        refine V_aload_n o dX9_comesAgain_181 rfl rfl ?_
        refine V_sipush (v := 295) o dX9_comesAgain_182 (by decide) ?_
        refine V_iload_n o dX9_comesAgain_185 rfl rfl ?_
        refine V_iadd o dX9_comesAgain_186 ?_
        refine V_cVi o rt dX9_comesAgain_187 ml_X9_85 (c9_of hf (by exact hd) (nadd (show (295 : Int32) = nI 295 from rfl) rfl) (by omega)) rfl rfl rfl (Nat.le_of_ble_eq_true rfl) rfl ?_
        refine V_iadd o dX9_comesAgain_190 ?_
        refine V_cVv o rt dX9_comesAgain_191 ml_X9_76 (c9_puts hf (by exact hd) (nadd (show (231 : Int32) = nI 231 from rfl) rfl) (by omega)) rfl rfl rfl (Nat.le_of_ble_eq_true rfl) rfl ?_
        refine V_sub (ls := [(2, _), (0, _), (1, _)]) (fun _ h => h) ?_
        exact lay2 _ _ (by rw [← hM, cmS, if_neg c_62, cm2, cmP]; first | rw [if_neg c_134] | rw [if_pos c_134]) hn
    · refine V_aload_n o dX9_comesAgain_65 rfl rfl ?_
      refine V_bipush (v := 6) o dX9_comesAgain_66 (by decide) ?_
      refine V_cVi o rt dX9_comesAgain_68 ml_X9_85 (c9_of hf (by exact hd) (show (6 : Int32) = nI 6 from rfl) (by omega)) rfl rfl rfl (Nat.le_of_ble_eq_true rfl) rfl ?_
      refine V_aload_n o dX9_comesAgain_71 rfl rfl ?_
      refine V_sipush (v := 231) o dX9_comesAgain_72 (by decide) ?_
      refine V_iload_n o dX9_comesAgain_75 rfl rfl ?_
      refine V_iadd o dX9_comesAgain_76 ?_
      refine V_cVi o rt dX9_comesAgain_77 ml_X9_85 (c9_of hf (by exact hd) (nadd (show (231 : Int32) = nI 231 from rfl) rfl) (by omega)) rfl rfl rfl (Nat.le_of_ble_eq_true rfl) rfl ?_
      refine V_isub o dX9_comesAgain_80 ?_
      refine V_aload_n o dX9_comesAgain_81 rfl rfl ?_
      refine V_sipush (v := 295) o dX9_comesAgain_82 (by decide) ?_
      refine V_iload_n o dX9_comesAgain_85 rfl rfl ?_
      refine V_iadd o dX9_comesAgain_86 ?_
      refine V_cVi o rt dX9_comesAgain_87 ml_X9_85 (c9_of hf (by exact hd) (nadd (show (295 : Int32) = nI 295 from rfl) rfl) (by omega)) rfl rfl rfl (Nat.le_of_ble_eq_true rfl) rfl ?_
      refine V_idiv o dX9_comesAgain_90 hp1 ?_
      refine V_iconst (v := 1) o dX9_comesAgain_91 (by decide) ?_
      refine V_iadd o dX9_comesAgain_92 ?_
      refine V_istore_n (ls' := [(3, _), (2, _), (0, _), (1, _)]) o dX9_comesAgain_93 rfl (by decide) rfl ?_
      refine V_aload_n o dX9_comesAgain_94 rfl rfl ?_
      refine V_sipush (v := 231) o dX9_comesAgain_95 (by decide) ?_
      refine V_iload_n o dX9_comesAgain_98 rfl rfl ?_
      refine V_iadd o dX9_comesAgain_99 ?_
      refine V_iload_n o dX9_comesAgain_100 rfl rfl ?_
      refine V_aload_n o dX9_comesAgain_101 rfl rfl ?_
      refine V_sipush (v := 295) o dX9_comesAgain_102 (by decide) ?_
      refine V_iload_n o dX9_comesAgain_105 rfl rfl ?_
      refine V_iadd o dX9_comesAgain_106 ?_
      refine V_cVi o rt dX9_comesAgain_107 ml_X9_85 (c9_of hf (by exact hd) (nadd (show (295 : Int32) = nI 295 from rfl) rfl) (by omega)) rfl rfl rfl (Nat.le_of_ble_eq_true rfl) rfl ?_
      refine V_imul o dX9_comesAgain_110 ?_
      refine V_cVv o rt dX9_comesAgain_111 ml_X9_106 (c9_more hf (by exact hd) (nadd (show (231 : Int32) = nI 231 from rfl) rfl) (by omega)) rfl rfl rfl (Nat.le_of_ble_eq_true rfl) rfl ?_
      refine V_aload_n o dX9_comesAgain_114 rfl rfl ?_
      refine V_bipush (v := 9) o dX9_comesAgain_115 (by decide) ?_
      refine V_iload_n o dX9_comesAgain_117 rfl rfl ?_
      refine V_iconst (v := 1) o dX9_comesAgain_118 (by decide) ?_
      refine V_isub o dX9_comesAgain_119 ?_
      refine V_cVv o rt dX9_comesAgain_120 ml_X9_106 (c9_more hf (by exact hd) (show (9 : Int32) = nI 9 from rfl) (by omega)) rfl rfl rfl (Nat.le_of_ble_eq_true rfl) rfl ?_
      refine V_goto (tgt := 194) o dX9_comesAgain_123 (by decide) ?_
      exact lay _ _ _ (by rw [← hM, cmS, if_pos c_62]; rfl) hn
  refine V_aload_n o dX9_comesAgain_0 rfl rfl ?_
  refine V_sipush (v := 279) o dX9_comesAgain_1 (by decide) ?_
  refine V_iload_n o dX9_comesAgain_4 rfl rfl ?_
  refine V_iadd o dX9_comesAgain_5 ?_
  refine V_cVi o rt dX9_comesAgain_6 ml_X9_85 (c9_of hf (by exact hd) (nadd (show (279 : Int32) = nI 279 from rfl) rfl) (by omega)) rfl rfl rfl (Nat.le_of_ble_eq_true rfl) rfl ?_
  refine V_istore_n (ls' := [(2, _), (0, _), (1, _)]) o dX9_comesAgain_9 rfl (by decide) rfl ?_
  refine V_aload_n o dX9_comesAgain_10 rfl rfl ?_
  refine V_sipush (v := 311) o dX9_comesAgain_11 (by decide) ?_
  refine V_iload_n o dX9_comesAgain_14 rfl rfl ?_
  refine V_iadd o dX9_comesAgain_15 ?_
  refine V_cVi o rt dX9_comesAgain_16 ml_X9_85 (c9_of hf (by exact hd) (nadd (show (311 : Int32) = nI 311 from rfl) rfl) (by omega)) rfl rfl rfl (Nat.le_of_ble_eq_true rfl) rfl ?_
  refine V_iconst (v := 1) o dX9_comesAgain_19 (by decide) ?_
  refine V_icmp_eq (tgt := 27) o dX9_comesAgain_20 (by decide) (fun c_20 => ?_) (fun c_20 => ?_)
  · refine V_aload_n o dX9_comesAgain_27 rfl rfl ?_
    refine V_sipush (v := 215) o dX9_comesAgain_28 (by decide) ?_
    refine V_iload_n o dX9_comesAgain_31 rfl rfl ?_
    refine V_iadd o dX9_comesAgain_32 ?_
    refine V_iconst (v := 0) o dX9_comesAgain_33 (by decide) ?_
    refine V_cVv o rt dX9_comesAgain_34 ml_X9_76 (c9_puts hf (by exact hd) (nadd (show (215 : Int32) = nI 215 from rfl) rfl) (by omega)) rfl rfl rfl (Nat.le_of_ble_eq_true rfl) rfl ?_
    refine V_ret o rt dX9_comesAgain_37 rfl ?_
    exact ⟨rfl, by rw [comesM, if_pos (by first | exact Or.inl c_20 | exact Or.inr c_24)]⟩
  · refine V_iload_n o dX9_comesAgain_23 rfl rfl ?_
    refine V_if_ne (tgt := 38) o dX9_comesAgain_24 (by decide) (fun c_24 => ?_) (fun c_24 => ?_)
    · refine V_aload_n o dX9_comesAgain_38 rfl rfl ?_
      refine V_sipush (v := 311) o dX9_comesAgain_39 (by decide) ?_
      refine V_iload_n o dX9_comesAgain_42 rfl rfl ?_
      refine V_iadd o dX9_comesAgain_43 ?_
      refine V_cVi o rt dX9_comesAgain_44 ml_X9_85 (c9_of hf (by exact hd) (nadd (show (311 : Int32) = nI 311 from rfl) rfl) (by omega)) rfl rfl rfl (Nat.le_of_ble_eq_true rfl) rfl ?_
      refine V_if_le (tgt := 60) o dX9_comesAgain_47 (by decide) (fun c_47 => ?_) (fun c_47 => ?_)
      · exact low _ (by rw [cmT]; first | rw [if_pos (Int32.not_le.mp c_47)] | rw [if_neg (Int32.not_lt.mpr c_47)]) (fun h => h.elim c_20 c_24)
      · refine V_aload_n o dX9_comesAgain_50 rfl rfl ?_
        refine V_sipush (v := 311) o dX9_comesAgain_51 (by decide) ?_
        refine V_iload_n o dX9_comesAgain_54 rfl rfl ?_
        refine V_iadd o dX9_comesAgain_55 ?_
        refine V_iconst (v := -1) o dX9_comesAgain_56 (by decide) ?_
        refine V_cVv o rt dX9_comesAgain_57 ml_X9_106 (c9_more hf (by exact hd) (nadd (show (311 : Int32) = nI 311 from rfl) rfl) (by omega)) rfl rfl rfl (Nat.le_of_ble_eq_true rfl) rfl ?_
        exact low _ (by rw [cmT]; first | rw [if_pos (Int32.not_le.mp c_47)] | rw [if_neg (Int32.not_lt.mpr c_47)]) (fun h => h.elim c_20 c_24)
    · refine V_aload_n o dX9_comesAgain_27 rfl rfl ?_
      refine V_sipush (v := 215) o dX9_comesAgain_28 (by decide) ?_
      refine V_iload_n o dX9_comesAgain_31 rfl rfl ?_
      refine V_iadd o dX9_comesAgain_32 ?_
      refine V_iconst (v := 0) o dX9_comesAgain_33 (by decide) ?_
      refine V_cVv o rt dX9_comesAgain_34 ml_X9_76 (c9_puts hf (by exact hd) (nadd (show (215 : Int32) = nI 215 from rfl) rfl) (by omega)) rfl rfl rfl (Nat.le_of_ble_eq_true rfl) rfl ?_
      refine V_ret o rt dX9_comesAgain_37 rfl ?_
      exact ⟨rfl, by rw [comesM, if_pos (by first | exact Or.inl c_20 | exact Or.inr c_24)]⟩
