set_option maxRecDepth 20000 in
set_option maxHeartbeats 4000000 in
theorem c9_isLeap {w : Wp} (hf : Fit sh0 w) {σ : Mm} {k : Int32} : Cf sh0 w 1 mX9_isLeap [.int k] σ (some (.int (bz (k ≠ 0 ∧ -1000000 ≤ k ∧ k ≤ 1000000)))) σ := by
  refine Ct_of hf (by decide) rfl (Nat.le_of_ble_eq_true rfl) (fun x o rt => ?_)
  refine V_iload_n o dX9_isLeap_0 rfl rfl ?_
  refine V_if_eq (tgt := 22) o dX9_isLeap_1 (by decide) (fun c_1 => ?_) (fun c_1 => ?_)
  · refine V_iconst (v := 0) o dX9_isLeap_22 (by decide) ?_
    refine V_iret o rt dX9_isLeap_23 rfl (by first | rfl | exact bz_z) ?_
    refine ⟨?_, rfl⟩
    have hb := in_lo (k := k) (lo := -1000000) (hi := 1000000) (l := -1000000) (h := 1000000) (by decide) (by decide)
    first
      | (rw [bz_f (fun h => h.1 c_1)]; done)
      | (rw [bz_f (fun h => bz_0.mp c_15 (hb.mpr h.2))]; done)
      | (rw [bz_t ⟨c_1, hb.mp (bz_n0.mp c_15)⟩]; done)
  · refine V_iload_n o dX9_isLeap_4 rfl rfl ?_
    refine V_i2l o dX9_isLeap_5 ?_
    refine V_ldc2 o dX9_isLeap_6 kc_X9_191 ?_
    refine V_ldc2 o dX9_isLeap_9 kc_X9_193 ?_
    refine V_cSi o rt dX9_isLeap_12 ms_X9_21 (c9_in hf) rfl rfl (Nat.le_of_ble_eq_true rfl) rfl ?_
    refine V_if_eq (tgt := 22) o dX9_isLeap_15 (by decide) (fun c_15 => ?_) (fun c_15 => ?_)
    · refine V_iconst (v := 0) o dX9_isLeap_22 (by decide) ?_
      refine V_iret o rt dX9_isLeap_23 rfl (by first | rfl | exact bz_z) ?_
      refine ⟨?_, rfl⟩
      have hb := in_lo (k := k) (lo := -1000000) (hi := 1000000) (l := -1000000) (h := 1000000) (by decide) (by decide)
      first
        | (rw [bz_f (fun h => h.1 c_1)]; done)
        | (rw [bz_f (fun h => bz_0.mp c_15 (hb.mpr h.2))]; done)
        | (rw [bz_t ⟨c_1, hb.mp (bz_n0.mp c_15)⟩]; done)
    · refine V_iconst (v := 1) o dX9_isLeap_18 (by decide) ?_
      refine V_goto (tgt := 23) o dX9_isLeap_19 (by decide) ?_
      refine V_iret o rt dX9_isLeap_23 rfl (by first | rfl | exact bz_z) ?_
      refine ⟨?_, rfl⟩
      have hb := in_lo (k := k) (lo := -1000000) (hi := 1000000) (l := -1000000) (h := 1000000) (by decide) (by decide)
      first
        | (rw [bz_f (fun h => h.1 c_1)]; done)
        | (rw [bz_f (fun h => bz_0.mp c_15 (hb.mpr h.2))]; done)
        | (rw [bz_t ⟨c_1, hb.mp (bz_n0.mp c_15)⟩]; done)
set_option maxRecDepth 20000 in
set_option maxHeartbeats 4000000 in
theorem c9_isGroup {w : Wp} (hf : Fit sh0 w) {σ : Mm} {k : Int32} : Cf sh0 w 1 mX9_isGroup [.int k] σ (some (.int (bz (0 ≤ k ∧ k ≤ 7)))) σ := by
  refine Ct_of hf (by decide) rfl (Nat.le_of_ble_eq_true rfl) (fun x o rt => ?_)
  refine V_iload_n o dX9_isGroup_0 rfl rfl ?_
  refine V_i2l o dX9_isGroup_1 ?_
  refine V_lconst (v := 0) o dX9_isGroup_2 (by decide) ?_
  refine V_ldc2 o dX9_isGroup_3 kc_X9_201 ?_
  refine V_cSi o rt dX9_isGroup_6 ms_X9_21 (c9_in hf) rfl rfl (Nat.le_of_ble_eq_true rfl) rfl ?_
  refine V_iret o rt dX9_isGroup_9 rfl (by first | rfl | exact bz_z) ?_
  exact ⟨by rw [bz_congr (in_lo (k := k) (lo := 0) (hi := 7) (l := 0) (h := 7) (by decide) (by decide))], rfl⟩
set_option maxRecDepth 20000 in
set_option maxHeartbeats 4000000 in
theorem c9_many {w : Wp} (hf : Fit sh0 w) {σ : Mm} {d : Nat} {M : Nat → Int32} (hd : σ.1 67 8 = nI d) (hd4 : d ≤ 423) : Cf sh0 w 1 mX9_many [.ref 67] (sM σ d M) (some (.int (manyM M))) (sM σ d M) := by
  refine Ct_of hf (by decide) rfl (Nat.le_of_ble_eq_true rfl) (fun x o rt => ?_)
  have loop : ∀ n i v, i + n = 16 → itr (fun t n => n + M (215 + t)) i n v = manyM M → V sh0 w x mX9_many (0, 0) 4 [(2, .int (nI i)), (1, .int v), (0, .ref 67)] [] (sM σ d M) := by
    intro n
    induction n with
    | zero =>
      intro i v hin hR
      have hi : i = 16 := by omega
      refine V_iload_n o dX9_many_4 rfl rfl ?_
      refine V_bipush (v := 16) o dX9_many_5 (by decide) ?_
      refine V_icmp_ge (tgt := 28) o dX9_many_7 (by decide) (fun c_7 => ?_) (fun c_7 => False.elim (c_7 (by rw [hi]; exact Int32.le_refl _)))
      refine V_iload_n o dX9_many_28 rfl rfl ?_
      refine V_iret o rt dX9_many_29 rfl rfl ?_
      exact ⟨by rw [← hR]; rfl, rfl⟩
    | succ n ih =>
      intro i v hin hR
      refine V_iload_n o dX9_many_4 rfl rfl ?_
      refine V_bipush (v := 16) o dX9_many_5 (by decide) ?_
      refine V_icmp_ge (tgt := 28) o dX9_many_7 (by decide) (fun c_7 => False.elim (absurd c_7 (nI_ge (b := 16) (by omega) (by omega)))) (fun c_7 => ?_)
      refine V_iload_n o dX9_many_10 rfl rfl ?_
      refine V_aload_n o dX9_many_11 rfl rfl ?_
      refine V_sipush (v := 215) o dX9_many_12 (by decide) ?_
      refine V_iload_n o dX9_many_15 rfl rfl ?_
      refine V_iadd o dX9_many_16 ?_
      refine V_cVi o rt dX9_many_17 ml_X9_85 (c9_of hf (by exact hd) (nadd (show (215 : Int32) = nI 215 from rfl) rfl) (by omega)) rfl rfl rfl (Nat.le_of_ble_eq_true rfl) rfl ?_
      refine V_iadd o dX9_many_20 ?_
      refine V_istore_n (ls' := [(1, _), (2, _), (0, _)]) o dX9_many_21 rfl (by decide) rfl ?_
      refine V_iincV (v := nI (i + 1)) (ls' := [(2, _), (1, _), (0, _)]) o dX9_many_22 rfl (ninc 1 rfl) (by decide) rfl ?_
      refine V_goto (tgt := 4) o dX9_many_25 (by decide) ?_
      exact V_sub (by simp) (ih (i + 1) (v + M (215 + i)) (by omega) hR)
  refine V_iconst (v := 0) o dX9_many_0 (by decide) ?_
  refine V_istore_n (ls' := [(1, _), (0, _)]) o dX9_many_1 rfl (by decide) rfl ?_
  refine V_iconst (v := 0) o dX9_many_2 (by decide) ?_
  refine V_istore_n (ls' := [(2, _), (1, _), (0, _)]) o dX9_many_3 rfl (by decide) rfl ?_
  exact loop 16 0 0 (by omega) rfl
def setR (M : Nat → Int32) : Int32 := if frM M 16 0 = 16 then -3 else nI (frM M 16 0)
set_option maxRecDepth 20000 in
set_option maxHeartbeats 4000000 in
theorem c9_setsOne {w : Wp} (hf : Fit sh0 w) {σ : Mm} {d : Nat} {M : Nat → Int32} (hd : σ.1 67 8 = nI d) (hd4 : d ≤ 423) {L : Nat} (hW : Wf M L) {dl gr so pe ti : Int32} : Cf sh0 w 4 mX9_setsOne [.ref 67, .int dl, .int gr, .int so, .int pe, .int ti] (sM σ d M) (some (.int (setR M))) (sM σ d (if frM M 16 0 = 16 then M else setM M L (frM M 16 0) dl gr so pe ti)) := by
  refine Ct_of hf (by decide) rfl (Nat.le_of_ble_eq_true rfl) (fun x o rt => ?_)
  have fin : ∀ t, t = frM M 16 0 → t ≤ 16 → V sh0 w x mX9_setsOne (0, 0) 30 [(6, .int (nI t)), (0, .ref 67), (1, .int dl), (2, .int gr), (3, .int so), (4, .int pe), (5, .int ti)] [] (sM σ d M) := by
    intro t ht ht6
    refine V_iload o dX9_setsOne_30 rfl ?_
    refine V_bipush (v := 16) o dX9_setsOne_32 (by decide) ?_
    refine V_icmp_ne (tgt := 40) o dX9_setsOne_34 (by decide) (fun c_34 => ?_) (fun c_34 => ?_)
    · refine V_aload_n o dX9_setsOne_40 rfl rfl ?_
      refine V_sipush (v := 215) o dX9_setsOne_41 (by decide) ?_
      refine V_iload o dX9_setsOne_44 rfl ?_
      refine V_iadd o dX9_setsOne_46 ?_
      refine V_iconst (v := 1) o dX9_setsOne_47 (by decide) ?_
      refine V_cVv o rt dX9_setsOne_48 ml_X9_76 (c9_puts hf (by exact hd) (nadd (show (215 : Int32) = nI 215 from rfl) rfl) (by omega)) rfl rfl rfl (Nat.le_of_ble_eq_true rfl) rfl ?_
      refine V_aload_n o dX9_setsOne_51 rfl rfl ?_
      refine V_sipush (v := 231) o dX9_setsOne_52 (by decide) ?_
      refine V_iload o dX9_setsOne_55 rfl ?_
      refine V_iadd o dX9_setsOne_57 ?_
      refine V_aload_n o dX9_setsOne_58 rfl rfl ?_
      refine V_bipush (v := 6) o dX9_setsOne_59 (by decide) ?_
      refine V_cVi o rt dX9_setsOne_61 ml_X9_85 (c9_of hf (by exact hd) (show (6 : Int32) = nI 6 from rfl) (by omega)) rfl rfl rfl (Nat.le_of_ble_eq_true rfl) rfl ?_
      refine V_iload_n o dX9_setsOne_64 rfl rfl ?_
      refine V_iadd o dX9_setsOne_65 ?_
      refine V_cVv o rt dX9_setsOne_66 ml_X9_76 (c9_puts hf (by exact hd) (nadd (show (231 : Int32) = nI 231 from rfl) rfl) (by omega)) rfl rfl rfl (Nat.le_of_ble_eq_true rfl) rfl ?_
      refine V_aload_n o dX9_setsOne_69 rfl rfl ?_
      refine V_sipush (v := 247) o dX9_setsOne_70 (by decide) ?_
      refine V_iload o dX9_setsOne_73 rfl ?_
      refine V_iadd o dX9_setsOne_75 ?_
      refine V_aload_n o dX9_setsOne_76 rfl rfl ?_
      refine V_bipush (v := 13) o dX9_setsOne_77 (by decide) ?_
      refine V_cVi o rt dX9_setsOne_79 ml_X9_85 (c9_of hf (by exact hd) (show (13 : Int32) = nI 13 from rfl) (by omega)) rfl rfl rfl (Nat.le_of_ble_eq_true rfl) rfl ?_
      refine V_cVv o rt dX9_setsOne_82 ml_X9_76 (c9_puts hf (by exact hd) (nadd (show (247 : Int32) = nI 247 from rfl) rfl) (by omega)) rfl rfl rfl (Nat.le_of_ble_eq_true rfl) rfl ?_
      refine V_aload_n o dX9_setsOne_85 rfl rfl ?_
      refine V_sipush (v := 263) o dX9_setsOne_86 (by decide) ?_
      refine V_iload o dX9_setsOne_89 rfl ?_
      refine V_iadd o dX9_setsOne_91 ?_
      refine V_iload_n o dX9_setsOne_92 rfl rfl ?_
      refine V_cVv o rt dX9_setsOne_93 ml_X9_76 (c9_puts hf (by exact hd) (nadd (show (263 : Int32) = nI 263 from rfl) rfl) (by omega)) rfl rfl rfl (Nat.le_of_ble_eq_true rfl) rfl ?_
      refine V_aload_n o dX9_setsOne_96 rfl rfl ?_
      refine V_sipush (v := 279) o dX9_setsOne_97 (by decide) ?_
      refine V_iload o dX9_setsOne_100 rfl ?_
      refine V_iadd o dX9_setsOne_102 ?_
      refine V_iload_n o dX9_setsOne_103 rfl rfl ?_
      refine V_cVv o rt dX9_setsOne_104 ml_X9_76 (c9_puts hf (by exact hd) (nadd (show (279 : Int32) = nI 279 from rfl) rfl) (by omega)) rfl rfl rfl (Nat.le_of_ble_eq_true rfl) rfl ?_
      refine V_aload_n o dX9_setsOne_107 rfl rfl ?_
      refine V_sipush (v := 295) o dX9_setsOne_108 (by decide) ?_
      refine V_iload o dX9_setsOne_111 rfl ?_
      refine V_iadd o dX9_setsOne_113 ?_
      refine V_iload o dX9_setsOne_114 rfl ?_
      refine V_cVv o rt dX9_setsOne_116 ml_X9_76 (c9_puts hf (by exact hd) (nadd (show (295 : Int32) = nI 295 from rfl) rfl) (by omega)) rfl rfl rfl (Nat.le_of_ble_eq_true rfl) rfl ?_
      refine V_aload_n o dX9_setsOne_119 rfl rfl ?_
      refine V_sipush (v := 311) o dX9_setsOne_120 (by decide) ?_
      refine V_iload o dX9_setsOne_123 rfl ?_
      refine V_iadd o dX9_setsOne_125 ?_
      refine V_iload o dX9_setsOne_126 rfl ?_
      refine V_cVv o rt dX9_setsOne_128 ml_X9_76 (c9_puts hf (by exact hd) (nadd (show (311 : Int32) = nI 311 from rfl) rfl) (by omega)) rfl rfl rfl (Nat.le_of_ble_eq_true rfl) rfl ?_
      refine V_aload_n o dX9_setsOne_131 rfl rfl ?_
      refine V_sipush (v := 327) o dX9_setsOne_132 (by decide) ?_
      refine V_iload o dX9_setsOne_135 rfl ?_
      refine V_iadd o dX9_setsOne_137 ?_
      refine V_iconst (v := 0) o dX9_setsOne_138 (by decide) ?_
      refine V_cVv o rt dX9_setsOne_139 ml_X9_76 (c9_puts hf (by exact hd) (nadd (show (327 : Int32) = nI 327 from rfl) rfl) (by omega)) rfl rfl rfl (Nat.le_of_ble_eq_true rfl) rfl ?_
      refine V_aload_n o dX9_setsOne_142 rfl rfl ?_
      refine V_sipush (v := 343) o dX9_setsOne_143 (by decide) ?_
      refine V_iload o dX9_setsOne_146 rfl ?_
      refine V_iadd o dX9_setsOne_148 ?_
      refine V_iconst (v := 0) o dX9_setsOne_149 (by decide) ?_
      refine V_cVv o rt dX9_setsOne_150 ml_X9_76 (c9_puts hf (by exact hd) (nadd (show (343 : Int32) = nI 343 from rfl) rfl) (by omega)) rfl rfl rfl (Nat.le_of_ble_eq_true rfl) rfl ?_
      refine V_aload_n o dX9_setsOne_153 rfl rfl ?_
      refine V_sipush (v := 375) o dX9_setsOne_154 (by decide) ?_
      refine V_iload o dX9_setsOne_157 rfl ?_
      refine V_iadd o dX9_setsOne_159 ?_
      refine V_iconst (v := 0) o dX9_setsOne_160 (by decide) ?_
      refine V_cVv o rt dX9_setsOne_161 ml_X9_76 (c9_puts hf (by exact hd) (nadd (show (375 : Int32) = nI 375 from rfl) rfl) (by omega)) rfl rfl rfl (Nat.le_of_ble_eq_true rfl) rfl ?_
      refine V_aload_n o dX9_setsOne_164 rfl rfl ?_
      refine V_bipush (v := 13) o dX9_setsOne_165 (by decide) ?_
      refine V_iconst (v := 1) o dX9_setsOne_167 (by decide) ?_
      refine V_cVv o rt dX9_setsOne_168 ml_X9_106 (c9_more hf (by exact hd) (show (13 : Int32) = nI 13 from rfl) (by omega)) rfl rfl rfl (Nat.le_of_ble_eq_true rfl) rfl ?_
      refine V_aload_n o dX9_setsOne_171 rfl rfl ?_
      refine V_iload o dX9_setsOne_172 rfl ?_
      refine V_cVv o rt dX9_setsOne_174 ml_X9_102 (c9_lays hf (by exact hd) hd4 (Wf_same hW (fun j hj => by simp (disch := omega) only [uM_ne])) rfl (by have : t ≠ 16 := fun q => c_34 (by rw [q]; rfl); omega)) rfl rfl rfl (Nat.le_of_ble_eq_true rfl) rfl ?_
      refine V_iload o dX9_setsOne_177 rfl ?_
      refine V_iret o rt dX9_setsOne_179 rfl rfl ?_
      have ht16 : ¬ t = 16 := fun q => c_34 (by rw [q]; rfl)
      refine ⟨by rw [setR, if_neg (fun q => ht16 (ht.trans q)), ← ht], ?_⟩
      rw [if_neg (fun q => ht16 (ht.trans q)), ← ht, setM, st0M]
      simp (disch := omega) only [uM_ne]
    · refine V_bipush (v := -3) o dX9_setsOne_37 (by decide) ?_
      refine V_iret o rt dX9_setsOne_39 rfl rfl ?_
      have ht16 : t = 16 := (nI_eq (by omega) (by omega)).mp c_34
      refine ⟨by rw [setR, if_pos (ht.symm.trans ht16)], by rw [if_pos (ht.symm.trans ht16)]⟩
  have loop : ∀ n t, t + n = 16 → frM M n t = frM M 16 0 → V sh0 w x mX9_setsOne (0, 0) 3 [(6, .int (nI t)), (0, .ref 67), (1, .int dl), (2, .int gr), (3, .int so), (4, .int pe), (5, .int ti)] [] (sM σ d M) := by
    intro n
    induction n with
    | zero =>
      intro t htn hR
      have ht : t = 16 := by omega
      refine V_iload o dX9_setsOne_3 rfl ?_
      refine V_bipush (v := 16) o dX9_setsOne_5 (by decide) ?_
      refine V_icmp_ge (tgt := 30) o dX9_setsOne_7 (by decide) (fun c_7 => ?_) (fun c_7 => False.elim (c_7 (by rw [ht]; exact Int32.le_refl _)))
      exact fin t hR (by omega)
    | succ n ih =>
      intro t htn hR
      rw [frM] at hR
      refine V_iload o dX9_setsOne_3 rfl ?_
      refine V_bipush (v := 16) o dX9_setsOne_5 (by decide) ?_
      refine V_icmp_ge (tgt := 30) o dX9_setsOne_7 (by decide) (fun c_7 => False.elim (absurd c_7 (nI_ge (b := 16) (by omega) (by omega)))) (fun c_7 => ?_)
      refine V_aload_n o dX9_setsOne_10 rfl rfl ?_
      refine V_sipush (v := 215) o dX9_setsOne_11 (by decide) ?_
      refine V_iload o dX9_setsOne_14 rfl ?_
      refine V_iadd o dX9_setsOne_16 ?_
      refine V_cVi o rt dX9_setsOne_17 ml_X9_85 (c9_of hf (by exact hd) (nadd (show (215 : Int32) = nI 215 from rfl) rfl) (by omega)) rfl rfl rfl (Nat.le_of_ble_eq_true rfl) rfl ?_
      refine V_iconst (v := 1) o dX9_setsOne_20 (by decide) ?_
      refine V_icmp_ne (tgt := 30) o dX9_setsOne_21 (by decide) (fun c_21 => ?_) (fun c_21 => ?_)
      · rw [if_neg c_21] at hR
        exact fin t hR (by omega)
      · refine V_iincV (v := nI (t + 1)) (ls' := [(6, _), (0, _), (1, _), (2, _), (3, _), (4, _), (5, _)]) o dX9_setsOne_24 rfl (ninc 1 rfl) (by decide) rfl ?_
        refine V_goto (tgt := 3) o dX9_setsOne_27 (by decide) ?_
        rw [if_pos c_21] at hR
        exact ih (t + 1) (by omega) hR
  refine V_iconst (v := 0) o dX9_setsOne_0 (by decide) ?_
  refine V_istore (ls' := [(6, _), (0, _), (1, _), (2, _), (3, _), (4, _), (5, _)]) o dX9_setsOne_1 (by decide) rfl ?_
  exact loop 16 0 (by omega) rfl
set_option maxRecDepth 20000 in
set_option maxHeartbeats 4000000 in
theorem c9_cancelsOne {w : Wp} (hf : Fit sh0 w) {σ : Mm} {d : Nat} {M : Nat → Int32} (hd : σ.1 67 8 = nI d) (hd4 : d ≤ 423) {k : Int32} {i : Nat} (hk : k = nI i) (hi : i < 16) (hT : isT M i) : Cf sh0 w 2 mX9_cancelsOne [.ref 67, .int k] (sM σ d M) (some (.int (manyM (caM M i)))) (sM σ d (caM M i)) := by
  refine Ct_of hf (by decide) rfl (Nat.le_of_ble_eq_true rfl) (fun x o rt => ?_)
  subst hk
  refine V_aload_n o dX9_cancelsOne_0 rfl rfl ?_
  refine V_iload_n o dX9_cancelsOne_1 rfl rfl ?_
  refine V_cVi o rt dX9_cancelsOne_2 ml_X9_89 (c9_isTimer hf (by exact hd) hd4 rfl hi) rfl rfl rfl (Nat.le_of_ble_eq_true rfl) rfl ?_
  refine V_if_ne (tgt := 10) o dX9_cancelsOne_5 (by decide) (fun c_5 => ?_) (fun c_5 => False.elim (bz_n0.mpr hT c_5))
  refine V_aload_n o dX9_cancelsOne_10 rfl rfl ?_
  refine V_sipush (v := 215) o dX9_cancelsOne_11 (by decide) ?_
  refine V_iload_n o dX9_cancelsOne_14 rfl rfl ?_
  refine V_iadd o dX9_cancelsOne_15 ?_
  refine V_iconst (v := 0) o dX9_cancelsOne_16 (by decide) ?_
  refine V_cVv o rt dX9_cancelsOne_17 ml_X9_76 (c9_puts hf (by exact hd) (nadd (show (215 : Int32) = nI 215 from rfl) rfl) (by omega)) rfl rfl rfl (Nat.le_of_ble_eq_true rfl) rfl ?_
  refine V_aload_n o dX9_cancelsOne_20 rfl rfl ?_
  refine V_bipush (v := 10) o dX9_cancelsOne_21 (by decide) ?_
  refine V_iconst (v := 1) o dX9_cancelsOne_23 (by decide) ?_
  refine V_cVv o rt dX9_cancelsOne_24 ml_X9_106 (c9_more hf (by exact hd) (show (10 : Int32) = nI 10 from rfl) (by omega)) rfl rfl rfl (Nat.le_of_ble_eq_true rfl) rfl ?_
  rw [show uM (uM M (215 + i) 0) 10 (uM M (215 + i) 0 10 + 1) = caM M i from by rw [caM, uM_ne (j := 10) _ _ (by omega)]]
  refine V_aload_n o dX9_cancelsOne_27 rfl rfl ?_
  refine V_cVi o rt dX9_cancelsOne_28 ml_X9_213 (c9_many hf (by exact hd) hd4) rfl rfl rfl (Nat.le_of_ble_eq_true rfl) rfl ?_
  refine V_iret o rt dX9_cancelsOne_31 rfl rfl ?_
  exact ⟨rfl, rfl⟩
set_option maxRecDepth 20000 in
set_option maxHeartbeats 4000000 in
theorem c9_cancelsOne_no {w : Wp} (hf : Fit sh0 w) {σ : Mm} {d : Nat} {M : Nat → Int32} (hd : σ.1 67 8 = nI d) (hd4 : d ≤ 423) {k : Int32} {i : Nat} (hk : k = nI i) (hi : i < 16) (hT : ¬ isT M i) : Cf sh0 w 2 mX9_cancelsOne [.ref 67, .int k] (sM σ d M) (some (.int (-1))) (sM σ d M) := by
  refine Ct_of hf (by decide) rfl (Nat.le_of_ble_eq_true rfl) (fun x o rt => ?_)
  subst hk
  refine V_aload_n o dX9_cancelsOne_0 rfl rfl ?_
  refine V_iload_n o dX9_cancelsOne_1 rfl rfl ?_
  refine V_cVi o rt dX9_cancelsOne_2 ml_X9_89 (c9_isTimer hf (by exact hd) hd4 rfl hi) rfl rfl rfl (Nat.le_of_ble_eq_true rfl) rfl ?_
  refine V_if_ne (tgt := 10) o dX9_cancelsOne_5 (by decide) (fun c_5 => False.elim (hT (bz_n0.mp c_5))) (fun c_5 => ?_)
  refine V_iconst (v := -1) o dX9_cancelsOne_8 (by decide) ?_
  refine V_iret o rt dX9_cancelsOne_9 rfl rfl ?_
  exact ⟨rfl, rfl⟩
set_option maxRecDepth 20000 in
set_option maxHeartbeats 4000000 in
theorem c9_cancelsOne_out {w : Wp} (hf : Fit sh0 w) {σ : Mm} {d : Nat} {M : Nat → Int32} (hd : σ.1 67 8 = nI d) (hd4 : d ≤ 423) {k : Int32} (hk : ¬ (0 ≤ k ∧ k ≤ 15)) : Cf sh0 w 2 mX9_cancelsOne [.ref 67, .int k] (sM σ d M) (some (.int (-1))) (sM σ d M) := by
  refine Ct_of hf (by decide) rfl (Nat.le_of_ble_eq_true rfl) (fun x o rt => ?_)
  refine V_aload_n o dX9_cancelsOne_0 rfl rfl ?_
  refine V_iload_n o dX9_cancelsOne_1 rfl rfl ?_
  refine V_cVi o rt dX9_cancelsOne_2 ml_X9_89 (c9_isTimer_out hf (by exact hd) hd4 hk) rfl rfl rfl (Nat.le_of_ble_eq_true rfl) rfl ?_
  refine V_if_ne (tgt := 10) o dX9_cancelsOne_5 (by decide) (fun c_5 => False.elim (c_5 rfl)) (fun c_5 => ?_)
  refine V_iconst (v := -1) o dX9_cancelsOne_8 (by decide) ?_
  refine V_iret o rt dX9_cancelsOne_9 rfl rfl ?_
  exact ⟨rfl, rfl⟩
set_option maxRecDepth 20000 in
set_option maxHeartbeats 4000000 in
theorem c9_pausesOne {w : Wp} (hf : Fit sh0 w) {σ : Mm} {d : Nat} {M : Nat → Int32} (hd : σ.1 67 8 = nI d) (hd4 : d ≤ 423) {k : Int32} {i : Nat} (hk : k = nI i) (hi : i < 16) : Cf sh0 w 1 mX9_pausesOne [.ref 67, .int k] (sM σ d M) none (sM σ d (paM M i)) := by
  refine Ct_of hf (by decide) rfl (Nat.le_of_ble_eq_true rfl) (fun x o rt => ?_)
  subst hk
  refine V_aload_n o dX9_pausesOne_0 rfl rfl ?_
  refine V_sipush (v := 343) o dX9_pausesOne_1 (by decide) ?_
  refine V_iload_n o dX9_pausesOne_4 rfl rfl ?_
  refine V_iadd o dX9_pausesOne_5 ?_
  refine V_iconst (v := 1) o dX9_pausesOne_6 (by decide) ?_
  refine V_cVv o rt dX9_pausesOne_7 ml_X9_76 (c9_puts hf (by exact hd) (nadd (show (343 : Int32) = nI 343 from rfl) rfl) (by omega)) rfl rfl rfl (Nat.le_of_ble_eq_true rfl) rfl ?_
  refine V_aload_n o dX9_pausesOne_10 rfl rfl ?_
  refine V_sipush (v := 359) o dX9_pausesOne_11 (by decide) ?_
  refine V_iload_n o dX9_pausesOne_14 rfl rfl ?_
  refine V_iadd o dX9_pausesOne_15 ?_
  refine V_aload_n o dX9_pausesOne_16 rfl rfl ?_
  refine V_sipush (v := 231) o dX9_pausesOne_17 (by decide) ?_
  refine V_iload_n o dX9_pausesOne_20 rfl rfl ?_
  refine V_iadd o dX9_pausesOne_21 ?_
  refine V_cVi o rt dX9_pausesOne_22 ml_X9_85 (c9_of hf (by exact hd) (nadd (show (231 : Int32) = nI 231 from rfl) rfl) (by omega)) rfl rfl rfl (Nat.le_of_ble_eq_true rfl) rfl ?_
  refine V_aload_n o dX9_pausesOne_25 rfl rfl ?_
  refine V_bipush (v := 6) o dX9_pausesOne_26 (by decide) ?_
  refine V_cVi o rt dX9_pausesOne_28 ml_X9_85 (c9_of hf (by exact hd) (show (6 : Int32) = nI 6 from rfl) (by omega)) rfl rfl rfl (Nat.le_of_ble_eq_true rfl) rfl ?_
  refine V_isub o dX9_pausesOne_31 ?_
  refine V_cVv o rt dX9_pausesOne_32 ml_X9_76 (c9_puts hf (by exact hd) (nadd (show (359 : Int32) = nI 359 from rfl) rfl) (by omega)) rfl rfl rfl (Nat.le_of_ble_eq_true rfl) rfl ?_
  refine V_ret o rt dX9_pausesOne_35 rfl ?_
  exact ⟨rfl, by rw [paM, uM_ne (j := 231 + i) _ _ (by omega), uM_ne (j := 6) _ _ (by omega)]⟩
set_option maxRecDepth 20000 in
set_option maxHeartbeats 4000000 in
theorem c9_resumesOne {w : Wp} (hf : Fit sh0 w) {σ : Mm} {d : Nat} {M : Nat → Int32} (hd : σ.1 67 8 = nI d) (hd4 : d ≤ 423) {L : Nat} (hW : Wf M L) {k : Int32} {i : Nat} (hk : k = nI i) (hi : i < 16) : Cf sh0 w 4 mX9_resumesOne [.ref 67, .int k] (sM σ d M) none (sM σ d (reM M L i)) := by
  refine Ct_of hf (by decide) rfl (Nat.le_of_ble_eq_true rfl) (fun x o rt => ?_)
  subst hk
  refine V_aload_n o dX9_resumesOne_0 rfl rfl ?_
  refine V_sipush (v := 343) o dX9_resumesOne_1 (by decide) ?_
  refine V_iload_n o dX9_resumesOne_4 rfl rfl ?_
  refine V_iadd o dX9_resumesOne_5 ?_
  refine V_iconst (v := 0) o dX9_resumesOne_6 (by decide) ?_
  refine V_cVv o rt dX9_resumesOne_7 ml_X9_76 (c9_puts hf (by exact hd) (nadd (show (343 : Int32) = nI 343 from rfl) rfl) (by omega)) rfl rfl rfl (Nat.le_of_ble_eq_true rfl) rfl ?_
  refine V_aload_n o dX9_resumesOne_10 rfl rfl ?_
  refine V_sipush (v := 231) o dX9_resumesOne_11 (by decide) ?_
  refine V_iload_n o dX9_resumesOne_14 rfl rfl ?_
  refine V_iadd o dX9_resumesOne_15 ?_
  refine V_aload_n o dX9_resumesOne_16 rfl rfl ?_
  refine V_bipush (v := 6) o dX9_resumesOne_17 (by decide) ?_
  refine V_cVi o rt dX9_resumesOne_19 ml_X9_85 (c9_of hf (by exact hd) (show (6 : Int32) = nI 6 from rfl) (by omega)) rfl rfl rfl (Nat.le_of_ble_eq_true rfl) rfl ?_
  refine V_aload_n o dX9_resumesOne_22 rfl rfl ?_
  refine V_sipush (v := 359) o dX9_resumesOne_23 (by decide) ?_
  refine V_iload_n o dX9_resumesOne_26 rfl rfl ?_
  refine V_iadd o dX9_resumesOne_27 ?_
  refine V_cVi o rt dX9_resumesOne_28 ml_X9_85 (c9_of hf (by exact hd) (nadd (show (359 : Int32) = nI 359 from rfl) rfl) (by omega)) rfl rfl rfl (Nat.le_of_ble_eq_true rfl) rfl ?_
  refine V_iadd o dX9_resumesOne_31 ?_
  refine V_cVv o rt dX9_resumesOne_32 ml_X9_76 (c9_puts hf (by exact hd) (nadd (show (231 : Int32) = nI 231 from rfl) rfl) (by omega)) rfl rfl rfl (Nat.le_of_ble_eq_true rfl) rfl ?_
  refine V_aload_n o dX9_resumesOne_35 rfl rfl ?_
  refine V_iload_n o dX9_resumesOne_36 rfl rfl ?_
  refine V_cVv o rt dX9_resumesOne_37 ml_X9_102 (c9_lays hf (by exact hd) hd4 (Wf_uM (Wf_uM hW (by omega)) (by omega)) rfl hi) rfl rfl rfl (Nat.le_of_ble_eq_true rfl) rfl ?_
  refine V_ret o rt dX9_resumesOne_40 rfl ?_
  exact ⟨rfl, by rw [reM, uM_ne (j := 6) _ _ (by omega), uM_ne (j := 359 + i) _ _ (by omega)]⟩
set_option maxRecDepth 20000 in
set_option maxHeartbeats 4000000 in
theorem c9_isBack {w : Wp} (hf : Fit sh0 w) {σ : Mm} {M Mx : Nat → Int32} {v : Int32} : Cf sh0 w 0 mX9_isBack [.ref 67] (sM (wI (sM σ 0 M) 67 8 v) 423 Mx) none (sM (wI σ 67 8 0) 0 (bkM M Mx)) := by
  refine Ct_of hf (by decide) rfl (Nat.le_of_ble_eq_true rfl) (fun x o rt => ?_)
  refine V_aload_n o dX9_isBack_0 rfl rfl ?_
  refine V_iconst (v := 0) o dX9_isBack_1 (by decide) ?_
  refine V_putI o dX9_isBack_2 rfl fl_X9_80 rfl rfl rfl ?_
  refine V_ret o rt dX9_isBack_5 rfl ?_
  exact ⟨rfl, bk_sM⟩
theorem wM0 {σ : Mm} {M : Nat → Int32} {k : Nat} {v : Int32} : wI (sM σ 0 M) 70 k v = sM σ 0 (uM M k v) := by
  have h := wM_sM (σ := σ) (d := 0) (M := M) (n := k) (v := v)
  rwa [Nat.zero_add] at h
def trI (M : Nat → Int32) : Nat → Int32 := itr (fun k M => uM M (423 + k) (M k)) 0 423 M
theorem trI_eq (M : Nat → Int32) (j : Nat) : trI M j = if j < 423 then M j else if j < 846 then M (j - 423) else M j := by
  have h := itr_inv (f := fun k (M : Nat → Int32) => uM M (423 + k) (M k)) (fun i s => ∀ j, s j = if 423 ≤ j ∧ j < 423 + i then M (j - 423) else M j) 423 0 M (fun j => by rw [if_neg (by omega)]) (fun k s h1 h2 hs j => by
    unfold uM
    by_cases q : j = 423 + k
    · subst q
      rw [if_pos rfl, if_pos (by omega), hs k, if_neg (by omega), Nat.add_sub_cancel_left]
    · rw [if_neg q, hs j]
      by_cases q2 : 423 ≤ j ∧ j < 423 + k
      · rw [if_pos q2, if_pos (by omega)]
      · rw [if_neg q2, if_neg (by omega)]) j
  unfold trI
  rw [h]
  by_cases q : j < 423
  · rw [if_neg (by omega), if_pos q]
  · by_cases q2 : j < 846
    · rw [if_pos (by omega), if_neg q, if_pos q2]
    · rw [if_neg (by omega), if_neg q, if_neg q2]
theorem tr_sM {σ : Mm} {M : Nat → Int32} {v : Int32} : wI (sM σ 0 (trI M)) 67 8 v = sM (wI (sM σ 0 M) 67 8 v) 423 (trM M) := by
  refine Prod.ext (funext fun a => funext fun j => ?_) rfl
  simp only [sM, wI, up2, trM]
  by_cases h : a = 70
  · subst h
    simp only [Nat.zero_le, if_true, Nat.sub_zero]
    rw [if_neg (by omega), trI_eq]
    by_cases h2 : j < 423
    · rw [if_pos h2, if_neg (by omega), if_neg (by omega)]
    · by_cases h3 : j < 846
      · rw [if_neg h2, if_pos h3, if_pos (show 423 ≤ j by omega), if_pos (show j - 423 < 423 by omega)]
      · rw [if_neg h2, if_neg h3, if_pos (show 423 ≤ j by omega), if_neg (show ¬ j - 423 < 423 by omega), show 423 + (j - 423) = j by omega]
  · simp [h]
set_option maxRecDepth 20000 in
set_option maxHeartbeats 4000000 in
theorem c9_tries {w : Wp} (hf : Fit sh0 w) {σ : Mm} {M : Nat → Int32} : Cf sh0 w 0 mX9_tries [.ref 67] (sM σ 0 M) none (sM (wI (sM σ 0 M) 67 8 423) 423 (trM M)) := by
  refine Ct_of hf (by decide) rfl (Nat.le_of_ble_eq_true rfl) (fun x o rt => ?_)
  have loop : ∀ n i (M' : Nat → Int32), i + n = 423 → itr (fun k M => uM M (423 + k) (M k)) i n M' = trI M → V sh0 w x mX9_tries (0, 0) 2 [(1, .int (nI i)), (0, .ref 67)] [] (sM σ 0 M') := by
    intro n
    induction n with
    | zero =>
      intro i M' hin hR
      have hi : i = 423 := by omega
      have hM : M' = trI M := hR
      refine V_iload_n o dX9_tries_2 rfl rfl ?_
      refine V_sipush (v := 423) o dX9_tries_3 (by decide) ?_
      refine V_icmp_ge (tgt := 31) o dX9_tries_6 (by decide) (fun c_6 => ?_) (fun c_6 => False.elim (c_6 (by rw [hi]; exact Int32.le_refl _)))
      refine V_aload_n o dX9_tries_31 rfl rfl ?_
      refine V_sipush (v := 423) o dX9_tries_32 (by decide) ?_
      refine V_putI o dX9_tries_35 rfl fl_X9_80 rfl rfl rfl ?_
      refine V_ret o rt dX9_tries_38 rfl ?_
      exact ⟨rfl, by rw [hM, tr_sM]⟩
    | succ n ih =>
      intro i M' hin hR
      rw [itr_succ] at hR
      refine V_iload_n o dX9_tries_2 rfl rfl ?_
      refine V_sipush (v := 423) o dX9_tries_3 (by decide) ?_
      refine V_icmp_ge (tgt := 31) o dX9_tries_6 (by decide) (fun c_6 => False.elim (absurd c_6 (nI_ge (b := 423) (by omega) (by omega)))) (fun c_6 => ?_)
      refine V_aload_n o dX9_tries_9 rfl rfl ?_
      refine V_getR (t := 70) o dX9_tries_10 rfl fl_X9_49 rfl ?_
      refine V_sipush (v := 423) o dX9_tries_13 (by decide) ?_
      refine V_iload_n o dX9_tries_16 rfl rfl ?_
      refine V_iadd o dX9_tries_17 ?_
      refine V_aload_n o dX9_tries_18 rfl rfl ?_
      refine V_getR (t := 70) o dX9_tries_19 rfl fl_X9_49 rfl ?_
      refine V_iload_n o dX9_tries_22 rfl rfl ?_
      refine V_ialdN 846 o dX9_tries_23 rfl rfl rfl (by omega) rfl ?_
      refine V_topI (v' := M' i) (by simp [sM]) ?_
      refine V_iastN 846 o dX9_tries_24 rfl rfl (nadd (show (423 : Int32) = nI 423 from rfl) rfl) (by omega) rfl ?_
      rw [wM0]
      refine V_iincV (v := nI (i + 1)) (ls' := [(1, _), (0, _)]) o dX9_tries_25 rfl (ninc 1 rfl) (by decide) rfl ?_
      refine V_goto (tgt := 2) o dX9_tries_28 (by decide) ?_
      exact ih (i + 1) (uM M' (423 + i) (M' i)) (by omega) hR
  refine V_iconst (v := 0) o dX9_tries_0 (by decide) ?_
  refine V_istore_n (ls' := [(1, _), (0, _)]) o dX9_tries_1 rfl (by decide) rfl ?_
  exact loop 423 0 M (by omega) rfl
