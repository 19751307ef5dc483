def wiW (f : Nat → Int32) (a b c e : Int32) : Nat → Int32 := upd (upd (upd (upd f 0 a) 1 b) 2 c) 3 e
theorem bz_and {p : Bool} {q : Prop} [Decidable q] : bz ((p && decide q) = true) = if p = true then bz q else 0 := by
  cases p <;> simp [bz]
set_option maxRecDepth 20000 in
set_option maxHeartbeats 4000000 in
theorem c9_wishes {w : Wp} (hf : Fit sh0 w) {σ : Mm} {d : Nat} {M : Nat → Int32} {a b c e : Int32} : Cf sh0 w 1 mX9_wishes [.ref 67, .int a, .int b, .int c, .int e] (sM σ d M) (some (.int (wiR (wiW (σ.1 74) a b c e)))) (sM (sWi σ (wiW (σ.1 74) a b c e)) d M) := by
  generalize hW : wiW (σ.1 74) a b c e = W
  refine Ct_of hf (by decide) rfl (Nat.le_of_ble_eq_true rfl) (fun x o rt => ?_)
  have hN := wiN_le W 4 0
  generalize hNe : wiN W 4 0 = N at hN
  have loop2 : ∀ n k (c0 : Bool), k + n = 4 → itr (wiF W N) k n c0 = wiOk W → V sh0 w x mX9_wishes (0, 0) 69 [(7, .int (nI k)), (6, .int (bz (c0 = true))), (5, .int (nI N)), (0, .ref 67), (1, .int a), (2, .int b), (3, .int c), (4, .int e)] [] (sM (sWi σ W) d M) := by
    intro n
    induction n with
    | zero =>
      intro k c0 hkn hR
      have hk : k = 4 := by omega
      have hc0 : c0 = wiOk W := hR
      refine V_iload o dX9_wishes_69 rfl ?_
      refine V_iconst (v := 4) o dX9_wishes_71 (by decide) ?_
      refine V_icmp_ge (tgt := 133) o dX9_wishes_72 (by decide) (fun c_72 => ?_) (fun c_72 => False.elim (c_72 (by rw [hk]; exact Int32.le_refl _)))
      refine V_iload o dX9_wishes_133 rfl ?_
      refine V_if_eq (tgt := 143) o dX9_wishes_135 (by decide) (fun c_135 => ?_) (fun c_135 => ?_)
      · refine V_iconst (v := -1) o dX9_wishes_143 (by decide) ?_
        refine V_iret o rt dX9_wishes_144 rfl rfl ?_
        refine ⟨?_, rfl⟩
        rw [wiR, ← hc0, hNe]
        first | (rw [if_neg (bz_0.mp c_135)]; done) | (rw [if_pos (bz_n0.mp c_135)]; done)
      · refine V_iload o dX9_wishes_138 rfl ?_
        refine V_goto (tgt := 144) o dX9_wishes_140 (by decide) ?_
        refine V_iret o rt dX9_wishes_144 rfl rfl ?_
        refine ⟨?_, rfl⟩
        rw [wiR, ← hc0, hNe]
        first | (rw [if_neg (bz_0.mp c_135)]; done) | (rw [if_pos (bz_n0.mp c_135)]; done)
    | succ n ih =>
      intro k c0 hkn hR
      rw [itr_succ] at hR
      have step : ∀ v, v = bz (wiF W N k c0 = true) → V sh0 w x mX9_wishes (0, 0) 125 [(7, .int (nI k)), (6, .int (bz (c0 = true))), (5, .int (nI N)), (0, .ref 67), (1, .int a), (2, .int b), (3, .int c), (4, .int e)] [.int v] (sM (sWi σ W) d M) := by
        intro v hv
        subst hv
        refine V_istore (ls' := [(6, _), (7, _), (5, _), (0, _), (1, _), (2, _), (3, _), (4, _)]) o dX9_wishes_125 (by decide) rfl ?_
        refine V_iincV (v := nI (k + 1)) (ls' := [(7, _), (6, _), (5, _), (0, _), (1, _), (2, _), (3, _), (4, _)]) o dX9_wishes_127 rfl (ninc 1 rfl) (by decide) rfl ?_
        refine V_goto (tgt := 69) o dX9_wishes_130 (by decide) ?_
        exact V_sub (by simp) (ih (k + 1) (wiF W N k c0) (by omega) hR)
      refine V_iload o dX9_wishes_69 rfl ?_
      refine V_iconst (v := 4) o dX9_wishes_71 (by decide) ?_
      refine V_icmp_ge (tgt := 133) o dX9_wishes_72 (by decide) (fun c_72 => False.elim (absurd c_72 (nI_ge (b := 4) (by omega) (by omega)))) (fun c_72 => ?_)
      refine V_iload o dX9_wishes_75 rfl ?_
      refine V_if_eq (tgt := 124) o dX9_wishes_77 (by decide) (fun c_77 => ?_) (fun c_77 => ?_)
      · refine V_iconst (v := 0) o dX9_wishes_124 (by decide) ?_
        refine step _ ?_
        have hb := in_lo (k := W k) (lo := 2) (hi := 16) (l := 2) (h := 16) (by decide) (by decide)
        have hlt : nI N ≤ nI k ↔ N ≤ k := nI_leI (by omega) (by omega)
        first
          | (have h0 := bz_0.mp c_77; rw [bz_f]; rw [wiF]; simp_all; done)
          | (have h0 := bz_n0.mp c_77; have h1 : ¬ N ≤ k := fun q => c_84 (hlt.mpr q); have h2 : ¬ (2 ≤ W k ∧ W k ≤ 16) := fun q => bz_0.mp c_104 (hb.mpr q); rw [bz_f]; rw [wiF, h0, if_pos (Nat.lt_of_not_le h1), decide_eq_false h2]; decide)
          | (have h0 := bz_n0.mp c_77; have h1 : ¬ N ≤ k := fun q => c_84 (hlt.mpr q); have h2 : (2 ≤ W k ∧ W k ≤ 16) := hb.mp (bz_n0.mp c_104); rw [bz_t]; rw [wiF, h0, if_pos (Nat.lt_of_not_le h1), decide_eq_true h2]; decide)
          | (have h0 := bz_n0.mp c_77; have h1 : N ≤ k := hlt.mp c_84; have h2 : ¬ W k = 0 := c_117; rw [bz_f]; rw [wiF, h0, if_neg (Nat.not_lt.mpr h1), decide_eq_false h2]; decide)
          | (have h0 := bz_n0.mp c_77; have h1 : N ≤ k := hlt.mp c_84; have h2 : W k = 0 := c_117; rw [bz_t]; rw [wiF, h0, if_neg (Nat.not_lt.mpr h1), decide_eq_true h2]; decide)
      · refine V_iload o dX9_wishes_80 rfl ?_
        refine V_iload o dX9_wishes_82 rfl ?_
        refine V_icmp_ge (tgt := 110) o dX9_wishes_84 (by decide) (fun c_84 => ?_) (fun c_84 => ?_)
        · refine V_aload_n o dX9_wishes_110 rfl rfl ?_
          refine V_getR (t := 74) o dX9_wishes_111 rfl fl_X9_61 rfl ?_
          refine V_iload o dX9_wishes_114 rfl ?_
          refine V_ialdN 4 o dX9_wishes_116 rfl rfl rfl (by omega) rfl ?_
          refine V_if_ne (tgt := 124) o dX9_wishes_117 (by decide) (fun c_117 => ?_) (fun c_117 => ?_)
          · refine V_iconst (v := 0) o dX9_wishes_124 (by decide) ?_
            refine step _ ?_
            have hb := in_lo (k := W k) (lo := 2) (hi := 16) (l := 2) (h := 16) (by decide) (by decide)
            have hlt : nI N ≤ nI k ↔ N ≤ k := nI_leI (by omega) (by omega)
            first
              | (have h0 := bz_0.mp c_77; rw [bz_f]; rw [wiF]; simp_all; done)
              | (have h0 := bz_n0.mp c_77; have h1 : ¬ N ≤ k := fun q => c_84 (hlt.mpr q); have h2 : ¬ (2 ≤ W k ∧ W k ≤ 16) := fun q => bz_0.mp c_104 (hb.mpr q); rw [bz_f]; rw [wiF, h0, if_pos (Nat.lt_of_not_le h1), decide_eq_false h2]; decide)
              | (have h0 := bz_n0.mp c_77; have h1 : ¬ N ≤ k := fun q => c_84 (hlt.mpr q); have h2 : (2 ≤ W k ∧ W k ≤ 16) := hb.mp (bz_n0.mp c_104); rw [bz_t]; rw [wiF, h0, if_pos (Nat.lt_of_not_le h1), decide_eq_true h2]; decide)
              | (have h0 := bz_n0.mp c_77; have h1 : N ≤ k := hlt.mp c_84; have h2 : ¬ W k = 0 := c_117; rw [bz_f]; rw [wiF, h0, if_neg (Nat.not_lt.mpr h1), decide_eq_false h2]; decide)
              | (have h0 := bz_n0.mp c_77; have h1 : N ≤ k := hlt.mp c_84; have h2 : W k = 0 := c_117; rw [bz_t]; rw [wiF, h0, if_neg (Nat.not_lt.mpr h1), decide_eq_true h2]; decide)
          · refine V_iconst (v := 1) o dX9_wishes_120 (by decide) ?_
            refine V_goto (tgt := 125) o dX9_wishes_121 (by decide) ?_
            refine step _ ?_
            have hb := in_lo (k := W k) (lo := 2) (hi := 16) (l := 2) (h := 16) (by decide) (by decide)
            have hlt : nI N ≤ nI k ↔ N ≤ k := nI_leI (by omega) (by omega)
            first
              | (have h0 := bz_0.mp c_77; rw [bz_f]; rw [wiF]; simp_all; done)
              | (have h0 := bz_n0.mp c_77; have h1 : ¬ N ≤ k := fun q => c_84 (hlt.mpr q); have h2 : ¬ (2 ≤ W k ∧ W k ≤ 16) := fun q => bz_0.mp c_104 (hb.mpr q); rw [bz_f]; rw [wiF, h0, if_pos (Nat.lt_of_not_le h1), decide_eq_false h2]; decide)
              | (have h0 := bz_n0.mp c_77; have h1 : ¬ N ≤ k := fun q => c_84 (hlt.mpr q); have h2 : (2 ≤ W k ∧ W k ≤ 16) := hb.mp (bz_n0.mp c_104); rw [bz_t]; rw [wiF, h0, if_pos (Nat.lt_of_not_le h1), decide_eq_true h2]; decide)
              | (have h0 := bz_n0.mp c_77; have h1 : N ≤ k := hlt.mp c_84; have h2 : ¬ W k = 0 := c_117; rw [bz_f]; rw [wiF, h0, if_neg (Nat.not_lt.mpr h1), decide_eq_false h2]; decide)
              | (have h0 := bz_n0.mp c_77; have h1 : N ≤ k := hlt.mp c_84; have h2 : W k = 0 := c_117; rw [bz_t]; rw [wiF, h0, if_neg (Nat.not_lt.mpr h1), decide_eq_true h2]; decide)
        · refine V_aload_n o dX9_wishes_87 rfl rfl ?_
          refine V_getR (t := 74) o dX9_wishes_88 rfl fl_X9_61 rfl ?_
          refine V_iload o dX9_wishes_91 rfl ?_
          refine V_ialdN 4 o dX9_wishes_93 rfl rfl rfl (by omega) rfl ?_
          refine V_i2l o dX9_wishes_94 ?_
          refine V_ldc2 o dX9_wishes_95 kc_X9_169 ?_
          refine V_ldc2 o dX9_wishes_98 kc_X9_171 ?_
          refine V_cSi o rt dX9_wishes_101 ms_X9_21 (c9_in hf) rfl rfl (Nat.le_of_ble_eq_true rfl) rfl ?_
          refine V_if_eq (tgt := 124) o dX9_wishes_104 (by decide) (fun c_104 => ?_) (fun c_104 => ?_)
          · refine V_iconst (v := 0) o dX9_wishes_124 (by decide) ?_
            refine step _ ?_
            have hb := in_lo (k := W k) (lo := 2) (hi := 16) (l := 2) (h := 16) (by decide) (by decide)
            have hlt : nI N ≤ nI k ↔ N ≤ k := nI_leI (by omega) (by omega)
            first
              | (have h0 := bz_0.mp c_77; rw [bz_f]; rw [wiF]; simp_all; done)
              | (have h0 := bz_n0.mp c_77; have h1 : ¬ N ≤ k := fun q => c_84 (hlt.mpr q); have h2 : ¬ (2 ≤ W k ∧ W k ≤ 16) := fun q => bz_0.mp c_104 (hb.mpr q); rw [bz_f]; rw [wiF, h0, if_pos (Nat.lt_of_not_le h1), decide_eq_false h2]; decide)
              | (have h0 := bz_n0.mp c_77; have h1 : ¬ N ≤ k := fun q => c_84 (hlt.mpr q); have h2 : (2 ≤ W k ∧ W k ≤ 16) := hb.mp (bz_n0.mp c_104); rw [bz_t]; rw [wiF, h0, if_pos (Nat.lt_of_not_le h1), decide_eq_true h2]; decide)
              | (have h0 := bz_n0.mp c_77; have h1 : N ≤ k := hlt.mp c_84; have h2 : ¬ W k = 0 := c_117; rw [bz_f]; rw [wiF, h0, if_neg (Nat.not_lt.mpr h1), decide_eq_false h2]; decide)
              | (have h0 := bz_n0.mp c_77; have h1 : N ≤ k := hlt.mp c_84; have h2 : W k = 0 := c_117; rw [bz_t]; rw [wiF, h0, if_neg (Nat.not_lt.mpr h1), decide_eq_true h2]; decide)
          · refine V_goto (tgt := 120) o dX9_wishes_107 (by decide) ?_
            refine V_iconst (v := 1) o dX9_wishes_120 (by decide) ?_
            refine V_goto (tgt := 125) o dX9_wishes_121 (by decide) ?_
            refine step _ ?_
            have hb := in_lo (k := W k) (lo := 2) (hi := 16) (l := 2) (h := 16) (by decide) (by decide)
            have hlt : nI N ≤ nI k ↔ N ≤ k := nI_leI (by omega) (by omega)
            first
              | (have h0 := bz_0.mp c_77; rw [bz_f]; rw [wiF]; simp_all; done)
              | (have h0 := bz_n0.mp c_77; have h1 : ¬ N ≤ k := fun q => c_84 (hlt.mpr q); have h2 : ¬ (2 ≤ W k ∧ W k ≤ 16) := fun q => bz_0.mp c_104 (hb.mpr q); rw [bz_f]; rw [wiF, h0, if_pos (Nat.lt_of_not_le h1), decide_eq_false h2]; decide)
              | (have h0 := bz_n0.mp c_77; have h1 : ¬ N ≤ k := fun q => c_84 (hlt.mpr q); have h2 : (2 ≤ W k ∧ W k ≤ 16) := hb.mp (bz_n0.mp c_104); rw [bz_t]; rw [wiF, h0, if_pos (Nat.lt_of_not_le h1), decide_eq_true h2]; decide)
              | (have h0 := bz_n0.mp c_77; have h1 : N ≤ k := hlt.mp c_84; have h2 : ¬ W k = 0 := c_117; rw [bz_f]; rw [wiF, h0, if_neg (Nat.not_lt.mpr h1), decide_eq_false h2]; decide)
              | (have h0 := bz_n0.mp c_77; have h1 : N ≤ k := hlt.mp c_84; have h2 : W k = 0 := c_117; rw [bz_t]; rw [wiF, h0, if_neg (Nat.not_lt.mpr h1), decide_eq_true h2]; decide)
  have mid : V sh0 w x mX9_wishes (0, 0) 54 [(5, .int (nI N)), (0, .ref 67), (1, .int a), (2, .int b), (3, .int c), (4, .int e)] [] (sM (sWi σ W) d M) := by
    refine V_iload o dX9_wishes_54 rfl ?_
    refine V_if_le (tgt := 63) o dX9_wishes_56 (by decide) (fun c_56 => ?_) (fun c_56 => ?_)
    · refine V_iconst (v := 0) o dX9_wishes_63 (by decide) ?_
      refine V_istore (ls' := [(6, _), (5, _), (0, _), (1, _), (2, _), (3, _), (4, _)]) o dX9_wishes_64 (by decide) rfl ?_
      refine V_iconst (v := 0) o dX9_wishes_66 (by decide) ?_
      refine V_istore (ls' := [(7, _), (6, _), (5, _), (0, _), (1, _), (2, _), (3, _), (4, _)]) o dX9_wishes_67 (by decide) rfl ?_
      have h0 := loop2 4 0 (decide (0 < N)) (by omega) (by rw [wiOk, hNe])
      first
        | (have hz : ¬ 0 < N := fun q => nI_nle q (by omega) c_56; rw [bz_f (by simpa using hz)] at h0; exact h0)
        | (have hz : 0 < N := Nat.pos_of_ne_zero (fun q => c_56 (by rw [q]; decide)); rw [bz_t (by simpa using hz)] at h0; exact h0)
    · refine V_iconst (v := 1) o dX9_wishes_59 (by decide) ?_
      refine V_goto (tgt := 64) o dX9_wishes_60 (by decide) ?_
      refine V_istore (ls' := [(6, _), (5, _), (0, _), (1, _), (2, _), (3, _), (4, _)]) o dX9_wishes_64 (by decide) rfl ?_
      refine V_iconst (v := 0) o dX9_wishes_66 (by decide) ?_
      refine V_istore (ls' := [(7, _), (6, _), (5, _), (0, _), (1, _), (2, _), (3, _), (4, _)]) o dX9_wishes_67 (by decide) rfl ?_
      have h0 := loop2 4 0 (decide (0 < N)) (by omega) (by rw [wiOk, hNe])
      first
        | (have hz : ¬ 0 < N := fun q => nI_nle q (by omega) c_56; rw [bz_f (by simpa using hz)] at h0; exact h0)
        | (have hz : 0 < N := Nat.pos_of_ne_zero (fun q => c_56 (by rw [q]; decide)); rw [bz_t (by simpa using hz)] at h0; exact h0)
  have loop1 : ∀ n k, k + n = 4 → wiN W n k = N → V sh0 w x mX9_wishes (0, 0) 32 [(5, .int (nI k)), (0, .ref 67), (1, .int a), (2, .int b), (3, .int c), (4, .int e)] [] (sM (sWi σ W) d M) := by
    intro n
    induction n with
    | zero =>
      intro k hkn hR
      have hk : k = 4 := by omega
      have hkN : k = N := hR
      refine V_iload o dX9_wishes_32 rfl ?_
      refine V_iconst (v := 4) o dX9_wishes_34 (by decide) ?_
      refine V_icmp_ge (tgt := 54) o dX9_wishes_35 (by decide) (fun c_35 => ?_) (fun c_35 => False.elim (c_35 (by rw [hk]; exact Int32.le_refl _)))
      rw [hkN]
      exact mid
    | succ n ih =>
      intro k hkn hR
      rw [wiN] at hR
      refine V_iload o dX9_wishes_32 rfl ?_
      refine V_iconst (v := 4) o dX9_wishes_34 (by decide) ?_
      refine V_icmp_ge (tgt := 54) o dX9_wishes_35 (by decide) (fun c_35 => False.elim (absurd c_35 (nI_ge (b := 4) (by omega) (by omega)))) (fun c_35 => ?_)
      refine V_aload_n o dX9_wishes_38 rfl rfl ?_
      refine V_getR (t := 74) o dX9_wishes_39 rfl fl_X9_61 rfl ?_
      refine V_iload o dX9_wishes_42 rfl ?_
      refine V_ialdN 4 o dX9_wishes_44 rfl rfl rfl (by omega) rfl ?_
      refine V_if_eq (tgt := 54) o dX9_wishes_45 (by decide) (fun c_45 => ?_) (fun c_45 => ?_)
      · rw [if_pos (show W k = 0 from c_45)] at hR
        rw [hR]
        exact mid
      · refine V_iincV (v := nI (k + 1)) (ls' := [(5, _), (0, _), (1, _), (2, _), (3, _), (4, _)]) o dX9_wishes_48 rfl (ninc 1 rfl) (by decide) rfl ?_
        refine V_goto (tgt := 32) o dX9_wishes_51 (by decide) ?_
        rw [if_neg (show ¬ W k = 0 from c_45)] at hR
        exact ih (k + 1) (by omega) hR
  rw [show sM σ d M = sM (sWi σ (σ.1 74)) d M from by rw [sWi_of]]
  refine V_aload_n o dX9_wishes_0 rfl rfl ?_
  refine V_getR (t := 74) o dX9_wishes_1 rfl fl_X9_61 rfl ?_
  refine V_iconst (v := 0) o dX9_wishes_4 (by decide) ?_
  refine V_iload_n o dX9_wishes_5 rfl rfl ?_
  refine V_iastN 4 o dX9_wishes_6 rfl rfl (show (0 : Int32) = nI 0 from rfl) (by omega) rfl ?_
  rw [wI_sM74, wI_sWi]
  refine V_aload_n o dX9_wishes_7 rfl rfl ?_
  refine V_getR (t := 74) o dX9_wishes_8 rfl fl_X9_61 rfl ?_
  refine V_iconst (v := 1) o dX9_wishes_11 (by decide) ?_
  refine V_iload_n o dX9_wishes_12 rfl rfl ?_
  refine V_iastN 4 o dX9_wishes_13 rfl rfl (show (1 : Int32) = nI 1 from rfl) (by omega) rfl ?_
  rw [wI_sM74, wI_sWi]
  refine V_aload_n o dX9_wishes_14 rfl rfl ?_
  refine V_getR (t := 74) o dX9_wishes_15 rfl fl_X9_61 rfl ?_
  refine V_iconst (v := 2) o dX9_wishes_18 (by decide) ?_
  refine V_iload_n o dX9_wishes_19 rfl rfl ?_
  refine V_iastN 4 o dX9_wishes_20 rfl rfl (show (2 : Int32) = nI 2 from rfl) (by omega) rfl ?_
  rw [wI_sM74, wI_sWi]
  refine V_aload_n o dX9_wishes_21 rfl rfl ?_
  refine V_getR (t := 74) o dX9_wishes_22 rfl fl_X9_61 rfl ?_
  refine V_iconst (v := 3) o dX9_wishes_25 (by decide) ?_
  refine V_iload o dX9_wishes_26 rfl ?_
  refine V_iastN 4 o dX9_wishes_28 rfl rfl (show (3 : Int32) = nI 3 from rfl) (by omega) rfl ?_
  rw [wI_sM74, wI_sWi, show upd (upd (upd (upd (σ.1 74) 0 a) 1 b) 2 c) 3 e = W from hW]
  refine V_iconst (v := 0) o dX9_wishes_29 (by decide) ?_
  refine V_istore (ls' := [(5, _), (0, _), (1, _), (2, _), (3, _), (4, _)]) o dX9_wishes_30 (by decide) rfl ?_
  exact loop1 4 0 (by omega) hNe
set_option maxRecDepth 20000 in
set_option maxHeartbeats 4000000 in
theorem c9_isAsWished {w : Wp} (hf : Fit sh0 w) {σ : Mm} {d : Nat} {M : Nat → Int32} (hd : σ.1 67 8 = nI d) (hd4 : d ≤ 423) {k : Int32} {N : Nat} (hk : k = nI N) (hN : N ≤ 4) : Cf sh0 w 1 mX9_isAsWished [.ref 67, .int k] (sM σ d M) (some (.int (bz (asW M (σ.1 74) N = true)))) (sM σ d M) := by
  subst hk
  refine Ct_of hf (by decide) rfl (Nat.le_of_ble_eq_true rfl) (fun x o rt => ?_)
  have loop : ∀ n i (c0 : Bool), i + n = N → itr (asF M (σ.1 74)) i n c0 = asW M (σ.1 74) N → V sh0 w x mX9_isAsWished (0, 0) 17 [(3, .int (nI i)), (2, .int (bz (c0 = true))), (0, .ref 67), (1, .int (nI N))] [] (sM σ d M) := by
    intro n
    induction n with
    | zero =>
      intro i c0 hin hR
      have hi : i = N := by omega
      have hc0 : c0 = asW M (σ.1 74) N := hR
      refine V_iload_n o dX9_isAsWished_17 rfl rfl ?_
      refine V_iload_n o dX9_isAsWished_18 rfl rfl ?_
      refine V_icmp_ge (tgt := 54) o dX9_isAsWished_19 (by decide) (fun c_19 => ?_) (fun c_19 => False.elim (c_19 (by rw [hi]; exact Int32.le_refl _)))
      refine V_iload_n o dX9_isAsWished_54 rfl rfl ?_
      refine V_iret o rt dX9_isAsWished_55 rfl (by first | rfl | exact bz_z) ?_
      exact ⟨by rw [hc0], rfl⟩
    | succ n ih =>
      intro i c0 hin hR
      rw [itr_succ] at hR
      have step : ∀ v, v = bz (asF M (σ.1 74) i c0 = true) → V sh0 w x mX9_isAsWished (0, 0) 47 [(3, .int (nI i)), (2, .int (bz (c0 = true))), (0, .ref 67), (1, .int (nI N))] [.int v] (sM σ d M) := by
        intro v hv
        subst hv
        refine V_istore_n (ls' := [(2, _), (3, _), (0, _), (1, _)]) o dX9_isAsWished_47 rfl (by decide) rfl ?_
        refine V_iincV (v := nI (i + 1)) (ls' := [(3, _), (2, _), (0, _), (1, _)]) o dX9_isAsWished_48 rfl (ninc 1 rfl) (by decide) rfl ?_
        refine V_goto (tgt := 17) o dX9_isAsWished_51 (by decide) ?_
        exact V_sub (by simp) (ih (i + 1) (asF M (σ.1 74) i c0) (by omega) hR)
      refine V_iload_n o dX9_isAsWished_17 rfl rfl ?_
      refine V_iload_n o dX9_isAsWished_18 rfl rfl ?_
      refine V_icmp_ge (tgt := 54) o dX9_isAsWished_19 (by decide) (fun c_19 => False.elim (absurd c_19 (nI_ge (by omega) (by omega)))) (fun c_19 => ?_)
      refine V_iload_n o dX9_isAsWished_22 rfl rfl ?_
      refine V_if_eq (tgt := 46) o dX9_isAsWished_23 (by decide) (fun c_23 => ?_) (fun c_23 => ?_)
      · refine V_iconst (v := 0) o dX9_isAsWished_46 (by decide) ?_
        refine step _ ?_
        first
          | (have h0 := bz_0.mp c_23; rw [bz_f]; rw [asF]; simp_all; done)
          | (have h0 := bz_n0.mp c_23; have h2 : ¬ M (1 + i) = σ.1 74 i := c_39; rw [bz_f]; rw [asF, h0, decide_eq_false h2]; decide)
          | (have h0 := bz_n0.mp c_23; have h2 : M (1 + i) = σ.1 74 i := c_39; rw [bz_t]; rw [asF, h0, decide_eq_true h2]; decide)
      · refine V_aload_n o dX9_isAsWished_26 rfl rfl ?_
        refine V_iconst (v := 1) o dX9_isAsWished_27 (by decide) ?_
        refine V_iload_n o dX9_isAsWished_28 rfl rfl ?_
        refine V_iadd o dX9_isAsWished_29 ?_
        refine V_cVi o rt dX9_isAsWished_30 ml_X9_85 (c9_of hf (by exact hd) (nadd (show (1 : Int32) = nI 1 from rfl) rfl) (by omega)) rfl rfl rfl (Nat.le_of_ble_eq_true rfl) rfl ?_
        refine V_aload_n o dX9_isAsWished_33 rfl rfl ?_
        refine V_getR (t := 74) o dX9_isAsWished_34 rfl fl_X9_61 rfl ?_
        refine V_iload_n o dX9_isAsWished_37 rfl rfl ?_
        refine V_ialdN 4 o dX9_isAsWished_38 rfl rfl rfl (by omega) rfl ?_
        refine V_icmp_ne (tgt := 46) o dX9_isAsWished_39 (by decide) (fun c_39 => ?_) (fun c_39 => ?_)
        · refine V_iconst (v := 0) o dX9_isAsWished_46 (by decide) ?_
          refine step _ ?_
          first
            | (have h0 := bz_0.mp c_23; rw [bz_f]; rw [asF]; simp_all; done)
            | (have h0 := bz_n0.mp c_23; have h2 : ¬ M (1 + i) = σ.1 74 i := c_39; rw [bz_f]; rw [asF, h0, decide_eq_false h2]; decide)
            | (have h0 := bz_n0.mp c_23; have h2 : M (1 + i) = σ.1 74 i := c_39; rw [bz_t]; rw [asF, h0, decide_eq_true h2]; decide)
        · refine V_iconst (v := 1) o dX9_isAsWished_42 (by decide) ?_
          refine V_goto (tgt := 47) o dX9_isAsWished_43 (by decide) ?_
          refine step _ ?_
          first
            | (have h0 := bz_0.mp c_23; rw [bz_f]; rw [asF]; simp_all; done)
            | (have h0 := bz_n0.mp c_23; have h2 : ¬ M (1 + i) = σ.1 74 i := c_39; rw [bz_f]; rw [asF, h0, decide_eq_false h2]; decide)
            | (have h0 := bz_n0.mp c_23; have h2 : M (1 + i) = σ.1 74 i := c_39; rw [bz_t]; rw [asF, h0, decide_eq_true h2]; decide)
  refine V_iload_n o dX9_isAsWished_0 rfl rfl ?_
  refine V_aload_n o dX9_isAsWished_1 rfl rfl ?_
  refine V_iconst (v := 0) o dX9_isAsWished_2 (by decide) ?_
  refine V_cVi o rt dX9_isAsWished_3 ml_X9_85 (c9_of hf (by exact hd) (show (0 : Int32) = nI 0 from rfl) (by omega)) rfl rfl rfl (Nat.le_of_ble_eq_true rfl) rfl ?_
  refine V_icmp_ne (tgt := 13) o dX9_isAsWished_6 (by decide) (fun c_6 => ?_) (fun c_6 => ?_)
  · refine V_iconst (v := 0) o dX9_isAsWished_13 (by decide) ?_
    refine V_istore_n (ls' := [(2, _), (0, _), (1, _)]) o dX9_isAsWished_14 rfl (by decide) rfl ?_
    refine V_iconst (v := 0) o dX9_isAsWished_15 (by decide) ?_
    refine V_istore_n (ls' := [(3, _), (2, _), (0, _), (1, _)]) o dX9_isAsWished_16 rfl (by decide) rfl ?_
    have h0 := loop N 0 (decide (nI N = M 0)) (by omega) rfl
    first
      | (rw [bz_f (by simpa using c_6)] at h0; exact h0)
      | (rw [bz_t (by simpa using c_6)] at h0; exact h0)
  · refine V_iconst (v := 1) o dX9_isAsWished_9 (by decide) ?_
    refine V_goto (tgt := 14) o dX9_isAsWished_10 (by decide) ?_
    refine V_istore_n (ls' := [(2, _), (0, _), (1, _)]) o dX9_isAsWished_14 rfl (by decide) rfl ?_
    refine V_iconst (v := 0) o dX9_isAsWished_15 (by decide) ?_
    refine V_istore_n (ls' := [(3, _), (2, _), (0, _), (1, _)]) o dX9_isAsWished_16 rfl (by decide) rfl ?_
    have h0 := loop N 0 (decide (nI N = M 0)) (by omega) rfl
    first
      | (rw [bz_f (by simpa using c_6)] at h0; exact h0)
      | (rw [bz_t (by simpa using c_6)] at h0; exact h0)
set_option maxRecDepth 20000 in
set_option maxHeartbeats 4000000 in
theorem c9_laysWished {w : Wp} (hf : Fit sh0 w) {σ : Mm} {d : Nat} {M : Nat → Int32} (hd : σ.1 67 8 = nI d) (hd4 : d ≤ 423) {k : Int32} {N : Nat} (hk : k = nI N) (hW : Wf (wiM M (σ.1 74) N) N) : Cf sh0 w 5 mX9_laysWished [.ref 67, .int k] (sM σ d M) none (sM σ d (layAllM (wiM M (σ.1 74) N) N)) := by
  subst hk
  generalize hS : wiM M (σ.1 74) N = S at hW
  unfold wiM at hS
  refine Ct_of hf (by decide) rfl (Nat.le_of_ble_eq_true rfl) (fun x o rt => ?_)
  have loop : ∀ n i (M' : Nat → Int32), i + n = 4 → itr (fun k M => uM M (1 + k) (σ.1 74 k)) i n M' = S → V sh0 w x mX9_laysWished (0, 0) 8 [(2, .int (nI i)), (0, .ref 67), (1, .int (nI N))] [] (sM σ d M') := by
    intro n
    induction n with
    | zero =>
      intro i M' hin hR
      have hi : i = 4 := by omega
      have hM : M' = S := hR
      subst hM
      refine V_iload_n o dX9_laysWished_8 rfl rfl ?_
      refine V_iconst (v := 4) o dX9_laysWished_9 (by decide) ?_
      refine V_icmp_ge (tgt := 32) o dX9_laysWished_10 (by decide) (fun c_10 => ?_) (fun c_10 => False.elim (c_10 (by rw [hi]; exact Int32.le_refl _)))
      refine V_aload_n o dX9_laysWished_32 rfl rfl ?_
      refine V_cVv o rt dX9_laysWished_33 ml_X9_166 (c9_laysAll hf (by exact hd) hd4 hW) rfl rfl rfl (Nat.le_of_ble_eq_true rfl) rfl ?_
      refine V_ret o rt dX9_laysWished_36 rfl ?_
      exact ⟨rfl, rfl⟩
    | succ n ih =>
      intro i M' hin hR
      rw [itr_succ] at hR
      refine V_iload_n o dX9_laysWished_8 rfl rfl ?_
      refine V_iconst (v := 4) o dX9_laysWished_9 (by decide) ?_
      refine V_icmp_ge (tgt := 32) o dX9_laysWished_10 (by decide) (fun c_10 => False.elim (absurd c_10 (nI_ge (b := 4) (by omega) (by omega)))) (fun c_10 => ?_)
      refine V_aload_n o dX9_laysWished_13 rfl rfl ?_
      refine V_iconst (v := 1) o dX9_laysWished_14 (by decide) ?_
      refine V_iload_n o dX9_laysWished_15 rfl rfl ?_
      refine V_iadd o dX9_laysWished_16 ?_
      refine V_aload_n o dX9_laysWished_17 rfl rfl ?_
      refine V_getR (t := 74) o dX9_laysWished_18 rfl fl_X9_61 rfl ?_
      refine V_iload_n o dX9_laysWished_21 rfl rfl ?_
      refine V_ialdN 4 o dX9_laysWished_22 rfl rfl rfl (by omega) rfl ?_
      refine V_cVv o rt dX9_laysWished_23 ml_X9_76 (c9_puts hf (by exact hd) (nadd (show (1 : Int32) = nI 1 from rfl) rfl) (by omega)) rfl rfl rfl (Nat.le_of_ble_eq_true rfl) rfl ?_
      refine V_iincV (v := nI (i + 1)) (ls' := [(2, _), (0, _), (1, _)]) o dX9_laysWished_26 rfl (ninc 1 rfl) (by decide) rfl ?_
      refine V_goto (tgt := 8) o dX9_laysWished_29 (by decide) ?_
      exact ih (i + 1) (uM M' (1 + i) (σ.1 74 i)) (by omega) hR
  refine V_aload_n o dX9_laysWished_0 rfl rfl ?_
  refine V_iconst (v := 0) o dX9_laysWished_1 (by decide) ?_
  refine V_iload_n o dX9_laysWished_2 rfl rfl ?_
  refine V_cVv o rt dX9_laysWished_3 ml_X9_76 (c9_puts hf (by exact hd) (show (0 : Int32) = nI 0 from rfl) (by omega)) rfl rfl rfl (Nat.le_of_ble_eq_true rfl) rfl ?_
  refine V_iconst (v := 0) o dX9_laysWished_6 (by decide) ?_
  refine V_istore_n (ls' := [(2, _), (0, _), (1, _)]) o dX9_laysWished_7 rfl (by decide) rfl ?_
  exact loop 4 0 (uM M 0 (nI N)) (by omega) hS
