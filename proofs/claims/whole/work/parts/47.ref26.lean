def spF (L : Nat) (due gap : Int32) (g : Nat → Nat) (k : Nat) (s : (Nat → Int32) × Int32) : (Nat → Int32) × Int32 :=
  (layM (uM s.1 (231 + g k) (due + nI k * gap)) L (g k), s.2 + bz (s.1 (231 + g k) ≠ due + nI k * gap))
def spS (M : Nat → Int32) (L : Nat) (gap : Int32) (LN : (Nat → Nat) × Nat) : (Nat → Int32) × Int32 := itr (spF L (M (231 + LN.1 0)) gap LN.1) 0 LN.2 (M, 0)
set_option maxRecDepth 20000 in
set_option maxHeartbeats 4000000 in
theorem c9_spreads {w : Wp} (hf : Fit sh0 w) {σ : Mm} {M : Nat → Int32} (hd : σ.1 67 8 = nI 0) {L : Nat} (hW : Wf M L) {k gap : Int32} (hk : inR k 0 7) (hgp : inR gap 0 1000) {LN : (Nat → Nat) × Nat} (hLN : lineM M true (hoP k M) = LN) {S : (Nat → Int32) × Int32} (hS : spS M L gap LN = S) : Ct sh0 w 5 mX9_spreads [.ref 67, .int k, .int gap] (sM σ 0 M) (fun r' σ' => if LN.2 < 2 then r' = some (.int (-2)) ∧ ∃ fl, σ' = sM (sLn (wI σ 67 0 0) fl LN.2) 0 M else ∃ fl fr, r' = some (.int S.2) ∧ σ' = sM (sRw (sLn (wI σ 67 0 0) fl LN.2) fr 1) 0 S.1 ∧ RwR fr [(S.1 (231 + LN.1 (LN.2 - 1))).toInt64]) := by
  have hd4 : 0 ≤ 423 := Nat.zero_le _
  have hle : LN.2 ≤ 16 := by rw [← hLN]; exact lineM_le
  unfold lineM at hLN
  unfold spS at hS
  refine Ct_of hf (by decide) rfl (Nat.le_of_ble_eq_true rfl) (fun x o rt => ?_)
  have main : ∀ (f : Nat → Int32), (∀ j, j < LN.2 → f j = nI (LN.1 j) ∧ LN.1 j < 16) → V sh0 w x mX9_spreads (0, 0) 72 [(0, .ref 67), (1, .int k), (2, .int gap)] [] (sM (sLn (wI σ 67 0 0) f LN.2) 0 M) := by
    intro f hfg
    by_cases h2 : LN.2 < 2
    · refine V_aload_n o dX9_spreads_72 rfl rfl ?_
      refine V_getIE (v := nI (LN.2)) o dX9_spreads_73 rfl fl_X9_109 rfl rfl ?_
      refine V_iconst (v := 2) o dX9_spreads_76 (by decide) ?_
      refine V_icmp_ge (tgt := 83) o dX9_spreads_77 (by decide) (fun c_77 => False.elim (absurd c_77 (nI_ge (b := 2) h2 (by omega)))) (fun c_77 => ?_)
      refine V_bipush (v := -2) o dX9_spreads_80 (by decide) ?_
      refine V_iret o rt dX9_spreads_82 rfl rfl ?_
      rw [if_pos h2]
      exact ⟨rfl, f, rfl⟩
    · have loop : ∀ n i (s : (Nat → Int32) × Int32), i + n = LN.2 → Wf s.1 L → itr (spF L (M (231 + LN.1 0)) gap LN.1) i n s = S → V sh0 w x mX9_spreads (0, 0) 104 [(5, .int (nI i)), (4, .int (M (231 + LN.1 0))), (3, .int s.2), (0, .ref 67), (1, .int k), (2, .int gap)] [] (sM (sLn (wI σ 67 0 0) f LN.2) 0 s.1) := by
        intro n
        induction n with
        | zero =>
          intro i s hin hW hR
          have hs : s = S := hR
          subst hs
          have hgl := hfg (LN.2 - 1) (by omega)
          have hg6 := hgl.2
          refine V_iload o dX9_spreads_104 rfl ?_
          refine V_aload_n o dX9_spreads_106 rfl rfl ?_
          refine V_getIE (v := nI (LN.2)) o dX9_spreads_107 rfl fl_X9_109 rfl rfl ?_
          refine V_icmp_ge (tgt := 187) o dX9_spreads_110 (by decide) (fun c_110 => ?_) (fun c_110 => False.elim (c_110 (nI_le (by omega) (by omega))))
          refine V_aload_n o dX9_spreads_187 rfl rfl ?_
          refine V_iconst (v := 0) o dX9_spreads_188 (by decide) ?_
          refine V_putI o dX9_spreads_189 rfl fl_X9_11 rfl rfl rfl ?_
          rw [wI_sM67]
          rw [wI_sRw0]
          refine V_aload_n o dX9_spreads_192 rfl rfl ?_
          refine V_aload_n o dX9_spreads_193 rfl rfl ?_
          refine V_sipush (v := 231) o dX9_spreads_194 (by decide) ?_
          refine V_aload_n o dX9_spreads_197 rfl rfl ?_
          refine V_getR (t := 71) o dX9_spreads_198 rfl fl_X9_52 rfl ?_
          refine V_aload_n o dX9_spreads_201 rfl rfl ?_
          refine V_getIE (v := nI (LN.2)) o dX9_spreads_202 rfl fl_X9_109 rfl rfl ?_
          refine V_iconst (v := 1) o dX9_spreads_205 (by decide) ?_
          refine V_isub o dX9_spreads_206 ?_
          refine V_ialdE (v := nI (LN.1 (LN.2 - 1))) 16 o dX9_spreads_207 rfl rfl (show nI LN.2 - 1 = nI (LN.2 - 1) by rw [show LN.2 = (LN.2 - 1) + 1 by omega]; exact nI_pred _) (by omega) rfl hgl.1 ?_
          refine V_iadd o dX9_spreads_208 ?_
          refine V_cVi o rt dX9_spreads_209 ml_X9_85 (c9_of hf (by exact hd) (nadd (show (231 : Int32) = nI 231 from rfl) rfl) (by omega)) rfl rfl rfl (Nat.le_of_ble_eq_true rfl) rfl ?_
          refine V_i2l o dX9_spreads_212 ?_
          refine V_cVv o rt dX9_spreads_213 ml_X9_153 (c9_enters hf (by omega)) rfl rfl rfl (Nat.le_of_ble_eq_true rfl) rfl ?_
          refine V_iload_n o dX9_spreads_216 rfl rfl ?_
          refine V_iret o rt dX9_spreads_217 rfl rfl ?_
          rw [if_neg h2]
          exact ⟨f, _, rfl, rfl, RwR_push (l := []) rfl RwR_nil⟩
        | succ n ih =>
          intro i s hin hW hR
          rw [itr_succ] at hR
          have hgi := hfg i (by omega)
          have hg6 := hgi.2
          refine V_iload o dX9_spreads_104 rfl ?_
          refine V_aload_n o dX9_spreads_106 rfl rfl ?_
          refine V_getIE (v := nI (LN.2)) o dX9_spreads_107 rfl fl_X9_109 rfl rfl ?_
          refine V_icmp_ge (tgt := 187) o dX9_spreads_110 (by decide) (fun c_110 => False.elim (absurd c_110 (nI_ge (by omega) (by omega)))) (fun c_110 => ?_)
          refine V_iload o dX9_spreads_113 rfl ?_
          refine V_iload o dX9_spreads_115 rfl ?_
          refine V_iload_n o dX9_spreads_117 rfl rfl ?_
          refine V_imul o dX9_spreads_118 ?_
          refine V_iadd o dX9_spreads_119 ?_
          refine V_istore (ls' := [(6, _), (5, _), (4, _), (3, _), (0, _), (1, _), (2, _)]) o dX9_spreads_120 (by decide) rfl ?_
          refine V_iload_n o dX9_spreads_122 rfl rfl ?_
          refine V_aload_n o dX9_spreads_123 rfl rfl ?_
          refine V_sipush (v := 231) o dX9_spreads_124 (by decide) ?_
          refine V_aload_n o dX9_spreads_127 rfl rfl ?_
          refine V_getR (t := 71) o dX9_spreads_128 rfl fl_X9_52 rfl ?_
          refine V_iload o dX9_spreads_131 rfl ?_
          refine V_ialdE (v := nI (LN.1 i)) 16 o dX9_spreads_133 rfl rfl rfl (by omega) rfl hgi.1 ?_
          refine V_iadd o dX9_spreads_134 ?_
          refine V_cVi o rt dX9_spreads_135 ml_X9_85 (c9_of hf (by exact hd) (nadd (show (231 : Int32) = nI 231 from rfl) rfl) (by omega)) rfl rfl rfl (Nat.le_of_ble_eq_true rfl) rfl ?_
          refine V_iload o dX9_spreads_138 rfl ?_
          refine V_icmp_eq (tgt := 147) o dX9_spreads_140 (by decide) (fun c_140 => ?_) (fun c_140 => ?_)
          · refine V_iconst (v := 0) o dX9_spreads_147 (by decide) ?_
            refine V_cSi o rt dX9_spreads_148 ms_X9_31 (c9_flag hf (by simp)) rfl rfl (Nat.le_of_ble_eq_true rfl) rfl ?_
            refine V_iadd o dX9_spreads_151 ?_
            refine V_istore_n (ls' := [(3, _), (6, _), (5, _), (4, _), (0, _), (1, _), (2, _)]) o dX9_spreads_152 rfl (by decide) rfl ?_
            refine V_aload_n o dX9_spreads_153 rfl rfl ?_
            refine V_sipush (v := 231) o dX9_spreads_154 (by decide) ?_
            refine V_aload_n o dX9_spreads_157 rfl rfl ?_
            refine V_getR (t := 71) o dX9_spreads_158 rfl fl_X9_52 rfl ?_
            refine V_iload o dX9_spreads_161 rfl ?_
            refine V_ialdE (v := nI (LN.1 i)) 16 o dX9_spreads_163 rfl rfl rfl (by omega) rfl hgi.1 ?_
            refine V_iadd o dX9_spreads_164 ?_
            refine V_iload o dX9_spreads_165 rfl ?_
            refine V_cVv o rt dX9_spreads_167 ml_X9_76 (c9_puts hf (by exact hd) (nadd (show (231 : Int32) = nI 231 from rfl) rfl) (by omega)) rfl rfl rfl (Nat.le_of_ble_eq_true rfl) rfl ?_
            refine V_aload_n o dX9_spreads_170 rfl rfl ?_
            refine V_aload_n o dX9_spreads_171 rfl rfl ?_
            refine V_getR (t := 71) o dX9_spreads_172 rfl fl_X9_52 rfl ?_
            refine V_iload o dX9_spreads_175 rfl ?_
            refine V_ialdE (v := nI (LN.1 i)) 16 o dX9_spreads_177 rfl rfl rfl (by omega) rfl hgi.1 ?_
            refine V_cVv o rt dX9_spreads_178 ml_X9_102 (c9_lays hf (by exact hd) hd4 (Wf_uM hW (by omega)) rfl hg6) rfl rfl rfl (Nat.le_of_ble_eq_true rfl) rfl ?_
            refine V_iincV (v := nI (i + 1)) (ls' := [(5, _), (3, _), (6, _), (4, _), (0, _), (1, _), (2, _)]) o dX9_spreads_181 rfl (ninc 1 rfl) (by decide) rfl ?_
            refine V_goto (tgt := 104) o dX9_spreads_184 (by decide) ?_
            rw [spF, bz_f (fun q => q c_140)] at hR
            exact V_sub (by simp) (ih (i + 1) (layM (uM s.1 (231 + LN.1 i) (M (231 + LN.1 0) + nI i * gap)) L (LN.1 i), s.2 + 0) (by omega) (Wf_lay (Wf_uM hW (by omega))) hR)
          · refine V_iconst (v := 1) o dX9_spreads_143 (by decide) ?_
            refine V_goto (tgt := 148) o dX9_spreads_144 (by decide) ?_
            refine V_cSi o rt dX9_spreads_148 ms_X9_31 (c9_flag hf (by simp)) rfl rfl (Nat.le_of_ble_eq_true rfl) rfl ?_
            refine V_iadd o dX9_spreads_151 ?_
            refine V_istore_n (ls' := [(3, _), (6, _), (5, _), (4, _), (0, _), (1, _), (2, _)]) o dX9_spreads_152 rfl (by decide) rfl ?_
            refine V_aload_n o dX9_spreads_153 rfl rfl ?_
            refine V_sipush (v := 231) o dX9_spreads_154 (by decide) ?_
            refine V_aload_n o dX9_spreads_157 rfl rfl ?_
            refine V_getR (t := 71) o dX9_spreads_158 rfl fl_X9_52 rfl ?_
            refine V_iload o dX9_spreads_161 rfl ?_
            refine V_ialdE (v := nI (LN.1 i)) 16 o dX9_spreads_163 rfl rfl rfl (by omega) rfl hgi.1 ?_
            refine V_iadd o dX9_spreads_164 ?_
            refine V_iload o dX9_spreads_165 rfl ?_
            refine V_cVv o rt dX9_spreads_167 ml_X9_76 (c9_puts hf (by exact hd) (nadd (show (231 : Int32) = nI 231 from rfl) rfl) (by omega)) rfl rfl rfl (Nat.le_of_ble_eq_true rfl) rfl ?_
            refine V_aload_n o dX9_spreads_170 rfl rfl ?_
            refine V_aload_n o dX9_spreads_171 rfl rfl ?_
            refine V_getR (t := 71) o dX9_spreads_172 rfl fl_X9_52 rfl ?_
            refine V_iload o dX9_spreads_175 rfl ?_
            refine V_ialdE (v := nI (LN.1 i)) 16 o dX9_spreads_177 rfl rfl rfl (by omega) rfl hgi.1 ?_
            refine V_cVv o rt dX9_spreads_178 ml_X9_102 (c9_lays hf (by exact hd) hd4 (Wf_uM hW (by omega)) rfl hg6) rfl rfl rfl (Nat.le_of_ble_eq_true rfl) rfl ?_
            refine V_iincV (v := nI (i + 1)) (ls' := [(5, _), (3, _), (6, _), (4, _), (0, _), (1, _), (2, _)]) o dX9_spreads_181 rfl (ninc 1 rfl) (by decide) rfl ?_
            refine V_goto (tgt := 104) o dX9_spreads_184 (by decide) ?_
            rw [spF, bz_t c_140] at hR
            exact V_sub (by simp) (ih (i + 1) (layM (uM s.1 (231 + LN.1 i) (M (231 + LN.1 0) + nI i * gap)) L (LN.1 i), s.2 + 1) (by omega) (Wf_lay (Wf_uM hW (by omega))) hR)
      have hg0 := hfg 0 (by omega)
      have hg06 := hg0.2
      refine V_aload_n o dX9_spreads_72 rfl rfl ?_
      refine V_getIE (v := nI (LN.2)) o dX9_spreads_73 rfl fl_X9_109 rfl rfl ?_
      refine V_iconst (v := 2) o dX9_spreads_76 (by decide) ?_
      refine V_icmp_ge (tgt := 83) o dX9_spreads_77 (by decide) (fun c_77 => ?_) (fun c_77 => False.elim (c_77 (nI_le (a := 2) (by omega) (by omega))))
      refine V_iconst (v := 0) o dX9_spreads_83 (by decide) ?_
      refine V_istore_n (ls' := [(3, _), (0, _), (1, _), (2, _)]) o dX9_spreads_84 rfl (by decide) rfl ?_
      refine V_aload_n o dX9_spreads_85 rfl rfl ?_
      refine V_sipush (v := 231) o dX9_spreads_86 (by decide) ?_
      refine V_aload_n o dX9_spreads_89 rfl rfl ?_
      refine V_getR (t := 71) o dX9_spreads_90 rfl fl_X9_52 rfl ?_
      refine V_iconst (v := 0) o dX9_spreads_93 (by decide) ?_
      refine V_ialdE (v := nI (LN.1 0)) 16 o dX9_spreads_94 rfl rfl (show (0 : Int32) = nI 0 from rfl) (by omega) rfl hg0.1 ?_
      refine V_iadd o dX9_spreads_95 ?_
      refine V_cVi o rt dX9_spreads_96 ml_X9_85 (c9_of hf (by exact hd) (nadd (show (231 : Int32) = nI 231 from rfl) rfl) (by omega)) rfl rfl rfl (Nat.le_of_ble_eq_true rfl) rfl ?_
      refine V_istore (ls' := [(4, _), (3, _), (0, _), (1, _), (2, _)]) o dX9_spreads_99 (by decide) rfl ?_
      refine V_iconst (v := 0) o dX9_spreads_101 (by decide) ?_
      refine V_istore (ls' := [(5, _), (4, _), (3, _), (0, _), (1, _), (2, _)]) o dX9_spreads_102 (by decide) rfl ?_
      exact V_sub (by simp; rfl) (loop LN.2 0 (M, 0) (by omega) hW hS)
  have line : ∀ n t (f : Nat → Int32) (s : (Nat → Nat) × Nat), t + n = 16 → s.2 ≤ t → (∀ j, j < s.2 → f j = nI (s.1 j) ∧ s.1 j < 16) → itr (lnF M true (hoP k M)) t n s = LN → V sh0 w x mX9_spreads (0, 0) 33 [(3, .int (nI t)), (0, .ref 67), (1, .int k), (2, .int gap)] [] (sM (sLn (wI σ 67 0 0) f s.2) 0 M) := by
    intro n
    induction n with
    | zero =>
      intro t f s htn hst hfg hR
      have ht : t = 16 := by omega
      have hs : s = LN := hR
      subst hs
      refine V_iload_n o dX9_spreads_33 rfl rfl ?_
      refine V_bipush (v := 16) o dX9_spreads_34 (by decide) ?_
      refine V_icmp_ge (tgt := 72) o dX9_spreads_36 (by decide) (fun c_36 => ?_) (fun c_36 => False.elim (c_36 (by rw [ht]; exact Int32.le_refl _)))
      exact V_drop (main f hfg)
    | succ n ih =>
      intro t f s htn hst hfg hR
      rw [itr_succ] at hR
      refine V_iload_n o dX9_spreads_33 rfl rfl ?_
      refine V_bipush (v := 16) o dX9_spreads_34 (by decide) ?_
      refine V_icmp_ge (tgt := 72) o dX9_spreads_36 (by decide) (fun c_36 => False.elim (absurd c_36 (nI_ge (b := 16) (by omega) (by omega)))) (fun c_36 => ?_)
      refine V_aload_n o dX9_spreads_39 rfl rfl ?_
      refine V_iload_n o dX9_spreads_40 rfl rfl ?_
      refine V_cVi o rt dX9_spreads_41 ml_X9_99 (c9_goes hf (by exact hd) hd4 rfl (by omega)) rfl rfl rfl (Nat.le_of_ble_eq_true rfl) rfl ?_
      refine V_if_eq (tgt := 66) o dX9_spreads_44 (by decide) (fun c_44 => ?_) (fun c_44 => ?_)
      · refine V_iincV (v := nI (t + 1)) (ls' := [(3, _), (0, _), (1, _), (2, _)]) o dX9_spreads_66 rfl (ninc 1 rfl) (by decide) rfl ?_
        refine V_goto (tgt := 33) o dX9_spreads_69 (by decide) ?_
        rw [lnF, if_neg (by rw [hoP, decide_eq_true_eq]; exact fun h => bz_0.mp c_44 h.1)] at hR
        exact V_sub (by simp) (ih (t + 1) f s (by omega) (by omega) hfg hR)
      · refine V_aload_n o dX9_spreads_47 rfl rfl ?_
        refine V_sipush (v := 263) o dX9_spreads_48 (by decide) ?_
        refine V_iload_n o dX9_spreads_51 rfl rfl ?_
        refine V_iadd o dX9_spreads_52 ?_
        refine V_cVi o rt dX9_spreads_53 ml_X9_85 (c9_of hf (by exact hd) (nadd (show (263 : Int32) = nI 263 from rfl) rfl) (by omega)) rfl rfl rfl (Nat.le_of_ble_eq_true rfl) rfl ?_
        refine V_iload_n o dX9_spreads_56 rfl rfl ?_
        refine V_icmp_ne (tgt := 66) o dX9_spreads_57 (by decide) (fun c_57 => ?_) (fun c_57 => ?_)
        · refine V_iincV (v := nI (t + 1)) (ls' := [(3, _), (0, _), (1, _), (2, _)]) o dX9_spreads_66 rfl (ninc 1 rfl) (by decide) rfl ?_
          refine V_goto (tgt := 33) o dX9_spreads_69 (by decide) ?_
          rw [lnF, if_neg (by rw [hoP, decide_eq_true_eq]; exact fun h => c_57 h.2)] at hR
          exact V_sub (by simp) (ih (t + 1) f s (by omega) (by omega) hfg hR)
        · refine V_aload_n o dX9_spreads_60 rfl rfl ?_
          refine V_iload_n o dX9_spreads_61 rfl rfl ?_
          refine V_iconst (v := 1) o dX9_spreads_62 (by decide) ?_
          refine V_callV o rt dX9_spreads_63 ml_X9_142 (c9_queues (n := s.2) (g := s.1) hf (by exact hd) hd4 rfl (by omega) true rfl rfl (by omega) (fun j hj => ⟨(hfg j hj).1, (hfg j hj).2⟩)) rfl rfl rfl (Nat.le_of_ble_eq_true rfl) rfl (fun r_63 σ_63 q_63 => ?_)
          obtain ⟨rfl, f1, rfl, hf1⟩ := q_63
          rw [sLn_sLn]
          refine V_iincV (v := nI (t + 1)) (ls' := [(3, _), (0, _), (1, _), (2, _)]) o dX9_spreads_66 rfl (ninc 1 rfl) (by decide) rfl ?_
          refine V_goto (tgt := 33) o dX9_spreads_69 (by decide) ?_
          rw [lnF, if_pos (by rw [hoP, decide_eq_true_eq]; exact ⟨bz_n0.mp c_44, c_57⟩)] at hR
          exact V_sub (by simp) (ih (t + 1) f1 (qG (soonB M true) t s.2 s.1, s.2 + 1) (by omega) (Nat.succ_le_succ hst) (fun j hj => ⟨hf1 j hj, qG_lt (by omega) s.2 s.2 s.1 (Nat.le_refl _) (fun k hk hne => (hfg k (by omega)).2) j hj⟩) hR)
  refine V_aload_n o dX9_spreads_0 rfl rfl ?_
  refine V_iconst (v := 0) o dX9_spreads_1 (by decide) ?_
  refine V_putI o dX9_spreads_2 rfl fl_X9_1 rfl rfl rfl ?_
  rw [wI_sM67]
  refine V_iload_n o dX9_spreads_5 rfl rfl ?_
  refine V_cSi o rt dX9_spreads_6 ms_X9_225 (c9_isGroup hf) rfl rfl (Nat.le_of_ble_eq_true rfl) rfl ?_
  refine V_if_eq (tgt := 24) o dX9_spreads_9 (by decide) (fun c_9 => False.elim (bz_0.mp c_9 hk)) (fun c_9 => ?_)
  refine V_iload_n o dX9_spreads_12 rfl rfl ?_
  refine V_i2l o dX9_spreads_13 ?_
  refine V_lconst (v := 0) o dX9_spreads_14 (by decide) ?_
  refine V_ldc2 o dX9_spreads_15 kc_X9_205 ?_
  refine V_cSi o rt dX9_spreads_18 ms_X9_21 (c9_in hf) rfl rfl (Nat.le_of_ble_eq_true rfl) rfl ?_
  refine V_if_ne (tgt := 26) o dX9_spreads_21 (by decide) (fun c_21 => ?_) (fun c_21 => False.elim (bz_n0.mpr ((in_lo (k := gap) (lo := 0) (hi := 1000) (l := 0) (h := 1000) (by decide) (by decide)).mpr hgp) c_21))
  refine V_aload_n o dX9_spreads_26 rfl rfl ?_
  refine V_iconst (v := 0) o dX9_spreads_27 (by decide) ?_
  refine V_putI o dX9_spreads_28 rfl fl_X9_109 rfl rfl rfl ?_
  rw [wI_sM67]
  rw [wI_sLn0]
  refine V_iconst (v := 0) o dX9_spreads_31 (by decide) ?_
  refine V_istore_n (ls' := [(3, _), (0, _), (1, _), (2, _)]) o dX9_spreads_32 rfl (by decide) rfl ?_
  exact line 16 0 ((wI σ 67 0 0).1 71) (fun _ => 0, 0) (by omega) (Nat.le_refl 0) (fun j hj => absurd hj (Nat.not_lt_zero j)) hLN
set_option maxRecDepth 20000 in
set_option maxHeartbeats 4000000 in
theorem c9_spreads_no {w : Wp} (hf : Fit sh0 w) {σ : Mm} {M : Nat → Int32} (hd : σ.1 67 8 = nI 0) {k gap : Int32} (hc : ¬ (inR k 0 7 ∧ inR gap 0 1000)) : Cf sh0 w 5 mX9_spreads [.ref 67, .int k, .int gap] (sM σ 0 M) (some (.int (-1))) (sM (wI σ 67 0 0) 0 M) := by
  refine Ct_of hf (by decide) rfl (Nat.le_of_ble_eq_true rfl) (fun x o rt => ?_)
  refine V_aload_n o dX9_spreads_0 rfl rfl ?_
  refine V_iconst (v := 0) o dX9_spreads_1 (by decide) ?_
  refine V_putI o dX9_spreads_2 rfl fl_X9_1 rfl rfl rfl ?_
  rw [wI_sM67]
  refine V_iload_n o dX9_spreads_5 rfl rfl ?_
  refine V_cSi o rt dX9_spreads_6 ms_X9_225 (c9_isGroup hf) rfl rfl (Nat.le_of_ble_eq_true rfl) rfl ?_
  refine V_if_eq (tgt := 24) o dX9_spreads_9 (by decide) (fun c_9 => ?_) (fun c_9 => ?_)
  · refine V_iconst (v := -1) o dX9_spreads_24 (by decide) ?_
    refine V_iret o rt dX9_spreads_25 rfl rfl ?_
    exact ⟨rfl, rfl⟩
  · refine V_iload_n o dX9_spreads_12 rfl rfl ?_
    refine V_i2l o dX9_spreads_13 ?_
    refine V_lconst (v := 0) o dX9_spreads_14 (by decide) ?_
    refine V_ldc2 o dX9_spreads_15 kc_X9_205 ?_
    refine V_cSi o rt dX9_spreads_18 ms_X9_21 (c9_in hf) rfl rfl (Nat.le_of_ble_eq_true rfl) rfl ?_
    refine V_if_ne (tgt := 26) o dX9_spreads_21 (by decide) (fun c_21 => False.elim (hc ⟨bz_n0.mp c_9, (in_lo (k := gap) (lo := 0) (hi := 1000) (l := 0) (h := 1000) (by decide) (by decide)).mp (bz_n0.mp c_21)⟩)) (fun c_21 => ?_)
    refine V_iconst (v := -1) o dX9_spreads_24 (by decide) ?_
    refine V_iret o rt dX9_spreads_25 rfl rfl ?_
    exact ⟨rfl, rfl⟩
