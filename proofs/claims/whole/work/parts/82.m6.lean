theorem sp_last {M : Nat → Int32} {L : Nat} {d gap : Int32} {g : Nat → Nat} {n : Nat} (v : Int32) (hg : ∀ k, k < n + 1 → g k < 16) : (itr (spF L d gap g) 0 (n + 1) (M, v)).1 (231 + g n) = d + nI n * gap := by
  rw [itr_last, Nat.zero_add]
  unfold spF
  have := hg n (by omega)
  show layM _ _ _ _ = _
  rw [layM_ne (by omega), uM_self]
theorem spF_lo {L : Nat} {d gap : Int32} {g : Nat → Nat} {k j : Nat} {s : (Nat → Int32) × Int32} (h : j < 231 ∨ 247 ≤ j ∧ j < 391) (hg : g k < 16) : (spF L d gap g k s).1 j = s.1 j := by
  unfold spF
  show layM _ _ _ _ = _
  rw [layM_ne (by omega), uM_ne _ _ (by omega)]
theorem nI_mul1 {k : Nat} {d gap : Int32} : d + nI k * gap + gap = d + nI (k + 1) * gap := by
  rw [← nI_1, Int32.add_mul, Int32.one_mul, Int32.add_assoc]
set_option maxRecDepth 20000 in
set_option maxHeartbeats 4000000 in
theorem c8_putApart {w : Wp} (hf : Fit sh0 w) {σ : Mm} {M : Nat → Int32} {L r n : Nat} {l : List Int64} {T : Nat → Int32} (hK : KR M L r l T n σ) (hF : Wf M L) (hB : Bo M) {g : Nat → Nat} {K : Nat} (hl : LnR 2 g (K + 1) σ) (hpz : ∀ k, k < K + 1 → M (343 + g k) = 0) {gap d0 : Int32} (hd0 : M (231 + g 0) = d0) {S : (Nat → Int32) × Int32} (hS : itr (spF L d0 gap g) 0 (K + 1) (M, 0) = S) : Ct sh0 w 2 mX8_putApart [.ref 1, .ref 7, .int gap] σ (fun r' σ' => r' = some (.int S.2) ∧ Off 1 67 σ σ' ∧ KR (S.1) (L) r ([(d0 + nI K * gap).toInt64]) (T) (n) σ') := by
  have hL := hF.2.2.1
  have hW0 := hK.1
  have hn16 := hl.2.1
  have hg : ∀ k, k < K + 1 → g k < 16 := fun k hk => (hl.2.2 k hk).2
  refine Ct_of hf (by decide) rfl (Nat.le_of_ble_eq_true rfl) (fun x o rt => ?_)
  have loop : ∀ m k (τ : Mm) (N : Nat → Int32) (v dv : Int32), k + m = K + 1 → OffL 2 σ τ → WRel 2 N L τ → Wf N L → (∀ j, j < K + 1 → N (343 + g j) = 0) → Rst M N → (k = 0 → N (231 + g 0) = d0) → (∀ k', k = k' + 1 → dv = d0 + nI k' * gap) → itr (spF L d0 gap g) k m (N, v) = S → V sh0 w x mX8_putApart (0, 0) 8 [(5, .int (nI k)), (3, .int v), (4, .int dv), (0, .ref 1), (1, .ref 7), (2, .int gap)] [] τ := by
    intro m
    induction m with
    | zero =>
      intro k τ N v dv hkm ho hW hF hp hr h0 hdv hR
      have hkn : k = K + 1 := by omega
      have hl2 := hl.offL ho
      have hs : (N, v) = S := hR
      subst hs
      have hK2 : KR N L r l T n τ := hK.wk ho.off hW hr
      rw [hdv K hkn]
      refine V_iload o dX8_putApart_8 rfl ?_
      refine V_aload_n o dX8_putApart_10 rfl rfl ?_
      refine V_getIE (v := nI (K + 1)) o dX8_putApart_11 rfl fl_X8_202 rfl hl2.1 ?_
      refine V_icmp_ge (tgt := 89) o dX8_putApart_14 (by decide) (fun c_14 => ?_) (fun c_14 => False.elim (c_14 (nI_le (by omega) (by omega))))
      refine V_aload_n o dX8_putApart_89 rfl rfl ?_
      refine V_getR (t := 52) o dX8_putApart_90 rfl fl_X8_33 rfl ?_
      refine V_callV o rt dX8_putApart_93 ml_X8_209 (c3_empty hf) rfl rfl rfl (Nat.le_of_ble_eq_true rfl) rfl (fun r_93 σ_93 q_93 => ?_)
      obtain ⟨rfl, ho_93, hR_93⟩ := q_93
      show V sh0 w x mX8_putApart (0, 0) _ _ [] _
      refine V_aload_n o dX8_putApart_96 rfl rfl ?_
      refine V_getR (t := 52) o dX8_putApart_97 rfl fl_X8_33 rfl ?_
      refine V_iload o dX8_putApart_100 rfl ?_
      refine V_i2l o dX8_putApart_102 ?_
      refine V_callV o rt dX8_putApart_103 ml_X8_210 (c3_put hf hR_93 (by simp)) rfl rfl rfl (Nat.le_of_ble_eq_true rfl) rfl (fun r_103 σ_103 q_103 => ?_)
      obtain ⟨rfl, hp_103, hR_103⟩ := q_103
      have ho_103 := ho_93.tr hp_103
      show V sh0 w x mX8_putApart (0, 0) _ _ [] _
      refine V_iload_n o dX8_putApart_106 rfl rfl ?_
      refine V_iret o rt dX8_putApart_107 rfl rfl ?_
      exact ⟨rfl, (ho.off.wd (by omega) (by omega)).tr (ho_103.wd (by omega) (by omega)), hK2.rw hL ho_103 hR_103⟩
    | succ m ih =>
      intro k τ N v dv hkm ho hW hF hp hr h0 hdv hR
      have hk : k < K + 1 := by omega
      have hgk := hg k hk
      have hl2 := hl.offL ho
      rw [itr_succ] at hR
      obtain ⟨D, hD⟩ : ∃ D, d0 + nI k * gap = D := ⟨_, rfl⟩
      refine V_iload o dX8_putApart_8 rfl ?_
      refine V_aload_n o dX8_putApart_10 rfl rfl ?_
      refine V_getIE (v := nI (K + 1)) o dX8_putApart_11 rfl fl_X8_202 rfl hl2.1 ?_
      refine V_icmp_ge (tgt := 89) o dX8_putApart_14 (by decide) (fun c_14 => False.elim (absurd c_14 (nI_ge (by omega) (by omega)))) (fun c_14 => ?_)
      refine V_aload_n o dX8_putApart_17 rfl rfl ?_
      refine V_iload o dX8_putApart_18 rfl ?_
      refine V_cVr o rt dX8_putApart_20 ml_X8_297 (c1_at_2 hf hl2 hk) rfl rfl rfl (Nat.le_of_ble_eq_true rfl) rfl ?_
      refine V_astore (ls' := [(6, _), (5, _), (3, _), (4, _), (0, _), (1, _), (2, _)]) o dX8_putApart_23 (by decide) rfl ?_
      refine V_aload o dX8_putApart_25 rfl ?_
      refine V_ifnull_r o dX8_putApart_27 ?_
      refine V_iload o dX8_putApart_30 rfl ?_
      refine V_if_ne (tgt := 43) o dX8_putApart_32 (by decide) (fun c_32 => ?_) (fun c_32 => ?_)
      · refine V_iload o dX8_putApart_43 rfl ?_
        refine V_iload_n o dX8_putApart_45 rfl rfl ?_
        refine V_iadd o dX8_putApart_46 ?_
        refine V_topI (v' := D) (by obtain ⟨k', rfl⟩ : ∃ k', k = k' + 1 := ⟨k - 1, by have : k ≠ 0 := fun q => c_32 (by rw [q]; rfl); omega⟩; rw [hdv k' rfl, nI_mul1, hD]) ?_
        refine V_istore (ls' := [(4, _), (6, _), (5, _), (3, _), (0, _), (1, _), (2, _)]) o dX8_putApart_47 (by decide) rfl ?_
        refine V_iload_n o dX8_putApart_49 rfl rfl ?_
        refine V_aload o dX8_putApart_50 rfl ?_
        refine V_getI o dX8_putApart_52 (kT9 (g k) hgk) fl_X8_183 (rT9 hgk) ?_
        refine V_topI (v' := N (231 + g k)) (hW.2.2 (g k) hgk).due ?_
        refine V_iload o dX8_putApart_55 rfl ?_
        refine V_icmp_ne (tgt := 64) o dX8_putApart_57 (by decide) (fun c_57 => ?_) (fun c_57 => ?_)
        · refine V_iconst (v := 1) o dX8_putApart_64 (by decide) ?_
          refine V_iadd o dX8_putApart_65 ?_
          refine V_istore_n (ls' := [(3, _), (4, _), (6, _), (5, _), (0, _), (1, _), (2, _)]) o dX8_putApart_66 rfl (by decide) rfl ?_
          refine V_aload o dX8_putApart_67 rfl ?_
          refine V_iload o dX8_putApart_69 rfl ?_
          refine V_putI o dX8_putApart_71 (kT9 (g k) hgk) fl_X8_183 (rT9 hgk) rfl rfl ?_
          refine V_aload_n o dX8_putApart_74 rfl rfl ?_
          refine V_getR (t := 2) o dX8_putApart_75 rfl fl_X8_10 rfl ?_
          refine V_aload o dX8_putApart_78 rfl ?_
          refine V_cVv o rt dX8_putApart_80 ml_X8_147 (c7_lay_2 hf hgk ((WRel_due hW hL hgk).pre hgk) (Wf_uM hF (by omega))) rfl rfl rfl (Nat.le_of_ble_eq_true rfl) rfl ?_
          refine V_iincV (v := nI (k + 1)) (ls' := [(5, _), (3, _), (4, _), (6, _), (0, _), (1, _), (2, _)]) o dX8_putApart_83 rfl (ninc 1 rfl) (by decide) rfl ?_
          refine V_goto (tgt := 8) o dX8_putApart_86 (by decide) ?_
          rw [spF, hD] at hR
          have hR2 : itr (spF L d0 gap g) (k + 1) m (layM (uM N (231 + g k) D) L (g k), v + 1) = S := by
            rw [← hR]
            show _ = itr (spF L d0 gap g) (k + 1) m (layM (uM N (231 + g k) D) L (g k), v + bz (N (231 + g k) ≠ D))
            rw [bz_t c_57]
          exact V_sub (by simp) (ih (k + 1) (laySg 2 (uM N (231 + g k) D) L (g k) (wI τ (9 + g k) 2 D)) (layM (uM N (231 + g k) D) L (g k)) (v + 1) D (by omega) (OffL_lay (ho.wI (by omega) (by omega) (by omega) (by omega)) hgk) (WRel_lay hL hgk ((WRel_due hW hL hgk).pre hgk) ((uM_ne _ _ (by omega)).trans (hp k hk))) (Wf_lay (Wf_uM hF (by omega))) (fun j hj => (layM_ne (by have := hg j hj; omega)).trans ((uM_ne _ _ (by have := hg j hj; omega)).trans (hp j hj))) (fun j h1 h2 h3 h4 => (layM_ne (by omega)).trans ((uM_ne _ _ (by omega)).trans (hr j h1 h2 h3 h4))) (by omega) (fun k' q => by rw [show k' = k by omega]; exact hD.symm) hR2)
        · refine V_iconst (v := 0) o dX8_putApart_60 (by decide) ?_
          refine V_goto (tgt := 65) o dX8_putApart_61 (by decide) ?_
          refine V_iadd o dX8_putApart_65 ?_
          refine V_istore_n (ls' := [(3, _), (4, _), (6, _), (5, _), (0, _), (1, _), (2, _)]) o dX8_putApart_66 rfl (by decide) rfl ?_
          refine V_aload o dX8_putApart_67 rfl ?_
          refine V_iload o dX8_putApart_69 rfl ?_
          refine V_putI o dX8_putApart_71 (kT9 (g k) hgk) fl_X8_183 (rT9 hgk) rfl rfl ?_
          refine V_aload_n o dX8_putApart_74 rfl rfl ?_
          refine V_getR (t := 2) o dX8_putApart_75 rfl fl_X8_10 rfl ?_
          refine V_aload o dX8_putApart_78 rfl ?_
          refine V_cVv o rt dX8_putApart_80 ml_X8_147 (c7_lay_2 hf hgk ((WRel_due hW hL hgk).pre hgk) (Wf_uM hF (by omega))) rfl rfl rfl (Nat.le_of_ble_eq_true rfl) rfl ?_
          refine V_iincV (v := nI (k + 1)) (ls' := [(5, _), (3, _), (4, _), (6, _), (0, _), (1, _), (2, _)]) o dX8_putApart_83 rfl (ninc 1 rfl) (by decide) rfl ?_
          refine V_goto (tgt := 8) o dX8_putApart_86 (by decide) ?_
          rw [spF, hD] at hR
          have hR2 : itr (spF L d0 gap g) (k + 1) m (layM (uM N (231 + g k) D) L (g k), v + 0) = S := by
            rw [← hR]
            show _ = itr (spF L d0 gap g) (k + 1) m (layM (uM N (231 + g k) D) L (g k), v + bz (N (231 + g k) ≠ D))
            rw [bz_f (fun q => q c_57)]
          exact V_sub (by simp) (ih (k + 1) (laySg 2 (uM N (231 + g k) D) L (g k) (wI τ (9 + g k) 2 D)) (layM (uM N (231 + g k) D) L (g k)) (v + 0) D (by omega) (OffL_lay (ho.wI (by omega) (by omega) (by omega) (by omega)) hgk) (WRel_lay hL hgk ((WRel_due hW hL hgk).pre hgk) ((uM_ne _ _ (by omega)).trans (hp k hk))) (Wf_lay (Wf_uM hF (by omega))) (fun j hj => (layM_ne (by have := hg j hj; omega)).trans ((uM_ne _ _ (by have := hg j hj; omega)).trans (hp j hj))) (fun j h1 h2 h3 h4 => (layM_ne (by omega)).trans ((uM_ne _ _ (by omega)).trans (hr j h1 h2 h3 h4))) (by omega) (fun k' q => by rw [show k' = k by omega]; exact hD.symm) hR2)
      · refine V_aload o dX8_putApart_35 rfl ?_
        refine V_getI o dX8_putApart_37 (kT9 (g k) hgk) fl_X8_183 (rT9 hgk) ?_
        refine V_topI (v' := N (231 + g k)) (hW.2.2 (g k) hgk).due ?_
        refine V_goto (tgt := 47) o dX8_putApart_40 (by decide) ?_
        refine V_topI (v' := D) (by have hk0 : k = 0 := (nI_eq0 (by omega)).mp c_32; subst hk0; rw [h0 rfl, ← hD]; exact (by rw [show nI 0 = 0 from rfl, Int32.zero_mul, Int32.add_zero])) ?_
        refine V_istore (ls' := [(4, _), (6, _), (5, _), (3, _), (0, _), (1, _), (2, _)]) o dX8_putApart_47 (by decide) rfl ?_
        refine V_iload_n o dX8_putApart_49 rfl rfl ?_
        refine V_aload o dX8_putApart_50 rfl ?_
        refine V_getI o dX8_putApart_52 (kT9 (g k) hgk) fl_X8_183 (rT9 hgk) ?_
        refine V_topI (v' := N (231 + g k)) (hW.2.2 (g k) hgk).due ?_
        refine V_iload o dX8_putApart_55 rfl ?_
        refine V_icmp_ne (tgt := 64) o dX8_putApart_57 (by decide) (fun c_57 => ?_) (fun c_57 => ?_)
        · refine V_iconst (v := 1) o dX8_putApart_64 (by decide) ?_
          refine V_iadd o dX8_putApart_65 ?_
          refine V_istore_n (ls' := [(3, _), (4, _), (6, _), (5, _), (0, _), (1, _), (2, _)]) o dX8_putApart_66 rfl (by decide) rfl ?_
          refine V_aload o dX8_putApart_67 rfl ?_
          refine V_iload o dX8_putApart_69 rfl ?_
          refine V_putI o dX8_putApart_71 (kT9 (g k) hgk) fl_X8_183 (rT9 hgk) rfl rfl ?_
          refine V_aload_n o dX8_putApart_74 rfl rfl ?_
          refine V_getR (t := 2) o dX8_putApart_75 rfl fl_X8_10 rfl ?_
          refine V_aload o dX8_putApart_78 rfl ?_
          refine V_cVv o rt dX8_putApart_80 ml_X8_147 (c7_lay_2 hf hgk ((WRel_due hW hL hgk).pre hgk) (Wf_uM hF (by omega))) rfl rfl rfl (Nat.le_of_ble_eq_true rfl) rfl ?_
          refine V_iincV (v := nI (k + 1)) (ls' := [(5, _), (3, _), (4, _), (6, _), (0, _), (1, _), (2, _)]) o dX8_putApart_83 rfl (ninc 1 rfl) (by decide) rfl ?_
          refine V_goto (tgt := 8) o dX8_putApart_86 (by decide) ?_
          rw [spF, hD] at hR
          have hR2 : itr (spF L d0 gap g) (k + 1) m (layM (uM N (231 + g k) D) L (g k), v + 1) = S := by
            rw [← hR]
            show _ = itr (spF L d0 gap g) (k + 1) m (layM (uM N (231 + g k) D) L (g k), v + bz (N (231 + g k) ≠ D))
            rw [bz_t c_57]
          exact V_sub (by simp) (ih (k + 1) (laySg 2 (uM N (231 + g k) D) L (g k) (wI τ (9 + g k) 2 D)) (layM (uM N (231 + g k) D) L (g k)) (v + 1) D (by omega) (OffL_lay (ho.wI (by omega) (by omega) (by omega) (by omega)) hgk) (WRel_lay hL hgk ((WRel_due hW hL hgk).pre hgk) ((uM_ne _ _ (by omega)).trans (hp k hk))) (Wf_lay (Wf_uM hF (by omega))) (fun j hj => (layM_ne (by have := hg j hj; omega)).trans ((uM_ne _ _ (by have := hg j hj; omega)).trans (hp j hj))) (fun j h1 h2 h3 h4 => (layM_ne (by omega)).trans ((uM_ne _ _ (by omega)).trans (hr j h1 h2 h3 h4))) (by omega) (fun k' q => by rw [show k' = k by omega]; exact hD.symm) hR2)
        · refine V_iconst (v := 0) o dX8_putApart_60 (by decide) ?_
          refine V_goto (tgt := 65) o dX8_putApart_61 (by decide) ?_
          refine V_iadd o dX8_putApart_65 ?_
          refine V_istore_n (ls' := [(3, _), (4, _), (6, _), (5, _), (0, _), (1, _), (2, _)]) o dX8_putApart_66 rfl (by decide) rfl ?_
          refine V_aload o dX8_putApart_67 rfl ?_
          refine V_iload o dX8_putApart_69 rfl ?_
          refine V_putI o dX8_putApart_71 (kT9 (g k) hgk) fl_X8_183 (rT9 hgk) rfl rfl ?_
          refine V_aload_n o dX8_putApart_74 rfl rfl ?_
          refine V_getR (t := 2) o dX8_putApart_75 rfl fl_X8_10 rfl ?_
          refine V_aload o dX8_putApart_78 rfl ?_
          refine V_cVv o rt dX8_putApart_80 ml_X8_147 (c7_lay_2 hf hgk ((WRel_due hW hL hgk).pre hgk) (Wf_uM hF (by omega))) rfl rfl rfl (Nat.le_of_ble_eq_true rfl) rfl ?_
          refine V_iincV (v := nI (k + 1)) (ls' := [(5, _), (3, _), (4, _), (6, _), (0, _), (1, _), (2, _)]) o dX8_putApart_83 rfl (ninc 1 rfl) (by decide) rfl ?_
          refine V_goto (tgt := 8) o dX8_putApart_86 (by decide) ?_
          rw [spF, hD] at hR
          have hR2 : itr (spF L d0 gap g) (k + 1) m (layM (uM N (231 + g k) D) L (g k), v + 0) = S := by
            rw [← hR]
            show _ = itr (spF L d0 gap g) (k + 1) m (layM (uM N (231 + g k) D) L (g k), v + bz (N (231 + g k) ≠ D))
            rw [bz_f (fun q => q c_57)]
          exact V_sub (by simp) (ih (k + 1) (laySg 2 (uM N (231 + g k) D) L (g k) (wI τ (9 + g k) 2 D)) (layM (uM N (231 + g k) D) L (g k)) (v + 0) D (by omega) (OffL_lay (ho.wI (by omega) (by omega) (by omega) (by omega)) hgk) (WRel_lay hL hgk ((WRel_due hW hL hgk).pre hgk) ((uM_ne _ _ (by omega)).trans (hp k hk))) (Wf_lay (Wf_uM hF (by omega))) (fun j hj => (layM_ne (by have := hg j hj; omega)).trans ((uM_ne _ _ (by have := hg j hj; omega)).trans (hp j hj))) (fun j h1 h2 h3 h4 => (layM_ne (by omega)).trans ((uM_ne _ _ (by omega)).trans (hr j h1 h2 h3 h4))) (by omega) (fun k' q => by rw [show k' = k by omega]; exact hD.symm) hR2)
  refine V_iconst (v := 0) o dX8_putApart_0 (by decide) ?_
  refine V_istore_n (ls' := [(3, _), (0, _), (1, _), (2, _)]) o dX8_putApart_1 rfl (by decide) rfl ?_
  refine V_iconst (v := 0) o dX8_putApart_2 (by decide) ?_
  refine V_istore (ls' := [(4, _), (3, _), (0, _), (1, _), (2, _)]) o dX8_putApart_3 (by decide) rfl ?_
  refine V_iconst (v := 0) o dX8_putApart_5 (by decide) ?_
  refine V_istore (ls' := [(5, _), (4, _), (3, _), (0, _), (1, _), (2, _)]) o dX8_putApart_6 (by decide) rfl ?_
  exact V_sub (by simp; exact rfl) (loop (K + 1) 0 σ M 0 0 (by omega) OffL.rf hW0 hF hpz Rst.rf (fun _ => hd0) (fun k' q => absurd q (by omega)) hS)
set_option maxRecDepth 20000 in
set_option maxHeartbeats 4000000 in
theorem c8_spreads_few {w : Wp} (hf : Fit sh0 w) {σ : Mm} {M : Nat → Int32} {L r n : Nat} {l : List Int64} {T : Nat → Int32} (hK : KR M L r l T n σ) (hF : Wf M L) (hB : Bo M) {k gap : Int32} (hk : inR k 0 7) (hgp : inR gap 0 1000) {G : Nat → Nat} {K : Nat} (hGK : lineC M true (M 5) (hoP k M) = (G, K)) (hK2 : K < 2) : Ct sh0 w 3 mX8_spreads [.ref 1, .int k, .int gap] σ (fun r' σ' => r' = some (.int (-2)) ∧ Off 1 67 σ σ' ∧ KR (M) (L) r (l) (T) (n) σ') := by
  have hL := hF.2.2.1
  have hW := hK.1
  unfold lineC at hGK
  refine Ct_of hf (by decide) rfl (Nat.le_of_ble_eq_true rfl) (fun x o rt => ?_)
  have jn : ∀ m t (τ : Mm) (g : Nat → Nat) (c : Nat), t + m = 16 → c ≤ t → Off 7 9 σ τ → LnR 2 g c τ → itr (lnC M true (M 5) (hoP k M)) t m (g, c) = (G, K) → V sh0 w x mX8_spreads (0, 0) 35 [(4, .int (nI t)), (3, .ref 7), (0, .ref 1), (1, .int k), (2, .int gap)] [] τ := by
    intro m
    induction m with
    | zero =>
      intro t τ g c htn hct ho hl hR
      have h16 : t = 16 := by omega
      obtain ⟨rfl, rfl⟩ := Prod.mk.inj hR
      have hWt : WRel 2 M L τ := hW.ln ho
      have hKt : KR M L r l T n τ := hK.wk (ho.wd (by omega) (by omega)) hWt (fun _ _ _ _ _ => rfl)
      refine V_iload o dX8_spreads_35 rfl ?_
      refine V_bipush (v := 16) o dX8_spreads_37 (by decide) ?_
      refine V_icmp_ge (tgt := 87) o dX8_spreads_39 (by decide) (fun c_39 => ?_) (fun c_39 => False.elim (c_39 (by rw [h16]; decide)))
      refine V_aload_n o dX8_spreads_87 rfl rfl ?_
      refine V_getIE (v := nI (c)) o dX8_spreads_88 rfl fl_X8_202 rfl hl.1 ?_
      refine V_iconst (v := 2) o dX8_spreads_91 (by decide) ?_
      refine V_icmp_ge (tgt := 98) o dX8_spreads_92 (by decide) (fun c_92 => False.elim (absurd c_92 (nI_ge (b := 2) hK2 (by omega)))) (fun c_92 => ?_)
      refine V_bipush (v := -2) o dX8_spreads_95 (by decide) ?_
      refine V_iret o rt dX8_spreads_97 rfl rfl ?_
      exact ⟨rfl, ho.wd (by omega) (by omega), hKt⟩
    | succ m ih =>
      intro t τ g c htn hct ho hl hR
      have ht : t < 16 := by omega
      have hWt : WRel 2 M L τ := hW.ln ho
      rw [itr_succ, lnC] at hR
      refine V_iload o dX8_spreads_35 rfl ?_
      refine V_bipush (v := 16) o dX8_spreads_37 (by decide) ?_
      refine V_icmp_ge (tgt := 87) o dX8_spreads_39 (by decide) (fun c_39 => False.elim (absurd c_39 (nI_ge (b := 16) (by omega) (by omega)))) (fun c_39 => ?_)
      refine V_aload_n o dX8_spreads_42 rfl rfl ?_
      refine V_getR (t := 2) o dX8_spreads_43 rfl fl_X8_10 rfl ?_
      refine V_iload o dX8_spreads_46 rfl ?_
      by_cases hG : isG M t
      · refine V_cVr o rt dX8_spreads_48 ml_X8_186 (c7_run_2 hf hWt ht hG) rfl rfl rfl (Nat.le_of_ble_eq_true rfl) rfl ?_
        refine V_astore (ls' := [(5, _), (4, _), (3, _), (0, _), (1, _), (2, _)]) o dX8_spreads_51 (by decide) rfl ?_
        refine V_aload o dX8_spreads_53 rfl ?_
        refine V_ifnull_r o dX8_spreads_55 ?_
        refine V_aload o dX8_spreads_58 rfl ?_
        refine V_getI o dX8_spreads_60 (kT9 t ht) fl_X8_135 (rT9 ht) ?_
        refine V_topI (v' := M (263 + t)) (hWt.2.2 t ht).grp ?_
        refine V_iload_n o dX8_spreads_63 rfl rfl ?_
        refine V_icmp_ne (tgt := 81) o dX8_spreads_64 (by decide) (fun c_64 => ?_) (fun c_64 => ?_)
        · refine V_iincV (v := nI (t + 1)) (ls' := [(4, _), (5, _), (3, _), (0, _), (1, _), (2, _)]) o dX8_spreads_81 rfl (ninc 1 rfl) (by decide) rfl ?_
          refine V_goto (tgt := 35) o dX8_spreads_84 (by decide) ?_
          rw [if_neg (fun q => c_64 (of_decide_eq_true q).2)] at hR
          exact V_sub (by simp) (ih (t + 1) τ g c (by omega) (by omega) ho hl hR)
        · refine V_aload_n o dX8_spreads_67 rfl rfl ?_
          refine V_aload o dX8_spreads_68 rfl ?_
          refine V_iconst (v := 1) o dX8_spreads_70 (by decide) ?_
          refine V_aload_n o dX8_spreads_71 rfl rfl ?_
          refine V_getR (t := 2) o dX8_spreads_72 rfl fl_X8_10 rfl ?_
          refine V_getI o dX8_spreads_75 rfl fl_X8_83 rfl ?_
          refine V_topI (v' := M 5) hWt.1.2.1 ?_
          refine V_callV o rt dX8_spreads_78 ml_X8_198 (c1_join_2 hf hWt hl (by omega) ht (bd := true) rfl (bz_t (by decide)).symm) rfl rfl rfl (Nat.le_of_ble_eq_true rfl) rfl (fun r_78 σ_78 q_78 => ?_)
          obtain ⟨rfl, ho2, h4⟩ := q_78
          show V sh0 w x mX8_spreads (0, 0) _ _ [] _
          refine V_iincV (v := nI (t + 1)) (ls' := [(4, _), (5, _), (3, _), (0, _), (1, _), (2, _)]) o dX8_spreads_81 rfl (ninc 1 rfl) (by decide) rfl ?_
          refine V_goto (tgt := 35) o dX8_spreads_84 (by decide) ?_
          rw [if_pos (show hoP k M t = true from decide_eq_true ⟨hG, c_64⟩)] at hR
          exact V_sub (by simp) (ih (t + 1) σ_78 (qG (aheadC M true (M 5)) t c g) (c + 1) (by omega) (by omega) (ho.tr ho2) h4 hR)
      · refine V_cVn o rt dX8_spreads_48 ml_X8_186 (c7_run_n_2 hf hWt hB ht hG) rfl rfl rfl (Nat.le_of_ble_eq_true rfl) rfl ?_
        refine V_astoreN (ls' := [(5, _), (4, _), (3, _), (0, _), (1, _), (2, _)]) o dX8_spreads_51 (by decide) rfl ?_
        refine V_aloadN o dX8_spreads_53 rfl ?_
        refine V_ifnull_n (tgt := 81) o dX8_spreads_55 (by decide) ?_
        refine V_iincV (v := nI (t + 1)) (ls' := [(4, _), (5, _), (3, _), (0, _), (1, _), (2, _)]) o dX8_spreads_81 rfl (ninc 1 rfl) (by decide) rfl ?_
        refine V_goto (tgt := 35) o dX8_spreads_84 (by decide) ?_
        rw [if_neg (fun q => hG (of_decide_eq_true q).1)] at hR
        exact V_sub (by simp) (ih (t + 1) τ g c (by omega) (by omega) ho hl hR)
  refine V_iload_n o dX8_spreads_0 rfl rfl ?_
  refine V_cSi o rt dX8_spreads_1 ms_X8_115 (c8_isGroup hf) rfl rfl (Nat.le_of_ble_eq_true rfl) rfl ?_
  refine V_if_eq (tgt := 18) o dX8_spreads_4 (by decide) (fun c_4 => False.elim (bz_0.mp c_4 hk)) (fun c_4 => ?_)
  refine V_iload_n o dX8_spreads_7 rfl rfl ?_
  refine V_iconst (v := 0) o dX8_spreads_8 (by decide) ?_
  refine V_sipush (v := 1000) o dX8_spreads_9 (by decide) ?_
  refine V_cSi o rt dX8_spreads_12 ms_X8_79 (c8_isWithin hf) rfl rfl (Nat.le_of_ble_eq_true rfl) rfl ?_
  refine V_if_ne (tgt := 20) o dX8_spreads_15 (by decide) (fun c_15 => ?_) (fun c_15 => False.elim (bz_0.mp c_15 hgp))
  refine V_aload_n o dX8_spreads_20 rfl rfl ?_
  refine V_getR (t := 2) o dX8_spreads_21 rfl fl_X8_10 rfl ?_
  refine V_getR (t := 7) o dX8_spreads_24 rfl fl_X8_189 rfl ?_
  refine V_astore_n (ls' := [(3, _), (0, _), (1, _), (2, _)]) o dX8_spreads_27 rfl (by decide) rfl ?_
  refine V_aload_n o dX8_spreads_28 rfl rfl ?_
  refine V_cVv o rt dX8_spreads_29 ml_X8_193 (c1_empty_2 hf) rfl rfl rfl (Nat.le_of_ble_eq_true rfl) rfl ?_
  refine V_iconst (v := 0) o dX8_spreads_32 (by decide) ?_
  refine V_istore (ls' := [(4, _), (3, _), (0, _), (1, _), (2, _)]) o dX8_spreads_33 (by decide) rfl ?_
  exact V_sub (by simp; rfl) (jn 16 0 (wI σ 7 1 0) (fun _ => 0) 0 (by omega) (by omega) (Off.rf.wI (by omega) (by omega)) LnR_0 hGK)
set_option maxRecDepth 20000 in
set_option maxHeartbeats 4000000 in
theorem c8_spreads0 {w : Wp} (hf : Fit sh0 w) {σ : Mm} {M : Nat → Int32} {L r n : Nat} {l : List Int64} {T : Nat → Int32} (hK : KR M L r l T n σ) (hF : Wf M L) (hB : Bo M) {k gap : Int32} (hk : inR k 0 7) (hgp : inR gap 0 1000) {G : Nat → Nat} {K : Nat} (hGK : lineC M true (M 5) (hoP k M) = (G, K)) {K1 : Nat} (hK1 : K = K1 + 1) (hK2 : ¬ K < 2) (hpz : ∀ k, k < K → M (343 + G k) = 0) {S : (Nat → Int32) × Int32} (hS : itr (spF L (M (231 + G 0)) gap G) 0 K (M, 0) = S) : Ct sh0 w 3 mX8_spreads [.ref 1, .int k, .int gap] σ (fun r' σ' => r' = some (.int S.2) ∧ Off 1 67 σ σ' ∧ KR (S.1) (L) r ([(M (231 + G 0) + nI K1 * gap).toInt64]) (T) (n) σ') := by
  have hL := hF.2.2.1
  have hW := hK.1
  unfold lineC at hGK
  refine Ct_of hf (by decide) rfl (Nat.le_of_ble_eq_true rfl) (fun x o rt => ?_)
  have jn : ∀ m t (τ : Mm) (g : Nat → Nat) (c : Nat), t + m = 16 → c ≤ t → Off 7 9 σ τ → LnR 2 g c τ → itr (lnC M true (M 5) (hoP k M)) t m (g, c) = (G, K) → V sh0 w x mX8_spreads (0, 0) 35 [(4, .int (nI t)), (3, .ref 7), (0, .ref 1), (1, .int k), (2, .int gap)] [] τ := by
    intro m
    induction m with
    | zero =>
      intro t τ g c htn hct ho hl hR
      have h16 : t = 16 := by omega
      obtain ⟨rfl, rfl⟩ := Prod.mk.inj hR
      have hWt : WRel 2 M L τ := hW.ln ho
      have hKt : KR M L r l T n τ := hK.wk (ho.wd (by omega) (by omega)) hWt (fun _ _ _ _ _ => rfl)
      refine V_iload o dX8_spreads_35 rfl ?_
      refine V_bipush (v := 16) o dX8_spreads_37 (by decide) ?_
      refine V_icmp_ge (tgt := 87) o dX8_spreads_39 (by decide) (fun c_39 => ?_) (fun c_39 => False.elim (c_39 (by rw [h16]; decide)))
      refine V_aload_n o dX8_spreads_87 rfl rfl ?_
      refine V_getIE (v := nI (c)) o dX8_spreads_88 rfl fl_X8_202 rfl hl.1 ?_
      have hn16 := hl.2.1
      subst hK1
      refine V_iconst (v := 2) o dX8_spreads_91 (by decide) ?_
      refine V_icmp_ge (tgt := 98) o dX8_spreads_92 (by decide) (fun c_92 => ?_) (fun c_92 => False.elim (c_92 (nI_le (a := 2) (by omega) (by omega))))
      refine V_aload_n o dX8_spreads_98 rfl rfl ?_
      refine V_aload_n o dX8_spreads_99 rfl rfl ?_
      refine V_iload_n o dX8_spreads_100 rfl rfl ?_
      refine V_callV o rt dX8_spreads_101 ml_X8_205 (c8_putApart hf hKt hF hB hl hpz rfl hS) rfl rfl rfl (Nat.le_of_ble_eq_true rfl) rfl (fun r_101 σ_101 q_101 => ?_)
      obtain ⟨rfl, ho3, hK3⟩ := q_101
      show V sh0 w x mX8_spreads (0, 0) _ _ (.int S.2 :: []) _
      refine V_iret o rt dX8_spreads_104 rfl rfl ?_
      exact ⟨rfl, (ho.wd (by omega) (by omega)).tr ho3, hK3⟩
    | succ m ih =>
      intro t τ g c htn hct ho hl hR
      have ht : t < 16 := by omega
      have hWt : WRel 2 M L τ := hW.ln ho
      rw [itr_succ, lnC] at hR
      refine V_iload o dX8_spreads_35 rfl ?_
      refine V_bipush (v := 16) o dX8_spreads_37 (by decide) ?_
      refine V_icmp_ge (tgt := 87) o dX8_spreads_39 (by decide) (fun c_39 => False.elim (absurd c_39 (nI_ge (b := 16) (by omega) (by omega)))) (fun c_39 => ?_)
      refine V_aload_n o dX8_spreads_42 rfl rfl ?_
      refine V_getR (t := 2) o dX8_spreads_43 rfl fl_X8_10 rfl ?_
      refine V_iload o dX8_spreads_46 rfl ?_
      by_cases hG : isG M t
      · refine V_cVr o rt dX8_spreads_48 ml_X8_186 (c7_run_2 hf hWt ht hG) rfl rfl rfl (Nat.le_of_ble_eq_true rfl) rfl ?_
        refine V_astore (ls' := [(5, _), (4, _), (3, _), (0, _), (1, _), (2, _)]) o dX8_spreads_51 (by decide) rfl ?_
        refine V_aload o dX8_spreads_53 rfl ?_
        refine V_ifnull_r o dX8_spreads_55 ?_
        refine V_aload o dX8_spreads_58 rfl ?_
        refine V_getI o dX8_spreads_60 (kT9 t ht) fl_X8_135 (rT9 ht) ?_
        refine V_topI (v' := M (263 + t)) (hWt.2.2 t ht).grp ?_
        refine V_iload_n o dX8_spreads_63 rfl rfl ?_
        refine V_icmp_ne (tgt := 81) o dX8_spreads_64 (by decide) (fun c_64 => ?_) (fun c_64 => ?_)
        · refine V_iincV (v := nI (t + 1)) (ls' := [(4, _), (5, _), (3, _), (0, _), (1, _), (2, _)]) o dX8_spreads_81 rfl (ninc 1 rfl) (by decide) rfl ?_
          refine V_goto (tgt := 35) o dX8_spreads_84 (by decide) ?_
          rw [if_neg (fun q => c_64 (of_decide_eq_true q).2)] at hR
          exact V_sub (by simp) (ih (t + 1) τ g c (by omega) (by omega) ho hl hR)
        · refine V_aload_n o dX8_spreads_67 rfl rfl ?_
          refine V_aload o dX8_spreads_68 rfl ?_
          refine V_iconst (v := 1) o dX8_spreads_70 (by decide) ?_
          refine V_aload_n o dX8_spreads_71 rfl rfl ?_
          refine V_getR (t := 2) o dX8_spreads_72 rfl fl_X8_10 rfl ?_
          refine V_getI o dX8_spreads_75 rfl fl_X8_83 rfl ?_
          refine V_topI (v' := M 5) hWt.1.2.1 ?_
          refine V_callV o rt dX8_spreads_78 ml_X8_198 (c1_join_2 hf hWt hl (by omega) ht (bd := true) rfl (bz_t (by decide)).symm) rfl rfl rfl (Nat.le_of_ble_eq_true rfl) rfl (fun r_78 σ_78 q_78 => ?_)
          obtain ⟨rfl, ho2, h4⟩ := q_78
          show V sh0 w x mX8_spreads (0, 0) _ _ [] _
          refine V_iincV (v := nI (t + 1)) (ls' := [(4, _), (5, _), (3, _), (0, _), (1, _), (2, _)]) o dX8_spreads_81 rfl (ninc 1 rfl) (by decide) rfl ?_
          refine V_goto (tgt := 35) o dX8_spreads_84 (by decide) ?_
          rw [if_pos (show hoP k M t = true from decide_eq_true ⟨hG, c_64⟩)] at hR
          exact V_sub (by simp) (ih (t + 1) σ_78 (qG (aheadC M true (M 5)) t c g) (c + 1) (by omega) (by omega) (ho.tr ho2) h4 hR)
      · refine V_cVn o rt dX8_spreads_48 ml_X8_186 (c7_run_n_2 hf hWt hB ht hG) rfl rfl rfl (Nat.le_of_ble_eq_true rfl) rfl ?_
        refine V_astoreN (ls' := [(5, _), (4, _), (3, _), (0, _), (1, _), (2, _)]) o dX8_spreads_51 (by decide) rfl ?_
        refine V_aloadN o dX8_spreads_53 rfl ?_
        refine V_ifnull_n (tgt := 81) o dX8_spreads_55 (by decide) ?_
        refine V_iincV (v := nI (t + 1)) (ls' := [(4, _), (5, _), (3, _), (0, _), (1, _), (2, _)]) o dX8_spreads_81 rfl (ninc 1 rfl) (by decide) rfl ?_
        refine V_goto (tgt := 35) o dX8_spreads_84 (by decide) ?_
        rw [if_neg (fun q => hG (of_decide_eq_true q).1)] at hR
        exact V_sub (by simp) (ih (t + 1) τ g c (by omega) (by omega) ho hl hR)
  refine V_iload_n o dX8_spreads_0 rfl rfl ?_
  refine V_cSi o rt dX8_spreads_1 ms_X8_115 (c8_isGroup hf) rfl rfl (Nat.le_of_ble_eq_true rfl) rfl ?_
  refine V_if_eq (tgt := 18) o dX8_spreads_4 (by decide) (fun c_4 => False.elim (bz_0.mp c_4 hk)) (fun c_4 => ?_)
  refine V_iload_n o dX8_spreads_7 rfl rfl ?_
  refine V_iconst (v := 0) o dX8_spreads_8 (by decide) ?_
  refine V_sipush (v := 1000) o dX8_spreads_9 (by decide) ?_
  refine V_cSi o rt dX8_spreads_12 ms_X8_79 (c8_isWithin hf) rfl rfl (Nat.le_of_ble_eq_true rfl) rfl ?_
  refine V_if_ne (tgt := 20) o dX8_spreads_15 (by decide) (fun c_15 => ?_) (fun c_15 => False.elim (bz_0.mp c_15 hgp))
  refine V_aload_n o dX8_spreads_20 rfl rfl ?_
  refine V_getR (t := 2) o dX8_spreads_21 rfl fl_X8_10 rfl ?_
  refine V_getR (t := 7) o dX8_spreads_24 rfl fl_X8_189 rfl ?_
  refine V_astore_n (ls' := [(3, _), (0, _), (1, _), (2, _)]) o dX8_spreads_27 rfl (by decide) rfl ?_
  refine V_aload_n o dX8_spreads_28 rfl rfl ?_
  refine V_cVv o rt dX8_spreads_29 ml_X8_193 (c1_empty_2 hf) rfl rfl rfl (Nat.le_of_ble_eq_true rfl) rfl ?_
  refine V_iconst (v := 0) o dX8_spreads_32 (by decide) ?_
  refine V_istore (ls' := [(4, _), (3, _), (0, _), (1, _), (2, _)]) o dX8_spreads_33 (by decide) rfl ?_
  exact V_sub (by simp; rfl) (jn 16 0 (wI σ 7 1 0) (fun _ => 0) 0 (by omega) (by omega) (Off.rf.wI (by omega) (by omega)) LnR_0 hGK)
set_option maxRecDepth 20000 in
set_option maxHeartbeats 4000000 in
theorem c8_spreads_no {w : Wp} (hf : Fit sh0 w) {σ : Mm} {M : Nat → Int32} {L r n : Nat} {l : List Int64} {T : Nat → Int32} (hK : KR M L r l T n σ) (hF : Wf M L) (hB : Bo M) {k gap : Int32} (hc : ¬ (inR k 0 7 ∧ inR gap 0 1000)) : Ct sh0 w 3 mX8_spreads [.ref 1, .int k, .int gap] σ (fun r' σ' => r' = some (.int (-1)) ∧ Off 1 67 σ σ' ∧ KR (M) (L) r (l) (T) (n) σ') := by
  have hL := hF.2.2.1
  have hW := hK.1
  refine Ct_of hf (by decide) rfl (Nat.le_of_ble_eq_true rfl) (fun x o rt => ?_)
  refine V_iload_n o dX8_spreads_0 rfl rfl ?_
  refine V_cSi o rt dX8_spreads_1 ms_X8_115 (c8_isGroup hf) rfl rfl (Nat.le_of_ble_eq_true rfl) rfl ?_
  refine V_if_eq (tgt := 18) o dX8_spreads_4 (by decide) (fun c_4 => ?_) (fun c_4 => ?_)
  · refine V_iconst (v := -1) o dX8_spreads_18 (by decide) ?_
    refine V_iret o rt dX8_spreads_19 rfl rfl ?_
    exact ⟨rfl, Off.rf, hK⟩
  · refine V_iload_n o dX8_spreads_7 rfl rfl ?_
    refine V_iconst (v := 0) o dX8_spreads_8 (by decide) ?_
    refine V_sipush (v := 1000) o dX8_spreads_9 (by decide) ?_
    refine V_cSi o rt dX8_spreads_12 ms_X8_79 (c8_isWithin hf) rfl rfl (Nat.le_of_ble_eq_true rfl) rfl ?_
    refine V_if_ne (tgt := 20) o dX8_spreads_15 (by decide) (fun c_15 => False.elim (hc ⟨bz_n0.mp c_4, bz_n0.mp c_15⟩)) (fun c_15 => ?_)
    refine V_iconst (v := -1) o dX8_spreads_18 (by decide) ?_
    refine V_iret o rt dX8_spreads_19 rfl rfl ?_
    exact ⟨rfl, Off.rf, hK⟩
theorem c8_spreads {w : Wp} (hf : Fit sh0 w) {σ : Mm} {M : Nat → Int32} {L r n : Nat} {l : List Int64} {T : Nat → Int32} (hK : KR M L r l T n σ) (hF : Wf M L) (hB : Bo M) (hr5 : M 5 = 0 ∨ M 5 = 1 ∨ M 5 = 2) (hAr : Ar M) {k gap : Int32} (hk : inR k 0 7) (hgp : inR gap 0 1000) {LN : (Nat → Nat) × Nat} (hLN : lineM M true (hoP k M) = LN) {S : (Nat → Int32) × Int32} (hS : spS M L gap LN = S) : Ct sh0 w 3 mX8_spreads [.ref 1, .int k, .int gap] σ (fun r' σ' => Off 1 67 σ σ' ∧ if LN.2 < 2 then r' = some (.int (-2)) ∧ KR M L r l T n σ' else r' = some (.int S.2) ∧ KR S.1 L r [(S.1 (231 + LN.1 (LN.2 - 1))).toInt64] T n σ') := by
  have hC : lineC M true (M 5) (hoP k M) = LN := (lineC_M hr5 hAr (fun t _ h => (of_decide_eq_true h).1.1)).trans hLN
  have hsel : ∀ j, j < LN.2 → LN.1 j < 16 ∧ isG M (LN.1 j) := fun j hj => by
    subst hLN
    exact ⟨lineM_lt hj, (of_decide_eq_true (lineM_sel hj)).1⟩
  obtain ⟨G, K⟩ := LN
  by_cases h2 : K < 2
  · have := c8_spreads_few hf hK hF hB hk hgp hC h2
    rw [show (fun (r' : Option Value) (σ' : Mm) => Off 1 67 σ σ' ∧ if (G, K).2 < 2 then r' = some (.int (-2)) ∧ KR M L r l T n σ' else r' = some (.int S.2) ∧ KR S.1 L r [(S.1 (231 + (G, K).1 ((G, K).2 - 1))).toInt64] T n σ') = (fun r' σ' => r' = some (.int (-2)) ∧ Off 1 67 σ σ' ∧ KR M L r l T n σ') from by
      funext r' σ'
      rw [if_pos h2]
      exact propext ⟨fun q => ⟨q.2.1, q.1, q.2.2⟩, fun q => ⟨q.2.1, q.1, q.2.2⟩⟩]
    exact this
  · obtain ⟨K1, rfl⟩ : ∃ K1, K = K1 + 1 := ⟨K - 1, by omega⟩
    have hS' : itr (spF L (M (231 + G 0)) gap G) 0 (K1 + 1) (M, 0) = S := hS
    have hlast : S.1 (231 + G K1) = M (231 + G 0) + nI K1 * gap := by rw [← hS']; exact sp_last 0 (fun j hj => (hsel j hj).1)
    have := c8_spreads0 hf hK hF hB hk hgp hC rfl h2 (fun j hj => (hsel j hj).2.2) hS'
    rw [show (fun (r' : Option Value) (σ' : Mm) => Off 1 67 σ σ' ∧ if (G, K1 + 1).2 < 2 then r' = some (.int (-2)) ∧ KR M L r l T n σ' else r' = some (.int S.2) ∧ KR S.1 L r [(S.1 (231 + (G, K1 + 1).1 ((G, K1 + 1).2 - 1))).toInt64] T n σ') = (fun r' σ' => r' = some (.int S.2) ∧ Off 1 67 σ σ' ∧ KR S.1 L r [(M (231 + G 0) + nI K1 * gap).toInt64] T n σ') from by
      funext r' σ'
      rw [if_neg h2]
      show (Off 1 67 σ σ' ∧ r' = some (.int S.2) ∧ KR S.1 L r [(S.1 (231 + G K1)).toInt64] T n σ') = _
      rw [hlast]
      exact propext ⟨fun q => ⟨q.2.1, q.1, q.2.2⟩, fun q => ⟨q.2.1, q.1, q.2.2⟩⟩]
    exact this
