set_option maxRecDepth 20000 in
set_option maxHeartbeats 4000000 in
theorem c9_ringsAll {w : Wp} (hf : Fit sh0 w) {σ : Mm} {d : Nat} {M : Nat → Int32} (hd : σ.1 67 8 = nI d) (hd4 : d ≤ 423) {L : Nat} (hW : Wf M L) {bd : Int32} {n r h : Nat} {g : Nat → Nat} (B : Bool) (hB : bd = bz (B = true)) (hr : M 14 = nI r) (hr4 : r ≤ 40) (hl : σ.1 67 10 = nI n) (hn : n ≤ 16) (hg : ∀ j, j < n → σ.1 71 j = nI (g j) ∧ g j < 16 ∧ Pq M (g j)) (hh : σ.1 67 13 = nI h) (hh2 : h + n ≤ 2000) : Cf sh0 w 5 mX9_ringsAll [.ref 67, .int bd] (sM σ d M) none (sM (sHd σ (hcat (σ.1 72) h n (fun k => nI (g k))) (hcat (σ.1 73) h n (fun k => if B = true then M (231 + g k) else M 6)) (h + n)) d (ringM M L r g n)) := by
  refine Ct_of hf (by decide) rfl (Nat.le_of_ble_eq_true rfl) (fun x o rt => ?_)
  have loop2 : ∀ m i (M' : Nat → Int32), i + m = n → Wf M' L → (∀ j, j < n → Pq M' (g j)) → itr (fun k M => comesM M L (g k)) i m M' = ringM M L r g n → V sh0 w x mX9_ringsAll (0, 0) 98 [(2, .int (nI i)), (0, .ref 67), (1, .int bd)] [] (sM (sHd σ (hcat (σ.1 72) h n (fun k => nI (g k))) (hcat (σ.1 73) h n (fun k => if B = true then M (231 + g k) else M 6)) (h + n)) d M') := by
    intro m
    induction m with
    | zero =>
      intro i M' him hW hP hR
      refine V_iload_n o dX9_ringsAll_98 rfl rfl ?_
      refine V_aload_n o dX9_ringsAll_99 rfl rfl ?_
      refine V_getIE (v := nI (n)) o dX9_ringsAll_100 rfl fl_X9_109 rfl hl ?_
      refine V_icmp_ge (tgt := 122) o dX9_ringsAll_103 (by decide) (fun c_103 => ?_) (fun c_103 => False.elim (c_103 (nI_le (by omega) (by omega))))
      refine V_ret o rt dX9_ringsAll_122 rfl ?_
      exact ⟨rfl, by rw [← hR]; rfl⟩
    | succ m ih =>
      intro i M' him hW hP hR
      rw [itr_succ] at hR
      refine V_iload_n o dX9_ringsAll_98 rfl rfl ?_
      refine V_aload_n o dX9_ringsAll_99 rfl rfl ?_
      refine V_getIE (v := nI (n)) o dX9_ringsAll_100 rfl fl_X9_109 rfl hl ?_
      refine V_icmp_ge (tgt := 122) o dX9_ringsAll_103 (by decide) (fun c_103 => False.elim (absurd c_103 (nI_ge (by omega) (by omega)))) (fun c_103 => ?_)
      refine V_aload_n o dX9_ringsAll_106 rfl rfl ?_
      refine V_aload_n o dX9_ringsAll_107 rfl rfl ?_
      refine V_getR (t := 71) o dX9_ringsAll_108 rfl fl_X9_52 rfl ?_
      refine V_iload_n o dX9_ringsAll_111 rfl rfl ?_
      refine V_ialdE (v := nI (g i)) 16 o dX9_ringsAll_112 rfl rfl rfl (by omega) rfl (hg i (by omega)).1 ?_
      refine V_cVv o rt dX9_ringsAll_113 ml_X9_132 (c9_comesAgain hf (by exact hd) hd4 hW rfl (hg i (by omega)).2.1 (hP i (by omega))) rfl rfl rfl (Nat.le_of_ble_eq_true rfl) rfl ?_
      refine V_iincV (v := nI (i + 1)) (ls' := [(2, _), (0, _), (1, _)]) o dX9_ringsAll_116 rfl (ninc 1 rfl) (by decide) rfl ?_
      refine V_goto (tgt := 98) o dX9_ringsAll_119 (by decide) ?_
      exact ih (i + 1) _ (by omega) (Wf_comes hW) (fun j hj => Pq_comes (hg i (by omega)).2.1 (hg j hj).2.1 (hP i (by omega)) (hP j hj)) hR
  have loop : ∀ m i (M' : Nat → Int32) (r' : Nat), i + m = n → M' 14 = nI r' → r' ≤ 40 → (∀ j, j ≠ 7 → (j < 14 ∨ 215 ≤ j) → (j < 375 ∨ 391 ≤ j) → M' j = M j) → itr (fun k s => (rungM s.1 s.2 (g k), kpN s.2)) i m (M', r') = tellM M r g n → V sh0 w x mX9_ringsAll (0, 0) 2 [(2, .int (nI i)), (0, .ref 67), (1, .int bd)] [] (sM (sHd σ (hcat (σ.1 72) h i (fun k => nI (g k))) (hcat (σ.1 73) h i (fun k => if B = true then M (231 + g k) else M 6)) (h + i)) d M') := by
    intro m
    induction m with
    | zero =>
      intro i M' r' him h14 hr' hsame hR
      have hi : i = n := by omega
      subst hi
      refine V_iload_n o dX9_ringsAll_2 rfl rfl ?_
      refine V_aload_n o dX9_ringsAll_3 rfl rfl ?_
      refine V_getIE (v := nI (i)) o dX9_ringsAll_4 rfl fl_X9_109 rfl hl ?_
      refine V_icmp_ge (tgt := 96) o dX9_ringsAll_7 (by decide) (fun c_7 => ?_) (fun c_7 => False.elim (c_7 (Int32.le_refl _)))
      refine V_iconst (v := 0) o dX9_ringsAll_96 (by decide) ?_
      refine V_istore_n (ls' := [(2, _), (0, _), (1, _)]) o dX9_ringsAll_97 rfl (by decide) rfl ?_
      exact loop2 i 0 M' (by omega) (Wf_same hW (fun j hj => hsame j (by omega) (by omega) (by omega))) (fun j hj => Pq_same (hg j hj).2.2 (hsame _ (by omega) (by omega) (Or.inl (by have := (hg j hj).2.1; omega)))) (by rw [ringM, ← hR]; rfl)
    | succ m ih =>
      intro i M' r' him h14 hr' hsame hR
      rw [itr_succ] at hR
      have hgi := hg i (by omega)
      have hgl := hgi.2.1
      refine V_iload_n o dX9_ringsAll_2 rfl rfl ?_
      refine V_aload_n o dX9_ringsAll_3 rfl rfl ?_
      refine V_getIE (v := nI (n)) o dX9_ringsAll_4 rfl fl_X9_109 rfl hl ?_
      refine V_icmp_ge (tgt := 96) o dX9_ringsAll_7 (by decide) (fun c_7 => False.elim (absurd c_7 (nI_ge (by omega) (by omega)))) (fun c_7 => ?_)
      refine V_aload_n o dX9_ringsAll_10 rfl rfl ?_
      refine V_getR (t := 71) o dX9_ringsAll_11 rfl fl_X9_52 rfl ?_
      refine V_iload_n o dX9_ringsAll_14 rfl rfl ?_
      refine V_ialdE (v := nI (g i)) 16 o dX9_ringsAll_15 rfl rfl rfl (by omega) rfl hgi.1 ?_
      refine V_istore_n (ls' := [(3, _), (2, _), (0, _), (1, _)]) o dX9_ringsAll_16 rfl (by decide) rfl ?_
      refine V_aload_n o dX9_ringsAll_17 rfl rfl ?_
      refine V_sipush (v := 375) o dX9_ringsAll_18 (by decide) ?_
      refine V_iload_n o dX9_ringsAll_21 rfl rfl ?_
      refine V_iadd o dX9_ringsAll_22 ?_
      refine V_iconst (v := 1) o dX9_ringsAll_23 (by decide) ?_
      refine V_cVv o rt dX9_ringsAll_24 ml_X9_106 (c9_more hf (by exact hd) (nadd (show (375 : Int32) = nI 375 from rfl) rfl) (by omega)) rfl rfl rfl (Nat.le_of_ble_eq_true rfl) rfl ?_
      refine V_aload_n o dX9_ringsAll_27 rfl rfl ?_
      refine V_bipush (v := 7) o dX9_ringsAll_28 (by decide) ?_
      refine V_iconst (v := 1) o dX9_ringsAll_30 (by decide) ?_
      refine V_cVv o rt dX9_ringsAll_31 ml_X9_106 (c9_more hf (by exact hd) (show (7 : Int32) = nI 7 from rfl) (by omega)) rfl rfl rfl (Nat.le_of_ble_eq_true rfl) rfl ?_
      refine V_aload_n o dX9_ringsAll_34 rfl rfl ?_
      refine V_iload_n o dX9_ringsAll_35 rfl rfl ?_
      refine V_cVv o rt dX9_ringsAll_36 ml_X9_126 (c9_keepsRung (M := rg1 M' (g i)) hf (by exact hd) hd4 rfl hgl ((uM_ne _ _ (by omega)).trans ((uM_ne _ _ (by omega)).trans h14)) hr') rfl rfl rfl (Nat.le_of_ble_eq_true rfl) rfl ?_
      refine V_aload_n o dX9_ringsAll_39 rfl rfl ?_
      refine V_getR (t := 72) o dX9_ringsAll_40 rfl fl_X9_55 rfl ?_
      refine V_aload_n o dX9_ringsAll_43 rfl rfl ?_
      refine V_getIE (v := nI (h + i)) o dX9_ringsAll_44 rfl fl_X9_129 rfl rfl ?_
      refine V_iload_n o dX9_ringsAll_47 rfl rfl ?_
      refine V_iastN 2000 o dX9_ringsAll_48 rfl rfl rfl (by omega) rfl ?_
      rw [wI_sM72, wI_sHd72]
      refine V_aload_n o dX9_ringsAll_49 rfl rfl ?_
      refine V_getR (t := 73) o dX9_ringsAll_50 rfl fl_X9_58 rfl ?_
      refine V_aload_n o dX9_ringsAll_53 rfl rfl ?_
      refine V_getIE (v := nI (h + i)) o dX9_ringsAll_54 rfl fl_X9_129 rfl rfl ?_
      refine V_iload_n o dX9_ringsAll_57 rfl rfl ?_
      refine V_if_eq (tgt := 73) o dX9_ringsAll_58 (by decide) (fun c_58 => ?_) (fun c_58 => ?_)
      · refine V_aload_n o dX9_ringsAll_73 rfl rfl ?_
        refine V_bipush (v := 6) o dX9_ringsAll_74 (by decide) ?_
        refine V_cVi o rt dX9_ringsAll_76 ml_X9_85 (c9_of hf (by exact hd) (show (6 : Int32) = nI 6 from rfl) (by omega)) rfl rfl rfl (Nat.le_of_ble_eq_true rfl) rfl ?_
        refine V_topI (v' := (fun k => if B = true then M (231 + g k) else M 6) i) (by
          show _ = if B = true then M (231 + g i) else M 6
          first | (rw [if_pos (by rw [hB] at c_58; exact bz_n0.mp c_58)]; exact (rungM_ne hr' (by omega) (by omega) (by omega)).trans (hsame _ (by omega) (by omega) (by omega))) | (rw [if_neg (by rw [hB] at c_58; exact bz_0.mp c_58)]; exact (rungM_ne hr' (by omega) (by omega) (by omega)).trans (hsame _ (by omega) (by omega) (by omega)))) ?_
        refine V_iastN 2000 o dX9_ringsAll_79 rfl rfl rfl (by omega) rfl ?_
        rw [wI_sM73, wI_sHd73]
        refine V_aload_n o dX9_ringsAll_80 rfl rfl ?_
        refine V_dup o dX9_ringsAll_81 rfl ?_
        refine V_getIE (v := nI (h + i)) o dX9_ringsAll_82 rfl fl_X9_129 rfl rfl ?_
        refine V_iconst (v := 1) o dX9_ringsAll_85 (by decide) ?_
        refine V_iadd o dX9_ringsAll_86 ?_
        refine V_putI o dX9_ringsAll_87 rfl fl_X9_129 rfl rfl rfl ?_
        rw [wI_sM67, show nI (h + i) + 1 = nI (h + i + 1) from nI_1 _, wI_sHd13]
        refine V_iincV (v := nI (i + 1)) (ls' := [(2, _), (3, _), (0, _), (1, _)]) o dX9_ringsAll_90 rfl (ninc 1 rfl) (by decide) rfl ?_
        refine V_goto (tgt := 2) o dX9_ringsAll_93 (by decide) ?_
        refine V_drop2 ?_
        rw [hcat_succ (v := fun k => nI (g k)), hcat_succ]
        exact ih (i + 1) (rungM M' r' (g i)) (kpN r') (by omega) keepM_14 (kpN_le hr') (fun j h7 h1 h2 => (rungM_ne hr' h7 h1 (by omega)).trans (hsame j h7 h1 h2)) hR
      · refine V_aload_n o dX9_ringsAll_61 rfl rfl ?_
        refine V_sipush (v := 231) o dX9_ringsAll_62 (by decide) ?_
        refine V_iload_n o dX9_ringsAll_65 rfl rfl ?_
        refine V_iadd o dX9_ringsAll_66 ?_
        refine V_cVi o rt dX9_ringsAll_67 ml_X9_85 (c9_of hf (by exact hd) (nadd (show (231 : Int32) = nI 231 from rfl) rfl) (by omega)) rfl rfl rfl (Nat.le_of_ble_eq_true rfl) rfl ?_
        refine V_goto (tgt := 79) o dX9_ringsAll_70 (by decide) ?_
        refine V_topI (v' := (fun k => if B = true then M (231 + g k) else M 6) i) (by
          show _ = if B = true then M (231 + g i) else M 6
          first | (rw [if_pos (by rw [hB] at c_58; exact bz_n0.mp c_58)]; exact (rungM_ne hr' (by omega) (by omega) (by omega)).trans (hsame _ (by omega) (by omega) (by omega))) | (rw [if_neg (by rw [hB] at c_58; exact bz_0.mp c_58)]; exact (rungM_ne hr' (by omega) (by omega) (by omega)).trans (hsame _ (by omega) (by omega) (by omega)))) ?_
        refine V_iastN 2000 o dX9_ringsAll_79 rfl rfl rfl (by omega) rfl ?_
        rw [wI_sM73, wI_sHd73]
        refine V_aload_n o dX9_ringsAll_80 rfl rfl ?_
        refine V_dup o dX9_ringsAll_81 rfl ?_
        refine V_getIE (v := nI (h + i)) o dX9_ringsAll_82 rfl fl_X9_129 rfl rfl ?_
        refine V_iconst (v := 1) o dX9_ringsAll_85 (by decide) ?_
        refine V_iadd o dX9_ringsAll_86 ?_
        refine V_putI o dX9_ringsAll_87 rfl fl_X9_129 rfl rfl rfl ?_
        rw [wI_sM67, show nI (h + i) + 1 = nI (h + i + 1) from nI_1 _, wI_sHd13]
        refine V_iincV (v := nI (i + 1)) (ls' := [(2, _), (3, _), (0, _), (1, _)]) o dX9_ringsAll_90 rfl (ninc 1 rfl) (by decide) rfl ?_
        refine V_goto (tgt := 2) o dX9_ringsAll_93 (by decide) ?_
        refine V_drop2 ?_
        rw [hcat_succ (v := fun k => nI (g k)), hcat_succ]
        exact ih (i + 1) (rungM M' r' (g i)) (kpN r') (by omega) keepM_14 (kpN_le hr') (fun j h7 h1 h2 => (rungM_ne hr' h7 h1 (by omega)).trans (hsame j h7 h1 h2)) hR
  have h0 : sM σ d M = sM (sHd σ (hcat (σ.1 72) h 0 (fun k => nI (g k))) (hcat (σ.1 73) h 0 (fun k => if B = true then M (231 + g k) else M 6)) (h + 0)) d M := by rw [hcat_0, hcat_0, Nat.add_zero, sHd_of hh]
  rw [h0]
  refine V_iconst (v := 0) o dX9_ringsAll_0 (by decide) ?_
  refine V_istore_n (ls' := [(2, _), (0, _), (1, _)]) o dX9_ringsAll_1 rfl (by decide) rfl ?_
  exact loop n 0 M r (by omega) hr hr4 (fun j _ _ _ => rfl) rfl
