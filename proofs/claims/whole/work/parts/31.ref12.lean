set_option maxRecDepth 20000 in
set_option maxHeartbeats 4000000 in
theorem c9_cancelsAll {w : Wp} (hf : Fit sh0 w) {σ : Mm} {M : Nat → Int32} (hd : σ.1 67 8 = nI 0)  {k : Int32} (hk : inR k 0 7) : Cf sh0 w 3 mX9_cancelsAll [.ref 67, .int k] (sM σ 0 M) (some (.int (nI (grpS (caP k) caM M).2))) (sM (wI σ 67 0 0) 0 (grpS (caP k) caM M).1) := by
  generalize hS2 : grpS (caP k) caM M = S
  unfold grpS at hS2
  refine Ct_of hf (by decide) rfl (Nat.le_of_ble_eq_true rfl) (fun x o rt => ?_)
  have loop : ∀ n t (s : (Nat → Int32) × Nat), t + n = 16 → itr (grpF (caP k) caM) t n s = S → V sh0 w x mX9_cancelsAll (0, 0) 23 [(3, .int (nI t)), (2, .int (nI s.2)), (0, .ref 67), (1, .int k)] [] (sM (wI σ 67 0 0) 0 s.1) := by
    intro n
    induction n with
    | zero =>
      intro t s htn hR
      have ht : t = 16 := by omega
      have hs : s = S := hR
      refine V_iload_n o dX9_cancelsAll_23 rfl rfl ?_
      refine V_bipush (v := 16) o dX9_cancelsAll_24 (by decide) ?_
      refine V_icmp_ge (tgt := 66) o dX9_cancelsAll_26 (by decide) (fun c_26 => ?_) (fun c_26 => False.elim (c_26 (by rw [ht]; exact Int32.le_refl _)))
      refine V_iload_n o dX9_cancelsAll_66 rfl rfl ?_
      refine V_iret o rt dX9_cancelsAll_67 rfl rfl ?_
      rw [hs]
      exact ⟨rfl, rfl⟩
    | succ n ih =>
      intro t s htn hR
      rw [itr_succ, grpF] at hR
      refine V_iload_n o dX9_cancelsAll_23 rfl rfl ?_
      refine V_bipush (v := 16) o dX9_cancelsAll_24 (by decide) ?_
      refine V_icmp_ge (tgt := 66) o dX9_cancelsAll_26 (by decide) (fun c_26 => False.elim (absurd c_26 (nI_ge (b := 16) (by omega) (by omega)))) (fun c_26 => ?_)
      refine V_aload_n o dX9_cancelsAll_29 rfl rfl ?_
      refine V_iload_n o dX9_cancelsAll_30 rfl rfl ?_
      refine V_cVi o rt dX9_cancelsAll_31 ml_X9_89 (c9_isTimer hf (by exact hd) (Nat.zero_le 423) rfl (by omega)) rfl rfl rfl (Nat.le_of_ble_eq_true rfl) rfl ?_
      refine V_if_eq (tgt := 60) o dX9_cancelsAll_34 (by decide) (fun c_34 => ?_) (fun c_34 => ?_)
      · refine V_iincV (v := nI (t + 1)) (ls' := [(3, _), (2, _), (0, _), (1, _)]) o dX9_cancelsAll_60 rfl (ninc 1 rfl) (by decide) rfl ?_
        refine V_goto (tgt := 23) o dX9_cancelsAll_63 (by decide) ?_
        first
          | (rw [if_neg (by rw [caP, decide_eq_true_eq]; exact fun h => bz_0.mp c_34 h.1)] at hR; exact V_sub (by simp) (ih (t + 1) s (by omega) hR))
          | (rw [if_neg (by rw [caP, decide_eq_true_eq]; exact fun h => c_47 h.2)] at hR; exact V_sub (by simp) (ih (t + 1) s (by omega) hR))
          | (rw [if_pos (by rw [caP, decide_eq_true_eq]; exact ⟨bz_n0.mp c_34, c_47⟩)] at hR; exact V_sub (by simp) (ih (t + 1) (caM s.1 t, s.2 + 1) (by omega) hR))
      · refine V_aload_n o dX9_cancelsAll_37 rfl rfl ?_
        refine V_sipush (v := 263) o dX9_cancelsAll_38 (by decide) ?_
        refine V_iload_n o dX9_cancelsAll_41 rfl rfl ?_
        refine V_iadd o dX9_cancelsAll_42 ?_
        refine V_cVi o rt dX9_cancelsAll_43 ml_X9_85 (c9_of hf (by exact hd) (nadd (show (263 : Int32) = nI 263 from rfl) rfl) (by omega)) rfl rfl rfl (Nat.le_of_ble_eq_true rfl) rfl ?_
        refine V_iload_n o dX9_cancelsAll_46 rfl rfl ?_
        refine V_icmp_ne (tgt := 60) o dX9_cancelsAll_47 (by decide) (fun c_47 => ?_) (fun c_47 => ?_)
        · refine V_iincV (v := nI (t + 1)) (ls' := [(3, _), (2, _), (0, _), (1, _)]) o dX9_cancelsAll_60 rfl (ninc 1 rfl) (by decide) rfl ?_
          refine V_goto (tgt := 23) o dX9_cancelsAll_63 (by decide) ?_
          first
            | (rw [if_neg (by rw [caP, decide_eq_true_eq]; exact fun h => bz_0.mp c_34 h.1)] at hR; exact V_sub (by simp) (ih (t + 1) s (by omega) hR))
            | (rw [if_neg (by rw [caP, decide_eq_true_eq]; exact fun h => c_47 h.2)] at hR; exact V_sub (by simp) (ih (t + 1) s (by omega) hR))
            | (rw [if_pos (by rw [caP, decide_eq_true_eq]; exact ⟨bz_n0.mp c_34, c_47⟩)] at hR; exact V_sub (by simp) (ih (t + 1) (caM s.1 t, s.2 + 1) (by omega) hR))
        · refine V_aload_n o dX9_cancelsAll_50 rfl rfl ?_
          refine V_iload_n o dX9_cancelsAll_51 rfl rfl ?_
          refine V_cVi o rt dX9_cancelsAll_52 ml_X9_216 (c9_cancelsOne hf (by exact hd) (Nat.zero_le 423) rfl (by omega) (bz_n0.mp c_34)) rfl rfl rfl (Nat.le_of_ble_eq_true rfl) rfl ?_
          refine V_istore (ls' := [(4, _), (3, _), (2, _), (0, _), (1, _)]) o dX9_cancelsAll_55 (by decide) rfl ?_
          refine V_iincV (v := nI (s.2 + 1)) (ls' := [(2, _), (4, _), (3, _), (0, _), (1, _)]) o dX9_cancelsAll_57 rfl (ninc 1 rfl) (by decide) rfl ?_
          refine V_iincV (v := nI (t + 1)) (ls' := [(3, _), (2, _), (4, _), (0, _), (1, _)]) o dX9_cancelsAll_60 rfl (ninc 1 rfl) (by decide) rfl ?_
          refine V_goto (tgt := 23) o dX9_cancelsAll_63 (by decide) ?_
          first
            | (rw [if_neg (by rw [caP, decide_eq_true_eq]; exact fun h => bz_0.mp c_34 h.1)] at hR; exact V_sub (by simp) (ih (t + 1) s (by omega) hR))
            | (rw [if_neg (by rw [caP, decide_eq_true_eq]; exact fun h => c_47 h.2)] at hR; exact V_sub (by simp) (ih (t + 1) s (by omega) hR))
            | (rw [if_pos (by rw [caP, decide_eq_true_eq]; exact ⟨bz_n0.mp c_34, c_47⟩)] at hR; exact V_sub (by simp) (ih (t + 1) (caM s.1 t, s.2 + 1) (by omega) hR))
  refine V_aload_n o dX9_cancelsAll_0 rfl rfl ?_
  refine V_iconst (v := 0) o dX9_cancelsAll_1 (by decide) ?_
  refine V_putI o dX9_cancelsAll_2 rfl fl_X9_1 rfl rfl rfl ?_
  rw [wI_sM67]
  refine V_iload_n o dX9_cancelsAll_5 rfl rfl ?_
  refine V_i2l o dX9_cancelsAll_6 ?_
  refine V_lconst (v := 0) o dX9_cancelsAll_7 (by decide) ?_
  refine V_ldc2 o dX9_cancelsAll_8 kc_X9_201 ?_
  refine V_cSi o rt dX9_cancelsAll_11 ms_X9_21 (c9_in hf) rfl rfl (Nat.le_of_ble_eq_true rfl) rfl ?_
  refine V_if_ne (tgt := 19) o dX9_cancelsAll_14 (by decide) (fun c_14 => ?_) (fun c_14 => False.elim (bz_n0.mpr ((in_lo (k := k) (lo := 0) (hi := 7) (l := 0) (h := 7) (by decide) (by decide)).mpr hk) c_14))
  refine V_iconst (v := 0) o dX9_cancelsAll_19 (by decide) ?_
  refine V_istore_n (ls' := [(2, _), (0, _), (1, _)]) o dX9_cancelsAll_20 rfl (by decide) rfl ?_
  refine V_iconst (v := 0) o dX9_cancelsAll_21 (by decide) ?_
  refine V_istore_n (ls' := [(3, _), (2, _), (0, _), (1, _)]) o dX9_cancelsAll_22 rfl (by decide) rfl ?_
  exact loop 16 0 (M, 0) (by omega) hS2
set_option maxRecDepth 20000 in
set_option maxHeartbeats 4000000 in
theorem c9_cancelsAll_no {w : Wp} (hf : Fit sh0 w) {σ : Mm} {M : Nat → Int32} (hd : σ.1 67 8 = nI 0) {k : Int32} (hk : ¬ inR k 0 7) : Cf sh0 w 3 mX9_cancelsAll [.ref 67, .int k] (sM σ 0 M) (some (.int (-1))) (sM (wI σ 67 0 0) 0 M) := by
  refine Ct_of hf (by decide) rfl (Nat.le_of_ble_eq_true rfl) (fun x o rt => ?_)
  refine V_aload_n o dX9_cancelsAll_0 rfl rfl ?_
  refine V_iconst (v := 0) o dX9_cancelsAll_1 (by decide) ?_
  refine V_putI o dX9_cancelsAll_2 rfl fl_X9_1 rfl rfl rfl ?_
  rw [wI_sM67]
  refine V_iload_n o dX9_cancelsAll_5 rfl rfl ?_
  refine V_i2l o dX9_cancelsAll_6 ?_
  refine V_lconst (v := 0) o dX9_cancelsAll_7 (by decide) ?_
  refine V_ldc2 o dX9_cancelsAll_8 kc_X9_201 ?_
  refine V_cSi o rt dX9_cancelsAll_11 ms_X9_21 (c9_in hf) rfl rfl (Nat.le_of_ble_eq_true rfl) rfl ?_
  refine V_if_ne (tgt := 19) o dX9_cancelsAll_14 (by decide) (fun c_14 => False.elim (hk ((in_lo (k := k) (lo := 0) (hi := 7) (l := 0) (h := 7) (by decide) (by decide)).mp (bz_n0.mp c_14)))) (fun c_14 => ?_)
  refine V_iconst (v := -1) o dX9_cancelsAll_17 (by decide) ?_
  refine V_iret o rt dX9_cancelsAll_18 rfl rfl ?_
  exact ⟨rfl, rfl⟩
set_option maxRecDepth 20000 in
set_option maxHeartbeats 4000000 in
theorem c9_holds {w : Wp} (hf : Fit sh0 w) {σ : Mm} {M : Nat → Int32} (hd : σ.1 67 8 = nI 0)  {k : Int32} (hk : inR k 0 7) : Cf sh0 w 3 mX9_holds [.ref 67, .int k] (sM σ 0 M) (some (.int (nI (grpS (hoP k) paM M).2))) (sM (wI σ 67 0 0) 0 (grpS (hoP k) paM M).1) := by
  generalize hS2 : grpS (hoP k) paM M = S
  unfold grpS at hS2
  refine Ct_of hf (by decide) rfl (Nat.le_of_ble_eq_true rfl) (fun x o rt => ?_)
  have loop : ∀ n t (s : (Nat → Int32) × Nat), t + n = 16 → itr (grpF (hoP k) paM) t n s = S → V sh0 w x mX9_holds (0, 0) 18 [(3, .int (nI t)), (2, .int (nI s.2)), (0, .ref 67), (1, .int k)] [] (sM (wI σ 67 0 0) 0 s.1) := by
    intro n
    induction n with
    | zero =>
      intro t s htn hR
      have ht : t = 16 := by omega
      have hs : s = S := hR
      refine V_iload_n o dX9_holds_18 rfl rfl ?_
      refine V_bipush (v := 16) o dX9_holds_19 (by decide) ?_
      refine V_icmp_ge (tgt := 59) o dX9_holds_21 (by decide) (fun c_21 => ?_) (fun c_21 => False.elim (c_21 (by rw [ht]; exact Int32.le_refl _)))
      refine V_iload_n o dX9_holds_59 rfl rfl ?_
      refine V_iret o rt dX9_holds_60 rfl rfl ?_
      rw [hs]
      exact ⟨rfl, rfl⟩
    | succ n ih =>
      intro t s htn hR
      rw [itr_succ, grpF] at hR
      refine V_iload_n o dX9_holds_18 rfl rfl ?_
      refine V_bipush (v := 16) o dX9_holds_19 (by decide) ?_
      refine V_icmp_ge (tgt := 59) o dX9_holds_21 (by decide) (fun c_21 => False.elim (absurd c_21 (nI_ge (b := 16) (by omega) (by omega)))) (fun c_21 => ?_)
      refine V_aload_n o dX9_holds_24 rfl rfl ?_
      refine V_iload_n o dX9_holds_25 rfl rfl ?_
      refine V_cVi o rt dX9_holds_26 ml_X9_99 (c9_goes hf (by exact hd) (Nat.zero_le 423) rfl (by omega)) rfl rfl rfl (Nat.le_of_ble_eq_true rfl) rfl ?_
      refine V_if_eq (tgt := 53) o dX9_holds_29 (by decide) (fun c_29 => ?_) (fun c_29 => ?_)
      · refine V_iincV (v := nI (t + 1)) (ls' := [(3, _), (2, _), (0, _), (1, _)]) o dX9_holds_53 rfl (ninc 1 rfl) (by decide) rfl ?_
        refine V_goto (tgt := 18) o dX9_holds_56 (by decide) ?_
        first
          | (rw [if_neg (by rw [hoP, decide_eq_true_eq]; exact fun h => bz_0.mp c_29 h.1)] at hR; exact V_sub (by simp) (ih (t + 1) s (by omega) hR))
          | (rw [if_neg (by rw [hoP, decide_eq_true_eq]; exact fun h => c_42 h.2)] at hR; exact V_sub (by simp) (ih (t + 1) s (by omega) hR))
          | (rw [if_pos (by rw [hoP, decide_eq_true_eq]; exact ⟨bz_n0.mp c_29, c_42⟩)] at hR; exact V_sub (by simp) (ih (t + 1) (paM s.1 t, s.2 + 1) (by omega) hR))
      · refine V_aload_n o dX9_holds_32 rfl rfl ?_
        refine V_sipush (v := 263) o dX9_holds_33 (by decide) ?_
        refine V_iload_n o dX9_holds_36 rfl rfl ?_
        refine V_iadd o dX9_holds_37 ?_
        refine V_cVi o rt dX9_holds_38 ml_X9_85 (c9_of hf (by exact hd) (nadd (show (263 : Int32) = nI 263 from rfl) rfl) (by omega)) rfl rfl rfl (Nat.le_of_ble_eq_true rfl) rfl ?_
        refine V_iload_n o dX9_holds_41 rfl rfl ?_
        refine V_icmp_ne (tgt := 53) o dX9_holds_42 (by decide) (fun c_42 => ?_) (fun c_42 => ?_)
        · refine V_iincV (v := nI (t + 1)) (ls' := [(3, _), (2, _), (0, _), (1, _)]) o dX9_holds_53 rfl (ninc 1 rfl) (by decide) rfl ?_
          refine V_goto (tgt := 18) o dX9_holds_56 (by decide) ?_
          first
            | (rw [if_neg (by rw [hoP, decide_eq_true_eq]; exact fun h => bz_0.mp c_29 h.1)] at hR; exact V_sub (by simp) (ih (t + 1) s (by omega) hR))
            | (rw [if_neg (by rw [hoP, decide_eq_true_eq]; exact fun h => c_42 h.2)] at hR; exact V_sub (by simp) (ih (t + 1) s (by omega) hR))
            | (rw [if_pos (by rw [hoP, decide_eq_true_eq]; exact ⟨bz_n0.mp c_29, c_42⟩)] at hR; exact V_sub (by simp) (ih (t + 1) (paM s.1 t, s.2 + 1) (by omega) hR))
        · refine V_aload_n o dX9_holds_45 rfl rfl ?_
          refine V_iload_n o dX9_holds_46 rfl rfl ?_
          refine V_cVv o rt dX9_holds_47 ml_X9_219 (c9_pausesOne hf (by exact hd) (Nat.zero_le 423) rfl (by omega)) rfl rfl rfl (Nat.le_of_ble_eq_true rfl) rfl ?_
          refine V_iincV (v := nI (s.2 + 1)) (ls' := [(2, _), (3, _), (0, _), (1, _)]) o dX9_holds_50 rfl (ninc 1 rfl) (by decide) rfl ?_
          refine V_iincV (v := nI (t + 1)) (ls' := [(3, _), (2, _), (0, _), (1, _)]) o dX9_holds_53 rfl (ninc 1 rfl) (by decide) rfl ?_
          refine V_goto (tgt := 18) o dX9_holds_56 (by decide) ?_
          first
            | (rw [if_neg (by rw [hoP, decide_eq_true_eq]; exact fun h => bz_0.mp c_29 h.1)] at hR; exact V_sub (by simp) (ih (t + 1) s (by omega) hR))
            | (rw [if_neg (by rw [hoP, decide_eq_true_eq]; exact fun h => c_42 h.2)] at hR; exact V_sub (by simp) (ih (t + 1) s (by omega) hR))
            | (rw [if_pos (by rw [hoP, decide_eq_true_eq]; exact ⟨bz_n0.mp c_29, c_42⟩)] at hR; exact V_sub (by simp) (ih (t + 1) (paM s.1 t, s.2 + 1) (by omega) hR))
  refine V_aload_n o dX9_holds_0 rfl rfl ?_
  refine V_iconst (v := 0) o dX9_holds_1 (by decide) ?_
  refine V_putI o dX9_holds_2 rfl fl_X9_1 rfl rfl rfl ?_
  rw [wI_sM67]
  refine V_iload_n o dX9_holds_5 rfl rfl ?_
  refine V_cSi o rt dX9_holds_6 ms_X9_225 (c9_isGroup hf) rfl rfl (Nat.le_of_ble_eq_true rfl) rfl ?_
  refine V_if_ne (tgt := 14) o dX9_holds_9 (by decide) (fun c_9 => ?_) (fun c_9 => False.elim (bz_n0.mpr hk c_9))
  refine V_iconst (v := 0) o dX9_holds_14 (by decide) ?_
  refine V_istore_n (ls' := [(2, _), (0, _), (1, _)]) o dX9_holds_15 rfl (by decide) rfl ?_
  refine V_iconst (v := 0) o dX9_holds_16 (by decide) ?_
  refine V_istore_n (ls' := [(3, _), (2, _), (0, _), (1, _)]) o dX9_holds_17 rfl (by decide) rfl ?_
  exact loop 16 0 (M, 0) (by omega) hS2
set_option maxRecDepth 20000 in
set_option maxHeartbeats 4000000 in
theorem c9_holds_no {w : Wp} (hf : Fit sh0 w) {σ : Mm} {M : Nat → Int32} (hd : σ.1 67 8 = nI 0) {k : Int32} (hk : ¬ inR k 0 7) : Cf sh0 w 3 mX9_holds [.ref 67, .int k] (sM σ 0 M) (some (.int (-1))) (sM (wI σ 67 0 0) 0 M) := by
  refine Ct_of hf (by decide) rfl (Nat.le_of_ble_eq_true rfl) (fun x o rt => ?_)
  refine V_aload_n o dX9_holds_0 rfl rfl ?_
  refine V_iconst (v := 0) o dX9_holds_1 (by decide) ?_
  refine V_putI o dX9_holds_2 rfl fl_X9_1 rfl rfl rfl ?_
  rw [wI_sM67]
  refine V_iload_n o dX9_holds_5 rfl rfl ?_
  refine V_cSi o rt dX9_holds_6 ms_X9_225 (c9_isGroup hf) rfl rfl (Nat.le_of_ble_eq_true rfl) rfl ?_
  refine V_if_ne (tgt := 14) o dX9_holds_9 (by decide) (fun c_9 => False.elim (hk (bz_n0.mp c_9))) (fun c_9 => ?_)
  refine V_iconst (v := -1) o dX9_holds_12 (by decide) ?_
  refine V_iret o rt dX9_holds_13 rfl rfl ?_
  exact ⟨rfl, rfl⟩
set_option maxRecDepth 20000 in
set_option maxHeartbeats 4000000 in
theorem c9_goesOn {w : Wp} (hf : Fit sh0 w) {σ : Mm} {M : Nat → Int32} (hd : σ.1 67 8 = nI 0) {L : Nat} (hW : Wf M L) {k : Int32} (hk : inR k 0 7) : Cf sh0 w 5 mX9_goesOn [.ref 67, .int k] (sM σ 0 M) (some (.int (nI (grpS (goP k) (fun M t => reM M L t) M).2))) (sM (wI σ 67 0 0) 0 (grpS (goP k) (fun M t => reM M L t) M).1) := by
  generalize hS2 : grpS (goP k) (fun M t => reM M L t) M = S
  unfold grpS at hS2
  refine Ct_of hf (by decide) rfl (Nat.le_of_ble_eq_true rfl) (fun x o rt => ?_)
  have loop : ∀ n t (s : (Nat → Int32) × Nat), t + n = 16 → Wf s.1 L → itr (grpF (goP k) (fun M t => reM M L t)) t n s = S → V sh0 w x mX9_goesOn (0, 0) 18 [(3, .int (nI t)), (2, .int (nI s.2)), (0, .ref 67), (1, .int k)] [] (sM (wI σ 67 0 0) 0 s.1) := by
    intro n
    induction n with
    | zero =>
      intro t s htn hW hR
      have ht : t = 16 := by omega
      have hs : s = S := hR
      refine V_iload_n o dX9_goesOn_18 rfl rfl ?_
      refine V_bipush (v := 16) o dX9_goesOn_19 (by decide) ?_
      refine V_icmp_ge (tgt := 67) o dX9_goesOn_21 (by decide) (fun c_21 => ?_) (fun c_21 => False.elim (c_21 (by rw [ht]; exact Int32.le_refl _)))
      refine V_iload_n o dX9_goesOn_67 rfl rfl ?_
      refine V_iret o rt dX9_goesOn_68 rfl rfl ?_
      rw [hs]
      exact ⟨rfl, rfl⟩
    | succ n ih =>
      intro t s htn hW hR
      rw [itr_succ, grpF] at hR
      refine V_iload_n o dX9_goesOn_18 rfl rfl ?_
      refine V_bipush (v := 16) o dX9_goesOn_19 (by decide) ?_
      refine V_icmp_ge (tgt := 67) o dX9_goesOn_21 (by decide) (fun c_21 => False.elim (absurd c_21 (nI_ge (b := 16) (by omega) (by omega)))) (fun c_21 => ?_)
      refine V_aload_n o dX9_goesOn_24 rfl rfl ?_
      refine V_iload_n o dX9_goesOn_25 rfl rfl ?_
      refine V_cVi o rt dX9_goesOn_26 ml_X9_89 (c9_isTimer hf (by exact hd) (Nat.zero_le 423) rfl (by omega)) rfl rfl rfl (Nat.le_of_ble_eq_true rfl) rfl ?_
      refine V_if_eq (tgt := 61) o dX9_goesOn_29 (by decide) (fun c_29 => ?_) (fun c_29 => ?_)
      · refine V_iincV (v := nI (t + 1)) (ls' := [(3, _), (2, _), (0, _), (1, _)]) o dX9_goesOn_61 rfl (ninc 1 rfl) (by decide) rfl ?_
        refine V_goto (tgt := 18) o dX9_goesOn_64 (by decide) ?_
        first
          | (rw [if_neg (by rw [goP, decide_eq_true_eq]; exact fun h => bz_0.mp c_29 h.1)] at hR; exact V_sub (by simp) (ih (t + 1) s (by omega) hW hR))
          | (rw [if_neg (by rw [goP, decide_eq_true_eq]; exact fun h => h.2.1 (bz_n0.mp c_37))] at hR; exact V_sub (by simp) (ih (t + 1) s (by omega) hW hR))
          | (rw [if_neg (by rw [goP, decide_eq_true_eq]; exact fun h => c_50 h.2.2)] at hR; exact V_sub (by simp) (ih (t + 1) s (by omega) hW hR))
          | (rw [if_pos (by rw [goP, decide_eq_true_eq]; exact ⟨bz_n0.mp c_29, bz_0.mp c_37, c_50⟩)] at hR; exact V_sub (by simp) (ih (t + 1) (reM s.1 L t, s.2 + 1) (by omega) (Wf_lay (Wf_uM (Wf_uM hW (by omega)) (by omega))) hR))
      · refine V_aload_n o dX9_goesOn_32 rfl rfl ?_
        refine V_iload_n o dX9_goesOn_33 rfl rfl ?_
        refine V_cVi o rt dX9_goesOn_34 ml_X9_99 (c9_goes hf (by exact hd) (Nat.zero_le 423) rfl (by omega)) rfl rfl rfl (Nat.le_of_ble_eq_true rfl) rfl ?_
        refine V_if_ne (tgt := 61) o dX9_goesOn_37 (by decide) (fun c_37 => ?_) (fun c_37 => ?_)
        · refine V_iincV (v := nI (t + 1)) (ls' := [(3, _), (2, _), (0, _), (1, _)]) o dX9_goesOn_61 rfl (ninc 1 rfl) (by decide) rfl ?_
          refine V_goto (tgt := 18) o dX9_goesOn_64 (by decide) ?_
          first
            | (rw [if_neg (by rw [goP, decide_eq_true_eq]; exact fun h => bz_0.mp c_29 h.1)] at hR; exact V_sub (by simp) (ih (t + 1) s (by omega) hW hR))
            | (rw [if_neg (by rw [goP, decide_eq_true_eq]; exact fun h => h.2.1 (bz_n0.mp c_37))] at hR; exact V_sub (by simp) (ih (t + 1) s (by omega) hW hR))
            | (rw [if_neg (by rw [goP, decide_eq_true_eq]; exact fun h => c_50 h.2.2)] at hR; exact V_sub (by simp) (ih (t + 1) s (by omega) hW hR))
            | (rw [if_pos (by rw [goP, decide_eq_true_eq]; exact ⟨bz_n0.mp c_29, bz_0.mp c_37, c_50⟩)] at hR; exact V_sub (by simp) (ih (t + 1) (reM s.1 L t, s.2 + 1) (by omega) (Wf_lay (Wf_uM (Wf_uM hW (by omega)) (by omega))) hR))
        · refine V_aload_n o dX9_goesOn_40 rfl rfl ?_
          refine V_sipush (v := 263) o dX9_goesOn_41 (by decide) ?_
          refine V_iload_n o dX9_goesOn_44 rfl rfl ?_
          refine V_iadd o dX9_goesOn_45 ?_
          refine V_cVi o rt dX9_goesOn_46 ml_X9_85 (c9_of hf (by exact hd) (nadd (show (263 : Int32) = nI 263 from rfl) rfl) (by omega)) rfl rfl rfl (Nat.le_of_ble_eq_true rfl) rfl ?_
          refine V_iload_n o dX9_goesOn_49 rfl rfl ?_
          refine V_icmp_ne (tgt := 61) o dX9_goesOn_50 (by decide) (fun c_50 => ?_) (fun c_50 => ?_)
          · refine V_iincV (v := nI (t + 1)) (ls' := [(3, _), (2, _), (0, _), (1, _)]) o dX9_goesOn_61 rfl (ninc 1 rfl) (by decide) rfl ?_
            refine V_goto (tgt := 18) o dX9_goesOn_64 (by decide) ?_
            first
              | (rw [if_neg (by rw [goP, decide_eq_true_eq]; exact fun h => bz_0.mp c_29 h.1)] at hR; exact V_sub (by simp) (ih (t + 1) s (by omega) hW hR))
              | (rw [if_neg (by rw [goP, decide_eq_true_eq]; exact fun h => h.2.1 (bz_n0.mp c_37))] at hR; exact V_sub (by simp) (ih (t + 1) s (by omega) hW hR))
              | (rw [if_neg (by rw [goP, decide_eq_true_eq]; exact fun h => c_50 h.2.2)] at hR; exact V_sub (by simp) (ih (t + 1) s (by omega) hW hR))
              | (rw [if_pos (by rw [goP, decide_eq_true_eq]; exact ⟨bz_n0.mp c_29, bz_0.mp c_37, c_50⟩)] at hR; exact V_sub (by simp) (ih (t + 1) (reM s.1 L t, s.2 + 1) (by omega) (Wf_lay (Wf_uM (Wf_uM hW (by omega)) (by omega))) hR))
          · refine V_aload_n o dX9_goesOn_53 rfl rfl ?_
            refine V_iload_n o dX9_goesOn_54 rfl rfl ?_
            refine V_cVv o rt dX9_goesOn_55 ml_X9_222 (c9_resumesOne hf (by exact hd) (Nat.zero_le 423) hW rfl (by omega)) rfl rfl rfl (Nat.le_of_ble_eq_true rfl) rfl ?_
            refine V_iincV (v := nI (s.2 + 1)) (ls' := [(2, _), (3, _), (0, _), (1, _)]) o dX9_goesOn_58 rfl (ninc 1 rfl) (by decide) rfl ?_
            refine V_iincV (v := nI (t + 1)) (ls' := [(3, _), (2, _), (0, _), (1, _)]) o dX9_goesOn_61 rfl (ninc 1 rfl) (by decide) rfl ?_
            refine V_goto (tgt := 18) o dX9_goesOn_64 (by decide) ?_
            first
              | (rw [if_neg (by rw [goP, decide_eq_true_eq]; exact fun h => bz_0.mp c_29 h.1)] at hR; exact V_sub (by simp) (ih (t + 1) s (by omega) hW hR))
              | (rw [if_neg (by rw [goP, decide_eq_true_eq]; exact fun h => h.2.1 (bz_n0.mp c_37))] at hR; exact V_sub (by simp) (ih (t + 1) s (by omega) hW hR))
              | (rw [if_neg (by rw [goP, decide_eq_true_eq]; exact fun h => c_50 h.2.2)] at hR; exact V_sub (by simp) (ih (t + 1) s (by omega) hW hR))
              | (rw [if_pos (by rw [goP, decide_eq_true_eq]; exact ⟨bz_n0.mp c_29, bz_0.mp c_37, c_50⟩)] at hR; exact V_sub (by simp) (ih (t + 1) (reM s.1 L t, s.2 + 1) (by omega) (Wf_lay (Wf_uM (Wf_uM hW (by omega)) (by omega))) hR))
  refine V_aload_n o dX9_goesOn_0 rfl rfl ?_
  refine V_iconst (v := 0) o dX9_goesOn_1 (by decide) ?_
  refine V_putI o dX9_goesOn_2 rfl fl_X9_1 rfl rfl rfl ?_
  rw [wI_sM67]
  refine V_iload_n o dX9_goesOn_5 rfl rfl ?_
  refine V_cSi o rt dX9_goesOn_6 ms_X9_225 (c9_isGroup hf) rfl rfl (Nat.le_of_ble_eq_true rfl) rfl ?_
  refine V_if_ne (tgt := 14) o dX9_goesOn_9 (by decide) (fun c_9 => ?_) (fun c_9 => False.elim (bz_n0.mpr hk c_9))
  refine V_iconst (v := 0) o dX9_goesOn_14 (by decide) ?_
  refine V_istore_n (ls' := [(2, _), (0, _), (1, _)]) o dX9_goesOn_15 rfl (by decide) rfl ?_
  refine V_iconst (v := 0) o dX9_goesOn_16 (by decide) ?_
  refine V_istore_n (ls' := [(3, _), (2, _), (0, _), (1, _)]) o dX9_goesOn_17 rfl (by decide) rfl ?_
  exact loop 16 0 (M, 0) (by omega) hW hS2
set_option maxRecDepth 20000 in
set_option maxHeartbeats 4000000 in
theorem c9_goesOn_no {w : Wp} (hf : Fit sh0 w) {σ : Mm} {M : Nat → Int32} (hd : σ.1 67 8 = nI 0) {k : Int32} (hk : ¬ inR k 0 7) : Cf sh0 w 5 mX9_goesOn [.ref 67, .int k] (sM σ 0 M) (some (.int (-1))) (sM (wI σ 67 0 0) 0 M) := by
  refine Ct_of hf (by decide) rfl (Nat.le_of_ble_eq_true rfl) (fun x o rt => ?_)
  refine V_aload_n o dX9_goesOn_0 rfl rfl ?_
  refine V_iconst (v := 0) o dX9_goesOn_1 (by decide) ?_
  refine V_putI o dX9_goesOn_2 rfl fl_X9_1 rfl rfl rfl ?_
  rw [wI_sM67]
  refine V_iload_n o dX9_goesOn_5 rfl rfl ?_
  refine V_cSi o rt dX9_goesOn_6 ms_X9_225 (c9_isGroup hf) rfl rfl (Nat.le_of_ble_eq_true rfl) rfl ?_
  refine V_if_ne (tgt := 14) o dX9_goesOn_9 (by decide) (fun c_9 => False.elim (hk (bz_n0.mp c_9))) (fun c_9 => ?_)
  refine V_iconst (v := -1) o dX9_goesOn_12 (by decide) ?_
  refine V_iret o rt dX9_goesOn_13 rfl rfl ?_
  exact ⟨rfl, rfl⟩
