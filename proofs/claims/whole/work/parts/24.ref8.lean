set_option maxRecDepth 20000 in
set_option maxHeartbeats 4000000 in
theorem c9_ticksOf_no {w : Wp} (hf : Fit sh0 w) {σ : Mm} {d : Nat} {M : Nat → Int32} (hd : σ.1 67 8 = nI d) (hd4 : d ≤ 423) {k : Int32} (hc : M 6 + k > 1000000000) : Cf sh0 w 7 mX9_ticksOf [.ref 67, .int k] (sM σ d M) (some (.int (-4))) (sM σ d M) := by
  refine Ct_of hf (by decide) rfl (Nat.le_of_ble_eq_true rfl) (fun x o rt => ?_)
  refine V_aload_n o dX9_ticksOf_0 rfl rfl ?_
  refine V_bipush (v := 6) o dX9_ticksOf_1 (by decide) ?_
  refine V_cVi o rt dX9_ticksOf_3 ml_X9_85 (c9_of hf (by exact hd) (show (6 : Int32) = nI 6 from rfl) (by omega)) rfl rfl rfl (Nat.le_of_ble_eq_true rfl) rfl ?_
  refine V_iload_n o dX9_ticksOf_6 rfl rfl ?_
  refine V_iadd o dX9_ticksOf_7 ?_
  refine V_ldc o dX9_ticksOf_8 kc_X9_157 ?_
  refine V_icmp_le (tgt := 16) o dX9_ticksOf_10 (by decide) (fun c_10 => False.elim (absurd c_10 (Int32.not_le.mpr hc))) (fun c_10 => ?_)
  refine V_bipush (v := -4) o dX9_ticksOf_13 (by decide) ?_
  refine V_iret o rt dX9_ticksOf_15 rfl rfl ?_
  exact ⟨rfl, rfl⟩
set_option maxRecDepth 20000 in
set_option maxHeartbeats 4000000 in
theorem c9_ticksOf {w : Wp} (hf : Fit sh0 w) {σ : Mm} {d : Nat} {M : Nat → Int32} (hd : σ.1 67 8 = nI d) (hd4 : d ≤ 423) {L r : Nat} (hI : Iv M L r) {k : Int32} {m : Nat} (hk : k = nI m) (hm : m ≤ 100) (hc : ¬ M 6 + k > 1000000000) : Ct sh0 w 7 mX9_ticksOf [.ref 67, .int k] (sM σ d M) (fun r' σ' => ∃ fl nl f1 f2, r' = some (.int (nI (tks L m (M, r, ([] : List (Nat × Int32)))).2.2.length)) ∧ σ' = sM (sHd (sLn σ fl nl) f1 f2 (tks L m (M, r, ([] : List (Nat × Int32)))).2.2.length) d (tks L m (M, r, ([] : List (Nat × Int32)))).1 ∧ HdR f1 f2 (tks L m (M, r, ([] : List (Nat × Int32)))).2.2) := by
  refine Ct_of hf (by decide) rfl (Nat.le_of_ble_eq_true rfl) (fun x o rt => ?_)
  subst hk
  have loop : ∀ n i (s : (Nat → Int32) × Nat × List (Nat × Int32)) fl nl f1 f2, i + n = m → Iv s.1 L s.2.1 → s.2.2.length ≤ 16 * i → HdR f1 f2 s.2.2 → itr (fun _ s => tk1 L s) i n s = (tks L m (M, r, ([] : List (Nat × Int32)))) → V sh0 w x mX9_ticksOf (0, 0) 23 [(2, .int (nI i)), (0, .ref 67), (1, .int (nI m))] [] (sM (sHd (sLn σ fl nl) f1 f2 s.2.2.length) d s.1) := by
    intro n
    induction n with
    | zero =>
      intro i s fl nl f1 f2 him hIs hlen hH hR
      have hs : s = (tks L m (M, r, ([] : List (Nat × Int32)))) := hR
      have hi : i = m := by omega
      refine V_iload_n o dX9_ticksOf_23 rfl rfl ?_
      refine V_iload_n o dX9_ticksOf_24 rfl rfl ?_
      refine V_icmp_ge (tgt := 38) o dX9_ticksOf_25 (by decide) (fun c_25 => ?_) (fun c_25 => False.elim (c_25 (by rw [hi]; exact Int32.le_refl _)))
      refine V_aload_n o dX9_ticksOf_38 rfl rfl ?_
      refine V_getI o dX9_ticksOf_39 rfl fl_X9_129 rfl ?_
      refine V_iret o rt dX9_ticksOf_42 rfl rfl ?_
      rw [← hs]
      exact ⟨fl, nl, f1, f2, rfl, rfl, hH⟩
    | succ n ih =>
      intro i s fl nl f1 f2 him hIs hlen hH hR
      rw [itr_succ] at hR
      refine V_iload_n o dX9_ticksOf_23 rfl rfl ?_
      refine V_iload_n o dX9_ticksOf_24 rfl rfl ?_
      refine V_icmp_ge (tgt := 38) o dX9_ticksOf_25 (by decide) (fun c_25 => False.elim (absurd c_25 (nI_ge (by omega) (by omega)))) (fun c_25 => ?_)
      refine V_aload_n o dX9_ticksOf_28 rfl rfl ?_
      refine V_callV o rt dX9_ticksOf_29 ml_X9_158 (c9_tick (h := s.2.2.length) hf (by exact hd) hd4 hIs.1 hIs.2.1 hIs.2.2.1 hIs.2.2.2 rfl (by omega)) rfl rfl rfl (Nat.le_of_ble_eq_true rfl) rfl (fun r_29 σ_29 q_29 => ?_)
      obtain ⟨rfl, f, rfl⟩ := q_29
      rw [sLn_sHd, sLn_sLn, sHd_sHd]
      refine V_iincV (v := nI (i + 1)) (ls' := [(2, _), (0, _), (1, _)]) o dX9_ticksOf_32 rfl (ninc 1 rfl) (by decide) rfl ?_
      refine V_goto (tgt := 23) o dX9_ticksOf_35 (by decide) ?_
      have hl2 : (tkLn s.1 L).2 ≤ 16 := lineM_le
      have e : s.2.2.length + (tkLn s.1 L).2 = (tk1 L s).2.2.length := by
        show _ = (s.2.2 ++ hl1 _ _ _).length
        rw [List.length_append, hl1_len]
      rw [e]
      exact ih (i + 1) (tk1 L s) f _ _ _ (by omega) (Iv_tick hIs) (by omega) (HdR_app hH) hR
  refine V_aload_n o dX9_ticksOf_0 rfl rfl ?_
  refine V_bipush (v := 6) o dX9_ticksOf_1 (by decide) ?_
  refine V_cVi o rt dX9_ticksOf_3 ml_X9_85 (c9_of hf (by exact hd) (show (6 : Int32) = nI 6 from rfl) (by omega)) rfl rfl rfl (Nat.le_of_ble_eq_true rfl) rfl ?_
  refine V_iload_n o dX9_ticksOf_6 rfl rfl ?_
  refine V_iadd o dX9_ticksOf_7 ?_
  refine V_ldc o dX9_ticksOf_8 kc_X9_157 ?_
  refine V_icmp_le (tgt := 16) o dX9_ticksOf_10 (by decide) (fun c_10 => ?_) (fun c_10 => False.elim (c_10 (Int32.not_lt.mp hc)))
  refine V_aload_n o dX9_ticksOf_16 rfl rfl ?_
  refine V_iconst (v := 0) o dX9_ticksOf_17 (by decide) ?_
  refine V_putI o dX9_ticksOf_18 rfl fl_X9_129 rfl rfl rfl ?_
  rw [wI_sM67, wI_sHd0]
  refine V_iconst (v := 0) o dX9_ticksOf_21 (by decide) ?_
  refine V_istore_n (ls' := [(2, _), (0, _), (1, _)]) o dX9_ticksOf_22 rfl (by decide) rfl ?_
  obtain ⟨nl, hnl⟩ := ex_nI (σ.1 67 10)
  have h0 := loop m 0 (M, r, []) (σ.1 71) nl (σ.1 72) (σ.1 73) (by omega) hI (Nat.zero_le _) (fun j hj => absurd hj (Nat.not_lt_zero j)) rfl
  rw [sLn_of hnl] at h0
  exact h0
