def slSel (M : Nat → Int32) (lv sl : Int32) (t : Nat) : Bool := decide (isG M t ∧ M (391 + t) = lv ∧ M (407 + t) = sl)
abbrev slC (M : Nat → Int32) (lv sl : Int32) : Prop := inR lv 0 (M 0 - 1) ∧ inR sl 0 (M (1 + ix lv) - 1)
theorem lv_ok {M : Nat → Int32} {L : Nat} (hW : Wf M L) {lv : Int32} (h : inR lv 0 (M 0 - 1)) : lv = nI (ix lv) ∧ ix lv < L := by
  have e : M 0 - 1 = nI (L - 1) := by
    rw [hW.1, show L = (L - 1) + 1 by have := hW.2.1; omega]
    exact nI_pred _
  rw [e] at h
  have h4 := hW.2.2.1
  have := inR_nI (N := L - 1) (by omega) h
  have h1 := hW.2.1
  exact ⟨this.1, by omega⟩
set_option maxRecDepth 20000 in
set_option maxHeartbeats 4000000 in
theorem c9_slot {w : Wp} (hf : Fit sh0 w) {σ : Mm} {M : Nat → Int32} (hd : σ.1 67 8 = nI 0) {L : Nat} (hW : Wf M L) {lv sl : Int32} (hc : slC M lv sl) {LN : (Nat → Nat) × Nat} (hLN : lineM M false (slSel M lv sl) = LN) : Ct sh0 w 4 mX9_slot [.ref 67, .int lv, .int sl] (sM σ 0 M) (fun r' σ' => ∃ fl fr, r' = some (.int (nI LN.2)) ∧ σ' = sM (sRw (sLn (wI σ 67 0 0) fl LN.2) fr LN.2) 0 M ∧ RwR fr (rowG LN.1 LN.2)) := by
  have hd4 : 0 ≤ 423 := Nat.zero_le _
  have hle : LN.2 ≤ 16 := by rw [← hLN]; exact lineM_le
  unfold lineM at hLN
  refine Ct_of hf (by decide) rfl (Nat.le_of_ble_eq_true rfl) (fun x o rt => ?_)
  have hlv := lv_ok hW hc.1
  have hL4 := hW.2.2.1
  have line : ∀ n t (f : Nat → Int32) (s : (Nat → Nat) × Nat), t + n = 16 → s.2 ≤ t → (∀ j, j < s.2 → f j = nI (s.1 j) ∧ s.1 j < 16) → itr (lnF M false (slSel M lv sl)) t n s = LN → V sh0 w x mX9_slot (0, 0) 50 [(3, .int (nI t)), (0, .ref 67), (1, .int lv), (2, .int sl)] [] (sM (sLn (wI σ 67 0 0) f s.2) 0 M) := by
    intro n
    induction n with
    | zero =>
      intro t f s htn hst hfg hR
      have ht : t = 16 := by omega
      have hs : s = LN := hR
      subst hs
      refine V_iload_n o dX9_slot_50 rfl rfl ?_
      refine V_bipush (v := 16) o dX9_slot_51 (by decide) ?_
      refine V_icmp_ge (tgt := 102) o dX9_slot_53 (by decide) (fun c_53 => ?_) (fun c_53 => False.elim (c_53 (by rw [ht]; exact Int32.le_refl _)))
      refine V_sub (ls := [(0, .ref 67)]) (by simp) ?_
      refine V_aload_n o dX9_slot_102 rfl rfl ?_
      refine V_callV o rt dX9_slot_103 ml_X9_243 (c9_tellsLine (n := s.2) (g := s.1) hf hle rfl (fun j hj => (hfg j hj).1)) rfl rfl rfl (Nat.le_of_ble_eq_true rfl) rfl (fun r_103 σ_103 q_103 => ?_)
      obtain ⟨rfl, fr, rfl, hRw⟩ := q_103
      show V sh0 w x mX9_slot (0, 0) _ _ [] _
      refine V_aload_n o dX9_slot_106 rfl rfl ?_
      refine V_getIE (v := nI (s.2)) o dX9_slot_107 rfl fl_X9_109 rfl rfl ?_
      refine V_iret o rt dX9_slot_110 rfl rfl ?_
      exact ⟨f, fr, rfl, rfl, hRw⟩
    | succ n ih =>
      intro t f s htn hst hfg hR
      rw [itr_succ] at hR
      refine V_iload_n o dX9_slot_50 rfl rfl ?_
      refine V_bipush (v := 16) o dX9_slot_51 (by decide) ?_
      refine V_icmp_ge (tgt := 102) o dX9_slot_53 (by decide) (fun c_53 => False.elim (absurd c_53 (nI_ge (b := 16) (by omega) (by omega)))) (fun c_53 => ?_)
      refine V_aload_n o dX9_slot_56 rfl rfl ?_
      refine V_iload_n o dX9_slot_57 rfl rfl ?_
      refine V_cVi o rt dX9_slot_58 ml_X9_99 (c9_goes hf (by exact hd) hd4 rfl (by omega)) rfl rfl rfl (Nat.le_of_ble_eq_true rfl) rfl ?_
      refine V_if_eq (tgt := 96) o dX9_slot_61 (by decide) (fun c_61 => ?_) (fun c_61 => ?_)
      · refine V_iincV (v := nI (t + 1)) (ls' := [(3, _), (0, _), (1, _), (2, _)]) o dX9_slot_96 rfl (ninc 1 rfl) (by decide) rfl ?_
        refine V_goto (tgt := 50) o dX9_slot_99 (by decide) ?_
        rw [lnF, if_neg (by rw [slSel, decide_eq_true_eq]; exact fun h => bz_0.mp c_61 h.1)] at hR
        exact V_sub (by simp) (ih (t + 1) f s (by omega) (by omega) hfg hR)
      · refine V_aload_n o dX9_slot_64 rfl rfl ?_
        refine V_sipush (v := 391) o dX9_slot_65 (by decide) ?_
        refine V_iload_n o dX9_slot_68 rfl rfl ?_
        refine V_iadd o dX9_slot_69 ?_
        refine V_cVi o rt dX9_slot_70 ml_X9_85 (c9_of hf (by exact hd) (nadd (show (391 : Int32) = nI 391 from rfl) rfl) (by omega)) rfl rfl rfl (Nat.le_of_ble_eq_true rfl) rfl ?_
        refine V_iload_n o dX9_slot_73 rfl rfl ?_
        refine V_icmp_ne (tgt := 96) o dX9_slot_74 (by decide) (fun c_74 => ?_) (fun c_74 => ?_)
        · refine V_iincV (v := nI (t + 1)) (ls' := [(3, _), (0, _), (1, _), (2, _)]) o dX9_slot_96 rfl (ninc 1 rfl) (by decide) rfl ?_
          refine V_goto (tgt := 50) o dX9_slot_99 (by decide) ?_
          rw [lnF, if_neg (by rw [slSel, decide_eq_true_eq]; exact fun h => c_74 h.2.1)] at hR
          exact V_sub (by simp) (ih (t + 1) f s (by omega) (by omega) hfg hR)
        · refine V_aload_n o dX9_slot_77 rfl rfl ?_
          refine V_sipush (v := 407) o dX9_slot_78 (by decide) ?_
          refine V_iload_n o dX9_slot_81 rfl rfl ?_
          refine V_iadd o dX9_slot_82 ?_
          refine V_cVi o rt dX9_slot_83 ml_X9_85 (c9_of hf (by exact hd) (nadd (show (407 : Int32) = nI 407 from rfl) rfl) (by omega)) rfl rfl rfl (Nat.le_of_ble_eq_true rfl) rfl ?_
          refine V_iload_n o dX9_slot_86 rfl rfl ?_
          refine V_icmp_ne (tgt := 96) o dX9_slot_87 (by decide) (fun c_87 => ?_) (fun c_87 => ?_)
          · refine V_iincV (v := nI (t + 1)) (ls' := [(3, _), (0, _), (1, _), (2, _)]) o dX9_slot_96 rfl (ninc 1 rfl) (by decide) rfl ?_
            refine V_goto (tgt := 50) o dX9_slot_99 (by decide) ?_
            rw [lnF, if_neg (by rw [slSel, decide_eq_true_eq]; exact fun h => c_87 h.2.2)] at hR
            exact V_sub (by simp) (ih (t + 1) f s (by omega) (by omega) hfg hR)
          · refine V_aload_n o dX9_slot_90 rfl rfl ?_
            refine V_iload_n o dX9_slot_91 rfl rfl ?_
            refine V_iconst (v := 0) o dX9_slot_92 (by decide) ?_
            refine V_callV o rt dX9_slot_93 ml_X9_142 (c9_queues (n := s.2) (g := s.1) hf (by exact hd) hd4 rfl (by omega) false rfl rfl (by omega) (fun j hj => ⟨(hfg j hj).1, (hfg j hj).2⟩)) rfl rfl rfl (Nat.le_of_ble_eq_true rfl) rfl (fun r_93 σ_93 q_93 => ?_)
            obtain ⟨rfl, f1, rfl, hf1⟩ := q_93
            rw [sLn_sLn]
            refine V_iincV (v := nI (t + 1)) (ls' := [(3, _), (0, _), (1, _), (2, _)]) o dX9_slot_96 rfl (ninc 1 rfl) (by decide) rfl ?_
            refine V_goto (tgt := 50) o dX9_slot_99 (by decide) ?_
            rw [lnF, if_pos (by rw [slSel, decide_eq_true_eq]; exact ⟨bz_n0.mp c_61, c_74, c_87⟩)] at hR
            exact V_sub (by simp) (ih (t + 1) f1 (qG (soonB M false) t s.2 s.1, s.2 + 1) (by omega) (Nat.succ_le_succ hst) (fun j hj => ⟨hf1 j hj, qG_lt (by omega) s.2 s.2 s.1 (Nat.le_refl _) (fun k hk hne => (hfg k (by omega)).2) j hj⟩) hR)
  refine V_aload_n o dX9_slot_0 rfl rfl ?_
  refine V_iconst (v := 0) o dX9_slot_1 (by decide) ?_
  refine V_putI o dX9_slot_2 rfl fl_X9_1 rfl rfl rfl ?_
  rw [wI_sM67]
  refine V_iload_n o dX9_slot_5 rfl rfl ?_
  refine V_i2l o dX9_slot_6 ?_
  refine V_lconst (v := 0) o dX9_slot_7 (by decide) ?_
  refine V_aload_n o dX9_slot_8 rfl rfl ?_
  refine V_iconst (v := 0) o dX9_slot_9 (by decide) ?_
  refine V_cVi o rt dX9_slot_10 ml_X9_85 (c9_of hf (by exact hd) (show (0 : Int32) = nI 0 from rfl) (by omega)) rfl rfl rfl (Nat.le_of_ble_eq_true rfl) rfl ?_
  refine V_iconst (v := 1) o dX9_slot_13 (by decide) ?_
  refine V_isub o dX9_slot_14 ?_
  refine V_i2l o dX9_slot_15 ?_
  refine V_cSi o rt dX9_slot_16 ms_X9_21 (c9_in hf) rfl rfl (Nat.le_of_ble_eq_true rfl) rfl ?_
  refine V_if_eq (tgt := 41) o dX9_slot_19 (by decide) (fun c_19 => False.elim (bz_0.mp c_19 ((in_lo (k := lv) (lo := 0) (hi := M 0 - 1) (by decide) rfl).mpr hc.1))) (fun c_19 => ?_)
  refine V_iload_n o dX9_slot_22 rfl rfl ?_
  refine V_i2l o dX9_slot_23 ?_
  refine V_lconst (v := 0) o dX9_slot_24 (by decide) ?_
  refine V_aload_n o dX9_slot_25 rfl rfl ?_
  refine V_iconst (v := 1) o dX9_slot_26 (by decide) ?_
  refine V_iload_n o dX9_slot_27 rfl rfl ?_
  refine V_iadd o dX9_slot_28 ?_
  refine V_cVi o rt dX9_slot_29 ml_X9_85 (c9_of hf (by exact hd) (nadd (show (1 : Int32) = nI 1 from rfl) hlv.1) (by omega)) rfl rfl rfl (Nat.le_of_ble_eq_true rfl) rfl ?_
  refine V_iconst (v := 1) o dX9_slot_32 (by decide) ?_
  refine V_isub o dX9_slot_33 ?_
  refine V_i2l o dX9_slot_34 ?_
  refine V_cSi o rt dX9_slot_35 ms_X9_21 (c9_in hf) rfl rfl (Nat.le_of_ble_eq_true rfl) rfl ?_
  refine V_if_ne (tgt := 43) o dX9_slot_38 (by decide) (fun c_38 => ?_) (fun c_38 => False.elim (bz_n0.mpr ((in_lo (k := sl) (lo := 0) (hi := M (1 + ix lv) - 1) (by decide) rfl).mpr hc.2) c_38))
  refine V_aload_n o dX9_slot_43 rfl rfl ?_
  refine V_iconst (v := 0) o dX9_slot_44 (by decide) ?_
  refine V_putI o dX9_slot_45 rfl fl_X9_109 rfl rfl rfl ?_
  rw [wI_sM67, wI_sLn0]
  refine V_iconst (v := 0) o dX9_slot_48 (by decide) ?_
  refine V_istore_n (ls' := [(3, _), (0, _), (1, _), (2, _)]) o dX9_slot_49 rfl (by decide) rfl ?_
  exact line 16 0 ((wI σ 67 0 0).1 71) (fun _ => 0, 0) (by omega) (Nat.le_refl 0) (fun j hj => absurd hj (Nat.not_lt_zero j)) hLN
set_option maxRecDepth 20000 in
set_option maxHeartbeats 4000000 in
theorem c9_slot_no {w : Wp} (hf : Fit sh0 w) {σ : Mm} {M : Nat → Int32} (hd : σ.1 67 8 = nI 0) {L : Nat} (hW : Wf M L) {lv sl : Int32} (hc : ¬ slC M lv sl) : Cf sh0 w 4 mX9_slot [.ref 67, .int lv, .int sl] (sM σ 0 M) (some (.int (-1))) (sM (wI σ 67 0 0) 0 M) := by
  refine Ct_of hf (by decide) rfl (Nat.le_of_ble_eq_true rfl) (fun x o rt => ?_)
  have hd4 : 0 ≤ 423 := Nat.zero_le _
  have hL4 := hW.2.2.1
  by_cases h1 : inR lv 0 (M 0 - 1)
  · have hlv := lv_ok hW h1
    refine V_aload_n o dX9_slot_0 rfl rfl ?_
    refine V_iconst (v := 0) o dX9_slot_1 (by decide) ?_
    refine V_putI o dX9_slot_2 rfl fl_X9_1 rfl rfl rfl ?_
    rw [wI_sM67]
    refine V_iload_n o dX9_slot_5 rfl rfl ?_
    refine V_i2l o dX9_slot_6 ?_
    refine V_lconst (v := 0) o dX9_slot_7 (by decide) ?_
    refine V_aload_n o dX9_slot_8 rfl rfl ?_
    refine V_iconst (v := 0) o dX9_slot_9 (by decide) ?_
    refine V_cVi o rt dX9_slot_10 ml_X9_85 (c9_of hf (by exact hd) (show (0 : Int32) = nI 0 from rfl) (by omega)) rfl rfl rfl (Nat.le_of_ble_eq_true rfl) rfl ?_
    refine V_iconst (v := 1) o dX9_slot_13 (by decide) ?_
    refine V_isub o dX9_slot_14 ?_
    refine V_i2l o dX9_slot_15 ?_
    refine V_cSi o rt dX9_slot_16 ms_X9_21 (c9_in hf) rfl rfl (Nat.le_of_ble_eq_true rfl) rfl ?_
    refine V_if_eq (tgt := 41) o dX9_slot_19 (by decide) (fun c_19 => False.elim (bz_0.mp c_19 ((in_lo (k := lv) (lo := 0) (hi := M 0 - 1) (by decide) rfl).mpr h1))) (fun c_19 => ?_)
    refine V_iload_n o dX9_slot_22 rfl rfl ?_
    refine V_i2l o dX9_slot_23 ?_
    refine V_lconst (v := 0) o dX9_slot_24 (by decide) ?_
    refine V_aload_n o dX9_slot_25 rfl rfl ?_
    refine V_iconst (v := 1) o dX9_slot_26 (by decide) ?_
    refine V_iload_n o dX9_slot_27 rfl rfl ?_
    refine V_iadd o dX9_slot_28 ?_
    refine V_cVi o rt dX9_slot_29 ml_X9_85 (c9_of hf (by exact hd) (nadd (show (1 : Int32) = nI 1 from rfl) hlv.1) (by omega)) rfl rfl rfl (Nat.le_of_ble_eq_true rfl) rfl ?_
    refine V_iconst (v := 1) o dX9_slot_32 (by decide) ?_
    refine V_isub o dX9_slot_33 ?_
    refine V_i2l o dX9_slot_34 ?_
    refine V_cSi o rt dX9_slot_35 ms_X9_21 (c9_in hf) rfl rfl (Nat.le_of_ble_eq_true rfl) rfl ?_
    refine V_if_ne (tgt := 43) o dX9_slot_38 (by decide) (fun c_38 => False.elim (hc ⟨h1, (in_lo (k := sl) (lo := 0) (hi := M (1 + ix lv) - 1) (by decide) rfl).mp (bz_n0.mp c_38)⟩)) (fun c_38 => ?_)
    refine V_iconst (v := -1) o dX9_slot_41 (by decide) ?_
    refine V_iret o rt dX9_slot_42 rfl rfl ?_
    exact ⟨rfl, rfl⟩
  · refine V_aload_n o dX9_slot_0 rfl rfl ?_
    refine V_iconst (v := 0) o dX9_slot_1 (by decide) ?_
    refine V_putI o dX9_slot_2 rfl fl_X9_1 rfl rfl rfl ?_
    rw [wI_sM67]
    refine V_iload_n o dX9_slot_5 rfl rfl ?_
    refine V_i2l o dX9_slot_6 ?_
    refine V_lconst (v := 0) o dX9_slot_7 (by decide) ?_
    refine V_aload_n o dX9_slot_8 rfl rfl ?_
    refine V_iconst (v := 0) o dX9_slot_9 (by decide) ?_
    refine V_cVi o rt dX9_slot_10 ml_X9_85 (c9_of hf (by exact hd) (show (0 : Int32) = nI 0 from rfl) (by omega)) rfl rfl rfl (Nat.le_of_ble_eq_true rfl) rfl ?_
    refine V_iconst (v := 1) o dX9_slot_13 (by decide) ?_
    refine V_isub o dX9_slot_14 ?_
    refine V_i2l o dX9_slot_15 ?_
    refine V_cSi o rt dX9_slot_16 ms_X9_21 (c9_in hf) rfl rfl (Nat.le_of_ble_eq_true rfl) rfl ?_
    refine V_if_eq (tgt := 41) o dX9_slot_19 (by decide) (fun c_19 => ?_) (fun c_19 => False.elim (h1 ((in_lo (k := lv) (lo := 0) (hi := M 0 - 1) (by decide) rfl).mp (bz_n0.mp c_19))))
    refine V_iconst (v := -1) o dX9_slot_41 (by decide) ?_
    refine V_iret o rt dX9_slot_42 rfl rfl ?_
    exact ⟨rfl, rfl⟩
def nxF (M : Nat → Int32) (t : Nat) (v : Int32) : Int32 := if isG M t ∧ (v < 0 ∨ M (231 + t) < v) then M (231 + t) else v
def nxM (M : Nat → Int32) : Int32 := itr (nxF M) 0 16 (-1)
def nxSel (M : Nat → Int32) (v : Int32) (t : Nat) : Bool := decide (isG M t ∧ M (231 + t) = v)
set_option maxRecDepth 20000 in
set_option maxHeartbeats 4000000 in
theorem c9_next {w : Wp} (hf : Fit sh0 w) {σ : Mm} {M : Nat → Int32} (hd : σ.1 67 8 = nI 0) {v : Int32} (hv : nxM M = v) {LN : (Nat → Nat) × Nat} (hLN : lineM M false (nxSel M v) = LN) : Ct sh0 w 4 mX9_next [.ref 67] (sM σ 0 M) (fun r' σ' => if v < 0 then r' = some (.int (-2)) ∧ ∃ fl, σ' = sM (sLn (wI σ 67 0 0) fl 0) 0 M else ∃ fl fr, r' = some (.int v) ∧ σ' = sM (sRw (sLn (wI σ 67 0 0) fl LN.2) fr LN.2) 0 M ∧ RwR fr (rowG LN.1 LN.2)) := by
  have hd4 : 0 ≤ 423 := Nat.zero_le _
  have hle : LN.2 ≤ 16 := by rw [← hLN]; exact lineM_le
  unfold lineM at hLN
  unfold nxM at hv
  refine Ct_of hf (by decide) rfl (Nat.le_of_ble_eq_true rfl) (fun x o rt => ?_)
  have main : ¬ v < 0 → V sh0 w x mX9_next (0, 0) 68 [(1, .int v), (0, .ref 67)] [] (sM (sLn (wI σ 67 0 0) (σ.1 71) 0) 0 M) := by
    intro hv0
    have line : ∀ n t (f : Nat → Int32) (s : (Nat → Nat) × Nat), t + n = 16 → s.2 ≤ t → (∀ j, j < s.2 → f j = nI (s.1 j) ∧ s.1 j < 16) → itr (lnF M false (nxSel M v)) t n s = LN → V sh0 w x mX9_next (0, 0) 70 [(2, .int (nI t)), (1, .int v), (0, .ref 67)] [] (sM (sLn (wI σ 67 0 0) f s.2) 0 M) := by
      intro n
      induction n with
      | zero =>
        intro t f s htn hst hfg hR
        have ht : t = 16 := by omega
        have hs : s = LN := hR
        subst hs
        refine V_iload_n o dX9_next_70 rfl rfl ?_
        refine V_bipush (v := 16) o dX9_next_71 (by decide) ?_
        refine V_icmp_ge (tgt := 109) o dX9_next_73 (by decide) (fun c_73 => ?_) (fun c_73 => False.elim (c_73 (by rw [ht]; exact Int32.le_refl _)))
        refine V_sub (ls := [(1, .int v), (0, .ref 67)]) (by simp) ?_
        refine V_aload_n o dX9_next_109 rfl rfl ?_
        refine V_callV o rt dX9_next_110 ml_X9_243 (c9_tellsLine (n := s.2) (g := s.1) hf hle rfl (fun j hj => (hfg j hj).1)) rfl rfl rfl (Nat.le_of_ble_eq_true rfl) rfl (fun r_110 σ_110 q_110 => ?_)
        obtain ⟨rfl, fr, rfl, hRw⟩ := q_110
        show V sh0 w x mX9_next (0, 0) _ _ [] _
        refine V_iload_n o dX9_next_113 rfl rfl ?_
        refine V_iret o rt dX9_next_114 rfl rfl ?_
        rw [if_neg hv0]
        exact ⟨f, fr, rfl, rfl, hRw⟩
      | succ n ih =>
        intro t f s htn hst hfg hR
        rw [itr_succ] at hR
        refine V_iload_n o dX9_next_70 rfl rfl ?_
        refine V_bipush (v := 16) o dX9_next_71 (by decide) ?_
        refine V_icmp_ge (tgt := 109) o dX9_next_73 (by decide) (fun c_73 => False.elim (absurd c_73 (nI_ge (b := 16) (by omega) (by omega)))) (fun c_73 => ?_)
        refine V_aload_n o dX9_next_76 rfl rfl ?_
        refine V_iload_n o dX9_next_77 rfl rfl ?_
        refine V_cVi o rt dX9_next_78 ml_X9_99 (c9_goes hf (by exact hd) hd4 rfl (by omega)) rfl rfl rfl (Nat.le_of_ble_eq_true rfl) rfl ?_
        refine V_if_eq (tgt := 103) o dX9_next_81 (by decide) (fun c_81 => ?_) (fun c_81 => ?_)
        · refine V_iincV (v := nI (t + 1)) (ls' := [(2, _), (1, _), (0, _)]) o dX9_next_103 rfl (ninc 1 rfl) (by decide) rfl ?_
          refine V_goto (tgt := 70) o dX9_next_106 (by decide) ?_
          rw [lnF, if_neg (by rw [nxSel, decide_eq_true_eq]; exact fun h => bz_0.mp c_81 h.1)] at hR
          exact V_sub (by simp) (ih (t + 1) f s (by omega) (by omega) hfg hR)
        · refine V_aload_n o dX9_next_84 rfl rfl ?_
          refine V_sipush (v := 231) o dX9_next_85 (by decide) ?_
          refine V_iload_n o dX9_next_88 rfl rfl ?_
          refine V_iadd o dX9_next_89 ?_
          refine V_cVi o rt dX9_next_90 ml_X9_85 (c9_of hf (by exact hd) (nadd (show (231 : Int32) = nI 231 from rfl) rfl) (by omega)) rfl rfl rfl (Nat.le_of_ble_eq_true rfl) rfl ?_
          refine V_iload_n o dX9_next_93 rfl rfl ?_
          refine V_icmp_ne (tgt := 103) o dX9_next_94 (by decide) (fun c_94 => ?_) (fun c_94 => ?_)
          · refine V_iincV (v := nI (t + 1)) (ls' := [(2, _), (1, _), (0, _)]) o dX9_next_103 rfl (ninc 1 rfl) (by decide) rfl ?_
            refine V_goto (tgt := 70) o dX9_next_106 (by decide) ?_
            rw [lnF, if_neg (by rw [nxSel, decide_eq_true_eq]; exact fun h => c_94 h.2)] at hR
            exact V_sub (by simp) (ih (t + 1) f s (by omega) (by omega) hfg hR)
          · refine V_aload_n o dX9_next_97 rfl rfl ?_
            refine V_iload_n o dX9_next_98 rfl rfl ?_
            refine V_iconst (v := 0) o dX9_next_99 (by decide) ?_
            refine V_callV o rt dX9_next_100 ml_X9_142 (c9_queues (n := s.2) (g := s.1) hf (by exact hd) hd4 rfl (by omega) false rfl rfl (by omega) (fun j hj => ⟨(hfg j hj).1, (hfg j hj).2⟩)) rfl rfl rfl (Nat.le_of_ble_eq_true rfl) rfl (fun r_100 σ_100 q_100 => ?_)
            obtain ⟨rfl, f1, rfl, hf1⟩ := q_100
            rw [sLn_sLn]
            refine V_iincV (v := nI (t + 1)) (ls' := [(2, _), (1, _), (0, _)]) o dX9_next_103 rfl (ninc 1 rfl) (by decide) rfl ?_
            refine V_goto (tgt := 70) o dX9_next_106 (by decide) ?_
            rw [lnF, if_pos (by rw [nxSel, decide_eq_true_eq]; exact ⟨bz_n0.mp c_81, c_94⟩)] at hR
            exact V_sub (by simp) (ih (t + 1) f1 (qG (soonB M false) t s.2 s.1, s.2 + 1) (by omega) (Nat.succ_le_succ hst) (fun j hj => ⟨hf1 j hj, qG_lt (by omega) s.2 s.2 s.1 (Nat.le_refl _) (fun k hk hne => (hfg k (by omega)).2) j hj⟩) hR)
    refine V_iconst (v := 0) o dX9_next_68 (by decide) ?_
    refine V_istore_n (ls' := [(2, _), (1, _), (0, _)]) o dX9_next_69 rfl (by decide) rfl ?_
    exact line 16 0 (σ.1 71) (fun _ => 0, 0) (by omega) (Nat.le_refl 0) (fun j hj => absurd hj (Nat.not_lt_zero j)) hLN
  have loop : ∀ n t (u : Int32), t + n = 16 → itr (nxF M) t n u = v → V sh0 w x mX9_next (0, 0) 14 [(2, .int (nI t)), (1, .int u), (0, .ref 67)] [] (sM (sLn (wI σ 67 0 0) (σ.1 71) 0) 0 M) := by
    intro n
    induction n with
    | zero =>
      intro t u htn hR
      have ht : t = 16 := by omega
      have hs : u = v := hR
      subst hs
      refine V_iload_n o dX9_next_14 rfl rfl ?_
      refine V_bipush (v := 16) o dX9_next_15 (by decide) ?_
      refine V_icmp_ge (tgt := 61) o dX9_next_17 (by decide) (fun c_17 => ?_) (fun c_17 => False.elim (c_17 (by rw [ht]; exact Int32.le_refl _)))
      refine V_iload_n o dX9_next_61 rfl rfl ?_
      refine V_if_ge (tgt := 68) o dX9_next_62 (by decide) (fun c_62 => ?_) (fun c_62 => ?_)
      · exact V_drop (main (Int32.not_lt.mpr c_62))
      · refine V_bipush (v := -2) o dX9_next_65 (by decide) ?_
        refine V_iret o rt dX9_next_67 rfl rfl ?_
        rw [if_pos (Int32.not_le.mp c_62)]
        exact ⟨rfl, σ.1 71, rfl⟩
    | succ n ih =>
      intro t u htn hR
      rw [itr_succ] at hR
      refine V_iload_n o dX9_next_14 rfl rfl ?_
      refine V_bipush (v := 16) o dX9_next_15 (by decide) ?_
      refine V_icmp_ge (tgt := 61) o dX9_next_17 (by decide) (fun c_17 => False.elim (absurd c_17 (nI_ge (b := 16) (by omega) (by omega)))) (fun c_17 => ?_)
      refine V_aload_n o dX9_next_20 rfl rfl ?_
      refine V_iload_n o dX9_next_21 rfl rfl ?_
      refine V_cVi o rt dX9_next_22 ml_X9_99 (c9_goes hf (by exact hd) hd4 rfl (by omega)) rfl rfl rfl (Nat.le_of_ble_eq_true rfl) rfl ?_
      refine V_if_eq (tgt := 55) o dX9_next_25 (by decide) (fun c_25 => ?_) (fun c_25 => ?_)
      · refine V_iincV (v := nI (t + 1)) (ls' := [(2, _), (1, _), (0, _)]) o dX9_next_55 rfl (ninc 1 rfl) (by decide) rfl ?_
        refine V_goto (tgt := 14) o dX9_next_58 (by decide) ?_
        rw [nxF, if_neg (fun h => bz_0.mp c_25 h.1)] at hR
        exact V_sub (by simp) (ih (t + 1) u (by omega) hR)
      · refine V_iload_n o dX9_next_28 rfl rfl ?_
        refine V_if_lt (tgt := 45) o dX9_next_29 (by decide) (fun c_29 => ?_) (fun c_29 => ?_)
        · refine V_aload_n o dX9_next_45 rfl rfl ?_
          refine V_sipush (v := 231) o dX9_next_46 (by decide) ?_
          refine V_iload_n o dX9_next_49 rfl rfl ?_
          refine V_iadd o dX9_next_50 ?_
          refine V_cVi o rt dX9_next_51 ml_X9_85 (c9_of hf (by exact hd) (nadd (show (231 : Int32) = nI 231 from rfl) rfl) (by omega)) rfl rfl rfl (Nat.le_of_ble_eq_true rfl) rfl ?_
          refine V_istore_n (ls' := [(1, _), (2, _), (0, _)]) o dX9_next_54 rfl (by decide) rfl ?_
          refine V_iincV (v := nI (t + 1)) (ls' := [(2, _), (1, _), (0, _)]) o dX9_next_55 rfl (ninc 1 rfl) (by decide) rfl ?_
          refine V_goto (tgt := 14) o dX9_next_58 (by decide) ?_
          rw [nxF, if_pos ⟨bz_n0.mp c_25, Or.inl c_29⟩] at hR
          exact V_sub (by simp) (ih (t + 1) (M (231 + t)) (by omega) hR)
        · refine V_aload_n o dX9_next_32 rfl rfl ?_
          refine V_sipush (v := 231) o dX9_next_33 (by decide) ?_
          refine V_iload_n o dX9_next_36 rfl rfl ?_
          refine V_iadd o dX9_next_37 ?_
          refine V_cVi o rt dX9_next_38 ml_X9_85 (c9_of hf (by exact hd) (nadd (show (231 : Int32) = nI 231 from rfl) rfl) (by omega)) rfl rfl rfl (Nat.le_of_ble_eq_true rfl) rfl ?_
          refine V_iload_n o dX9_next_41 rfl rfl ?_
          refine V_icmp_ge (tgt := 55) o dX9_next_42 (by decide) (fun c_42 => ?_) (fun c_42 => ?_)
          · refine V_iincV (v := nI (t + 1)) (ls' := [(2, _), (1, _), (0, _)]) o dX9_next_55 rfl (ninc 1 rfl) (by decide) rfl ?_
            refine V_goto (tgt := 14) o dX9_next_58 (by decide) ?_
            rw [nxF, if_neg (fun h => h.2.elim c_29 (fun q => absurd q (Int32.not_lt.mpr c_42)))] at hR
            exact V_sub (by simp) (ih (t + 1) u (by omega) hR)
          · refine V_aload_n o dX9_next_45 rfl rfl ?_
            refine V_sipush (v := 231) o dX9_next_46 (by decide) ?_
            refine V_iload_n o dX9_next_49 rfl rfl ?_
            refine V_iadd o dX9_next_50 ?_
            refine V_cVi o rt dX9_next_51 ml_X9_85 (c9_of hf (by exact hd) (nadd (show (231 : Int32) = nI 231 from rfl) rfl) (by omega)) rfl rfl rfl (Nat.le_of_ble_eq_true rfl) rfl ?_
            refine V_istore_n (ls' := [(1, _), (2, _), (0, _)]) o dX9_next_54 rfl (by decide) rfl ?_
            refine V_iincV (v := nI (t + 1)) (ls' := [(2, _), (1, _), (0, _)]) o dX9_next_55 rfl (ninc 1 rfl) (by decide) rfl ?_
            refine V_goto (tgt := 14) o dX9_next_58 (by decide) ?_
            rw [nxF, if_pos ⟨bz_n0.mp c_25, Or.inr (Int32.not_le.mp c_42)⟩] at hR
            exact V_sub (by simp) (ih (t + 1) (M (231 + t)) (by omega) hR)
  refine V_aload_n o dX9_next_0 rfl rfl ?_
  refine V_iconst (v := 0) o dX9_next_1 (by decide) ?_
  refine V_putI o dX9_next_2 rfl fl_X9_1 rfl rfl rfl ?_
  rw [wI_sM67]
  refine V_aload_n o dX9_next_5 rfl rfl ?_
  refine V_iconst (v := 0) o dX9_next_6 (by decide) ?_
  refine V_putI o dX9_next_7 rfl fl_X9_109 rfl rfl rfl ?_
  rw [wI_sM67]
  rw [wI_sLn0]
  refine V_iconst (v := -1) o dX9_next_10 (by decide) ?_
  refine V_istore_n (ls' := [(1, _), (0, _)]) o dX9_next_11 rfl (by decide) rfl ?_
  refine V_iconst (v := 0) o dX9_next_12 (by decide) ?_
  refine V_istore_n (ls' := [(2, _), (1, _), (0, _)]) o dX9_next_13 rfl (by decide) rfl ?_
  exact loop 16 0 (-1) (by omega) hv
