theorem toInt_out {a : Int32} (h : ∀ c : Nat, c ≤ 9 → a ≠ nI c) : a.toInt < 0 ∨ (9 : Int) < a.toInt := by
  by_cases h1 : a.toInt < 0
  · exact Or.inl h1
  · by_cases h2 : (9 : Int) < a.toInt
    · exact Or.inr h2
    · exfalso
      refine h a.toInt.toNat (by omega) (Int32.toInt_inj.mp ?_)
      rw [nI_toInt (by omega)]
      omega
def toldR (M : Nat → Int32) (k : Int32) : Int32 := if inR k 0 6 then M (7 + ix k) else -1
def pmF (M : Nat → Int32) (t : Nat) (n : Int32) : Int32 := n + bz (isT M t ∧ M (343 + t) = 1)
def pmM (M : Nat → Int32) : Int32 := itr (pmF M) 0 16 0
def fmF (M : Nat → Int32) (t : Nat) (n : Int32) : Int32 := n + bz (isG M t ∧ M (391 + t) = -1)
def fmM (M : Nat → Int32) : Int32 := itr (fmF M) 0 16 0
set_option maxRecDepth 20000 in
set_option maxHeartbeats 4000000 in
theorem c9_told {w : Wp} (hf : Fit sh0 w) {σ : Mm} {M : Nat → Int32} (hd : σ.1 67 8 = nI 0) {k : Int32} : Cf sh0 w 1 mX9_told [.ref 67, .int k] (sM σ 0 M) (some (.int (toldR M k))) (sM (wI σ 67 0 0) 0 M) := by
  refine Ct_of hf (by decide) rfl (Nat.le_of_ble_eq_true rfl) (fun x o rt => ?_)
  by_cases hk : inR k 0 6
  · have hx := inR_nI (N := 6) (by omega) hk
    refine V_aload_n o dX9_told_0 rfl rfl ?_
    refine V_iconst (v := 0) o dX9_told_1 (by decide) ?_
    refine V_putI o dX9_told_2 rfl fl_X9_1 rfl rfl rfl ?_
    rw [wI_sM67]
    refine V_iload_n o dX9_told_5 rfl rfl ?_
    refine V_i2l o dX9_told_6 ?_
    refine V_lconst (v := 0) o dX9_told_7 (by decide) ?_
    refine V_ldc2 o dX9_told_8 kc_X9_274 ?_
    refine V_cSi o rt dX9_told_11 ms_X9_21 (c9_in hf) rfl rfl (Nat.le_of_ble_eq_true rfl) rfl ?_
    refine V_if_eq (tgt := 28) o dX9_told_14 (by decide) (fun c_14 => False.elim (bz_0.mp c_14 ((in_lo (k := k) (lo := 0) (hi := 6) (l := 0) (h := 6) (by decide) (by decide)).mpr hk))) (fun c_14 => ?_)
    refine V_aload_n o dX9_told_17 rfl rfl ?_
    refine V_bipush (v := 7) o dX9_told_18 (by decide) ?_
    refine V_iload_n o dX9_told_20 rfl rfl ?_
    refine V_iadd o dX9_told_21 ?_
    refine V_cVi o rt dX9_told_22 ml_X9_85 (c9_of hf (by exact hd) (nadd (show (7 : Int32) = nI 7 from rfl) hx.1) (by omega)) rfl rfl rfl (Nat.le_of_ble_eq_true rfl) rfl ?_
    refine V_goto (tgt := 29) o dX9_told_25 (by decide) ?_
    refine V_iret o rt dX9_told_29 rfl rfl ?_
    exact ⟨by rw [toldR, if_pos hk], rfl⟩
  · refine V_aload_n o dX9_told_0 rfl rfl ?_
    refine V_iconst (v := 0) o dX9_told_1 (by decide) ?_
    refine V_putI o dX9_told_2 rfl fl_X9_1 rfl rfl rfl ?_
    rw [wI_sM67]
    refine V_iload_n o dX9_told_5 rfl rfl ?_
    refine V_i2l o dX9_told_6 ?_
    refine V_lconst (v := 0) o dX9_told_7 (by decide) ?_
    refine V_ldc2 o dX9_told_8 kc_X9_274 ?_
    refine V_cSi o rt dX9_told_11 ms_X9_21 (c9_in hf) rfl rfl (Nat.le_of_ble_eq_true rfl) rfl ?_
    refine V_if_eq (tgt := 28) o dX9_told_14 (by decide) (fun c_14 => ?_) (fun c_14 => False.elim (hk ((in_lo (k := k) (lo := 0) (hi := 6) (l := 0) (h := 6) (by decide) (by decide)).mp (bz_n0.mp c_14))))
    refine V_iconst (v := -1) o dX9_told_28 (by decide) ?_
    refine V_iret o rt dX9_told_29 rfl rfl ?_
    exact ⟨by rw [toldR, if_neg hk], rfl⟩
set_option maxRecDepth 20000 in
set_option maxHeartbeats 4000000 in
theorem c9_pausedMany {w : Wp} (hf : Fit sh0 w) {σ : Mm} {d : Nat} {M : Nat → Int32} (hd : σ.1 67 8 = nI d) (hd4 : d ≤ 423) {R : Int32} (hR0 : pmM M = R) : Cf sh0 w 2 mX9_pausedMany [.ref 67] (sM σ d M) (some (.int R)) (sM σ d M) := by
  unfold pmM at hR0
  refine Ct_of hf (by decide) rfl (Nat.le_of_ble_eq_true rfl) (fun x o rt => ?_)
  have loop : ∀ n t v, t + n = 16 → itr (pmF M) t n v = R → V sh0 w x mX9_pausedMany (0, 0) 4 [(2, .int (nI t)), (1, .int v), (0, .ref 67)] [] (sM σ d M) := by
    intro n
    induction n with
    | zero =>
      intro t v htn hR
      have ht : t = 16 := by omega
      have hs : v = R := hR
      refine V_iload_n o dX9_pausedMany_4 rfl rfl ?_
      refine V_bipush (v := 16) o dX9_pausedMany_5 (by decide) ?_
      refine V_icmp_ge (tgt := 48) o dX9_pausedMany_7 (by decide) (fun c_7 => ?_) (fun c_7 => False.elim (c_7 (by rw [ht]; exact Int32.le_refl _)))
      refine V_iload_n o dX9_pausedMany_48 rfl rfl ?_
      refine V_iret o rt dX9_pausedMany_49 rfl rfl ?_
      exact ⟨by rw [hs], rfl⟩
    | succ n ih =>
      intro t v htn hR
      rw [itr_succ] at hR
      refine V_iload_n o dX9_pausedMany_4 rfl rfl ?_
      refine V_bipush (v := 16) o dX9_pausedMany_5 (by decide) ?_
      refine V_icmp_ge (tgt := 48) o dX9_pausedMany_7 (by decide) (fun c_7 => False.elim (absurd c_7 (nI_ge (b := 16) (by omega) (by omega)))) (fun c_7 => ?_)
      refine V_iload_n o dX9_pausedMany_10 rfl rfl ?_
      refine V_aload_n o dX9_pausedMany_11 rfl rfl ?_
      refine V_iload_n o dX9_pausedMany_12 rfl rfl ?_
      refine V_cVi o rt dX9_pausedMany_13 ml_X9_89 (c9_isTimer hf (by exact hd) hd4 rfl (by omega)) rfl rfl rfl (Nat.le_of_ble_eq_true rfl) rfl ?_
      refine V_if_eq (tgt := 36) o dX9_pausedMany_16 (by decide) (fun c_16 => ?_) (fun c_16 => ?_)
      · refine V_iconst (v := 0) o dX9_pausedMany_36 (by decide) ?_
        refine V_cSi o rt dX9_pausedMany_37 ms_X9_31 (c9_flag hf (by simp)) rfl rfl (Nat.le_of_ble_eq_true rfl) rfl ?_
        refine V_iadd o dX9_pausedMany_40 ?_
        refine V_istore_n (ls' := [(1, _), (2, _), (0, _)]) o dX9_pausedMany_41 rfl (by decide) rfl ?_
        refine V_iincV (v := nI (t + 1)) (ls' := [(2, _), (1, _), (0, _)]) o dX9_pausedMany_42 rfl (ninc 1 rfl) (by decide) rfl ?_
        refine V_goto (tgt := 4) o dX9_pausedMany_45 (by decide) ?_
        rw [pmF, bz_f (fun h => bz_0.mp c_16 h.1)] at hR
        exact V_sub (by simp) (ih (t + 1) (v + 0) (by omega) hR)
      · refine V_aload_n o dX9_pausedMany_19 rfl rfl ?_
        refine V_sipush (v := 343) o dX9_pausedMany_20 (by decide) ?_
        refine V_iload_n o dX9_pausedMany_23 rfl rfl ?_
        refine V_iadd o dX9_pausedMany_24 ?_
        refine V_cVi o rt dX9_pausedMany_25 ml_X9_85 (c9_of hf (by exact hd) (nadd (show (343 : Int32) = nI 343 from rfl) rfl) (by omega)) rfl rfl rfl (Nat.le_of_ble_eq_true rfl) rfl ?_
        refine V_iconst (v := 1) o dX9_pausedMany_28 (by decide) ?_
        refine V_icmp_ne (tgt := 36) o dX9_pausedMany_29 (by decide) (fun c_29 => ?_) (fun c_29 => ?_)
        · refine V_iconst (v := 0) o dX9_pausedMany_36 (by decide) ?_
          refine V_cSi o rt dX9_pausedMany_37 ms_X9_31 (c9_flag hf (by simp)) rfl rfl (Nat.le_of_ble_eq_true rfl) rfl ?_
          refine V_iadd o dX9_pausedMany_40 ?_
          refine V_istore_n (ls' := [(1, _), (2, _), (0, _)]) o dX9_pausedMany_41 rfl (by decide) rfl ?_
          refine V_iincV (v := nI (t + 1)) (ls' := [(2, _), (1, _), (0, _)]) o dX9_pausedMany_42 rfl (ninc 1 rfl) (by decide) rfl ?_
          refine V_goto (tgt := 4) o dX9_pausedMany_45 (by decide) ?_
          rw [pmF, bz_f (fun h => c_29 h.2)] at hR
          exact V_sub (by simp) (ih (t + 1) (v + 0) (by omega) hR)
        · refine V_iconst (v := 1) o dX9_pausedMany_32 (by decide) ?_
          refine V_goto (tgt := 37) o dX9_pausedMany_33 (by decide) ?_
          refine V_cSi o rt dX9_pausedMany_37 ms_X9_31 (c9_flag hf (by simp)) rfl rfl (Nat.le_of_ble_eq_true rfl) rfl ?_
          refine V_iadd o dX9_pausedMany_40 ?_
          refine V_istore_n (ls' := [(1, _), (2, _), (0, _)]) o dX9_pausedMany_41 rfl (by decide) rfl ?_
          refine V_iincV (v := nI (t + 1)) (ls' := [(2, _), (1, _), (0, _)]) o dX9_pausedMany_42 rfl (ninc 1 rfl) (by decide) rfl ?_
          refine V_goto (tgt := 4) o dX9_pausedMany_45 (by decide) ?_
          rw [pmF, bz_t ⟨bz_n0.mp c_16, c_29⟩] at hR
          exact V_sub (by simp) (ih (t + 1) (v + 1) (by omega) hR)
  refine V_iconst (v := 0) o dX9_pausedMany_0 (by decide) ?_
  refine V_istore_n (ls' := [(1, _), (0, _)]) o dX9_pausedMany_1 rfl (by decide) rfl ?_
  refine V_iconst (v := 0) o dX9_pausedMany_2 (by decide) ?_
  refine V_istore_n (ls' := [(2, _), (1, _), (0, _)]) o dX9_pausedMany_3 rfl (by decide) rfl ?_
  exact loop 16 0 0 (by omega) hR0
set_option maxRecDepth 20000 in
set_option maxHeartbeats 4000000 in
theorem c9_farMany {w : Wp} (hf : Fit sh0 w) {σ : Mm} {d : Nat} {M : Nat → Int32} (hd : σ.1 67 8 = nI d) (hd4 : d ≤ 423) {R : Int32} (hR0 : fmM M = R) : Cf sh0 w 3 mX9_farMany [.ref 67] (sM σ d M) (some (.int R)) (sM σ d M) := by
  unfold fmM at hR0
  refine Ct_of hf (by decide) rfl (Nat.le_of_ble_eq_true rfl) (fun x o rt => ?_)
  have loop : ∀ n t v, t + n = 16 → itr (fmF M) t n v = R → V sh0 w x mX9_farMany (0, 0) 4 [(2, .int (nI t)), (1, .int v), (0, .ref 67)] [] (sM σ d M) := by
    intro n
    induction n with
    | zero =>
      intro t v htn hR
      have ht : t = 16 := by omega
      have hs : v = R := hR
      refine V_iload_n o dX9_farMany_4 rfl rfl ?_
      refine V_bipush (v := 16) o dX9_farMany_5 (by decide) ?_
      refine V_icmp_ge (tgt := 48) o dX9_farMany_7 (by decide) (fun c_7 => ?_) (fun c_7 => False.elim (c_7 (by rw [ht]; exact Int32.le_refl _)))
      refine V_iload_n o dX9_farMany_48 rfl rfl ?_
      refine V_iret o rt dX9_farMany_49 rfl rfl ?_
      exact ⟨by rw [hs], rfl⟩
    | succ n ih =>
      intro t v htn hR
      rw [itr_succ] at hR
      refine V_iload_n o dX9_farMany_4 rfl rfl ?_
      refine V_bipush (v := 16) o dX9_farMany_5 (by decide) ?_
      refine V_icmp_ge (tgt := 48) o dX9_farMany_7 (by decide) (fun c_7 => False.elim (absurd c_7 (nI_ge (b := 16) (by omega) (by omega)))) (fun c_7 => ?_)
      refine V_iload_n o dX9_farMany_10 rfl rfl ?_
      refine V_aload_n o dX9_farMany_11 rfl rfl ?_
      refine V_iload_n o dX9_farMany_12 rfl rfl ?_
      refine V_cVi o rt dX9_farMany_13 ml_X9_99 (c9_goes hf (by exact hd) hd4 rfl (by omega)) rfl rfl rfl (Nat.le_of_ble_eq_true rfl) rfl ?_
      refine V_if_eq (tgt := 36) o dX9_farMany_16 (by decide) (fun c_16 => ?_) (fun c_16 => ?_)
      · refine V_iconst (v := 0) o dX9_farMany_36 (by decide) ?_
        refine V_cSi o rt dX9_farMany_37 ms_X9_31 (c9_flag hf (by simp)) rfl rfl (Nat.le_of_ble_eq_true rfl) rfl ?_
        refine V_iadd o dX9_farMany_40 ?_
        refine V_istore_n (ls' := [(1, _), (2, _), (0, _)]) o dX9_farMany_41 rfl (by decide) rfl ?_
        refine V_iincV (v := nI (t + 1)) (ls' := [(2, _), (1, _), (0, _)]) o dX9_farMany_42 rfl (ninc 1 rfl) (by decide) rfl ?_
        refine V_goto (tgt := 4) o dX9_farMany_45 (by decide) ?_
        rw [fmF, bz_f (fun h => bz_0.mp c_16 h.1)] at hR
        exact V_sub (by simp) (ih (t + 1) (v + 0) (by omega) hR)
      · refine V_aload_n o dX9_farMany_19 rfl rfl ?_
        refine V_sipush (v := 391) o dX9_farMany_20 (by decide) ?_
        refine V_iload_n o dX9_farMany_23 rfl rfl ?_
        refine V_iadd o dX9_farMany_24 ?_
        refine V_cVi o rt dX9_farMany_25 ml_X9_85 (c9_of hf (by exact hd) (nadd (show (391 : Int32) = nI 391 from rfl) rfl) (by omega)) rfl rfl rfl (Nat.le_of_ble_eq_true rfl) rfl ?_
        refine V_iconst (v := -1) o dX9_farMany_28 (by decide) ?_
        refine V_icmp_ne (tgt := 36) o dX9_farMany_29 (by decide) (fun c_29 => ?_) (fun c_29 => ?_)
        · refine V_iconst (v := 0) o dX9_farMany_36 (by decide) ?_
          refine V_cSi o rt dX9_farMany_37 ms_X9_31 (c9_flag hf (by simp)) rfl rfl (Nat.le_of_ble_eq_true rfl) rfl ?_
          refine V_iadd o dX9_farMany_40 ?_
          refine V_istore_n (ls' := [(1, _), (2, _), (0, _)]) o dX9_farMany_41 rfl (by decide) rfl ?_
          refine V_iincV (v := nI (t + 1)) (ls' := [(2, _), (1, _), (0, _)]) o dX9_farMany_42 rfl (ninc 1 rfl) (by decide) rfl ?_
          refine V_goto (tgt := 4) o dX9_farMany_45 (by decide) ?_
          rw [fmF, bz_f (fun h => c_29 h.2)] at hR
          exact V_sub (by simp) (ih (t + 1) (v + 0) (by omega) hR)
        · refine V_iconst (v := 1) o dX9_farMany_32 (by decide) ?_
          refine V_goto (tgt := 37) o dX9_farMany_33 (by decide) ?_
          refine V_cSi o rt dX9_farMany_37 ms_X9_31 (c9_flag hf (by simp)) rfl rfl (Nat.le_of_ble_eq_true rfl) rfl ?_
          refine V_iadd o dX9_farMany_40 ?_
          refine V_istore_n (ls' := [(1, _), (2, _), (0, _)]) o dX9_farMany_41 rfl (by decide) rfl ?_
          refine V_iincV (v := nI (t + 1)) (ls' := [(2, _), (1, _), (0, _)]) o dX9_farMany_42 rfl (ninc 1 rfl) (by decide) rfl ?_
          refine V_goto (tgt := 4) o dX9_farMany_45 (by decide) ?_
          rw [fmF, bz_t ⟨bz_n0.mp c_16, c_29⟩] at hR
          exact V_sub (by simp) (ih (t + 1) (v + 1) (by omega) hR)
  refine V_iconst (v := 0) o dX9_farMany_0 (by decide) ?_
  refine V_istore_n (ls' := [(1, _), (0, _)]) o dX9_farMany_1 rfl (by decide) rfl ?_
  refine V_iconst (v := 0) o dX9_farMany_2 (by decide) ?_
  refine V_istore_n (ls' := [(2, _), (1, _), (0, _)]) o dX9_farMany_3 rfl (by decide) rfl ?_
  exact loop 16 0 0 (by omega) hR0
def countR (M : Nat → Int32) (L : Nat) (tl tp k : Int32) : Int32 :=
  if inR k 10 13 then (if k - 10 < M 0 then M (1 + (ix k - 10)) else 0)
  else if k = 0 then M 6 else if k = 1 then M 0 else if k = 2 then spanM M L else if k = 3 then manyM M else if k = 4 then pmM M else if k = 5 then fmM M else if k = 6 then M 5 else if k = 7 then M 14 else if k = 8 then tl else if k = 9 then tp else -1
set_option maxRecDepth 20000 in
set_option maxHeartbeats 4000000 in
theorem c9_count {w : Wp} (hf : Fit sh0 w) {σ : Mm} {M : Nat → Int32} (hd : σ.1 67 8 = nI 0) {L : Nat} (hW : Wf M L) {k : Int32} : Cf sh0 w 4 mX9_count [.ref 67, .int k] (sM σ 0 M) (some (.int (countR M L (σ.1 67 1) (σ.1 67 4) k))) (sM (wI σ 67 0 0) 0 M) := by
  refine Ct_of hf (by decide) rfl (Nat.le_of_ble_eq_true rfl) (fun x o rt => ?_)
  by_cases hk : inR k 10 13
  · have hx : k = nI (ix k) ∧ 10 ≤ ix k ∧ ix k ≤ 13 := by
      obtain ⟨s, e, g1, g2⟩ := i32_rng (lo := 10) (hi := 13) (by omega) hk.1 hk.2 (by omega)
      have : ix k = s := by rw [e]; exact ix_nI (by omega)
      exact ⟨by rw [this]; exact e, by omega, by omega⟩
    have hx2 : 1 + k - 10 = nI (1 + (ix k - 10)) := by
      rw [hx.1, ix_nI (by omega), show (1 : Int32) + nI (ix k) = nI (1 + ix k) from nI_add 1 _, show 1 + ix k = (1 + (ix k - 10)) + 10 by omega, ← nI_add]
      exact Int32.add_sub_cancel _ _
    refine V_aload_n o dX9_count_0 rfl rfl ?_
    refine V_iconst (v := 0) o dX9_count_1 (by decide) ?_
    refine V_putI o dX9_count_2 rfl fl_X9_1 rfl rfl rfl ?_
    rw [wI_sM67]
    refine V_iload_n o dX9_count_5 rfl rfl ?_
    refine V_i2l o dX9_count_6 ?_
    refine V_ldc2 o dX9_count_7 kc_X9_241 ?_
    refine V_ldc2 o dX9_count_10 kc_X9_276 ?_
    refine V_cSi o rt dX9_count_13 ms_X9_21 (c9_in hf) rfl rfl (Nat.le_of_ble_eq_true rfl) rfl ?_
    refine V_if_eq (tgt := 46) o dX9_count_16 (by decide) (fun c_16 => False.elim (bz_0.mp c_16 ((in_lo (k := k) (lo := 10) (hi := 13) (l := 10) (h := 13) (by decide) (by decide)).mpr hk))) (fun c_16 => ?_)
    refine V_iload_n o dX9_count_19 rfl rfl ?_
    refine V_bipush (v := 10) o dX9_count_20 (by decide) ?_
    refine V_isub o dX9_count_22 ?_
    refine V_aload_n o dX9_count_23 rfl rfl ?_
    refine V_iconst (v := 0) o dX9_count_24 (by decide) ?_
    refine V_cVi o rt dX9_count_25 ml_X9_85 (c9_of hf (by exact hd) (show (0 : Int32) = nI 0 from rfl) (by omega)) rfl rfl rfl (Nat.le_of_ble_eq_true rfl) rfl ?_
    refine V_icmp_ge (tgt := 44) o dX9_count_28 (by decide) (fun c_28 => ?_) (fun c_28 => ?_)
    · refine V_iconst (v := 0) o dX9_count_44 (by decide) ?_
      refine V_iret o rt dX9_count_45 rfl rfl ?_
      exact ⟨by rw [countR, if_pos hk, if_neg (Int32.not_lt.mpr c_28)], rfl⟩
    · refine V_aload_n o dX9_count_31 rfl rfl ?_
      refine V_iconst (v := 1) o dX9_count_32 (by decide) ?_
      refine V_iload_n o dX9_count_33 rfl rfl ?_
      refine V_iadd o dX9_count_34 ?_
      refine V_bipush (v := 10) o dX9_count_35 (by decide) ?_
      refine V_isub o dX9_count_37 ?_
      refine V_cVi o rt dX9_count_38 ml_X9_85 (c9_of hf (by exact hd) hx2 (by omega)) rfl rfl rfl (Nat.le_of_ble_eq_true rfl) rfl ?_
      refine V_goto (tgt := 45) o dX9_count_41 (by decide) ?_
      refine V_iret o rt dX9_count_45 rfl rfl ?_
      exact ⟨by rw [countR, if_pos hk, if_pos (Int32.not_le.mp c_28)], rfl⟩
  · refine V_aload_n o dX9_count_0 rfl rfl ?_
    refine V_iconst (v := 0) o dX9_count_1 (by decide) ?_
    refine V_putI o dX9_count_2 rfl fl_X9_1 rfl rfl rfl ?_
    rw [wI_sM67]
    refine V_iload_n o dX9_count_5 rfl rfl ?_
    refine V_i2l o dX9_count_6 ?_
    refine V_ldc2 o dX9_count_7 kc_X9_241 ?_
    refine V_ldc2 o dX9_count_10 kc_X9_276 ?_
    refine V_cSi o rt dX9_count_13 ms_X9_21 (c9_in hf) rfl rfl (Nat.le_of_ble_eq_true rfl) rfl ?_
    refine V_if_eq (tgt := 46) o dX9_count_16 (by decide) (fun c_16 => ?_) (fun c_16 => False.elim (hk ((in_lo (k := k) (lo := 10) (hi := 13) (l := 10) (h := 13) (by decide) (by decide)).mp (bz_n0.mp c_16))))
    refine V_iload_n o dX9_count_46 rfl rfl ?_
    by_cases h0 : k = 0
    · refine V_tableIn (off := 53) (tgt := 100) o dX9_count_47 (by rw [h0]; decide) (by rw [h0]; decide) (by rw [h0]; decide) (by decide) ?_
      refine V_aload_n o dX9_count_100 rfl rfl ?_
      refine V_bipush (v := 6) o dX9_count_101 (by decide) ?_
      refine V_cVi o rt dX9_count_103 ml_X9_85 (c9_of hf (by exact hd) (show (6 : Int32) = nI 6 from rfl) (by omega)) rfl rfl rfl (Nat.le_of_ble_eq_true rfl) rfl ?_
      refine V_iret o rt dX9_count_106 rfl rfl ?_
      exact ⟨by rw [countR, if_neg hk, if_pos h0], rfl⟩
    by_cases h1 : k = 1
    · refine V_tableIn (off := 60) (tgt := 107) o dX9_count_47 (by rw [h1]; decide) (by rw [h1]; decide) (by rw [h1]; decide) (by decide) ?_
      refine V_aload_n o dX9_count_107 rfl rfl ?_
      refine V_iconst (v := 0) o dX9_count_108 (by decide) ?_
      refine V_cVi o rt dX9_count_109 ml_X9_85 (c9_of hf (by exact hd) (show (0 : Int32) = nI 0 from rfl) (by omega)) rfl rfl rfl (Nat.le_of_ble_eq_true rfl) rfl ?_
      refine V_iret o rt dX9_count_112 rfl rfl ?_
      exact ⟨by rw [countR, if_neg hk, if_neg h0, if_pos h1], rfl⟩
    by_cases h2 : k = 2
    · refine V_tableIn (off := 66) (tgt := 113) o dX9_count_47 (by rw [h2]; decide) (by rw [h2]; decide) (by rw [h2]; decide) (by decide) ?_
      refine V_aload_n o dX9_count_113 rfl rfl ?_
      refine V_cVi o rt dX9_count_114 ml_X9_135 (c9_whole hf (by exact hd) (Nat.zero_le 423) hW) rfl rfl rfl (Nat.le_of_ble_eq_true rfl) rfl ?_
      refine V_iret o rt dX9_count_117 rfl rfl ?_
      exact ⟨by rw [countR, if_neg hk, if_neg h0, if_neg h1, if_pos h2], rfl⟩
    by_cases h3 : k = 3
    · refine V_tableIn (off := 71) (tgt := 118) o dX9_count_47 (by rw [h3]; decide) (by rw [h3]; decide) (by rw [h3]; decide) (by decide) ?_
      refine V_aload_n o dX9_count_118 rfl rfl ?_
      refine V_cVi o rt dX9_count_119 ml_X9_213 (c9_many hf (by exact hd) (Nat.zero_le 423)) rfl rfl rfl (Nat.le_of_ble_eq_true rfl) rfl ?_
      refine V_iret o rt dX9_count_122 rfl rfl ?_
      exact ⟨by rw [countR, if_neg hk, if_neg h0, if_neg h1, if_neg h2, if_pos h3], rfl⟩
    by_cases h4 : k = 4
    · refine V_tableIn (off := 76) (tgt := 123) o dX9_count_47 (by rw [h4]; decide) (by rw [h4]; decide) (by rw [h4]; decide) (by decide) ?_
      refine V_aload_n o dX9_count_123 rfl rfl ?_
      refine V_cVi o rt dX9_count_124 ml_X9_278 (c9_pausedMany hf (by exact hd) (Nat.zero_le 423) rfl) rfl rfl rfl (Nat.le_of_ble_eq_true rfl) rfl ?_
      refine V_iret o rt dX9_count_127 rfl rfl ?_
      exact ⟨by rw [countR, if_neg hk, if_neg h0, if_neg h1, if_neg h2, if_neg h3, if_pos h4], rfl⟩
    by_cases h5 : k = 5
    · refine V_tableIn (off := 81) (tgt := 128) o dX9_count_47 (by rw [h5]; decide) (by rw [h5]; decide) (by rw [h5]; decide) (by decide) ?_
      refine V_aload_n o dX9_count_128 rfl rfl ?_
      refine V_cVi o rt dX9_count_129 ml_X9_281 (c9_farMany hf (by exact hd) (Nat.zero_le 423) rfl) rfl rfl rfl (Nat.le_of_ble_eq_true rfl) rfl ?_
      refine V_iret o rt dX9_count_132 rfl rfl ?_
      exact ⟨by rw [countR, if_neg hk, if_neg h0, if_neg h1, if_neg h2, if_neg h3, if_neg h4, if_pos h5], rfl⟩
    by_cases h6 : k = 6
    · refine V_tableIn (off := 86) (tgt := 133) o dX9_count_47 (by rw [h6]; decide) (by rw [h6]; decide) (by rw [h6]; decide) (by decide) ?_
      refine V_aload_n o dX9_count_133 rfl rfl ?_
      refine V_iconst (v := 5) o dX9_count_134 (by decide) ?_
      refine V_cVi o rt dX9_count_135 ml_X9_85 (c9_of hf (by exact hd) (show (5 : Int32) = nI 5 from rfl) (by omega)) rfl rfl rfl (Nat.le_of_ble_eq_true rfl) rfl ?_
      refine V_iret o rt dX9_count_138 rfl rfl ?_
      exact ⟨by rw [countR, if_neg hk, if_neg h0, if_neg h1, if_neg h2, if_neg h3, if_neg h4, if_neg h5, if_pos h6], rfl⟩
    by_cases h7 : k = 7
    · refine V_tableIn (off := 92) (tgt := 139) o dX9_count_47 (by rw [h7]; decide) (by rw [h7]; decide) (by rw [h7]; decide) (by decide) ?_
      refine V_aload_n o dX9_count_139 rfl rfl ?_
      refine V_bipush (v := 14) o dX9_count_140 (by decide) ?_
      refine V_cVi o rt dX9_count_142 ml_X9_85 (c9_of hf (by exact hd) (show (14 : Int32) = nI 14 from rfl) (by omega)) rfl rfl rfl (Nat.le_of_ble_eq_true rfl) rfl ?_
      refine V_iret o rt dX9_count_145 rfl rfl ?_
      exact ⟨by rw [countR, if_neg hk, if_neg h0, if_neg h1, if_neg h2, if_neg h3, if_neg h4, if_neg h5, if_neg h6, if_pos h7], rfl⟩
    by_cases h8 : k = 8
    · refine V_tableIn (off := 99) (tgt := 146) o dX9_count_47 (by rw [h8]; decide) (by rw [h8]; decide) (by rw [h8]; decide) (by decide) ?_
      refine V_aload_n o dX9_count_146 rfl rfl ?_
      refine V_getI o dX9_count_147 rfl fl_X9_11 rfl ?_
      refine V_iret o rt dX9_count_150 rfl rfl ?_
      exact ⟨by rw [countR, if_neg hk, if_neg h0, if_neg h1, if_neg h2, if_neg h3, if_neg h4, if_neg h5, if_neg h6, if_neg h7, if_pos h8]; rfl, rfl⟩
    by_cases h9 : k = 9
    · refine V_tableIn (off := 104) (tgt := 151) o dX9_count_47 (by rw [h9]; decide) (by rw [h9]; decide) (by rw [h9]; decide) (by decide) ?_
      refine V_aload_n o dX9_count_151 rfl rfl ?_
      refine V_getI o dX9_count_152 rfl fl_X9_14 rfl ?_
      refine V_iret o rt dX9_count_155 rfl rfl ?_
      exact ⟨by rw [countR, if_neg hk, if_neg h0, if_neg h1, if_neg h2, if_neg h3, if_neg h4, if_neg h5, if_neg h6, if_neg h7, if_neg h8, if_pos h9]; rfl, rfl⟩
    refine V_tableOut (tgt := 156) o dX9_count_47 (toInt_out (fun c hc => ?_)) (by decide) ?_
    · have : c = 0 ∨ c = 1 ∨ c = 2 ∨ c = 3 ∨ c = 4 ∨ c = 5 ∨ c = 6 ∨ c = 7 ∨ c = 8 ∨ c = 9 := by omega
      rcases this with rfl | rfl | rfl | rfl | rfl | rfl | rfl | rfl | rfl | rfl <;> assumption
    · refine V_iconst (v := -1) o dX9_count_156 (by decide) ?_
      refine V_iret o rt dX9_count_157 rfl rfl ?_
      exact ⟨by rw [countR, if_neg hk, if_neg h0, if_neg h1, if_neg h2, if_neg h3, if_neg h4, if_neg h5, if_neg h6, if_neg h7, if_neg h8, if_neg h9], rfl⟩
