/-- LEVELS and the WHOLE of the first sizes -/
def bcL (W : Nat → Int32) : Nat → Nat
  | 0 => 0
  | k + 1 => if 0 < W k then bcL W k + 1 else bcL W k
def bcP (W : Nat → Int32) : Nat → Int32
  | 0 => 1
  | k + 1 => if 0 < W k then bcP W k * W k else bcP W k
def BcR (W : Nat → Int32) (a k : Nat) (σ : Mm) : Prop := σ.1 a 2 = nI (bcL W k) ∧ σ.1 a 3 = bcP W k ∧ ∀ j, j < k → σ.1 (a + 1) j = W j ∧ σ.1 (a + 2) j = bcP W j
theorem bcL_le (W : Nat → Int32) : ∀ k, bcL W k ≤ k
  | 0 => Nat.le_refl 0
  | k + 1 => by
    unfold bcL
    have := bcL_le W k
    split <;> omega
theorem w4_0 {a b c e : Int32} : w4 a b c e 0 = a := rfl
theorem w4_1 {a b c e : Int32} : w4 a b c e 1 = b := rfl
theorem w4_2 {a b c e : Int32} : w4 a b c e 2 = c := rfl
theorem w4_3 {a b c e : Int32} : w4 a b c e 3 = e := rfl
theorem BcR_step {W : Nat → Int32} {a k : Nat} {σ : Mm} {s : Int32} (hs : s = W k) (hp : 0 < s) (h : BcR W a k σ) : BcR W a (k + 1) (wI (wI (wI (wI σ (a + 1) k s) (a + 2) k (σ.1 a 3)) a 2 (nI (bcL W k) + 1)) a 3 (bcP W k * s)) := by
  subst hs
  refine ⟨?_, ?_, fun j hj => ⟨?_, ?_⟩⟩
  · simp only [bcL, if_pos hp, ← nI_1]; simp [wI, up2]
  · simp only [bcP, if_pos hp]; simp [wI, up2]
  · by_cases e : j = k
    · subst e; simp [wI, up2]
    · have := (h.2.2 j (by omega)).1
      simp [wI, up2, e, this]
  · by_cases e : j = k
    · subst e; simp [wI, up2, h.2.1]
    · have := (h.2.2 j (by omega)).2
      simp [wI, up2, e, this]
theorem BcR_none {W : Nat → Int32} {a k : Nat} {σ : Mm} {s : Int32} (hs : s = W k) (hp : ¬ 0 < s) (h : BcR W a k σ) : BcR W a (k + 1) (wI (wI σ (a + 1) k s) (a + 2) k (σ.1 a 3)) := by
  subst hs
  refine ⟨?_, ?_, fun j hj => ⟨?_, ?_⟩⟩
  · simp only [bcL, if_neg hp, ← h.1]; simp [wI, up2]
  · simp only [bcP, if_neg hp, ← h.2.1]; simp [wI, up2]
  · by_cases e : j = k
    · subst e; simp [wI, up2]
    · have := (h.2.2 j (by omega)).1
      simp [wI, up2, e, this]
  · by_cases e : j = k
    · subst e; simp [wI, up2, h.2.1]
    · have := (h.2.2 j (by omega)).2
      simp [wI, up2, e, this]
set_option maxRecDepth 20000 in
set_option maxHeartbeats 4000000 in
theorem cS_become {S : Sh} {w : Wp} (hf : Fit S w) {a : Nat} (k0 : S.2.1 a = 4) (k1 : S.2.1 (a + 1) = 10) (k2 : S.2.1 (a + 2) = 10) (l1 : S.2.2.1 (a + 1) = 4) (l2 : S.2.2.1 (a + 2) = 4) (r0 : S.2.2.2 a 0 = some (a + 1)) (r1 : S.2.2.2 a 1 = some (a + 2)) (r2 : S.2.2.2 a 2 = none) (r3 : S.2.2.2 a 3 = none) {σ : Mm} {z0 z1 z2 z3 : Int32} : Ct S w 0 mX4_become [.ref a, .int z0, .int z1, .int z2, .int z3] σ (fun r' σ' => r' = none ∧ Off a (a + 3) σ σ' ∧ BcR (w4 z0 z1 z2 z3) a 4 σ') := by
  refine Ct_of hf (by decide) rfl (Nat.le_of_ble_eq_true rfl) (fun x o rt => ?_)
  have loop : ∀ n k (τ : Mm), k + n = 4 → Off a (a + 3) σ τ → BcR (w4 z0 z1 z2 z3) a k τ → V S w x mX4_become (0, 0) 13 [(5, .int (nI k)), (0, .ref a), (1, .int z0), (2, .int z1), (3, .int z2), (4, .int z3)] [] τ := by
    intro n
    induction n with
    | zero =>
      intro k τ hk ho hB
      have h4 : k = 4 := by omega
      subst h4
      refine V_iload o dX4_become_13 rfl ?_
      refine V_iconst (v := 4) o dX4_become_15 (by decide) ?_
      refine V_icmp_ge (tgt := 104) o dX4_become_16 (by decide) (fun c_16 => ?_) (fun c_16 => False.elim (c_16 (by decide)))
      refine V_ret o rt dX4_become_104 rfl ?_
      exact ⟨rfl, ho, hB⟩
    | succ n ih =>
      intro k τ hk ho hB
      have rest : ∀ s, s = w4 z0 z1 z2 z3 k → V S w x mX4_become (0, 0) 52 [(6, .int s), (5, .int (nI k)), (0, .ref a), (1, .int z0), (2, .int z1), (3, .int z2), (4, .int z3)] [] τ := by
        intro s hs
        refine V_aload_n o dX4_become_52 rfl rfl ?_
        refine V_getR (t := a + 1) o dX4_become_53 (by assumption) fl_X4_9 (by assumption) ?_
        refine V_iload o dX4_become_56 rfl ?_
        refine V_iload o dX4_become_58 rfl ?_
        refine V_iastN 4 o dX4_become_60 (by assumption) (by assumption) rfl (by omega) rfl ?_
        refine V_aload_n o dX4_become_61 rfl rfl ?_
        refine V_getR (t := a + 2) o dX4_become_62 (by assumption) fl_X4_15 (by assumption) ?_
        refine V_iload o dX4_become_65 rfl ?_
        refine V_aload_n o dX4_become_67 rfl rfl ?_
        refine V_getI o dX4_become_68 (by assumption) fl_X4_37 (by assumption) ?_
        rw [show (wI τ (a + 1) k s).1 a 3 = τ.1 a 3 by simp [wI, up2]]
        refine V_iastN 4 o dX4_become_71 (by assumption) (by assumption) rfl (by omega) rfl ?_
        refine V_iload o dX4_become_72 rfl ?_
        refine V_if_le (tgt := 98) o dX4_become_74 (by decide) (fun c_74 => ?_) (fun c_74 => ?_)
        · refine V_iincV (v := nI (k + 1)) (ls' := [(5, _), (6, _), (0, _), (1, _), (2, _), (3, _), (4, _)]) o dX4_become_98 rfl (ninc 1 rfl) (by decide) rfl ?_
          refine V_goto (tgt := 13) o dX4_become_101 (by decide) ?_
          exact V_sub (by simp) (ih (k + 1) _ (by omega) ((ho.wI (by omega) (by omega)).wI (by omega) (by omega)) (BcR_none hs (Int32.not_lt.mpr c_74) hB))
        · refine V_aload_n o dX4_become_77 rfl rfl ?_
          refine V_dup o dX4_become_78 rfl ?_
          refine V_getI o dX4_become_79 (by assumption) fl_X4_33 (by assumption) ?_
          refine V_iconst (v := 1) o dX4_become_82 (by decide) ?_
          refine V_iadd o dX4_become_83 ?_
          refine V_putI o dX4_become_84 (by assumption) fl_X4_33 (by assumption) rfl rfl ?_
          refine V_aload_n o dX4_become_87 rfl rfl ?_
          refine V_dup o dX4_become_88 rfl ?_
          refine V_getI o dX4_become_89 (by assumption) fl_X4_37 (by assumption) ?_
          refine V_iload o dX4_become_92 rfl ?_
          refine V_imul o dX4_become_94 ?_
          refine V_putI o dX4_become_95 (by assumption) fl_X4_37 (by assumption) rfl rfl ?_
          refine V_iincV (v := nI (k + 1)) (ls' := [(5, _), (6, _), (0, _), (1, _), (2, _), (3, _), (4, _)]) o dX4_become_98 rfl (ninc 1 rfl) (by decide) rfl ?_
          refine V_goto (tgt := 13) o dX4_become_101 (by decide) ?_
          have e1 : (wI (wI τ (a + 1) k s) (a + 2) k (τ.1 a 3)).1 a 2 = nI (bcL (w4 z0 z1 z2 z3) k) := by rw [← hB.1]; simp [wI, up2]
          have e2 : (wI (wI (wI τ (a + 1) k s) (a + 2) k (τ.1 a 3)) a 2 (nI (bcL (w4 z0 z1 z2 z3) k) + 1)).1 a 3 = bcP (w4 z0 z1 z2 z3) k := by rw [← hB.2.1]; simp [wI, up2]
          have e3 : (wI τ (a + 1) k s).1 a 3 = τ.1 a 3 := by simp [wI, up2]
          rw [e1, e2]
          exact V_sub (by simp) (ih (k + 1) _ (by omega) ((((ho.wI (by omega) (by omega)).wI (by omega) (by omega)).wI (by omega) (by omega)).wI (by omega) (by omega)) (BcR_step hs (Int32.not_le.mp c_74) hB))
      refine V_iload o dX4_become_13 rfl ?_
      refine V_iconst (v := 4) o dX4_become_15 (by decide) ?_
      refine V_icmp_ge (tgt := 104) o dX4_become_16 (by decide) (fun c_16 => False.elim (absurd c_16 (nI_ge (b := 4) (by omega) (by omega)))) (fun c_16 => ?_)
      refine V_iload o dX4_become_19 rfl ?_
      refine V_if_ne (tgt := 28) o dX4_become_21 (by decide) (fun c_21 => ?_) (fun c_21 => ?_)
      · refine V_iload o dX4_become_28 rfl ?_
        refine V_iconst (v := 1) o dX4_become_30 (by decide) ?_
        refine V_icmp_ne (tgt := 38) o dX4_become_31 (by decide) (fun c_31 => ?_) (fun c_31 => ?_)
        · refine V_iload o dX4_become_38 rfl ?_
          refine V_iconst (v := 2) o dX4_become_40 (by decide) ?_
          refine V_icmp_ne (tgt := 48) o dX4_become_41 (by decide) (fun c_41 => ?_) (fun c_41 => ?_)
          · refine V_iload o dX4_become_48 rfl ?_
            refine V_istore (ls' := [(6, _), (5, _), (0, _), (1, _), (2, _), (3, _), (4, _)]) o dX4_become_50 (by decide) rfl ?_
            have e : k = 3 := by
              have h0 : k ≠ 0 := fun q => c_21 (by rw [q]; rfl)
              have h1 : k ≠ 1 := fun q => c_31 (by rw [q]; rfl)
              have h2 : k ≠ 2 := fun q => c_41 (by rw [q]; rfl)
              omega
            exact rest _ (by rw [e]; rfl)
          · refine V_iload_n o dX4_become_44 rfl rfl ?_
            refine V_goto (tgt := 50) o dX4_become_45 (by decide) ?_
            refine V_istore (ls' := [(6, _), (5, _), (0, _), (1, _), (2, _), (3, _), (4, _)]) o dX4_become_50 (by decide) rfl ?_
            have e : k = 2 := (nI_eq (b := 2) (by omega) (by omega)).mp c_41
            exact rest _ (by rw [e]; rfl)
        · refine V_iload_n o dX4_become_34 rfl rfl ?_
          refine V_goto (tgt := 50) o dX4_become_35 (by decide) ?_
          refine V_istore (ls' := [(6, _), (5, _), (0, _), (1, _), (2, _), (3, _), (4, _)]) o dX4_become_50 (by decide) rfl ?_
          have e : k = 1 := (nI_eq (b := 1) (by omega) (by omega)).mp c_31
          exact rest _ (by rw [e]; rfl)
      · refine V_iload_n o dX4_become_24 rfl rfl ?_
        refine V_goto (tgt := 50) o dX4_become_25 (by decide) ?_
        refine V_istore (ls' := [(6, _), (5, _), (0, _), (1, _), (2, _), (3, _), (4, _)]) o dX4_become_50 (by decide) rfl ?_
        have e : k = 0 := (nI_eq0 (by omega)).mp c_21
        exact rest _ (by rw [e]; rfl)
  refine V_aload_n o dX4_become_0 rfl rfl ?_
  refine V_iconst (v := 0) o dX4_become_1 (by decide) ?_
  refine V_putI o dX4_become_2 (by assumption) fl_X4_33 (by assumption) rfl rfl ?_
  refine V_aload_n o dX4_become_5 rfl rfl ?_
  refine V_iconst (v := 1) o dX4_become_6 (by decide) ?_
  refine V_putI o dX4_become_7 (by assumption) fl_X4_37 (by assumption) rfl rfl ?_
  refine V_iconst (v := 0) o dX4_become_10 (by decide) ?_
  refine V_istore (ls' := [(5, _), (0, _), (1, _), (2, _), (3, _), (4, _)]) o dX4_become_11 (by decide) rfl ?_
  exact V_sub (by simp; rfl) (loop 4 0 _ (by omega) ((Off.rf.wI (by omega) (by omega)).wI (by omega) (by omega)) ⟨by simp [wI, up2]; rfl, by simp [wI, up2]; rfl, fun j hj => absurd hj (Nat.not_lt_zero j)⟩)
theorem c4_become_3 {w : Wp} (hf : Fit sh0 w) {σ : Mm} {z0 z1 z2 z3 : Int32} : Ct sh0 w 0 mX4_become [.ref 3, .int z0, .int z1, .int z2, .int z3] σ (fun r' σ' => r' = none ∧ Off 3 6 σ σ' ∧ BcR (w4 z0 z1 z2 z3) 3 4 σ') := cS_become hf (a := 3) rfl rfl rfl rfl rfl rfl rfl rfl rfl
theorem c4_become_26 {w : Wp} (hf : Fit sh0 w) {σ : Mm} {z0 z1 z2 z3 : Int32} : Ct sh0 w 0 mX4_become [.ref 26, .int z0, .int z1, .int z2, .int z3] σ (fun r' σ' => r' = none ∧ Off 26 29 σ σ' ∧ BcR (w4 z0 z1 z2 z3) 26 4 σ') := cS_become hf (a := 26) rfl rfl rfl rfl rfl rfl rfl rfl rfl
theorem c4_become_48 {w : Wp} (hf : Fit sh0 w) {σ : Mm} {z0 z1 z2 z3 : Int32} : Ct sh0 w 0 mX4_become [.ref 48, .int z0, .int z1, .int z2, .int z3] σ (fun r' σ' => r' = none ∧ Off 48 51 σ σ' ∧ BcR (w4 z0 z1 z2 z3) 48 4 σ') := cS_become hf (a := 48) rfl rfl rfl rfl rfl rfl rfl rfl rfl
set_option maxRecDepth 20000 in
set_option maxHeartbeats 4000000 in
theorem c4_isOf_3 {w : Wp} (hf : Fit sh0 w) {σ : Mm} {M : Nat → Int32} {L : Nat} (hS : ShR 3 M L σ) (hL : L ≤ 4) {a b c e : Int32} : Cf sh0 w 1 mX4_isOf [.ref 3, .int a, .int b, .int c, .int e] σ (some (.int (bz (M 1 = a ∧ M 2 = b ∧ M 3 = c ∧ M 4 = e)))) σ := by
  refine Ct_of hf (by decide) rfl (Nat.le_of_ble_eq_true rfl) (fun x o rt => ?_)
  refine V_aload_n o dX4_isOf_0 rfl rfl ?_
  refine V_iconst (v := 0) o dX4_isOf_1 (by decide) ?_
  refine V_cVi o rt dX4_isOf_2 ml_X4_29 (c4_sizeOf_3 hf hS hL (k := 0) (by omega)) rfl rfl rfl (Nat.le_of_ble_eq_true rfl) rfl ?_
  refine V_iload_n o dX4_isOf_5 rfl rfl ?_
  refine V_icmp_ne (tgt := 41) o dX4_isOf_6 (by decide) (fun c_6 => ?_) (fun c_6 => ?_)
  · refine V_iconst (v := 0) o dX4_isOf_41 (by decide) ?_
    refine V_iret o rt dX4_isOf_42 rfl rfl ?_
    exact ⟨by rw [bz_f (fun q => c_6 q.1)], rfl⟩
  · refine V_aload_n o dX4_isOf_9 rfl rfl ?_
    refine V_iconst (v := 1) o dX4_isOf_10 (by decide) ?_
    refine V_cVi o rt dX4_isOf_11 ml_X4_29 (c4_sizeOf_3 hf hS hL (k := 1) (by omega)) rfl rfl rfl (Nat.le_of_ble_eq_true rfl) rfl ?_
    refine V_iload_n o dX4_isOf_14 rfl rfl ?_
    refine V_icmp_ne (tgt := 41) o dX4_isOf_15 (by decide) (fun c_15 => ?_) (fun c_15 => ?_)
    · refine V_iconst (v := 0) o dX4_isOf_41 (by decide) ?_
      refine V_iret o rt dX4_isOf_42 rfl rfl ?_
      exact ⟨by rw [bz_f (fun q => c_15 q.2.1)], rfl⟩
    · refine V_aload_n o dX4_isOf_18 rfl rfl ?_
      refine V_iconst (v := 2) o dX4_isOf_19 (by decide) ?_
      refine V_cVi o rt dX4_isOf_20 ml_X4_29 (c4_sizeOf_3 hf hS hL (k := 2) (by omega)) rfl rfl rfl (Nat.le_of_ble_eq_true rfl) rfl ?_
      refine V_iload_n o dX4_isOf_23 rfl rfl ?_
      refine V_icmp_ne (tgt := 41) o dX4_isOf_24 (by decide) (fun c_24 => ?_) (fun c_24 => ?_)
      · refine V_iconst (v := 0) o dX4_isOf_41 (by decide) ?_
        refine V_iret o rt dX4_isOf_42 rfl rfl ?_
        exact ⟨by rw [bz_f (fun q => c_24 q.2.2.1)], rfl⟩
      · refine V_aload_n o dX4_isOf_27 rfl rfl ?_
        refine V_iconst (v := 3) o dX4_isOf_28 (by decide) ?_
        refine V_cVi o rt dX4_isOf_29 ml_X4_29 (c4_sizeOf_3 hf hS hL (k := 3) (by omega)) rfl rfl rfl (Nat.le_of_ble_eq_true rfl) rfl ?_
        refine V_iload o dX4_isOf_32 rfl ?_
        refine V_icmp_ne (tgt := 41) o dX4_isOf_34 (by decide) (fun c_34 => ?_) (fun c_34 => ?_)
        · refine V_iconst (v := 0) o dX4_isOf_41 (by decide) ?_
          refine V_iret o rt dX4_isOf_42 rfl rfl ?_
          exact ⟨by rw [bz_f (fun q => c_34 q.2.2.2)], rfl⟩
        · refine V_iconst (v := 1) o dX4_isOf_37 (by decide) ?_
          refine V_goto (tgt := 42) o dX4_isOf_38 (by decide) ?_
          refine V_iret o rt dX4_isOf_42 rfl rfl ?_
          exact ⟨by rw [bz_t ⟨c_6, c_15, c_24, c_34⟩], rfl⟩
/-- LEVELS there are, then 0s -/
def Z0 (M : Nat → Int32) (L : Nat) : Prop := ∀ k, L ≤ k → k < 4 → M (1 + k) = 0
theorem bc_of {W M : Nat → Int32} {L : Nat} (hW : Wf M L) (hZ : Z0 M L) (he : ∀ k, k < 4 → W k = M (1 + k)) : ∀ k, k ≤ 4 → bcL W k = min k L ∧ bcP W k = spanM M (min k L)
  | 0, _ => ⟨(Nat.zero_min L).symm, by rw [Nat.zero_min]; rfl⟩
  | k + 1, hk => by
    obtain ⟨i1, i2⟩ := bc_of hW hZ he k (by omega)
    unfold bcL bcP
    rw [he k (by omega), i1, i2]
    by_cases hl : k < L
    · obtain ⟨s, e, h1, h2⟩ := hW.2.2.2 k hl
      have hp : 0 < M (1 + k) := by rw [e]; exact nI_lt (a := 0) (by omega) (by omega)
      rw [if_pos hp, if_pos hp, Nat.min_eq_left (Nat.le_of_lt hl), Nat.min_eq_left hl, span_last, Int32.mul_comm]
      exact ⟨rfl, rfl⟩
    · have hp : ¬ 0 < M (1 + k) := by rw [hZ k (by omega) (by omega)]; decide
      rw [if_neg hp, if_neg hp, Nat.min_eq_right (by omega), Nat.min_eq_right (by omega)]
      exact ⟨rfl, rfl⟩
theorem ShR_bc {W M : Nat → Int32} {L a : Nat} {σ : Mm} (hW : Wf M L) (hZ : Z0 M L) (he : ∀ k, k < 4 → W k = M (1 + k)) (h : BcR W a 4 σ) : ShR a M L σ := by
  have hL := hW.2.2.1
  refine ⟨?_, ?_, fun k hk => by rw [(h.2.2 k hk).1, he k hk], fun k hk => ?_⟩
  · rw [h.1, (bc_of hW hZ he 4 (by omega)).1, Nat.min_eq_right hL]
  · rw [h.2.1, (bc_of hW hZ he 4 (by omega)).2, Nat.min_eq_right hL]
  · rw [(h.2.2 k (by omega)).2, (bc_of hW hZ he k (by omega)).2, Nat.min_eq_left (by omega)]
set_option maxRecDepth 20000 in
set_option maxHeartbeats 4000000 in
theorem c4_copy {w : Wp} (hf : Fit sh0 w) {σ : Mm} {M : Nat → Int32} {L : Nat} (hS : ShR 3 M L σ) (hW : Wf M L) (hZ : Z0 M L) : Ct sh0 w 1 mX4_copy [.ref 26, .ref 3] σ (fun r' σ' => r' = none ∧ Off 26 29 σ σ' ∧ ShR 26 M L σ') := by
  refine Ct_of hf (by decide) rfl (Nat.le_of_ble_eq_true rfl) (fun x o rt => ?_)
  have hL := hW.2.2.1
  refine V_aload_n o dX4_copy_0 rfl rfl ?_
  refine V_aload_n o dX4_copy_1 rfl rfl ?_
  refine V_iconst (v := 0) o dX4_copy_2 (by decide) ?_
  refine V_cVi o rt dX4_copy_3 ml_X4_29 (c4_sizeOf_3 hf hS hL (k := 0) (by omega)) rfl rfl rfl (Nat.le_of_ble_eq_true rfl) rfl ?_
  refine V_aload_n o dX4_copy_6 rfl rfl ?_
  refine V_iconst (v := 1) o dX4_copy_7 (by decide) ?_
  refine V_cVi o rt dX4_copy_8 ml_X4_29 (c4_sizeOf_3 hf hS hL (k := 1) (by omega)) rfl rfl rfl (Nat.le_of_ble_eq_true rfl) rfl ?_
  refine V_aload_n o dX4_copy_11 rfl rfl ?_
  refine V_iconst (v := 2) o dX4_copy_12 (by decide) ?_
  refine V_cVi o rt dX4_copy_13 ml_X4_29 (c4_sizeOf_3 hf hS hL (k := 2) (by omega)) rfl rfl rfl (Nat.le_of_ble_eq_true rfl) rfl ?_
  refine V_aload_n o dX4_copy_16 rfl rfl ?_
  refine V_iconst (v := 3) o dX4_copy_17 (by decide) ?_
  refine V_cVi o rt dX4_copy_18 ml_X4_29 (c4_sizeOf_3 hf hS hL (k := 3) (by omega)) rfl rfl rfl (Nat.le_of_ble_eq_true rfl) rfl ?_
  refine V_callV o rt dX4_copy_21 ml_X4_40 (c4_become_26 hf) rfl rfl rfl (Nat.le_of_ble_eq_true rfl) rfl (fun r_21 σ_21 q_21 => ?_)
  obtain ⟨rfl, ho, hB⟩ := q_21
  show V sh0 w x mX4_copy (0, 0) _ _ [] _
  refine V_ret o rt dX4_copy_24 rfl ?_
  refine ⟨rfl, ho, ShR_bc hW hZ (fun k hk => ?_) hB⟩
  match k, hk with
  | 0, _ => rfl
  | 1, _ => rfl
  | 2, _ => rfl
  | 3, _ => rfl
