/-! the class's ACTS: read of the TEXT -/
def nmS (σ : Mm) (v : Int32) (p : Nat) : Mm := wI (wI σ 62 7 v) 62 6 (nI p)
theorem nmS_7 {σ : Mm} {v u : Int32} {p : Nat} : wI (nmS σ v p) 62 7 u = nmS σ u p := by
  refine Prod.ext (funext fun a => funext fun j => ?_) rfl
  simp only [nmS, wI, up2]
  by_cases h : a = 62
  · subst h
    by_cases h7 : j = 7
    · subst h7; simp
    · simp [h7]
  · simp [h]
theorem nmS_6 {σ : Mm} {v : Int32} {p q : Nat} : wI (nmS σ v p) 62 6 (nI q) = nmS σ v q := by
  refine Prod.ext (funext fun a => funext fun j => ?_) rfl
  simp only [nmS, wI, up2]
  by_cases h : a = 62
  · subst h
    by_cases h7 : j = 6
    · subst h7; simp
    · simp [h7]
  · simp [h]
theorem nmS_0 {σ : Mm} {u : Int32} {p : Nat} (hp : σ.1 62 6 = nI p) : wI σ 62 7 u = nmS σ u p := by
  refine Prod.ext (funext fun a => funext fun j => ?_) rfl
  simp only [nmS, wI, up2]
  by_cases h : a = 62
  · subst h
    by_cases h7 : j = 6
    · subst h7; simp [hp]
    · simp [h7]
  · simp [h]
theorem dg_iff {T : Nat → Int32} {n q : Nat} : inR (if q < n then T q else -1) 48 57 ↔ dgP T n q := by
  by_cases h : q < n
  · rw [if_pos h]
    exact ⟨fun k => ⟨h, k⟩, fun k => k.2⟩
  · rw [if_neg h]
    exact ⟨fun k => absurd k.1 (by decide), fun k => absurd k.1 h⟩
theorem sg_iff {T : Nat → Int32} {n q : Nat} {c : Int32} (hc : c ≠ -1) : (if q < n then T q else -1) = c ↔ tkP T n q c := by
  by_cases h : q < n
  · rw [if_pos h]
    exact ⟨fun k => ⟨h, k⟩, fun k => k.2⟩
  · rw [if_neg h]
    exact ⟨fun k => absurd k.symm hc, fun k => absurd k.1 h⟩
def nuM (σ : Mm) (s R : Int32 × Nat) : Mm := if R.1 < 0 then wI (nmS σ s.1 s.2) 62 5 (nI R.2) else nmS σ R.1 R.2
set_option maxRecDepth 20000 in
set_option maxHeartbeats 4000000 in
theorem c0_fails {w : Wp} (hf : Fit sh0 w) {σ : Mm} {v : Int32} : Cf sh0 w 0 mX0_fails [.ref 62, .int v] σ (some (.int 0)) (wI σ 62 5 v) := by
  refine Ct_of hf (by decide) rfl (Nat.le_of_ble_eq_true rfl) (fun x o rt => ?_)
  refine V_aload_n o dX0_fails_0 rfl rfl ?_
  refine V_iload_n o dX0_fails_1 rfl rfl ?_
  refine V_putI o dX0_fails_2 rfl fl_X0_31 rfl rfl rfl ?_
  refine V_iconst (v := 0) o dX0_fails_5 (by decide) ?_
  refine V_iret o rt dX0_fails_6 rfl (by first | rfl | exact bz_z) ?_
  exact ⟨rfl, rfl⟩
set_option maxRecDepth 20000 in
set_option maxHeartbeats 4000000 in
theorem c0_isDigit {w : Wp} (hf : Fit sh0 w) {σ : Mm} {v : Int32} : Cf sh0 w 1 mX0_isDigit [.int v] σ (some (.int (bz (inR v 48 57)))) σ := by
  refine Ct_of hf (by decide) rfl (Nat.le_of_ble_eq_true rfl) (fun x o rt => ?_)
  refine V_iload_n o dX0_isDigit_0 rfl rfl ?_
  refine V_bipush (v := 48) o dX0_isDigit_1 (by decide) ?_
  refine V_bipush (v := 57) o dX0_isDigit_3 (by decide) ?_
  refine V_cSNi o rt dX0_isDigit_5 ms_X0_73 (c8_isWithin hf) rfl rfl (Nat.le_of_ble_eq_true rfl) rfl ?_
  refine V_iret o rt dX0_isDigit_8 rfl (by first | rfl | exact bz_z) ?_
  exact ⟨rfl, rfl⟩
set_option maxRecDepth 20000 in
set_option maxHeartbeats 4000000 in
theorem c0_sign_t {w : Wp} (hf : Fit sh0 w) {σ : Mm} {T : Nat → Int32} {n : Nat} (hT : TxR T n σ) {q : Nat} (hq : σ.1 62 6 = nI q) {c : Int32} (hc : c ≠ -1) (h : tkP T n q c) : Cf sh0 w 1 mX0_readsSign [.ref 62, .ref 60, .int c] σ (some (.int 1)) (wI σ 62 6 (nI (q + 1))) := by
  have hn := hT.2.1
  have h1 := h.1
  refine Ct_of hf (by decide) rfl (Nat.le_of_ble_eq_true rfl) (fun x o rt => ?_)
  refine V_aload_n o dX0_readsSign_0 rfl rfl ?_
  refine V_aload_n o dX0_readsSign_1 rfl rfl ?_
  refine V_getIE (v := nI (q)) o dX0_readsSign_2 rfl fl_X0_28 rfl hq ?_
  refine V_cVi o rt dX0_readsSign_5 ml_X0_49 (c5_at hf (by exact hT) (by omega)) rfl rfl rfl (Nat.le_of_ble_eq_true rfl) rfl ?_
  refine V_iload_n o dX0_readsSign_8 rfl rfl ?_
  refine V_icmp_eq (tgt := 21) o dX0_readsSign_9 (by decide) (fun c_9 => ?_) (fun c_9 => False.elim (c_9 ((sg_iff hc).mpr h)))
  refine V_aload_n o dX0_readsSign_21 rfl rfl ?_
  refine V_dup o dX0_readsSign_22 rfl ?_
  refine V_getIE (v := nI (q)) o dX0_readsSign_23 rfl fl_X0_28 rfl hq ?_
  refine V_iconst (v := 1) o dX0_readsSign_26 (by decide) ?_
  refine V_iadd o dX0_readsSign_27 ?_
  refine V_topI (v' := nI (q + 1)) (nI_1 q) ?_
  refine V_putI o dX0_readsSign_28 rfl fl_X0_28 rfl rfl rfl ?_
  refine V_iconst (v := 1) o dX0_readsSign_31 (by decide) ?_
  refine V_iret o rt dX0_readsSign_32 rfl (by first | rfl | exact bz_z) ?_
  exact ⟨rfl, rfl⟩
set_option maxRecDepth 20000 in
set_option maxHeartbeats 4000000 in
theorem c0_sign_f {w : Wp} (hf : Fit sh0 w) {σ : Mm} {T : Nat → Int32} {n : Nat} (hT : TxR T n σ) {q : Nat} (hq : σ.1 62 6 = nI q) (hq2 : q ≤ 101) {c : Int32} (hc : c ≠ -1) (h : ¬ tkP T n q c) : Cf sh0 w 1 mX0_readsSign [.ref 62, .ref 60, .int c] σ (some (.int 0)) (wI σ 62 5 (nI q)) := by
  refine Ct_of hf (by decide) rfl (Nat.le_of_ble_eq_true rfl) (fun x o rt => ?_)
  refine V_aload_n o dX0_readsSign_0 rfl rfl ?_
  refine V_aload_n o dX0_readsSign_1 rfl rfl ?_
  refine V_getIE (v := nI (q)) o dX0_readsSign_2 rfl fl_X0_28 rfl hq ?_
  refine V_cVi o rt dX0_readsSign_5 ml_X0_49 (c5_at hf (by exact hT) (by omega)) rfl rfl rfl (Nat.le_of_ble_eq_true rfl) rfl ?_
  refine V_iload_n o dX0_readsSign_8 rfl rfl ?_
  refine V_icmp_eq (tgt := 21) o dX0_readsSign_9 (by decide) (fun c_9 => False.elim (h ((sg_iff hc).mp c_9))) (fun c_9 => ?_)
  refine V_aload_n o dX0_readsSign_12 rfl rfl ?_
  refine V_aload_n o dX0_readsSign_13 rfl rfl ?_
  refine V_getIE (v := nI (q)) o dX0_readsSign_14 rfl fl_X0_28 rfl hq ?_
  refine V_cVi o rt dX0_readsSign_17 ml_X0_45 (c0_fails hf) rfl rfl rfl (Nat.le_of_ble_eq_true rfl) rfl ?_
  refine V_iret o rt dX0_readsSign_20 rfl (by first | rfl | exact bz_z) ?_
  exact ⟨rfl, rfl⟩
set_option maxRecDepth 20000 in
set_option maxHeartbeats 4000000 in
theorem c0_keeps {w : Wp} (hf : Fit sh0 w) {σ : Mm} {k : Nat} (hk : σ.1 62 4 = nI k) (hk34 : k < 34) {v : Int32} (hv : σ.1 62 7 = v) : Cf sh0 w 0 mX0_keepsNumber [.ref 62] σ (some (.int 1)) (wI σ 64 k v) := by
  refine Ct_of hf (by decide) rfl (Nat.le_of_ble_eq_true rfl) (fun x o rt => ?_)
  refine V_aload_n o dX0_keepsNumber_0 rfl rfl ?_
  refine V_getIE (v := nI (k)) o dX0_keepsNumber_1 rfl fl_X0_24 rfl hk ?_
  refine V_if_lt (tgt := 16) o dX0_keepsNumber_4 (by decide) (fun c_4 => False.elim (absurd c_4 (Int32.not_lt.mpr (nI_le (a := 0) (Nat.zero_le _) (by omega))))) (fun c_4 => ?_)
  refine V_aload_n o dX0_keepsNumber_7 rfl rfl ?_
  refine V_getIE (v := nI (k)) o dX0_keepsNumber_8 rfl fl_X0_24 rfl hk ?_
  refine V_bipush (v := 34) o dX0_keepsNumber_11 (by decide) ?_
  refine V_icmp_lt (tgt := 18) o dX0_keepsNumber_13 (by decide) (fun c_13 => ?_) (fun c_13 => False.elim (c_13 (nI_lt (b := 34) (by omega) (by omega))))
  refine V_aload_n o dX0_keepsNumber_18 rfl rfl ?_
  refine V_getR (t := 64) o dX0_keepsNumber_19 rfl fl_X0_15 rfl ?_
  refine V_aload_n o dX0_keepsNumber_22 rfl rfl ?_
  refine V_getIE (v := nI (k)) o dX0_keepsNumber_23 rfl fl_X0_24 rfl hk ?_
  refine V_aload_n o dX0_keepsNumber_26 rfl rfl ?_
  refine V_getI o dX0_keepsNumber_27 rfl fl_X0_67 rfl ?_
  refine V_topI (v' := v) hv ?_
  refine V_iastN 34 o dX0_keepsNumber_30 rfl rfl rfl (by omega) rfl ?_
  refine V_iconst (v := 1) o dX0_keepsNumber_31 (by decide) ?_
  refine V_iret o rt dX0_keepsNumber_32 rfl (by first | rfl | exact bz_z) ?_
  exact ⟨rfl, rfl⟩
set_option maxRecDepth 20000 in
set_option maxHeartbeats 4000000 in
theorem c0_number {w : Wp} (hf : Fit sh0 w) {σ : Mm} {T : Nat → Int32} {n : Nat} (hT : TxR T n σ) {p0 : Nat} (hp : σ.1 62 6 = nI p0) (hp2 : p0 ≤ 101) {D : Nat} (hD : D ≤ 10) {lo hi : Int32} (hlo : 0 ≤ lo) {s : Int32 × Nat} (hs0 : nuF T n D 0 p0 = s) {R : Int32 × Nat} (hR0 : nuE T n lo hi p0 s = R) : Cf sh0 w 2 mX0_readsNumber [.ref 62, .ref 60, .int (nI D), .int lo, .int hi] σ (some (.int (bz (¬ R.1 < 0)))) (nuM σ s R) := by
  have hn := hT.2.1
  refine Ct_of hf (by decide) rfl (Nat.le_of_ble_eq_true rfl) (fun x o rt => ?_)
  have after : ∀ d, d ≤ 10 → s.2 = p0 + d → V sh0 w x mX0_readsNumber (0, 0) 67 [(5, .int (nI d)), (0, .ref 62), (1, .ref 60), (2, .int (nI D)), (3, .int lo), (4, .int hi)] [] (nmS σ s.1 s.2) := by
    intro d hd10 hd
    unfold nuE at hR0
    refine V_iload o dX0_readsNumber_67 rfl ?_
    refine V_if_eq (tgt := 86) o dX0_readsNumber_69 (by decide) (fun c_69 => ?_) (fun c_69 => ?_)
    · refine V_aload_n o dX0_readsNumber_86 rfl rfl ?_
      refine V_aload_n o dX0_readsNumber_87 rfl rfl ?_
      refine V_getIE (v := nI (s.2)) o dX0_readsNumber_88 rfl fl_X0_28 rfl rfl ?_
      refine V_cVi o rt dX0_readsNumber_91 ml_X0_45 (c0_fails hf) rfl rfl rfl (Nat.le_of_ble_eq_true rfl) rfl ?_
      refine V_iret o rt dX0_readsNumber_94 rfl (by first | rfl | exact bz_z) ?_
      rw [if_pos (Or.inl (show s.2 = p0 by have := (nI_eq0 (by omega)).mp c_69; omega))] at hR0
      subst hR0
      exact ⟨rfl, rfl⟩
    · refine V_aload_n o dX0_readsNumber_72 rfl rfl ?_
      refine V_aload_n o dX0_readsNumber_73 rfl rfl ?_
      refine V_getIE (v := nI (s.2)) o dX0_readsNumber_74 rfl fl_X0_28 rfl rfl ?_
      refine V_cVi o rt dX0_readsNumber_77 ml_X0_49 (c5_at hf (T := T) (n := n) (by exact hT) (p := s.2) (by omega)) rfl rfl rfl (Nat.le_of_ble_eq_true rfl) rfl ?_
      refine V_cSi o rt dX0_readsNumber_80 ms_X0_70 (c0_isDigit hf) rfl rfl (Nat.le_of_ble_eq_true rfl) rfl ?_
      refine V_if_eq (tgt := 95) o dX0_readsNumber_83 (by decide) (fun c_83 => ?_) (fun c_83 => ?_)
      · refine V_aload_n o dX0_readsNumber_95 rfl rfl ?_
        refine V_getI o dX0_readsNumber_96 rfl fl_X0_67 rfl ?_
        refine V_topI (v' := s.1) rfl ?_
        refine V_iload_n o dX0_readsNumber_99 rfl rfl ?_
        refine V_iload o dX0_readsNumber_100 rfl ?_
        refine V_cSNi o rt dX0_readsNumber_102 ms_X0_73 (c8_isWithin hf) rfl rfl (Nat.le_of_ble_eq_true rfl) rfl ?_
        refine V_if_ne (tgt := 121) o dX0_readsNumber_105 (by decide) (fun c_105 => ?_) (fun c_105 => ?_)
        · refine V_iconst (v := 1) o dX0_readsNumber_121 (by decide) ?_
          refine V_goto (tgt := 126) o dX0_readsNumber_122 (by decide) ?_
          refine V_iret o rt dX0_readsNumber_126 rfl (by first | rfl | exact bz_z) ?_
          have hd0 : ¬ s.2 = p0 := fun q => c_69 (by rw [show d = 0 by omega]; rfl)
          rw [if_neg (fun q => q.elim hd0 (fun q => bz_0.mp c_83 (dg_iff.mpr q)))] at hR0
          rw [if_pos (bz_n0.mp c_105)] at hR0
          subst hR0
          have hge : ¬ s.1 < 0 := Int32.not_lt.mpr (Int32.le_trans hlo (bz_n0.mp c_105).1)
          exact ⟨by rw [bz_t hge], by rw [nuM, if_neg hge]⟩
        · refine V_aload_n o dX0_readsNumber_108 rfl rfl ?_
          refine V_aload_n o dX0_readsNumber_109 rfl rfl ?_
          have hd0 : d ≠ 0 := fun q => c_69 (by rw [q]; rfl)
          refine V_getIE (v := nI (s.2 - 1 + 1)) o dX0_readsNumber_110 rfl fl_X0_28 rfl (show nI s.2 = nI (s.2 - 1 + 1) by rw [show s.2 - 1 + 1 = s.2 by omega]) ?_
          refine V_iconst (v := 1) o dX0_readsNumber_113 (by decide) ?_
          refine V_isub o dX0_readsNumber_114 ?_
          refine V_topI (v' := nI (s.2 - 1)) (nI_pred (s.2 - 1)) ?_
          refine V_cVi o rt dX0_readsNumber_115 ml_X0_45 (c0_fails hf) rfl rfl rfl (Nat.le_of_ble_eq_true rfl) rfl ?_
          refine V_if_eq (tgt := 125) o dX0_readsNumber_118 (by decide) (fun c_118 => ?_) (fun c_118 => False.elim (c_118 rfl))
          refine V_iconst (v := 0) o dX0_readsNumber_125 (by decide) ?_
          refine V_iret o rt dX0_readsNumber_126 rfl (by first | rfl | exact bz_z) ?_
          have hd0 : ¬ s.2 = p0 := fun q => c_69 (by rw [show d = 0 by omega]; rfl)
          rw [if_neg (fun q => q.elim hd0 (fun q => bz_0.mp c_83 (dg_iff.mpr q)))] at hR0
          rw [if_neg (bz_0.mp c_105)] at hR0
          subst hR0
          exact ⟨rfl, rfl⟩
      · refine V_aload_n o dX0_readsNumber_86 rfl rfl ?_
        refine V_aload_n o dX0_readsNumber_87 rfl rfl ?_
        refine V_getIE (v := nI (s.2)) o dX0_readsNumber_88 rfl fl_X0_28 rfl rfl ?_
        refine V_cVi o rt dX0_readsNumber_91 ml_X0_45 (c0_fails hf) rfl rfl rfl (Nat.le_of_ble_eq_true rfl) rfl ?_
        refine V_iret o rt dX0_readsNumber_94 rfl (by first | rfl | exact bz_z) ?_
        rw [if_pos (Or.inr (dg_iff.mp (bz_n0.mp c_83)))] at hR0
        subst hR0
        exact ⟨rfl, rfl⟩
  have loop : ∀ m d (v : Int32) (q : Nat), d + m = D → q = p0 + d → nuF T n m v q = s → V sh0 w x mX0_readsNumber (0, 0) 8 [(5, .int (nI d)), (0, .ref 62), (1, .ref 60), (2, .int (nI D)), (3, .int lo), (4, .int hi)] [] (nmS σ v q) := by
    intro m
    induction m with
    | zero =>
      intro d v q hd hq hs
      have hs2 : (v, q) = s := hs
      subst hs2
      refine V_iload o dX0_readsNumber_8 rfl ?_
      refine V_iload_n o dX0_readsNumber_10 rfl rfl ?_
      refine V_icmp_ge (tgt := 67) o dX0_readsNumber_11 (by decide) (fun c_11 => ?_) (fun c_11 => False.elim (c_11 (nI_le (by omega) (by omega))))
      exact after d (by omega) hq
    | succ m ih =>
      intro d v q hd hq hs
      rw [nuF] at hs
      refine V_iload o dX0_readsNumber_8 rfl ?_
      refine V_iload_n o dX0_readsNumber_10 rfl rfl ?_
      refine V_icmp_ge (tgt := 67) o dX0_readsNumber_11 (by decide) (fun c_11 => False.elim (absurd c_11 (nI_ge (by omega) (by omega)))) (fun c_11 => ?_)
      refine V_aload_n o dX0_readsNumber_14 rfl rfl ?_
      refine V_aload_n o dX0_readsNumber_15 rfl rfl ?_
      refine V_getIE (v := nI (q)) o dX0_readsNumber_16 rfl fl_X0_28 rfl rfl ?_
      refine V_cVi o rt dX0_readsNumber_19 ml_X0_49 (c5_at hf (T := T) (n := n) (by exact hT) (p := q) (by omega)) rfl rfl rfl (Nat.le_of_ble_eq_true rfl) rfl ?_
      refine V_cSi o rt dX0_readsNumber_22 ms_X0_70 (c0_isDigit hf) rfl rfl (Nat.le_of_ble_eq_true rfl) rfl ?_
      refine V_if_eq (tgt := 67) o dX0_readsNumber_25 (by decide) (fun c_25 => ?_) (fun c_25 => ?_)
      · rw [if_neg (fun h => bz_0.mp c_25 (dg_iff.mpr h))] at hs
        subst hs
        exact after d (by omega) hq
      · refine V_aload_n o dX0_readsNumber_28 rfl rfl ?_
        refine V_bipush (v := 10) o dX0_readsNumber_29 (by decide) ?_
        refine V_aload_n o dX0_readsNumber_31 rfl rfl ?_
        refine V_getI o dX0_readsNumber_32 rfl fl_X0_67 rfl ?_
        refine V_topI (v' := v) rfl ?_
        refine V_imul o dX0_readsNumber_35 ?_
        refine V_aload_n o dX0_readsNumber_36 rfl rfl ?_
        refine V_aload_n o dX0_readsNumber_37 rfl rfl ?_
        refine V_getIE (v := nI (q)) o dX0_readsNumber_38 rfl fl_X0_28 rfl rfl ?_
        refine V_cVi o rt dX0_readsNumber_41 ml_X0_49 (c5_at hf (T := T) (n := n) (by exact hT) (p := q) (by omega)) rfl rfl rfl (Nat.le_of_ble_eq_true rfl) rfl ?_
        refine V_topI (v' := T q) (if_pos (dg_iff.mp (bz_n0.mp c_25)).1) ?_
        refine V_iadd o dX0_readsNumber_44 ?_
        refine V_bipush (v := 48) o dX0_readsNumber_45 (by decide) ?_
        refine V_isub o dX0_readsNumber_47 ?_
        refine V_putI o dX0_readsNumber_48 rfl fl_X0_67 rfl rfl rfl ?_
        rw [nmS_7]
        refine V_aload_n o dX0_readsNumber_51 rfl rfl ?_
        refine V_dup o dX0_readsNumber_52 rfl ?_
        refine V_getIE (v := nI (q)) o dX0_readsNumber_53 rfl fl_X0_28 rfl rfl ?_
        refine V_iconst (v := 1) o dX0_readsNumber_56 (by decide) ?_
        refine V_iadd o dX0_readsNumber_57 ?_
        refine V_topI (v' := nI (q + 1)) (nI_1 q) ?_
        refine V_putI o dX0_readsNumber_58 rfl fl_X0_28 rfl rfl rfl ?_
        rw [nmS_6]
        refine V_iincV (v := nI (d + 1)) (ls' := [(5, _), (0, _), (1, _), (2, _), (3, _), (4, _)]) o dX0_readsNumber_61 rfl (ninc 1 rfl) (by decide) rfl ?_
        refine V_goto (tgt := 8) o dX0_readsNumber_64 (by decide) ?_
        rw [if_pos (dg_iff.mp (bz_n0.mp c_25))] at hs
        exact V_sub (by simp) (ih (d + 1) (10 * v + T q - 48) (q + 1) (by omega) (by omega) hs)
  refine V_aload_n o dX0_readsNumber_0 rfl rfl ?_
  refine V_iconst (v := 0) o dX0_readsNumber_1 (by decide) ?_
  refine V_putI o dX0_readsNumber_2 rfl fl_X0_67 rfl rfl rfl ?_
  rw [nmS_0 hp]
  refine V_iconst (v := 0) o dX0_readsNumber_5 (by decide) ?_
  refine V_istore (ls' := [(5, _), (0, _), (1, _), (2, _), (3, _), (4, _)]) o dX0_readsNumber_6 (by decide) rfl ?_
  exact V_sub (by simp; rfl) (loop D 0 0 p0 (by omega) (by omega) hs0)
theorem c0_number_t {w : Wp} (hf : Fit sh0 w) {σ : Mm} {T : Nat → Int32} {n : Nat} (hT : TxR T n σ) {p0 : Nat} (hp : σ.1 62 6 = nI p0) (hp2 : p0 ≤ 101) {D : Nat} (hD : D ≤ 10) {k lo hi : Int32} (hk : k = nI D) (hlo : 0 ≤ lo) {R : Int32 × Nat} (hR0 : nuR T n D lo hi p0 = R) (h : ¬ R.1 < 0) : Cf sh0 w 2 mX0_readsNumber [.ref 62, .ref 60, .int k, .int lo, .int hi] σ (some (.int 1)) (nmS σ R.1 R.2) := by
  subst hk
  have := c0_number hf hT hp hp2 hD hlo rfl hR0
  rw [bz_t h, nuM, if_neg h] at this
  exact this
theorem c0_number_f {w : Wp} (hf : Fit sh0 w) {σ : Mm} {T : Nat → Int32} {n : Nat} (hT : TxR T n σ) {p0 : Nat} (hp : σ.1 62 6 = nI p0) (hp2 : p0 ≤ 101) {D : Nat} (hD : D ≤ 10) {k lo hi : Int32} (hk : k = nI D) (hlo : 0 ≤ lo) {R : Int32 × Nat} (hR0 : nuR T n D lo hi p0 = R) (h : R.1 < 0) : Cf sh0 w 2 mX0_readsNumber [.ref 62, .ref 60, .int k, .int lo, .int hi] σ (some (.int 0)) (wI (nmS σ (nuF T n D 0 p0).1 (nuF T n D 0 p0).2) 62 5 (nI R.2)) := by
  subst hk
  have := c0_number hf hT hp hp2 hD hlo rfl hR0
  rw [bz_f (fun q => q h), nuM, if_pos h] at this
  exact this
