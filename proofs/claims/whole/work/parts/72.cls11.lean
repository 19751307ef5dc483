/-! the LOG: the class's rows begin anew, the reference's move on -/
theorem shfM_at {M : Nat → Int32} {k : Nat} (hk : k < 195) : shfM M (15 + k) = M (15 + k + 5) := by
  unfold shfM
  have := itr_inv (f := fun k M => uM M (15 + k) (M (15 + k + 5))) (fun n s => (∀ k, k < n → s (15 + k) = M (15 + k + 5)) ∧ ∀ k, n ≤ k → s (15 + k) = M (15 + k)) 195 0 M ⟨fun k hk => absurd hk (Nat.not_lt_zero k), fun _ _ => rfl⟩ (fun n s _ _ hs => ⟨fun k hk => by
    by_cases e : k = n
    · rw [e, uM_self, show 15 + n + 5 = 15 + (n + 5) by omega, hs.2 (n + 5) (by omega)]
    · rw [uM_ne _ _ (by omega)]; exact hs.1 k (by omega), fun k hk => by rw [uM_ne _ _ (by omega)]; exact hs.2 k (by omega)⟩)
  exact this.1 k (by omega)
def lgV (T : Nat → Int32) (t c : Nat) : Int32 := if c = 0 then nI t else if c = 1 then T 6 else if c = 2 then T (231 + t) else if c = 3 then T (263 + t) else T (375 + t) + 1
theorem kpM_old {X : Nat → Int32} {q t i c : Nat} (hi : i < q) (hc : c < 5) : kpM X q t (15 + 5 * i + c) = X (15 + 5 * i + c) := by
  unfold kpM
  rw [uM_ne _ _ (by omega), uM_ne _ _ (by omega), uM_ne _ _ (by omega), uM_ne _ _ (by omega), uM_ne _ _ (by omega), uM_ne _ _ (by omega)]
theorem kpM_new {X T : Nat → Int32} {q t c : Nat} (hc : c < 5) (h1 : X 6 = T 6) (h2 : X (231 + t) = T (231 + t)) (h3 : X (263 + t) = T (263 + t)) (h4 : X (375 + t) = T (375 + t) + 1) : kpM X q t (15 + 5 * q + c) = lgV T t c := by
  have : c = 0 ∨ c = 1 ∨ c = 2 ∨ c = 3 ∨ c = 4 := by omega
  unfold kpM lgV
  rcases this with e | e | e | e | e <;> subst e
  · rw [if_pos rfl, uM_ne _ _ (by omega), uM_ne _ _ (by omega), uM_ne _ _ (by omega), uM_ne _ _ (by omega), uM_ne _ _ (by omega)]; exact uM_self _ _ _
  · rw [if_neg (by omega), if_pos rfl, uM_ne _ _ (by omega), uM_ne _ _ (by omega), uM_ne _ _ (by omega), uM_ne _ _ (by omega), uM_self, h1]
  · rw [if_neg (by omega), if_neg (by omega), if_pos rfl, uM_ne _ _ (by omega), uM_ne _ _ (by omega), uM_ne _ _ (by omega), uM_self, h2]
  · rw [if_neg (by omega), if_neg (by omega), if_neg (by omega), if_pos rfl, uM_ne _ _ (by omega), uM_ne _ _ (by omega), uM_self, h3]
  · rw [if_neg (by omega), if_neg (by omega), if_neg (by omega), if_neg (by omega), uM_ne _ _ (by omega), uM_self, h4]
theorem rg1_ne {T : Nat → Int32} {t j : Nat} (h7 : j ≠ 7) (h : j ≠ 375 + t) : rg1 T t j = T j := by
  unfold rg1
  rw [uM_ne _ _ h7, uM_ne _ _ h]
theorem rg1_375 {T : Nat → Int32} {t : Nat} : rg1 T t (375 + t) = T (375 + t) + 1 := by
  unfold rg1
  rw [uM_ne _ _ (by omega), uM_self]
theorem rung_new {T : Nat → Int32} {r t c : Nat} (hc : c < 5) : rungM T r t (15 + 5 * (if r = 40 then 39 else r) + c) = lgV T t c := by
  unfold rungM keepM
  split
  · refine kpM_new hc ?_ ?_ ?_ ?_
    · rw [uM_ne _ _ (by omega), shfM_ne (by omega), rg1_ne (by omega) (by omega)]
    · rw [uM_ne _ _ (by omega), shfM_ne (by omega), rg1_ne (by omega) (by omega)]
    · rw [uM_ne _ _ (by omega), shfM_ne (by omega), rg1_ne (by omega) (by omega)]
    · rw [uM_ne _ _ (by omega), shfM_ne (by omega), rg1_375]
  · exact kpM_new hc (rg1_ne (by omega) (by omega)) (rg1_ne (by omega) (by omega)) (rg1_ne (by omega) (by omega)) rg1_375
theorem rung_old {T : Nat → Int32} {r t i c : Nat} (hr : r < 40) (hi : i < r) (hc : c < 5) : rungM T r t (15 + 5 * i + c) = T (15 + 5 * i + c) := by
  unfold rungM keepM
  rw [if_neg (by omega), kpM_old hi hc, rg1_ne (by omega) (by omega)]
theorem rung_sh {T : Nat → Int32} {t i c : Nat} (hi : i < 39) (hc : c < 5) : rungM T 40 t (15 + 5 * i + c) = T (15 + 5 * (i + 1) + c) := by
  unfold rungM keepM
  rw [if_pos rfl, kpM_old hi hc, uM_ne _ _ (by omega), show 15 + 5 * i + c = 15 + (5 * i + c) by omega, shfM_at (by omega), rg1_ne (by omega) (by omega)]
  congr 1
  omega
theorem rung_7 {T : Nat → Int32} {r t : Nat} (hr : r ≤ 40) : rungM T r t 7 = T 7 + 1 := by
  unfold rungM rg1
  rw [keepM_ne hr (by omega), uM_self, uM_ne _ _ (by omega)]
def LgP (q r i : Nat) : Nat := (q + 40 - r + i) % 40
def LgE (T : Nat → Int32) (r q : Nat) (σ : Mm) : Prop := ∀ i, i < r → ∀ c, c < 5 → σ.1 (55 + c) (LgP q r i) = T (15 + 5 * i + c)
def LgR (T : Nat → Int32) (r : Nat) (σ : Mm) : Prop := σ.1 54 5 = nI r ∧ σ.1 54 6 = T 7 ∧ r ≤ 40 ∧ ∃ q, q ≤ 40 ∧ σ.1 54 7 = nI q ∧ (r < 40 → q = r) ∧ LgE T r q σ
theorem LgR.off {T : Nat → Int32} {r lo hi : Nat} {σ τ : Mm} (h : LgR T r σ) (ho : Off lo hi σ τ) (hd : 59 < lo ∨ hi ≤ 54) : LgR T r τ := by
  obtain ⟨h1, h2, h3, q, h4, h5, h6, h7⟩ := h
  have e := (ho 54 (by omega)).1
  exact ⟨by rw [e]; exact h1, by rw [e]; exact h2, h3, q, h4, by rw [e]; exact h5, h6, fun i hi c hc => by rw [(ho (55 + c) (by omega)).1]; exact h7 i hi c hc⟩
theorem LgR.cg {T T' : Nat → Int32} {r : Nat} {σ : Mm} (h : LgR T r σ) (e : ∀ j, j = 7 ∨ 15 ≤ j ∧ j < 215 → T' j = T j) : LgR T' r σ := by
  obtain ⟨h1, h2, h3, q, h4, h5, h6, h7⟩ := h
  exact ⟨h1, by rw [e 7 (by omega)]; exact h2, h3, q, h4, h5, h6, fun i hi c hc => by rw [e _ (by omega)]; exact h7 i hi c hc⟩
def kpSg (σ : Mm) (q : Nat) (v : Nat → Int32) (a b c : Int32) : Mm := wI (wI (wI (wI (wI (wI (wI (wI σ 55 q (v 0)) 56 q (v 1)) 57 q (v 2)) 58 q (v 3)) 59 q (v 4)) 54 7 a) 54 5 b) 54 6 c
theorem kpSg_at {σ : Mm} {q j d : Nat} {v : Nat → Int32} {a b c : Int32} (hd : d < 5) : (kpSg σ q v a b c).1 (55 + d) j = if j = q then v d else σ.1 (55 + d) j := by
  have : d = 0 ∨ d = 1 ∨ d = 2 ∨ d = 3 ∨ d = 4 := by omega
  unfold kpSg
  rw [wI_ne (by omega), wI_ne (by omega), wI_ne (by omega)]
  by_cases e : j = q
  · subst e
    rw [if_pos rfl]
    rcases this with e | e | e | e | e <;> subst e
    · rw [wI_ne (by omega), wI_ne (by omega), wI_ne (by omega), wI_ne (by omega)]; exact wI_at
    · rw [wI_ne (by omega), wI_ne (by omega), wI_ne (by omega)]; exact wI_at
    · rw [wI_ne (by omega), wI_ne (by omega)]; exact wI_at
    · rw [wI_ne (by omega)]; exact wI_at
    · exact wI_at
  · rw [if_neg e]
    rcases this with h | h | h | h | h <;> subst h
    · rw [wI_ne (by omega), wI_ne (by omega), wI_ne (by omega), wI_ne (by omega)]; exact wI_nj e
    · rw [wI_ne (by omega), wI_ne (by omega), wI_ne (by omega), wI_nj e, wI_ne (by omega)]
    · rw [wI_ne (by omega), wI_ne (by omega), wI_nj e, wI_ne (by omega), wI_ne (by omega)]
    · rw [wI_ne (by omega), wI_nj e, wI_ne (by omega), wI_ne (by omega), wI_ne (by omega)]
    · rw [wI_nj e, wI_ne (by omega), wI_ne (by omega), wI_ne (by omega), wI_ne (by omega)]
theorem Off_kp {σ τ : Mm} {q : Nat} {v : Nat → Int32} {a b c : Int32} (h : Off 54 60 σ τ) : Off 54 60 σ (kpSg τ q v a b c) :=
  (((((((h.wI (by omega) (by omega)).wI (by omega) (by omega)).wI (by omega) (by omega)).wI (by omega) (by omega)).wI (by omega) (by omega)).wI (by omega) (by omega)).wI (by omega) (by omega)).wI (by omega) (by omega)
theorem LgR_kp {T : Nat → Int32} {r q t : Nat} {σ : Mm} (hr : r ≤ 40) (hq : q < 40) (hqr : r < 40 → q = r) (he : LgE T r q σ) : LgR (rungM T r t) (kpN r) (kpSg σ q (lgV T t) (nI (q + 1)) (nI (kpN r)) (T 7 + 1)) := by
  refine ⟨?_, ?_, kpN_le hr, q + 1, by omega, ?_, fun h => ?_, fun i hi c hc => ?_⟩
  · unfold kpSg
    rw [wI_nj (by decide), wI_at]
  · unfold kpSg
    rw [wI_at, rung_7 hr]
  · unfold kpSg
    rw [wI_nj (by decide), wI_nj (by decide), wI_at]
  · unfold kpN at h ⊢
    split at h
    · omega
    · rw [if_neg (by assumption), hqr (by omega)]
  · rw [kpSg_at hc]
    by_cases h40 : r = 40
    · subst h40
      have ek : kpN 40 = 40 := rfl
      rw [ek] at hi ⊢
      by_cases h39 : i = 39
      · subst h39
        rw [if_pos (by unfold LgP; omega)]
        exact (rung_new (r := 40) hc).symm
      · rw [if_neg (by unfold LgP; omega), rung_sh (by omega) hc, ← he (i + 1) (by omega) c hc]
        exact congrArg _ (by unfold LgP; omega)
    · have ek : kpN r = r + 1 := by unfold kpN; rw [if_neg h40]
      have hqr' := hqr (by omega)
      subst hqr'
      rw [ek] at hi ⊢
      by_cases hir : i = q
      · subst hir
        rw [if_pos (by unfold LgP; omega)]
        have := rung_new (T := T) (r := i) (t := t) hc
        rw [if_neg h40] at this
        exact this.symm
      · rw [if_neg (by unfold LgP; omega), rung_old (by omega) (by omega) hc, ← he i (by omega) c hc]
        exact congrArg _ (by unfold LgP; omega)
theorem kp_min {r : Nat} (hr : r ≤ 40) : mnI (nI r + 1) 40 = nI (kpN r) := by
  rw [nI_1]
  exact (mnI_nI (b := 40) (by omega) (by omega)).trans (congrArg nI (by unfold kpN; split <;> omega))
set_option maxRecDepth 20000 in
set_option maxHeartbeats 4000000 in
theorem c2_keep {w : Wp} (hf : Fit sh0 w) {σ : Mm} {T : Nat → Int32} {r t : Nat} (hT : LgR T r σ) (ht : t < 16) {clk : Int32} (h0 : σ.1 (9 + t) 0 = nI t) (h1 : clk = T 6) (h2 : σ.1 (9 + t) 3 = T (231 + t)) (h3 : σ.1 (9 + t) 5 = T (263 + t)) (h4 : σ.1 (9 + t) 9 = T (375 + t) + 1) : Ct sh0 w 1 mX2_keep [.ref 54, .ref (9 + t), .int clk] σ (fun r' σ' => r' = none ∧ Off 54 60 σ σ' ∧ LgR (rungM T r t) (kpN r) σ') := by
  obtain ⟨l1, l2, l3, q0, l4, l5, l6, l7⟩ := hT
  refine Ct_of hf (by decide) rfl (Nat.le_of_ble_eq_true rfl) (fun x o rt => ?_)
  have main : ∀ q (τ : Mm), q < 40 → (r < 40 → q = r) → Off 54 60 σ τ → τ.1 54 7 = nI q → τ.1 54 5 = nI r → τ.1 54 6 = T 7 → LgE T r q τ → V sh0 w x mX2_keep (0, 0) 21 [(0, .ref 54), (1, .ref (9 + t)), (2, .int clk)] [] τ := by
    intro q τ hq hqr ho hq7 hk hR he
    have e9 : τ.1 (9 + t) = σ.1 (9 + t) := (ho (9 + t) (by omega)).1
    refine V_aload_n o dX2_keep_21 rfl rfl ?_
    refine V_getR (t := 55) o dX2_keep_22 rfl fl_X2_9 rfl ?_
    refine V_aload_n o dX2_keep_25 rfl rfl ?_
    refine V_getIE (v := nI (q)) o dX2_keep_26 rfl fl_X2_27 rfl hq7 ?_
    refine V_aload_n o dX2_keep_29 rfl rfl ?_
    refine V_getI o dX2_keep_30 (kT9 t ht) fl_X2_31 (rT9 ht) ?_
    refine V_topI (v' := lgV T t 0) ((congrFun e9 0).trans h0) ?_
    refine V_iastN 40 o dX2_keep_33 rfl rfl rfl (by omega) rfl ?_
    refine V_aload_n o dX2_keep_34 rfl rfl ?_
    refine V_getR (t := 56) o dX2_keep_35 rfl fl_X2_15 rfl ?_
    refine V_aload_n o dX2_keep_38 rfl rfl ?_
    refine V_getIE (v := nI (q)) o dX2_keep_39 rfl fl_X2_27 rfl ((congrFun (wI_ne (by omega)) _).trans hq7) ?_
    refine V_iload_n o dX2_keep_42 rfl rfl ?_
    refine V_topI (v' := lgV T t 1) h1 ?_
    refine V_iastN 40 o dX2_keep_43 rfl rfl rfl (by omega) rfl ?_
    refine V_aload_n o dX2_keep_44 rfl rfl ?_
    refine V_getR (t := 57) o dX2_keep_45 rfl fl_X2_18 rfl ?_
    refine V_aload_n o dX2_keep_48 rfl rfl ?_
    refine V_getIE (v := nI (q)) o dX2_keep_49 rfl fl_X2_27 rfl ((congrFun (wI_ne (by omega)) _).trans ((congrFun (wI_ne (by omega)) _).trans hq7)) ?_
    refine V_aload_n o dX2_keep_52 rfl rfl ?_
    refine V_getI o dX2_keep_53 (kT9 t ht) fl_X2_36 (rT9 ht) ?_
    refine V_topI (v' := lgV T t 2) ((congrFun (wI_ne (by omega)) _).trans ((congrFun (wI_ne (by omega)) _).trans ((congrFun e9 3).trans h2))) ?_
    refine V_iastN 40 o dX2_keep_56 rfl rfl rfl (by omega) rfl ?_
    refine V_aload_n o dX2_keep_57 rfl rfl ?_
    refine V_getR (t := 58) o dX2_keep_58 rfl fl_X2_21 rfl ?_
    refine V_aload_n o dX2_keep_61 rfl rfl ?_
    refine V_getIE (v := nI (q)) o dX2_keep_62 rfl fl_X2_27 rfl ((congrFun (wI_ne (by omega)) _).trans ((congrFun (wI_ne (by omega)) _).trans ((congrFun (wI_ne (by omega)) _).trans hq7))) ?_
    refine V_aload_n o dX2_keep_65 rfl rfl ?_
    refine V_getI o dX2_keep_66 (kT9 t ht) fl_X2_39 (rT9 ht) ?_
    refine V_topI (v' := lgV T t 3) ((congrFun (wI_ne (by omega)) _).trans ((congrFun (wI_ne (by omega)) _).trans ((congrFun (wI_ne (by omega)) _).trans ((congrFun e9 5).trans h3)))) ?_
    refine V_iastN 40 o dX2_keep_69 rfl rfl rfl (by omega) rfl ?_
    refine V_aload_n o dX2_keep_70 rfl rfl ?_
    refine V_getR (t := 59) o dX2_keep_71 rfl fl_X2_24 rfl ?_
    refine V_aload_n o dX2_keep_74 rfl rfl ?_
    refine V_getIE (v := nI (q)) o dX2_keep_75 rfl fl_X2_27 rfl ((congrFun (wI_ne (by omega)) _).trans ((congrFun (wI_ne (by omega)) _).trans ((congrFun (wI_ne (by omega)) _).trans ((congrFun (wI_ne (by omega)) _).trans hq7)))) ?_
    refine V_aload_n o dX2_keep_78 rfl rfl ?_
    refine V_getI o dX2_keep_79 (kT9 t ht) fl_X2_42 (rT9 ht) ?_
    refine V_topI (v' := lgV T t 4) ((congrFun (wI_ne (by omega)) _).trans ((congrFun (wI_ne (by omega)) _).trans ((congrFun (wI_ne (by omega)) _).trans ((congrFun (wI_ne (by omega)) _).trans ((congrFun e9 9).trans h4))))) ?_
    refine V_iastN 40 o dX2_keep_82 rfl rfl rfl (by omega) rfl ?_
    refine V_aload_n o dX2_keep_83 rfl rfl ?_
    refine V_dup o dX2_keep_84 rfl ?_
    refine V_getIE (v := nI (q)) o dX2_keep_85 rfl fl_X2_27 rfl ((congrFun (wI_ne (by omega)) _).trans ((congrFun (wI_ne (by omega)) _).trans ((congrFun (wI_ne (by omega)) _).trans ((congrFun (wI_ne (by omega)) _).trans ((congrFun (wI_ne (by omega)) _).trans hq7))))) ?_
    refine V_iconst (v := 1) o dX2_keep_88 (by decide) ?_
    refine V_iadd o dX2_keep_89 ?_
    refine V_topI (v' := nI (q + 1)) (nI_1 q) ?_
    refine V_putI o dX2_keep_90 rfl fl_X2_27 rfl rfl rfl ?_
    refine V_aload_n o dX2_keep_93 rfl rfl ?_
    refine V_aload_n o dX2_keep_94 rfl rfl ?_
    refine V_getI o dX2_keep_95 rfl fl_X2_45 rfl ?_
    refine V_topI (v' := nI r) ((wI_nj (by decide)).trans ((congrFun (wI_ne (by omega)) _).trans ((congrFun (wI_ne (by omega)) _).trans ((congrFun (wI_ne (by omega)) _).trans ((congrFun (wI_ne (by omega)) _).trans ((congrFun (wI_ne (by omega)) _).trans hk)))))) ?_
    refine V_iconst (v := 1) o dX2_keep_98 (by decide) ?_
    refine V_iadd o dX2_keep_99 ?_
    refine V_bipush (v := 40) o dX2_keep_100 (by decide) ?_
    refine V_cSi o rt dX2_keep_102 ms_X2_48 (cJ_min hf) rfl rfl (Nat.le_of_ble_eq_true rfl) rfl ?_
    refine V_topI (v' := nI (kpN r)) (kp_min l3) ?_
    refine V_putI o dX2_keep_105 rfl fl_X2_45 rfl rfl rfl ?_
    refine V_aload_n o dX2_keep_108 rfl rfl ?_
    refine V_dup o dX2_keep_109 rfl ?_
    refine V_getI o dX2_keep_110 rfl fl_X2_54 rfl ?_
    refine V_topI (v' := T 7) ((wI_nj (by decide)).trans ((wI_nj (by decide)).trans ((congrFun (wI_ne (by omega)) _).trans ((congrFun (wI_ne (by omega)) _).trans ((congrFun (wI_ne (by omega)) _).trans ((congrFun (wI_ne (by omega)) _).trans ((congrFun (wI_ne (by omega)) _).trans hR))))))) ?_
    refine V_iconst (v := 1) o dX2_keep_113 (by decide) ?_
    refine V_iadd o dX2_keep_114 ?_
    refine V_putI o dX2_keep_115 rfl fl_X2_54 rfl rfl rfl ?_
    refine V_ret o rt dX2_keep_118 rfl ?_
    exact ⟨rfl, Off_kp ho, LgR_kp l3 hq hqr he⟩
  by_cases h40 : q0 = 40
  · subst h40
    refine V_aload_n o dX2_keep_0 rfl rfl ?_
    refine V_getIE (v := nI (40)) o dX2_keep_1 rfl fl_X2_27 rfl l5 ?_
    refine V_if_lt (tgt := 16) o dX2_keep_4 (by decide) (fun c_4 => False.elim (absurd c_4 (by decide))) (fun c_4 => ?_)
    refine V_aload_n o dX2_keep_7 rfl rfl ?_
    refine V_getIE (v := nI (40)) o dX2_keep_8 rfl fl_X2_27 rfl l5 ?_
    refine V_bipush (v := 40) o dX2_keep_11 (by decide) ?_
    refine V_icmp_lt (tgt := 21) o dX2_keep_13 (by decide) (fun c_13 => False.elim (absurd c_13 (by decide))) (fun c_13 => ?_)
    refine V_aload_n o dX2_keep_16 rfl rfl ?_
    refine V_iconst (v := 0) o dX2_keep_17 (by decide) ?_
    refine V_putI o dX2_keep_18 rfl fl_X2_27 rfl rfl rfl ?_
    have hr40 : r = 40 := by omega
    subst hr40
    refine main 0 (wI σ 54 7 0) (by omega) (by omega) (Off.rf.wI (by omega) (by omega)) wI_at ((wI_nj (by decide)).trans l1) ((wI_nj (by decide)).trans l2) (fun i hi c hc => ?_)
    rw [wI_ne (by omega), ← l7 i hi c hc]
    exact congrArg _ (by unfold LgP; omega)
  · refine V_aload_n o dX2_keep_0 rfl rfl ?_
    refine V_getIE (v := nI (q0)) o dX2_keep_1 rfl fl_X2_27 rfl l5 ?_
    refine V_if_lt (tgt := 16) o dX2_keep_4 (by decide) (fun c_4 => False.elim (absurd c_4 (Int32.not_lt.mpr (nI_le (a := 0) (Nat.zero_le _) (by omega))))) (fun c_4 => ?_)
    refine V_aload_n o dX2_keep_7 rfl rfl ?_
    refine V_getIE (v := nI (q0)) o dX2_keep_8 rfl fl_X2_27 rfl l5 ?_
    refine V_bipush (v := 40) o dX2_keep_11 (by decide) ?_
    refine V_icmp_lt (tgt := 21) o dX2_keep_13 (by decide) (fun c_13 => ?_) (fun c_13 => False.elim (c_13 (nI_lt (b := 40) (by omega) (by omega))))
    exact main q0 σ (by omega) l6 Off.rf l5 l1 l2 l7
set_option maxRecDepth 20000 in
set_option maxHeartbeats 4000000 in
theorem c2_placeOf {w : Wp} (hf : Fit sh0 w) {σ : Mm} {r q i : Nat} (hr : σ.1 54 5 = nI r) (hr4 : r ≤ 40) (hq : σ.1 54 7 = nI q) (hq4 : q ≤ 40) (hi : i < r) : Cf sh0 w 1 mX2_placeOf [.ref 54, .int (nI i)] σ (some (.int (nI (LgP q r i)))) σ := by
  obtain ⟨r1, rfl⟩ : ∃ r1, r = r1 + 1 := ⟨r - 1, by omega⟩
  refine Ct_of hf (by decide) rfl (Nat.le_of_ble_eq_true rfl) (fun x o rt => ?_)
  refine V_iload_n o dX2_placeOf_0 rfl rfl ?_
  refine V_iconst (v := 0) o dX2_placeOf_1 (by decide) ?_
  refine V_aload_n o dX2_placeOf_2 rfl rfl ?_
  refine V_getIE (v := nI (r1 + 1)) o dX2_placeOf_3 rfl fl_X2_45 rfl hr ?_
  refine V_iconst (v := 1) o dX2_placeOf_6 (by decide) ?_
  refine V_isub o dX2_placeOf_7 ?_
  refine V_topI (v' := nI (r1)) (nI_pred r1) ?_
  refine V_cSNi o rt dX2_placeOf_8 ms_X2_57 (c8_isWithin hf) rfl rfl (Nat.le_of_ble_eq_true rfl) rfl ?_
  refine V_if_ne (tgt := 16) o dX2_placeOf_11 (by decide) (fun c_11 => ?_) (fun c_11 => False.elim (absurd (nI_rng (i := i) (N := r1) (by omega) (by omega)) (bz_0.mp c_11)))
  refine V_aload_n o dX2_placeOf_16 rfl rfl ?_
  refine V_getIE (v := nI (q)) o dX2_placeOf_17 rfl fl_X2_27 rfl hq ?_
  refine V_aload_n o dX2_placeOf_20 rfl rfl ?_
  refine V_getIE (v := nI (r1 + 1)) o dX2_placeOf_21 rfl fl_X2_45 rfl hr ?_
  refine V_isub o dX2_placeOf_24 ?_
  refine V_iload_n o dX2_placeOf_25 rfl rfl ?_
  refine V_iadd o dX2_placeOf_26 ?_
  refine V_bipush (v := 40) o dX2_placeOf_27 (by decide) ?_
  refine V_cSi o rt dX2_placeOf_29 ms_X2_61 (cJ_floorMod hf) rfl rfl (Nat.le_of_ble_eq_true rfl) rfl ?_
  refine V_topI (v' := nI (LgP q (r1 + 1) i)) (by rw [fm_arg hr4]; exact fm_all _ (by omega)) ?_
  refine V_iret o rt dX2_placeOf_32 rfl rfl ?_
  exact ⟨rfl, rfl⟩
set_option maxRecDepth 20000 in
set_option maxHeartbeats 4000000 in
theorem c2_placeOf_no {w : Wp} (hf : Fit sh0 w) {σ : Mm} {r : Nat} (hr : σ.1 54 5 = nI r) {k : Int32} (hk : ¬ inR k 0 (nI r - 1)) : Cf sh0 w 1 mX2_placeOf [.ref 54, .int k] σ (some (.int (-1))) σ := by
  refine Ct_of hf (by decide) rfl (Nat.le_of_ble_eq_true rfl) (fun x o rt => ?_)
  refine V_iload_n o dX2_placeOf_0 rfl rfl ?_
  refine V_iconst (v := 0) o dX2_placeOf_1 (by decide) ?_
  refine V_aload_n o dX2_placeOf_2 rfl rfl ?_
  refine V_getIE (v := nI (r)) o dX2_placeOf_3 rfl fl_X2_45 rfl hr ?_
  refine V_iconst (v := 1) o dX2_placeOf_6 (by decide) ?_
  refine V_isub o dX2_placeOf_7 ?_
  refine V_cSNi o rt dX2_placeOf_8 ms_X2_57 (c8_isWithin hf) rfl rfl (Nat.le_of_ble_eq_true rfl) rfl ?_
  refine V_if_ne (tgt := 16) o dX2_placeOf_11 (by decide) (fun c_11 => False.elim (hk (bz_n0.mp c_11))) (fun c_11 => ?_)
  refine V_iconst (v := -1) o dX2_placeOf_14 (by decide) ?_
  refine V_iret o rt dX2_placeOf_15 rfl rfl ?_
  exact ⟨rfl, rfl⟩
