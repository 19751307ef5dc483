theorem nuR_gt {T : Nat → Int32} {n D : Nat} {lo hi : Int32} {p : Nat} (hp : p ≤ n) (h : ¬ (nuR T n D lo hi p).1 < 0) : p < (nuR T n D lo hi p).2 := by
  have h1 := nuF_le (T := T) D 0 p hp
  unfold nuR nuE at h ⊢
  split at h
  · exact absurd (show (-1 : Int32) < 0 by decide) h
  · next q =>
    rw [if_neg q]
    split at h
    · next q2 =>
      rw [if_pos q2]
      have : (nuF T n D 0 p).2 ≠ p := fun e => q (Or.inl e)
      omega
    · exact absurd (show (-1 : Int32) < 0 by decide) h
theorem ge_of_gt {v : Int32} (h : v > 0) : ¬ v < 0 := Int32.not_lt.mpr (Int32.le_of_lt h)
/-- an act has two signs at least -/
theorem rdA_2 {T : Nat → Int32} {n q : Nat} (h : (rdA T n q).1 = true) : q + 2 ≤ (rdA T n q).2.1 := by
  unfold rdA at h ⊢
  by_cases h1 : tkP T n q 115
  · rw [if_pos h1] at h ⊢
    have hp := nuR_le (T := T) (n := n) (D := 4) (lo := 1) (hi := 9999) (p := q + 1) h1.1
    have hg := nuR_gt (T := T) (n := n) (D := 4) (lo := 1) (hi := 9999) (p := q + 1) h1.1
    generalize nuR T n 4 1 9999 (q + 1) = N1 at h hp hg ⊢
    have hn : ¬ N1.1 < 0 := fun e => by
      unfold rdS1 at h
      rw [if_pos e] at h
      cases h
    have := hg hn
    have := (rdS1_le (T := T) (n := n) (p := q + 1) (N1 := N1) ⟨by omega, by omega⟩).1
    omega
  · rw [if_neg h1] at h ⊢
    by_cases h2 : tkP T n q 116
    · rw [if_pos h2] at h ⊢
      have h5 := of_decide_eq_true h
      have := nuR_gt (T := T) (n := n) (D := 1) (lo := 1) (hi := 9) (p := q + 1) h2.1 (ge_of_gt h5)
      exact this
    · rw [if_neg h2] at h ⊢
      by_cases h3 : tkP T n q 108
      · rw [if_pos h3] at h ⊢
        have h5 := of_decide_eq_true h
        have hb : q + 1 ≤ tkN T n (q + 1) 45 ∧ tkN T n (q + 1) 45 ≤ n := by
          have := h3.1
          unfold tkN
          split
          · next q9 => have := q9.1; omega
          · omega
        have := nuR_gt (T := T) (n := n) (D := 4) (lo := 1) (hi := 9999) (p := tkN T n (q + 1) 45) hb.2 (ge_of_gt h5)
        show q + 2 ≤ (nuR T n 4 1 9999 (tkN T n (q + 1) 45)).2
        omega
      · rw [if_neg h3] at h ⊢
        by_cases h4 : tkP T n q 99
        · rw [if_pos h4] at h ⊢
          have h5 := of_decide_eq_true h
          have := nuR_gt (T := T) (n := n) (D := 2) (lo := 0) (hi := 99) (p := q + 1) h4.1 (Int32.not_lt.mpr h5)
          exact this
        · rw [if_neg h4] at h
          cases h
/-- acts as the class keeps them -/
def AcC (as : List Act) (σ : Mm) : Prop := ∀ i, i < as.length → σ.1 63 i = kch (as.getD i (0, 0, 0, 0)).1 ∧ σ.1 64 i = (as.getD i (0, 0, 0, 0)).2.1 ∧ ((as.getD i (0, 0, 0, 0)).1 = 0 → σ.1 65 i = (as.getD i (0, 0, 0, 0)).2.2.1 ∧ σ.1 66 i = (as.getD i (0, 0, 0, 0)).2.2.2) ∧ AcOk (as.getD i (0, 0, 0, 0))
theorem AcC.off {as : List Act} {lo hi : Nat} {σ τ : Mm} (h : AcC as σ) (ho : Off lo hi σ τ) (hd : 66 < lo ∨ hi ≤ 63) : AcC as τ := by
  intro i hi
  rw [(ho 63 (by omega)).1, (ho 64 (by omega)).1, (ho 65 (by omega)).1, (ho 66 (by omega)).1]
  exact h i hi
theorem AcC_push {as : List Act} {a : Act} {σ τ : Mm} (h : AcC as σ) (hF : AF as.length σ τ) (h1 : τ.1 63 as.length = kch a.1) (h2 : τ.1 64 as.length = a.2.1) (h3 : a.1 = 0 → τ.1 65 as.length = a.2.2.1 ∧ τ.1 66 as.length = a.2.2.2) (ho : AcOk a) : AcC (as ++ [a]) τ := by
  intro i hi
  rw [List.length_append, List.length_singleton] at hi
  by_cases q : i = as.length
  · subst q
    rw [List.getD_eq_getElem?_getD, List.getElem?_append_right (Nat.le_refl _), Nat.sub_self]
    exact ⟨h1, h2, h3, ho⟩
  · rw [List.getD_eq_getElem?_getD, List.getElem?_append_left (by omega), ← List.getD_eq_getElem?_getD]
    rw [hF.2.2 63 (by omega) (by omega) i q, hF.2.2 64 (by omega) (by omega) i q, hF.2.2 65 (by omega) (by omega) i q, hF.2.2 66 (by omega) (by omega) i q]
    exact h i (by omega)
theorem AcC.w62 {as : List Act} {σ : Mm} {j : Nat} {v : Int32} (h : AcC as σ) : AcC as (wI σ 62 j v) := h.off (lo := 62) (hi := 63) (Off.rf.wI (by omega) (by omega)) (by omega)
def alQ (σ : Mm) (R : Bool × Nat × List Act) (r' : Option Value) (σ' : Mm) : Prop := Off 62 67 σ σ' ∧ (R.1 = true → r' = some (.int 1) ∧ σ'.1 62 4 = nI R.2.2.length ∧ AcC R.2.2 σ' ∧ R.2.2.length ≤ 34) ∧ (R.1 = false → r' = some (.int 0) ∧ σ'.1 62 5 = nI R.2.1)
set_option maxRecDepth 20000 in
set_option maxHeartbeats 4000000 in
theorem c0_readsAll {w : Wp} (hf : Fit sh0 w) {σ : Mm} {T : Nat → Int32} {n : Nat} (hT : TxR T n σ) {R : Bool × Nat × List Act} (hR0 : rdL T n 101 [] 0 = R) : Ct sh0 w 5 mX0_readsAll [.ref 62, .ref 60] σ (alQ σ R) := by
  have hn := hT.2.1
  refine Ct_of hf (by decide) rfl (Nat.le_of_ble_eq_true rfl) (fun x o rt => ?_)
  have loop : ∀ m (as : List Act) (q : Nat) (τ : Mm), as.length + m = 100 → 3 * as.length ≤ q → q ≤ n → Off 62 67 σ τ → τ.1 62 4 = nI as.length → τ.1 62 6 = nI q → AcC as τ → (if (rdA T n q).1 = true then rdL T n m (as ++ [(rdA T n q).2.2]) (rdA T n q).2.1 else (false, (rdA T n q).2.1, as)) = R → V sh0 w x mX0_readsAll (0, 0) 24 [(0, .ref 62), (1, .ref 60)] [] τ := by
    intro m
    induction m with
    | zero =>
      intro as q τ hm h3
      omega
    | succ m ih =>
      intro as q τ hm h3 hqn ho hk hq hC hR
      have hT2 : TxR T n τ := hT.off (lo := 62) (hi := 67) ho (by omega)
      have hl : as.length < 34 := by omega
      refine V_aload_n o dX0_readsAll_24 rfl rfl ?_
      refine V_getIE (v := nI (as.length)) o dX0_readsAll_25 rfl fl_X0_24 rfl hk ?_
      refine V_if_lt (tgt := 85) o dX0_readsAll_28 (by decide) (fun c_28 => False.elim (absurd c_28 (Int32.not_lt.mpr (nI_le (a := 0) (Nat.zero_le _) (by omega))))) (fun c_28 => ?_)
      refine V_aload_n o dX0_readsAll_31 rfl rfl ?_
      refine V_getIE (v := nI (as.length)) o dX0_readsAll_32 rfl fl_X0_24 rfl hk ?_
      refine V_bipush (v := 34) o dX0_readsAll_35 (by decide) ?_
      refine V_icmp_ge (tgt := 85) o dX0_readsAll_37 (by decide) (fun c_37 => False.elim (absurd c_37 (nI_ge (b := 34) (by omega) (by omega)))) (fun c_37 => ?_)
      refine V_aload_n o dX0_readsAll_40 rfl rfl ?_
      refine V_aload_n o dX0_readsAll_41 rfl rfl ?_
      cases hb : (rdA T n q).1
      · refine V_callV o rt dX0_readsAll_42 ml_X0_37 (c0_readsAct hf (T := T) (n := n) (by exact hT2) (k := as.length) hk (by omega) hq hqn rfl) rfl rfl rfl (Nat.le_of_ble_eq_true rfl) rfl (fun r_42 σ_42 q_42 => ?_)
        obtain ⟨hAF, -, hF⟩ := q_42
        obtain ⟨rfl, hw⟩ := hF hb
        show V sh0 w x mX0_readsAll (0, 0) _ _ (.int 0 :: []) _
        refine V_if_ne (tgt := 50) o dX0_readsAll_45 (by decide) (fun c_45 => False.elim (absurd (by decide) c_45)) (fun c_45 => ?_)
        refine V_iconst (v := 0) o dX0_readsAll_48 (by decide) ?_
        refine V_iret o rt dX0_readsAll_49 rfl (by first | rfl | exact bz_z) ?_
        rw [hb, if_neg (by decide)] at hR
        subst hR
        exact ⟨ho.tr hAF.1, fun h => (by cases h), fun _ => ⟨rfl, hw⟩⟩
      · refine V_callV o rt dX0_readsAll_42 ml_X0_37 (c0_readsAct hf (T := T) (n := n) (by exact hT2) (k := as.length) hk (by omega) hq hqn rfl) rfl rfl rfl (Nat.le_of_ble_eq_true rfl) rfl (fun r_42 σ_42 q_42 => ?_)
        obtain ⟨hAF, hS, -⟩ := q_42
        obtain ⟨rfl, s1, s2, s3, s4⟩ := hS hb
        show V sh0 w x mX0_readsAll (0, 0) _ _ (.int 1 :: []) _
        rw [hb, if_pos rfl] at hR
        have hle := rdA_le (T := T) (n := n) hqn
        have h2 := rdA_2 hb
        have hok := rdA_ok hb
        generalize rdA T n q = A at hb hR s1 s2 s3 s4 hle h2 hok
        refine V_if_ne (tgt := 50) o dX0_readsAll_45 (by decide) (fun c_45 => ?_) (fun c_45 => False.elim (absurd c_45 (by decide)))
        refine V_aload_n o dX0_readsAll_50 rfl rfl ?_
        refine V_dup o dX0_readsAll_51 rfl ?_
        refine V_getIE (v := nI (as.length)) o dX0_readsAll_52 rfl fl_X0_24 rfl (hAF.2.1.trans hk) ?_
        refine V_iconst (v := 1) o dX0_readsAll_55 (by decide) ?_
        refine V_iadd o dX0_readsAll_56 ?_
        refine V_topI (v' := nI (as.length + 1)) (nI_1 _) ?_
        refine V_putI o dX0_readsAll_57 rfl fl_X0_24 rfl rfl rfl ?_
        refine V_aload_n o dX0_readsAll_60 rfl rfl ?_
        refine V_getIE (v := nI (A.2.1)) o dX0_readsAll_61 rfl fl_X0_28 rfl (by exact s1) ?_
        refine V_aload_n o dX0_readsAll_64 rfl rfl ?_
        have hT3 : TxR T n σ_42 := hT2.off (lo := 62) (hi := 67) hAF.1 (by omega)
        refine V_getIE (v := nI (n)) o dX0_readsAll_65 rfl fl_X0_34 rfl hT3.1 ?_
        refine V_icmp_lt (tgt := 73) o dX0_readsAll_68 (by decide) (fun c_68 => ?_) (fun c_68 => ?_)
        · refine V_aload_n o dX0_readsAll_73 rfl rfl ?_
          refine V_aload_n o dX0_readsAll_74 rfl rfl ?_
          refine V_bipush (v := 59) o dX0_readsAll_75 (by decide) ?_
          by_cases h59 : tkP T n A.2.1 59
          · refine V_cVi o rt dX0_readsAll_77 ml_X0_41 (c0_sign_t hf (σ := wI σ_42 62 4 (nI (as.length + 1))) (T := T) (n := n) (by exact hT3) (q := A.2.1) (by exact s1) (by decide) h59) rfl rfl rfl (Nat.le_of_ble_eq_true rfl) rfl ?_
            refine V_if_ne (tgt := 24) o dX0_readsAll_80 (by decide) (fun c_80 => ?_) (fun c_80 => False.elim (absurd c_80 (by decide)))
            have hlt := (nI_ltI (by omega) (by omega)).mp c_68
            rw [rdL, if_neg (by omega), if_neg (fun q => q.2 h59), if_neg (show ¬ as ++ [A.2.2] = [] by simp)] at hR
            refine ih (as ++ [A.2.2]) (A.2.1 + 1) (wI (wI σ_42 62 4 (nI (as.length + 1))) 62 6 (nI (A.2.1 + 1))) (by simp; omega) (by simp; omega) (by omega) (ho.tr ((hAF.1.wI (by omega) (by omega)).wI (by omega) (by omega))) ?_ wI_at ((AcC_push hC hAF s2 s3 s4 hok).w62.w62) hR
            rw [wI_nj (by decide), wI_at]
            simp
          · refine V_cVi o rt dX0_readsAll_77 ml_X0_41 (c0_sign_f hf (σ := wI σ_42 62 4 (nI (as.length + 1))) (T := T) (n := n) (by exact hT3) (q := A.2.1) (by exact s1) (by omega) (by decide) h59) rfl rfl rfl (Nat.le_of_ble_eq_true rfl) rfl ?_
            refine V_if_ne (tgt := 24) o dX0_readsAll_80 (by decide) (fun c_80 => False.elim (absurd (by decide) c_80)) (fun c_80 => ?_)
            refine V_iconst (v := 0) o dX0_readsAll_83 (by decide) ?_
            refine V_iret o rt dX0_readsAll_84 rfl (by first | rfl | exact bz_z) ?_
            have hlt := (nI_ltI (by omega) (by omega)).mp c_68
            rw [rdL, if_neg (by omega), if_pos ⟨by simp, h59⟩] at hR
            subst hR
            exact ⟨(ho.tr (hAF.1.wI (by omega) (by omega))).wI (by omega) (by omega), fun h => (by cases h), fun _ => ⟨rfl, wI_at⟩⟩
        · refine V_iconst (v := 1) o dX0_readsAll_71 (by decide) ?_
          refine V_iret o rt dX0_readsAll_72 rfl (by first | rfl | exact bz_z) ?_
          have hge := (nI_leI (by omega) (by omega)).mp (Int32.not_lt.mp c_68)
          rw [rdL, if_pos hge] at hR
          subst hR
          exact ⟨ho.tr (hAF.1.wI (by omega) (by omega)), fun _ => ⟨rfl, by rw [wI_at, List.length_append, List.length_singleton], (AcC_push hC hAF s2 s3 s4 hok).w62, by rw [List.length_append, List.length_singleton]; omega⟩, fun h => (by cases h)⟩
  by_cases hn0 : n = 0
  · subst hn0
    have hs : (true, 0, []) = R := hR0
    subst hs
    refine V_aload_n o dX0_readsAll_0 rfl rfl ?_
    refine V_iconst (v := 0) o dX0_readsAll_1 (by decide) ?_
    refine V_putI o dX0_readsAll_2 rfl fl_X0_24 rfl rfl rfl ?_
    refine V_aload_n o dX0_readsAll_5 rfl rfl ?_
    refine V_iconst (v := 0) o dX0_readsAll_6 (by decide) ?_
    refine V_putI o dX0_readsAll_7 rfl fl_X0_28 rfl rfl rfl ?_
    refine V_aload_n o dX0_readsAll_10 rfl rfl ?_
    refine V_iconst (v := 0) o dX0_readsAll_11 (by decide) ?_
    refine V_putI o dX0_readsAll_12 rfl fl_X0_31 rfl rfl rfl ?_
    refine V_aload_n o dX0_readsAll_15 rfl rfl ?_
    refine V_getIE (v := nI (0)) o dX0_readsAll_16 rfl fl_X0_34 rfl hT.1 ?_
    refine V_if_ne (tgt := 24) o dX0_readsAll_19 (by decide) (fun c_19 => False.elim (c_19 rfl)) (fun c_19 => ?_)
    refine V_iconst (v := 1) o dX0_readsAll_22 (by decide) ?_
    refine V_iret o rt dX0_readsAll_23 rfl (by first | rfl | exact bz_z) ?_
    exact ⟨((Off.rf.wI (by omega) (by omega)).wI (by omega) (by omega)).wI (by omega) (by omega), fun _ => ⟨rfl, rfl, fun i hi => absurd hi (Nat.not_lt_zero i), Nat.zero_le _⟩, fun h => (by cases h)⟩
  · rw [rdL, if_neg (by omega), if_neg (fun q => q.1 rfl), if_pos rfl] at hR0
    refine V_aload_n o dX0_readsAll_0 rfl rfl ?_
    refine V_iconst (v := 0) o dX0_readsAll_1 (by decide) ?_
    refine V_putI o dX0_readsAll_2 rfl fl_X0_24 rfl rfl rfl ?_
    refine V_aload_n o dX0_readsAll_5 rfl rfl ?_
    refine V_iconst (v := 0) o dX0_readsAll_6 (by decide) ?_
    refine V_putI o dX0_readsAll_7 rfl fl_X0_28 rfl rfl rfl ?_
    refine V_aload_n o dX0_readsAll_10 rfl rfl ?_
    refine V_iconst (v := 0) o dX0_readsAll_11 (by decide) ?_
    refine V_putI o dX0_readsAll_12 rfl fl_X0_31 rfl rfl rfl ?_
    refine V_aload_n o dX0_readsAll_15 rfl rfl ?_
    refine V_getIE (v := nI (n)) o dX0_readsAll_16 rfl fl_X0_34 rfl hT.1 ?_
    refine V_if_ne (tgt := 24) o dX0_readsAll_19 (by decide) (fun c_19 => ?_) (fun c_19 => False.elim (absurd c_19 (nI_ne0 (by omega) (by omega))))
    exact loop 100 [] 0 _ rfl (Nat.le_refl 0) (Nat.zero_le n) (((Off.rf.wI (by omega) (by omega)).wI (by omega) (by omega)).wI (by omega) (by omega)) rfl rfl (fun i hi => absurd hi (Nat.not_lt_zero i)) hR0
