/-- what reading an act leaves -/
def AF (k : Nat) (σ σ' : Mm) : Prop := Off 62 67 σ σ' ∧ σ'.1 62 4 = σ.1 62 4 ∧ ∀ a, 63 ≤ a → a < 67 → ∀ j, j ≠ k → σ'.1 a j = σ.1 a j
theorem AF.rf {k : Nat} {σ : Mm} : AF k σ σ := ⟨Off.rf, rfl, fun _ _ _ _ _ => rfl⟩
theorem AF.tr {k : Nat} {σ τ ρ : Mm} (h : AF k σ τ) (h' : AF k τ ρ) : AF k σ ρ := ⟨h.1.tr h'.1, h'.2.1.trans h.2.1, fun a h1 h2 j hj => (h'.2.2 a h1 h2 j hj).trans (h.2.2 a h1 h2 j hj)⟩
theorem AF.w {k a j : Nat} {σ τ : Mm} {v : Int32} (h : AF k σ τ) (ha : (a = 62 ∧ j ≠ 4) ∨ (63 ≤ a ∧ a < 67 ∧ j = k)) : AF k σ (wI τ a j v) := by
  refine ⟨h.1.wI (by omega) (by omega), ?_, fun b h1 h2 i hi => ?_⟩
  · rw [← h.2.1]
    exact up2_ne _ _ (by omega)
  · rw [← h.2.2 b h1 h2 i hi]
    exact up2_ne _ _ (by omega)
theorem AF.nm {k q : Nat} {σ τ : Mm} {v : Int32} (h : AF k σ τ) : AF k σ (nmS τ v q) := (h.w (Or.inl ⟨rfl, by decide⟩)).w (Or.inl ⟨rfl, by decide⟩)
def kch (v : Int32) : Int32 := if v = 0 then 115 else if v = 1 then 116 else if v = 2 then 108 else 99
def acQ (k : Nat) (σ : Mm) (R : Bool × Nat × Act) (r' : Option Value) (σ' : Mm) : Prop := AF k σ σ' ∧ (R.1 = true → r' = some (.int 1) ∧ σ'.1 62 6 = nI R.2.1 ∧ σ'.1 63 k = kch R.2.2.1 ∧ σ'.1 64 k = R.2.2.2.1 ∧ (R.2.2.1 = 0 → σ'.1 65 k = R.2.2.2.2.1 ∧ σ'.1 66 k = R.2.2.2.2.2)) ∧ (R.1 = false → r' = some (.int 0) ∧ σ'.1 62 5 = nI R.2.1)
theorem acQ.tr {k : Nat} {σ τ ρ : Mm} {R : Bool × Nat × Act} {r' : Option Value} (h : AF k σ τ) (h' : acQ k τ R r' ρ) : acQ k σ R r' ρ := ⟨h.tr h'.1, h'.2⟩
theorem at_k {σ : Mm} {a k : Nat} {v : Int32} : (wI σ a k v).1 a k = v := wI_at
theorem pos_of {v : Int32} (h : ¬ v < 0) (h0 : ¬ v = 0) : v > 0 := Int32.lt_of_le_of_ne (Int32.not_lt.mp h) (fun q => h0 q.symm)
theorem lk4 {a : Int32} (h0 : ¬ a = 99) (h1 : ¬ a = 108) (h2 : ¬ a = 115) (h3 : ¬ a = 116) : Op.lookupswitch.offset (#[((99 : Int), (78 : Int)), (108, 72), (115, 41), (116, 47)] : Array (Int × Int)).toList 103 a.toInt = 103 := by
  have g0 := i32_toInt_ne (n := 99) h0 (by decide)
  have g1 := i32_toInt_ne (n := 108) h1 (by decide)
  have g2 := i32_toInt_ne (n := 115) h2 (by decide)
  have g3 := i32_toInt_ne (n := 116) h3 (by decide)
  simp [Op.lookupswitch.offset, g0, g1, g2, g3, Ne.symm g0, Ne.symm g1, Ne.symm g2, Ne.symm g3]
set_option maxRecDepth 20000 in
set_option maxHeartbeats 4000000 in
theorem c0_readsSet {w : Wp} (hf : Fit sh0 w) {σ : Mm} {T : Nat → Int32} {n : Nat} (hT : TxR T n σ) {k : Nat} (hk : σ.1 62 4 = nI k) (hk34 : k < 34) {q : Nat} (hq : σ.1 62 6 = nI q) (hqn : q ≤ n) (hK : σ.1 63 k = 115) {R : Bool × Nat × Act} (hR : rdS1 T n (nuR T n 4 1 9999 q) = R) : Ct sh0 w 3 mX0_readsSet [.ref 62, .ref 60] σ (acQ k σ R) := by
  have hn := hT.2.1
  obtain ⟨N1, hN1⟩ : ∃ N, nuR T n 4 1 9999 q = N := ⟨_, rfl⟩
  have b1 : N1.2 ≤ n := by rw [← hN1]; exact (nuR_le hqn).2
  rw [hN1] at hR
  obtain ⟨N2, hN2⟩ : ∃ N, nuR T n 1 0 3 (N1.2 + 1) = N := ⟨_, rfl⟩
  have b2 : tkP T n N1.2 44 → N2.2 ≤ n := fun h => by rw [← hN2]; exact (nuR_le h.1).2
  obtain ⟨N3, hN3⟩ : ∃ N, nuR T n 4 1 1000 (N2.2 + 1) = N := ⟨_, rfl⟩
  have hN3i : N3.1 = -1 ∨ inR N3.1 1 1000 := by rw [← hN3]; exact nuR_in
  refine Ct_of hf (by decide) rfl (Nat.le_of_ble_eq_true rfl) (fun x o rt => ?_)
  refine V_aload_n o dX0_readsSet_0 rfl rfl ?_
  refine V_aload_n o dX0_readsSet_1 rfl rfl ?_
  refine V_iconst (v := 4) o dX0_readsSet_2 (by decide) ?_
  refine V_iconst (v := 1) o dX0_readsSet_3 (by decide) ?_
  refine V_sipush (v := 9999) o dX0_readsSet_4 (by decide) ?_
  by_cases h1 : N1.1 < 0
  · refine V_cVi o rt dX0_readsSet_7 ml_X0_56 (c0_number_f hf (T := T) (n := n) (by exact hT) hq (by omega) (D := 4) (by omega) rfl (by decide) hN1 h1) rfl rfl rfl (Nat.le_of_ble_eq_true rfl) rfl ?_
    refine V_if_eq (tgt := 45) o dX0_readsSet_10 (by decide) (fun c_10 => ?_) (fun c_10 => False.elim (absurd (by decide) c_10))
    refine V_iconst (v := 0) o dX0_readsSet_45 (by decide) ?_
    refine V_istore_n (ls' := [(2, _), (0, _), (1, _)]) o dX0_readsSet_46 rfl (by decide) rfl ?_
    refine V_iload_n o dX0_readsSet_47 rfl rfl ?_
    refine V_if_eq (tgt := 67) o dX0_readsSet_48 (by decide) (fun c_48 => ?_) (fun c_48 => False.elim (absurd (by decide) c_48))
    refine V_iconst (v := 0) o dX0_readsSet_67 (by decide) ?_
    refine V_iret o rt dX0_readsSet_68 rfl (by first | rfl | exact bz_z) ?_
    unfold rdS1 at hR
    rw [if_pos h1] at hR
    subst hR
    exact ⟨(by repeat (first | exact AF.rf | refine AF.nm ?_ | refine AF.w ?_ (by omega))), fun h => (by cases h), fun _ => ⟨rfl, rfl⟩⟩
  · refine V_cVi o rt dX0_readsSet_7 ml_X0_56 (c0_number_t hf (T := T) (n := n) (by exact hT) hq (by omega) (D := 4) (by omega) rfl (by decide) hN1 h1) rfl rfl rfl (Nat.le_of_ble_eq_true rfl) rfl ?_
    refine V_if_eq (tgt := 45) o dX0_readsSet_10 (by decide) (fun c_10 => False.elim (absurd c_10 (by decide))) (fun c_10 => ?_)
    refine V_aload_n o dX0_readsSet_13 rfl rfl ?_
    refine V_cVi o rt dX0_readsSet_14 ml_X0_60 (c0_keeps hf (by exact hk) hk34 (v := N1.1) rfl) rfl rfl rfl (Nat.le_of_ble_eq_true rfl) rfl ?_
    refine V_if_eq (tgt := 45) o dX0_readsSet_17 (by decide) (fun c_17 => False.elim (absurd c_17 (by decide))) (fun c_17 => ?_)
    refine V_aload_n o dX0_readsSet_20 rfl rfl ?_
    refine V_aload_n o dX0_readsSet_21 rfl rfl ?_
    refine V_bipush (v := 44) o dX0_readsSet_22 (by decide) ?_
    by_cases h2 : tkP T n (N1.2) 44
    · refine V_cVi o rt dX0_readsSet_24 ml_X0_41 (c0_sign_t hf (T := T) (n := n) (by exact hT) rfl (by decide) h2) rfl rfl rfl (Nat.le_of_ble_eq_true rfl) rfl ?_
      refine V_if_eq (tgt := 45) o dX0_readsSet_27 (by decide) (fun c_27 => False.elim (absurd c_27 (by decide))) (fun c_27 => ?_)
      refine V_aload_n o dX0_readsSet_30 rfl rfl ?_
      refine V_aload_n o dX0_readsSet_31 rfl rfl ?_
      refine V_iconst (v := 1) o dX0_readsSet_32 (by decide) ?_
      refine V_iconst (v := 0) o dX0_readsSet_33 (by decide) ?_
      refine V_iconst (v := 3) o dX0_readsSet_34 (by decide) ?_
      by_cases h3 : N2.1 < 0
      · refine V_cVi o rt dX0_readsSet_35 ml_X0_56 (c0_number_f hf (T := T) (n := n) (by exact hT) rfl (by have := h2.1; omega) (D := 1) (by omega) rfl (by decide) hN2 h3) rfl rfl rfl (Nat.le_of_ble_eq_true rfl) rfl ?_
        refine V_if_eq (tgt := 45) o dX0_readsSet_38 (by decide) (fun c_38 => ?_) (fun c_38 => False.elim (absurd (by decide) c_38))
        refine V_iconst (v := 0) o dX0_readsSet_45 (by decide) ?_
        refine V_istore_n (ls' := [(2, _), (0, _), (1, _)]) o dX0_readsSet_46 rfl (by decide) rfl ?_
        refine V_iload_n o dX0_readsSet_47 rfl rfl ?_
        refine V_if_eq (tgt := 67) o dX0_readsSet_48 (by decide) (fun c_48 => ?_) (fun c_48 => False.elim (absurd (by decide) c_48))
        refine V_iconst (v := 0) o dX0_readsSet_67 (by decide) ?_
        refine V_iret o rt dX0_readsSet_68 rfl (by first | rfl | exact bz_z) ?_
        unfold rdS1 at hR
        rw [if_neg h1] at hR
        rw [if_pos h2, hN2] at hR
        unfold rdS2 at hR
        rw [if_neg (fun q => absurd h3 (Int32.not_lt.mpr (Int32.le_of_lt q)))] at hR
        subst hR
        exact ⟨(by repeat (first | exact AF.rf | refine AF.nm ?_ | refine AF.w ?_ (by omega))), fun q => absurd (of_decide_eq_true q) (fun q => absurd h3 (by show ¬ N2.1 < 0; rw [q]; decide)), fun _ => ⟨rfl, rfl⟩⟩
      · refine V_cVi o rt dX0_readsSet_35 ml_X0_56 (c0_number_t hf (T := T) (n := n) (by exact hT) rfl (by have := h2.1; omega) (D := 1) (by omega) rfl (by decide) hN2 h3) rfl rfl rfl (Nat.le_of_ble_eq_true rfl) rfl ?_
        refine V_if_eq (tgt := 45) o dX0_readsSet_38 (by decide) (fun c_38 => False.elim (absurd c_38 (by decide))) (fun c_38 => ?_)
        refine V_iconst (v := 1) o dX0_readsSet_41 (by decide) ?_
        refine V_goto (tgt := 46) o dX0_readsSet_42 (by decide) ?_
        refine V_istore_n (ls' := [(2, _), (0, _), (1, _)]) o dX0_readsSet_46 rfl (by decide) rfl ?_
        refine V_iload_n o dX0_readsSet_47 rfl rfl ?_
        refine V_if_eq (tgt := 67) o dX0_readsSet_48 (by decide) (fun c_48 => False.elim (absurd c_48 (by decide))) (fun c_48 => ?_)
        refine V_aload_n o dX0_readsSet_51 rfl rfl ?_
        refine V_getIE (v := nI (k)) o dX0_readsSet_52 rfl fl_X0_24 rfl (by exact hk) ?_
        refine V_if_lt (tgt := 67) o dX0_readsSet_55 (by decide) (fun c_55 => False.elim (absurd c_55 (Int32.not_lt.mpr (nI_le (a := 0) (Nat.zero_le _) (by omega))))) (fun c_55 => ?_)
        refine V_aload_n o dX0_readsSet_58 rfl rfl ?_
        refine V_getIE (v := nI (k)) o dX0_readsSet_59 rfl fl_X0_24 rfl (by exact hk) ?_
        refine V_bipush (v := 34) o dX0_readsSet_62 (by decide) ?_
        refine V_icmp_lt (tgt := 69) o dX0_readsSet_64 (by decide) (fun c_64 => ?_) (fun c_64 => False.elim (c_64 (nI_lt (b := 34) (by omega) (by omega))))
        refine V_aload_n o dX0_readsSet_69 rfl rfl ?_
        refine V_getR (t := 65) o dX0_readsSet_70 rfl fl_X0_18 rfl ?_
        refine V_aload_n o dX0_readsSet_73 rfl rfl ?_
        refine V_getIE (v := nI (k)) o dX0_readsSet_74 rfl fl_X0_24 rfl (by exact hk) ?_
        refine V_aload_n o dX0_readsSet_77 rfl rfl ?_
        refine V_getI o dX0_readsSet_78 rfl fl_X0_67 rfl ?_
        refine V_topI (v' := N2.1) rfl ?_
        refine V_iastN 34 o dX0_readsSet_81 rfl rfl rfl (by omega) rfl ?_
        refine V_aload_n o dX0_readsSet_82 rfl rfl ?_
        refine V_getR (t := 66) o dX0_readsSet_83 rfl fl_X0_21 rfl ?_
        refine V_aload_n o dX0_readsSet_86 rfl rfl ?_
        refine V_getIE (v := nI (k)) o dX0_readsSet_87 rfl fl_X0_24 rfl (by exact hk) ?_
        refine V_iconst (v := 1) o dX0_readsSet_90 (by decide) ?_
        refine V_iastN 34 o dX0_readsSet_91 rfl rfl rfl (by omega) rfl ?_
        refine V_aload_n o dX0_readsSet_92 rfl rfl ?_
        refine V_getI o dX0_readsSet_93 rfl fl_X0_67 rfl ?_
        refine V_topI (v' := N2.1) rfl ?_
        refine V_if_ne (tgt := 101) o dX0_readsSet_96 (by decide) (fun c_96 => ?_) (fun c_96 => ?_)
        · refine V_aload_n o dX0_readsSet_101 rfl rfl ?_
          refine V_aload_n o dX0_readsSet_102 rfl rfl ?_
          refine V_bipush (v := 44) o dX0_readsSet_103 (by decide) ?_
          have b2' := b2 h2
          by_cases h4 : tkP T n (N2.2) 44
          · refine V_cVi o rt dX0_readsSet_105 ml_X0_41 (c0_sign_t hf (T := T) (n := n) (by exact hT) rfl (by decide) h4) rfl rfl rfl (Nat.le_of_ble_eq_true rfl) rfl ?_
            refine V_if_eq (tgt := 124) o dX0_readsSet_108 (by decide) (fun c_108 => False.elim (absurd c_108 (by decide))) (fun c_108 => ?_)
            refine V_aload_n o dX0_readsSet_111 rfl rfl ?_
            refine V_aload_n o dX0_readsSet_112 rfl rfl ?_
            refine V_iconst (v := 4) o dX0_readsSet_113 (by decide) ?_
            refine V_iconst (v := 1) o dX0_readsSet_114 (by decide) ?_
            refine V_sipush (v := 1000) o dX0_readsSet_115 (by decide) ?_
            by_cases h5 : N3.1 < 0
            · refine V_cVi o rt dX0_readsSet_118 ml_X0_56 (c0_number_f hf (T := T) (n := n) (by exact hT) rfl (by have := h4.1; omega) (D := 4) (by omega) rfl (by decide) hN3 h5) rfl rfl rfl (Nat.le_of_ble_eq_true rfl) rfl ?_
              refine V_if_ne (tgt := 126) o dX0_readsSet_121 (by decide) (fun c_121 => False.elim (absurd (by decide) c_121)) (fun c_121 => ?_)
              refine V_iconst (v := 0) o dX0_readsSet_124 (by decide) ?_
              refine V_iret o rt dX0_readsSet_125 rfl (by first | rfl | exact bz_z) ?_
              unfold rdS1 at hR
              rw [if_neg h1] at hR
              rw [if_pos h2, hN2] at hR
              unfold rdS2 at hR
              rw [if_pos (pos_of h3 c_96)] at hR
              unfold rdS3 at hR
              rw [if_pos h4, hN3] at hR
              subst hR
              exact ⟨(by repeat (first | exact AF.rf | refine AF.nm ?_ | refine AF.w ?_ (by omega))), fun q => absurd (of_decide_eq_true q) (fun q => absurd h5 (Int32.not_lt.mpr (Int32.le_of_lt q))), fun _ => ⟨rfl, rfl⟩⟩
            · refine V_cVi o rt dX0_readsSet_118 ml_X0_56 (c0_number_t hf (T := T) (n := n) (by exact hT) rfl (by have := h4.1; omega) (D := 4) (by omega) rfl (by decide) hN3 h5) rfl rfl rfl (Nat.le_of_ble_eq_true rfl) rfl ?_
              refine V_if_ne (tgt := 126) o dX0_readsSet_121 (by decide) (fun c_121 => ?_) (fun c_121 => False.elim (absurd c_121 (by decide)))
              refine V_aload_n o dX0_readsSet_126 rfl rfl ?_
              refine V_getR (t := 66) o dX0_readsSet_127 rfl fl_X0_21 rfl ?_
              refine V_aload_n o dX0_readsSet_130 rfl rfl ?_
              refine V_getIE (v := nI (k)) o dX0_readsSet_131 rfl fl_X0_24 rfl (by exact hk) ?_
              refine V_aload_n o dX0_readsSet_134 rfl rfl ?_
              refine V_getI o dX0_readsSet_135 rfl fl_X0_67 rfl ?_
              refine V_topI (v' := N3.1) rfl ?_
              refine V_iastN 34 o dX0_readsSet_138 rfl rfl rfl (by omega) rfl ?_
              refine V_iconst (v := 1) o dX0_readsSet_139 (by decide) ?_
              refine V_iret o rt dX0_readsSet_140 rfl (by first | rfl | exact bz_z) ?_
              unfold rdS1 at hR
              rw [if_neg h1] at hR
              rw [if_pos h2, hN2] at hR
              unfold rdS2 at hR
              rw [if_pos (pos_of h3 c_96)] at hR
              unfold rdS3 at hR
              rw [if_pos h4, hN3] at hR
              subst hR
              have hp3 : N3.1 > 0 := by
                have := n1_gt hN3i (fun e => h5 (by rw [e]; decide))
                exact Int32.lt_of_lt_of_le (by decide) this.1
              exact ⟨(by repeat (first | exact AF.rf | refine AF.nm ?_ | refine AF.w ?_ (by omega))), fun _ => ⟨rfl, rfl, hK, at_k, fun _ => ⟨at_k, at_k⟩⟩, fun q => absurd hp3 (of_decide_eq_false q)⟩
          · refine V_cVi o rt dX0_readsSet_105 ml_X0_41 (c0_sign_f hf (T := T) (n := n) (by exact hT) rfl (by omega) (by decide) h4) rfl rfl rfl (Nat.le_of_ble_eq_true rfl) rfl ?_
            refine V_if_eq (tgt := 124) o dX0_readsSet_108 (by decide) (fun c_108 => ?_) (fun c_108 => False.elim (absurd (by decide) c_108))
            refine V_iconst (v := 0) o dX0_readsSet_124 (by decide) ?_
            refine V_iret o rt dX0_readsSet_125 rfl (by first | rfl | exact bz_z) ?_
            unfold rdS1 at hR
            rw [if_neg h1] at hR
            rw [if_pos h2, hN2] at hR
            unfold rdS2 at hR
            rw [if_pos (pos_of h3 c_96)] at hR
            unfold rdS3 at hR
            rw [if_neg h4] at hR
            subst hR
            exact ⟨(by repeat (first | exact AF.rf | refine AF.nm ?_ | refine AF.w ?_ (by omega))), fun h => (by cases h), fun _ => ⟨rfl, rfl⟩⟩
        · refine V_iconst (v := 1) o dX0_readsSet_99 (by decide) ?_
          refine V_iret o rt dX0_readsSet_100 rfl (by first | rfl | exact bz_z) ?_
          unfold rdS1 at hR
          rw [if_neg h1] at hR
          rw [if_pos h2, hN2] at hR
          unfold rdS2 at hR
          rw [if_neg (by rw [c_96]; decide)] at hR
          subst hR
          exact ⟨(by repeat (first | exact AF.rf | refine AF.nm ?_ | refine AF.w ?_ (by omega))), fun _ => ⟨rfl, rfl, hK, at_k, fun _ => ⟨at_k, at_k⟩⟩, fun q => absurd (of_decide_eq_false q) (fun h => h c_96)⟩
    · refine V_cVi o rt dX0_readsSet_24 ml_X0_41 (c0_sign_f hf (T := T) (n := n) (by exact hT) rfl (by omega) (by decide) h2) rfl rfl rfl (Nat.le_of_ble_eq_true rfl) rfl ?_
      refine V_if_eq (tgt := 45) o dX0_readsSet_27 (by decide) (fun c_27 => ?_) (fun c_27 => False.elim (absurd (by decide) c_27))
      refine V_iconst (v := 0) o dX0_readsSet_45 (by decide) ?_
      refine V_istore_n (ls' := [(2, _), (0, _), (1, _)]) o dX0_readsSet_46 rfl (by decide) rfl ?_
      refine V_iload_n o dX0_readsSet_47 rfl rfl ?_
      refine V_if_eq (tgt := 67) o dX0_readsSet_48 (by decide) (fun c_48 => ?_) (fun c_48 => False.elim (absurd (by decide) c_48))
      refine V_iconst (v := 0) o dX0_readsSet_67 (by decide) ?_
      refine V_iret o rt dX0_readsSet_68 rfl (by first | rfl | exact bz_z) ?_
      unfold rdS1 at hR
      rw [if_neg h1] at hR
      rw [if_neg h2] at hR
      subst hR
      exact ⟨(by repeat (first | exact AF.rf | refine AF.nm ?_ | refine AF.w ?_ (by omega))), fun h => (by cases h), fun _ => ⟨rfl, rfl⟩⟩
set_option maxRecDepth 20000 in
set_option maxHeartbeats 4000000 in
theorem c0_readsLeap {w : Wp} (hf : Fit sh0 w) {σ : Mm} {T : Nat → Int32} {n : Nat} (hT : TxR T n σ) {k : Nat} (hk : σ.1 62 4 = nI k) (hk34 : k < 34) {q : Nat} (hq : σ.1 62 6 = nI q) (hqn : q ≤ n) (hK : σ.1 63 k = 108) {R : Bool × Nat × Act} (hR : rdL1 (tkP T n q 45) (nuR T n 4 1 9999 (tkN T n q 45)) = R) : Ct sh0 w 3 mX0_readsLeap [.ref 62, .ref 60] σ (acQ k σ R) := by
  have hn := hT.2.1
  obtain ⟨N, hN⟩ : ∃ N, nuR T n 4 1 9999 (tkN T n q 45) = N := ⟨_, rfl⟩
  have hNi : N.1 = -1 ∨ inR N.1 1 9999 := by rw [← hN]; exact nuR_in
  rw [hN] at hR
  refine Ct_of hf (by decide) rfl (Nat.le_of_ble_eq_true rfl) (fun x o rt => ?_)
  refine V_aload_n o dX0_readsLeap_0 rfl rfl ?_
  refine V_aload_n o dX0_readsLeap_1 rfl rfl ?_
  refine V_getIE (v := nI (q)) o dX0_readsLeap_2 rfl fl_X0_28 rfl hq ?_
  refine V_cVi o rt dX0_readsLeap_5 ml_X0_49 (c5_at hf (T := T) (n := n) (by exact hT) (p := q) (by omega)) rfl rfl rfl (Nat.le_of_ble_eq_true rfl) rfl ?_
  refine V_bipush (v := 45) o dX0_readsLeap_8 (by decide) ?_
  refine V_icmp_ne (tgt := 17) o dX0_readsLeap_10 (by decide) (fun c_10 => ?_) (fun c_10 => ?_)
  · have ht := fun q => c_10 ((sg_iff (by decide)).mpr q)
    rw [tkN_f ht] at hN
    refine V_iconst (v := 0) o dX0_readsLeap_17 (by decide) ?_
    refine V_istore_n (ls' := [(2, _), (0, _), (1, _)]) o dX0_readsLeap_18 rfl (by decide) rfl ?_
    refine V_iload_n o dX0_readsLeap_19 rfl rfl ?_
    refine V_if_eq (tgt := 33) o dX0_readsLeap_20 (by decide) (fun c_20 => ?_) (fun c_20 => False.elim (absurd (by decide) c_20))
    refine V_aload_n o dX0_readsLeap_33 rfl rfl ?_
    refine V_aload_n o dX0_readsLeap_34 rfl rfl ?_
    refine V_iconst (v := 4) o dX0_readsLeap_35 (by decide) ?_
    refine V_iconst (v := 1) o dX0_readsLeap_36 (by decide) ?_
    refine V_sipush (v := 9999) o dX0_readsLeap_37 (by decide) ?_
    by_cases h1 : N.1 < 0
    · refine V_cVi o rt dX0_readsLeap_40 ml_X0_56 (c0_number_f hf (T := T) (n := n) (by exact hT) (by first | rfl | exact hq) (by first | (have := ht.1; omega) | omega) (D := 4) (by omega) rfl (by decide) hN h1) rfl rfl rfl (Nat.le_of_ble_eq_true rfl) rfl ?_
      refine V_if_ne (tgt := 48) o dX0_readsLeap_43 (by decide) (fun c_43 => False.elim (absurd (by decide) c_43)) (fun c_43 => ?_)
      refine V_iconst (v := 0) o dX0_readsLeap_46 (by decide) ?_
      refine V_iret o rt dX0_readsLeap_47 rfl rfl ?_
      subst hR
      exact ⟨(by repeat (first | exact AF.rf | refine AF.nm ?_ | refine AF.w ?_ (by omega))), fun q => absurd (of_decide_eq_true q) (fun q => absurd h1 (Int32.not_lt.mpr (Int32.le_of_lt q))), fun _ => ⟨rfl, rfl⟩⟩
    · refine V_cVi o rt dX0_readsLeap_40 ml_X0_56 (c0_number_t hf (T := T) (n := n) (by exact hT) (by first | rfl | exact hq) (by first | (have := ht.1; omega) | omega) (D := 4) (by omega) rfl (by decide) hN h1) rfl rfl rfl (Nat.le_of_ble_eq_true rfl) rfl ?_
      refine V_if_ne (tgt := 48) o dX0_readsLeap_43 (by decide) (fun c_43 => ?_) (fun c_43 => False.elim (absurd c_43 (by decide)))
      refine V_aload_n o dX0_readsLeap_48 rfl rfl ?_
      refine V_iload_n o dX0_readsLeap_49 rfl rfl ?_
      refine V_if_eq (tgt := 61) o dX0_readsLeap_50 (by decide) (fun c_50 => ?_) (fun c_50 => False.elim (absurd (by decide) c_50))
      refine V_aload_n o dX0_readsLeap_61 rfl rfl ?_
      refine V_getI o dX0_readsLeap_62 rfl fl_X0_67 rfl ?_
      refine V_topI (v' := N.1) rfl ?_
      refine V_putI o dX0_readsLeap_65 rfl fl_X0_67 rfl rfl rfl ?_
      refine V_aload_n o dX0_readsLeap_68 rfl rfl ?_
      refine V_cVi o rt dX0_readsLeap_69 ml_X0_60 (c0_keeps hf (by exact hk) hk34 (v := N.1) rfl) rfl rfl rfl (Nat.le_of_ble_eq_true rfl) rfl ?_
      refine V_iret o rt dX0_readsLeap_72 rfl rfl ?_
      subst hR
      have hp3 : N.1 > 0 := by
        have := n1_gt hNi (fun e => h1 (by rw [e]; decide))
        exact Int32.lt_of_lt_of_le (by decide) this.1
      exact ⟨(by repeat (first | exact AF.rf | refine AF.nm ?_ | refine AF.w ?_ (by omega))), fun _ => ⟨rfl, rfl, hK, at_k.trans (if_neg ht).symm, fun h => absurd (show (2 : Int32) = 0 from h) (by decide)⟩, fun q => absurd hp3 (of_decide_eq_false q)⟩
  · have ht := (sg_iff (by decide)).mp c_10
    rw [tkN_t ht] at hN
    refine V_iconst (v := 1) o dX0_readsLeap_13 (by decide) ?_
    refine V_goto (tgt := 18) o dX0_readsLeap_14 (by decide) ?_
    refine V_istore_n (ls' := [(2, _), (0, _), (1, _)]) o dX0_readsLeap_18 rfl (by decide) rfl ?_
    refine V_iload_n o dX0_readsLeap_19 rfl rfl ?_
    refine V_if_eq (tgt := 33) o dX0_readsLeap_20 (by decide) (fun c_20 => False.elim (absurd c_20 (by decide))) (fun c_20 => ?_)
    refine V_aload_n o dX0_readsLeap_23 rfl rfl ?_
    refine V_dup o dX0_readsLeap_24 rfl ?_
    refine V_getIE (v := nI (q)) o dX0_readsLeap_25 rfl fl_X0_28 rfl hq ?_
    refine V_iconst (v := 1) o dX0_readsLeap_28 (by decide) ?_
    refine V_iadd o dX0_readsLeap_29 ?_
    refine V_topI (v' := nI (q + 1)) (nI_1 q) ?_
    refine V_putI o dX0_readsLeap_30 rfl fl_X0_28 rfl rfl rfl ?_
    refine V_aload_n o dX0_readsLeap_33 rfl rfl ?_
    refine V_aload_n o dX0_readsLeap_34 rfl rfl ?_
    refine V_iconst (v := 4) o dX0_readsLeap_35 (by decide) ?_
    refine V_iconst (v := 1) o dX0_readsLeap_36 (by decide) ?_
    refine V_sipush (v := 9999) o dX0_readsLeap_37 (by decide) ?_
    by_cases h1 : N.1 < 0
    · refine V_cVi o rt dX0_readsLeap_40 ml_X0_56 (c0_number_f hf (T := T) (n := n) (by exact hT) (by first | rfl | exact hq) (by first | (have := ht.1; omega) | omega) (D := 4) (by omega) rfl (by decide) hN h1) rfl rfl rfl (Nat.le_of_ble_eq_true rfl) rfl ?_
      refine V_if_ne (tgt := 48) o dX0_readsLeap_43 (by decide) (fun c_43 => False.elim (absurd (by decide) c_43)) (fun c_43 => ?_)
      refine V_iconst (v := 0) o dX0_readsLeap_46 (by decide) ?_
      refine V_iret o rt dX0_readsLeap_47 rfl rfl ?_
      subst hR
      exact ⟨(by repeat (first | exact AF.rf | refine AF.nm ?_ | refine AF.w ?_ (by omega))), fun q => absurd (of_decide_eq_true q) (fun q => absurd h1 (Int32.not_lt.mpr (Int32.le_of_lt q))), fun _ => ⟨rfl, rfl⟩⟩
    · refine V_cVi o rt dX0_readsLeap_40 ml_X0_56 (c0_number_t hf (T := T) (n := n) (by exact hT) (by first | rfl | exact hq) (by first | (have := ht.1; omega) | omega) (D := 4) (by omega) rfl (by decide) hN h1) rfl rfl rfl (Nat.le_of_ble_eq_true rfl) rfl ?_
      refine V_if_ne (tgt := 48) o dX0_readsLeap_43 (by decide) (fun c_43 => ?_) (fun c_43 => False.elim (absurd c_43 (by decide)))
      refine V_aload_n o dX0_readsLeap_48 rfl rfl ?_
      refine V_iload_n o dX0_readsLeap_49 rfl rfl ?_
      refine V_if_eq (tgt := 61) o dX0_readsLeap_50 (by decide) (fun c_50 => False.elim (absurd c_50 (by decide))) (fun c_50 => ?_)
      refine V_aload_n o dX0_readsLeap_53 rfl rfl ?_
      refine V_getI o dX0_readsLeap_54 rfl fl_X0_67 rfl ?_
      refine V_topI (v' := N.1) rfl ?_
      refine V_ineg o dX0_readsLeap_57 ?_
      refine V_goto (tgt := 65) o dX0_readsLeap_58 (by decide) ?_
      refine V_topI (v' := -N.1) rfl ?_
      refine V_putI o dX0_readsLeap_65 rfl fl_X0_67 rfl rfl rfl ?_
      refine V_aload_n o dX0_readsLeap_68 rfl rfl ?_
      refine V_cVi o rt dX0_readsLeap_69 ml_X0_60 (c0_keeps hf (by exact hk) hk34 (v := -N.1) rfl) rfl rfl rfl (Nat.le_of_ble_eq_true rfl) rfl ?_
      refine V_iret o rt dX0_readsLeap_72 rfl rfl ?_
      subst hR
      have hp3 : N.1 > 0 := by
        have := n1_gt hNi (fun e => h1 (by rw [e]; decide))
        exact Int32.lt_of_lt_of_le (by decide) this.1
      exact ⟨(by repeat (first | exact AF.rf | refine AF.nm ?_ | refine AF.w ?_ (by omega))), fun _ => ⟨rfl, rfl, hK, at_k.trans (if_pos ht).symm, fun h => absurd (show (2 : Int32) = 0 from h) (by decide)⟩, fun q => absurd hp3 (of_decide_eq_false q)⟩
set_option maxRecDepth 20000 in
set_option maxHeartbeats 4000000 in
theorem c0_act_s {w : Wp} (hf : Fit sh0 w) {σ : Mm} {T : Nat → Int32} {n : Nat} (hT : TxR T n σ) {k : Nat} (hk : σ.1 62 4 = nI k) (hk34 : k < 34) {q : Nat} (hq : σ.1 62 6 = nI q) (hqn : q ≤ n) (hc : tkP T n q 115) {R : Bool × Nat × Act} (hR : rdS1 T n (nuR T n 4 1 9999 (q + 1)) = R) : Ct sh0 w 4 mX0_readsAct [.ref 62, .ref 60] σ (acQ k σ R) := by
  have hn := hT.2.1
  refine Ct_of hf (by decide) rfl (Nat.le_of_ble_eq_true rfl) (fun x o rt => ?_)
  refine V_aload_n o dX0_readsAct_0 rfl rfl ?_
  refine V_aload_n o dX0_readsAct_1 rfl rfl ?_
  refine V_getIE (v := nI (q)) o dX0_readsAct_2 rfl fl_X0_28 rfl hq ?_
  refine V_cVi o rt dX0_readsAct_5 ml_X0_49 (c5_at hf (T := T) (n := n) (by exact hT) (p := q) (by omega)) rfl rfl rfl (Nat.le_of_ble_eq_true rfl) rfl ?_
  refine V_topI (v' := 115) (((sg_iff (by decide)).mpr hc)) ?_
  refine V_istore_n (ls' := [(2, _), (0, _), (1, _)]) o dX0_readsAct_8 rfl (by decide) rfl ?_
  refine V_aload_n o dX0_readsAct_9 rfl rfl ?_
  refine V_getIE (v := nI (k)) o dX0_readsAct_10 rfl fl_X0_24 rfl (by exact hk) ?_
  refine V_if_lt (tgt := 25) o dX0_readsAct_13 (by decide) (fun c_13 => False.elim (absurd c_13 (Int32.not_lt.mpr (nI_le (a := 0) (Nat.zero_le _) (by omega))))) (fun c_13 => ?_)
  refine V_aload_n o dX0_readsAct_16 rfl rfl ?_
  refine V_getIE (v := nI (k)) o dX0_readsAct_17 rfl fl_X0_24 rfl (by exact hk) ?_
  refine V_bipush (v := 34) o dX0_readsAct_20 (by decide) ?_
  refine V_icmp_lt (tgt := 34) o dX0_readsAct_22 (by decide) (fun c_22 => ?_) (fun c_22 => False.elim (c_22 (nI_lt (b := 34) (by omega) (by omega))))
  refine V_aload_n o dX0_readsAct_34 rfl rfl ?_
  refine V_getR (t := 63) o dX0_readsAct_35 rfl fl_X0_9 rfl ?_
  refine V_aload_n o dX0_readsAct_38 rfl rfl ?_
  refine V_getIE (v := nI (k)) o dX0_readsAct_39 rfl fl_X0_24 rfl (by exact hk) ?_
  refine V_iload_n o dX0_readsAct_42 rfl rfl ?_
  refine V_iastN 34 o dX0_readsAct_43 rfl rfl rfl (by omega) rfl ?_
  refine V_aload_n o dX0_readsAct_44 rfl rfl ?_
  refine V_dup o dX0_readsAct_45 rfl ?_
  refine V_getIE (v := nI (q)) o dX0_readsAct_46 rfl fl_X0_28 rfl (by exact hq) ?_
  refine V_iconst (v := 1) o dX0_readsAct_49 (by decide) ?_
  refine V_iadd o dX0_readsAct_50 ?_
  refine V_topI (v' := nI (q + 1)) (nI_1 q) ?_
  refine V_putI o dX0_readsAct_51 rfl fl_X0_28 rfl rfl rfl ?_
  refine V_iload_n o dX0_readsAct_54 rfl rfl ?_
  refine V_lookup (off := 41) (tgt := 96) o dX0_readsAct_55 (by decide) (by decide) (by decide) ?_
  refine V_aload_n o dX0_readsAct_96 rfl rfl ?_
  refine V_aload_n o dX0_readsAct_97 rfl rfl ?_
  refine V_callV o rt dX0_readsAct_98 ml_X0_53 (c0_readsSet hf (σ := wI (wI σ 63 k 115) 62 6 (nI (q + 1))) (T := T) (n := n) (by exact hT) (k := k) (by exact hk) hk34 (q := q + 1) rfl hc.1 (by exact (at_k (σ := σ) (a := 63) (k := k) (v := 115))) hR) rfl rfl rfl (Nat.le_of_ble_eq_true rfl) rfl (fun r_98 σ_98 q_98 => ?_)
  have hz : ∀ (b : Bool), R.1 = b → ∃ v, r_98 = some (.int v) ∧ (v = 0 ∨ v = 1) := fun b hb => by
    cases b
    · exact ⟨0, (q_98.2.2 hb).1, Or.inl rfl⟩
    · exact ⟨1, (q_98.2.1 hb).1, Or.inr rfl⟩
  obtain ⟨v, rfl, hv⟩ := hz R.1 rfl
  have hz : narrow .boolean (.int v) = .int v := by rcases hv with rfl | rfl <;> rfl
  show V sh0 w x mX0_readsAct (0, 0) _ _ (.int v :: []) _
  refine V_iret o rt dX0_readsAct_101 rfl hz ?_
  exact acQ.tr (by repeat (first | exact AF.rf | refine AF.nm ?_ | refine AF.w ?_ (by omega))) q_98
set_option maxRecDepth 20000 in
set_option maxHeartbeats 4000000 in
theorem c0_act_l {w : Wp} (hf : Fit sh0 w) {σ : Mm} {T : Nat → Int32} {n : Nat} (hT : TxR T n σ) {k : Nat} (hk : σ.1 62 4 = nI k) (hk34 : k < 34) {q : Nat} (hq : σ.1 62 6 = nI q) (hqn : q ≤ n) (hc : tkP T n q 108) {R : Bool × Nat × Act} (hR : rdL1 (tkP T n (q + 1) 45) (nuR T n 4 1 9999 (tkN T n (q + 1) 45)) = R) : Ct sh0 w 4 mX0_readsAct [.ref 62, .ref 60] σ (acQ k σ R) := by
  have hn := hT.2.1
  refine Ct_of hf (by decide) rfl (Nat.le_of_ble_eq_true rfl) (fun x o rt => ?_)
  refine V_aload_n o dX0_readsAct_0 rfl rfl ?_
  refine V_aload_n o dX0_readsAct_1 rfl rfl ?_
  refine V_getIE (v := nI (q)) o dX0_readsAct_2 rfl fl_X0_28 rfl hq ?_
  refine V_cVi o rt dX0_readsAct_5 ml_X0_49 (c5_at hf (T := T) (n := n) (by exact hT) (p := q) (by omega)) rfl rfl rfl (Nat.le_of_ble_eq_true rfl) rfl ?_
  refine V_topI (v' := 108) (((sg_iff (by decide)).mpr hc)) ?_
  refine V_istore_n (ls' := [(2, _), (0, _), (1, _)]) o dX0_readsAct_8 rfl (by decide) rfl ?_
  refine V_aload_n o dX0_readsAct_9 rfl rfl ?_
  refine V_getIE (v := nI (k)) o dX0_readsAct_10 rfl fl_X0_24 rfl (by exact hk) ?_
  refine V_if_lt (tgt := 25) o dX0_readsAct_13 (by decide) (fun c_13 => False.elim (absurd c_13 (Int32.not_lt.mpr (nI_le (a := 0) (Nat.zero_le _) (by omega))))) (fun c_13 => ?_)
  refine V_aload_n o dX0_readsAct_16 rfl rfl ?_
  refine V_getIE (v := nI (k)) o dX0_readsAct_17 rfl fl_X0_24 rfl (by exact hk) ?_
  refine V_bipush (v := 34) o dX0_readsAct_20 (by decide) ?_
  refine V_icmp_lt (tgt := 34) o dX0_readsAct_22 (by decide) (fun c_22 => ?_) (fun c_22 => False.elim (c_22 (nI_lt (b := 34) (by omega) (by omega))))
  refine V_aload_n o dX0_readsAct_34 rfl rfl ?_
  refine V_getR (t := 63) o dX0_readsAct_35 rfl fl_X0_9 rfl ?_
  refine V_aload_n o dX0_readsAct_38 rfl rfl ?_
  refine V_getIE (v := nI (k)) o dX0_readsAct_39 rfl fl_X0_24 rfl (by exact hk) ?_
  refine V_iload_n o dX0_readsAct_42 rfl rfl ?_
  refine V_iastN 34 o dX0_readsAct_43 rfl rfl rfl (by omega) rfl ?_
  refine V_aload_n o dX0_readsAct_44 rfl rfl ?_
  refine V_dup o dX0_readsAct_45 rfl ?_
  refine V_getIE (v := nI (q)) o dX0_readsAct_46 rfl fl_X0_28 rfl (by exact hq) ?_
  refine V_iconst (v := 1) o dX0_readsAct_49 (by decide) ?_
  refine V_iadd o dX0_readsAct_50 ?_
  refine V_topI (v' := nI (q + 1)) (nI_1 q) ?_
  refine V_putI o dX0_readsAct_51 rfl fl_X0_28 rfl rfl rfl ?_
  refine V_iload_n o dX0_readsAct_54 rfl rfl ?_
  refine V_lookup (off := 72) (tgt := 127) o dX0_readsAct_55 (by decide) (by decide) (by decide) ?_
  refine V_aload_n o dX0_readsAct_127 rfl rfl ?_
  refine V_aload_n o dX0_readsAct_128 rfl rfl ?_
  refine V_callV o rt dX0_readsAct_129 ml_X0_64 (c0_readsLeap hf (σ := wI (wI σ 63 k 108) 62 6 (nI (q + 1))) (T := T) (n := n) (by exact hT) (k := k) (by exact hk) hk34 (q := q + 1) rfl hc.1 (by exact (at_k (σ := σ) (a := 63) (k := k) (v := 108))) hR) rfl rfl rfl (Nat.le_of_ble_eq_true rfl) rfl (fun r_129 σ_129 q_129 => ?_)
  have hz : ∀ (b : Bool), R.1 = b → ∃ v, r_129 = some (.int v) ∧ (v = 0 ∨ v = 1) := fun b hb => by
    cases b
    · exact ⟨0, (q_129.2.2 hb).1, Or.inl rfl⟩
    · exact ⟨1, (q_129.2.1 hb).1, Or.inr rfl⟩
  obtain ⟨v, rfl, hv⟩ := hz R.1 rfl
  have hz : narrow .boolean (.int v) = .int v := by rcases hv with rfl | rfl <;> rfl
  show V sh0 w x mX0_readsAct (0, 0) _ _ (.int v :: []) _
  refine V_iret o rt dX0_readsAct_132 rfl hz ?_
  exact acQ.tr (by repeat (first | exact AF.rf | refine AF.nm ?_ | refine AF.w ?_ (by omega))) q_129
set_option maxRecDepth 20000 in
set_option maxHeartbeats 4000000 in
theorem c0_act_t {w : Wp} (hf : Fit sh0 w) {σ : Mm} {T : Nat → Int32} {n : Nat} (hT : TxR T n σ) {k : Nat} (hk : σ.1 62 4 = nI k) (hk34 : k < 34) {q : Nat} (hq : σ.1 62 6 = nI q) (hqn : q ≤ n) (hc : tkP T n q 116) {R : Bool × Nat × Act} (hR : rdT (nuR T n 1 1 9 (q + 1)) = R) : Ct sh0 w 4 mX0_readsAct [.ref 62, .ref 60] σ (acQ k σ R) := by
  have hn := hT.2.1
  obtain ⟨N, hN⟩ : ∃ N, nuR T n 1 1 9 (q + 1) = N := ⟨_, rfl⟩
  have hNi : N.1 = -1 ∨ inR N.1 1 9 := by rw [← hN]; exact nuR_in
  rw [hN] at hR
  refine Ct_of hf (by decide) rfl (Nat.le_of_ble_eq_true rfl) (fun x o rt => ?_)
  refine V_aload_n o dX0_readsAct_0 rfl rfl ?_
  refine V_aload_n o dX0_readsAct_1 rfl rfl ?_
  refine V_getIE (v := nI (q)) o dX0_readsAct_2 rfl fl_X0_28 rfl hq ?_
  refine V_cVi o rt dX0_readsAct_5 ml_X0_49 (c5_at hf (T := T) (n := n) (by exact hT) (p := q) (by omega)) rfl rfl rfl (Nat.le_of_ble_eq_true rfl) rfl ?_
  refine V_topI (v' := 116) (((sg_iff (by decide)).mpr hc)) ?_
  refine V_istore_n (ls' := [(2, _), (0, _), (1, _)]) o dX0_readsAct_8 rfl (by decide) rfl ?_
  refine V_aload_n o dX0_readsAct_9 rfl rfl ?_
  refine V_getIE (v := nI (k)) o dX0_readsAct_10 rfl fl_X0_24 rfl (by exact hk) ?_
  refine V_if_lt (tgt := 25) o dX0_readsAct_13 (by decide) (fun c_13 => False.elim (absurd c_13 (Int32.not_lt.mpr (nI_le (a := 0) (Nat.zero_le _) (by omega))))) (fun c_13 => ?_)
  refine V_aload_n o dX0_readsAct_16 rfl rfl ?_
  refine V_getIE (v := nI (k)) o dX0_readsAct_17 rfl fl_X0_24 rfl (by exact hk) ?_
  refine V_bipush (v := 34) o dX0_readsAct_20 (by decide) ?_
  refine V_icmp_lt (tgt := 34) o dX0_readsAct_22 (by decide) (fun c_22 => ?_) (fun c_22 => False.elim (c_22 (nI_lt (b := 34) (by omega) (by omega))))
  refine V_aload_n o dX0_readsAct_34 rfl rfl ?_
  refine V_getR (t := 63) o dX0_readsAct_35 rfl fl_X0_9 rfl ?_
  refine V_aload_n o dX0_readsAct_38 rfl rfl ?_
  refine V_getIE (v := nI (k)) o dX0_readsAct_39 rfl fl_X0_24 rfl (by exact hk) ?_
  refine V_iload_n o dX0_readsAct_42 rfl rfl ?_
  refine V_iastN 34 o dX0_readsAct_43 rfl rfl rfl (by omega) rfl ?_
  refine V_aload_n o dX0_readsAct_44 rfl rfl ?_
  refine V_dup o dX0_readsAct_45 rfl ?_
  refine V_getIE (v := nI (q)) o dX0_readsAct_46 rfl fl_X0_28 rfl (by exact hq) ?_
  refine V_iconst (v := 1) o dX0_readsAct_49 (by decide) ?_
  refine V_iadd o dX0_readsAct_50 ?_
  refine V_topI (v' := nI (q + 1)) (nI_1 q) ?_
  refine V_putI o dX0_readsAct_51 rfl fl_X0_28 rfl rfl rfl ?_
  refine V_iload_n o dX0_readsAct_54 rfl rfl ?_
  refine V_lookup (off := 47) (tgt := 102) o dX0_readsAct_55 (by decide) (by decide) (by decide) ?_
  refine V_aload_n o dX0_readsAct_102 rfl rfl ?_
  refine V_aload_n o dX0_readsAct_103 rfl rfl ?_
  refine V_iconst (v := 1) o dX0_readsAct_104 (by decide) ?_
  refine V_iconst (v := 1) o dX0_readsAct_105 (by decide) ?_
  refine V_bipush (v := 9) o dX0_readsAct_106 (by decide) ?_
  by_cases h1 : N.1 < 0
  · refine V_cVi o rt dX0_readsAct_108 ml_X0_56 (c0_number_f hf (T := T) (n := n) (by exact hT) rfl (by have := hc.1; omega) (D := 1) (by omega) rfl (by decide) hN h1) rfl rfl rfl (Nat.le_of_ble_eq_true rfl) rfl ?_
    refine V_if_eq (tgt := 125) o dX0_readsAct_111 (by decide) (fun c_111 => ?_) (fun c_111 => False.elim (absurd (by decide) c_111))
    refine V_iconst (v := 0) o dX0_readsAct_125 (by decide) ?_
    refine V_iret o rt dX0_readsAct_126 rfl (by first | rfl | exact bz_z) ?_
    subst hR
    exact ⟨(by repeat (first | exact AF.rf | refine AF.nm ?_ | refine AF.w ?_ (by omega))), fun q => absurd (of_decide_eq_true q) (fun q => absurd h1 (Int32.not_lt.mpr (Int32.le_of_lt q))), fun _ => ⟨rfl, rfl⟩⟩
  · refine V_cVi o rt dX0_readsAct_108 ml_X0_56 (c0_number_t hf (T := T) (n := n) (by exact hT) rfl (by have := hc.1; omega) (D := 1) (by omega) rfl (by decide) hN h1) rfl rfl rfl (Nat.le_of_ble_eq_true rfl) rfl ?_
    refine V_if_eq (tgt := 125) o dX0_readsAct_111 (by decide) (fun c_111 => False.elim (absurd c_111 (by decide))) (fun c_111 => ?_)
    refine V_aload_n o dX0_readsAct_114 rfl rfl ?_
    refine V_cVi o rt dX0_readsAct_115 ml_X0_60 (c0_keeps hf (by exact hk) hk34 (v := N.1) rfl) rfl rfl rfl (Nat.le_of_ble_eq_true rfl) rfl ?_
    refine V_if_eq (tgt := 125) o dX0_readsAct_118 (by decide) (fun c_118 => False.elim (absurd c_118 (by decide))) (fun c_118 => ?_)
    refine V_iconst (v := 1) o dX0_readsAct_121 (by decide) ?_
    refine V_goto (tgt := 126) o dX0_readsAct_122 (by decide) ?_
    refine V_iret o rt dX0_readsAct_126 rfl (by first | rfl | exact bz_z) ?_
    subst hR
    have hp3 : N.1 > 0 := by
      have := n1_gt hNi (fun e => h1 (by rw [e]; decide))
      exact Int32.lt_of_lt_of_le (by decide) this.1
    exact ⟨(by repeat (first | exact AF.rf | refine AF.nm ?_ | refine AF.w ?_ (by omega))), fun _ => ⟨rfl, rfl, at_k, at_k, fun h => absurd (show (1 : Int32) = 0 from h) (by decide)⟩, fun q => absurd hp3 (of_decide_eq_false q)⟩
set_option maxRecDepth 20000 in
set_option maxHeartbeats 4000000 in
theorem c0_act_c {w : Wp} (hf : Fit sh0 w) {σ : Mm} {T : Nat → Int32} {n : Nat} (hT : TxR T n σ) {k : Nat} (hk : σ.1 62 4 = nI k) (hk34 : k < 34) {q : Nat} (hq : σ.1 62 6 = nI q) (hqn : q ≤ n) (hc : tkP T n q 99) {R : Bool × Nat × Act} (hR : rdC (nuR T n 2 0 99 (q + 1)) = R) : Ct sh0 w 4 mX0_readsAct [.ref 62, .ref 60] σ (acQ k σ R) := by
  have hn := hT.2.1
  obtain ⟨N, hN⟩ : ∃ N, nuR T n 2 0 99 (q + 1) = N := ⟨_, rfl⟩
  have hNi : N.1 = -1 ∨ inR N.1 0 99 := by rw [← hN]; exact nuR_in
  rw [hN] at hR
  refine Ct_of hf (by decide) rfl (Nat.le_of_ble_eq_true rfl) (fun x o rt => ?_)
  refine V_aload_n o dX0_readsAct_0 rfl rfl ?_
  refine V_aload_n o dX0_readsAct_1 rfl rfl ?_
  refine V_getIE (v := nI (q)) o dX0_readsAct_2 rfl fl_X0_28 rfl hq ?_
  refine V_cVi o rt dX0_readsAct_5 ml_X0_49 (c5_at hf (T := T) (n := n) (by exact hT) (p := q) (by omega)) rfl rfl rfl (Nat.le_of_ble_eq_true rfl) rfl ?_
  refine V_topI (v' := 99) (((sg_iff (by decide)).mpr hc)) ?_
  refine V_istore_n (ls' := [(2, _), (0, _), (1, _)]) o dX0_readsAct_8 rfl (by decide) rfl ?_
  refine V_aload_n o dX0_readsAct_9 rfl rfl ?_
  refine V_getIE (v := nI (k)) o dX0_readsAct_10 rfl fl_X0_24 rfl (by exact hk) ?_
  refine V_if_lt (tgt := 25) o dX0_readsAct_13 (by decide) (fun c_13 => False.elim (absurd c_13 (Int32.not_lt.mpr (nI_le (a := 0) (Nat.zero_le _) (by omega))))) (fun c_13 => ?_)
  refine V_aload_n o dX0_readsAct_16 rfl rfl ?_
  refine V_getIE (v := nI (k)) o dX0_readsAct_17 rfl fl_X0_24 rfl (by exact hk) ?_
  refine V_bipush (v := 34) o dX0_readsAct_20 (by decide) ?_
  refine V_icmp_lt (tgt := 34) o dX0_readsAct_22 (by decide) (fun c_22 => ?_) (fun c_22 => False.elim (c_22 (nI_lt (b := 34) (by omega) (by omega))))
  refine V_aload_n o dX0_readsAct_34 rfl rfl ?_
  refine V_getR (t := 63) o dX0_readsAct_35 rfl fl_X0_9 rfl ?_
  refine V_aload_n o dX0_readsAct_38 rfl rfl ?_
  refine V_getIE (v := nI (k)) o dX0_readsAct_39 rfl fl_X0_24 rfl (by exact hk) ?_
  refine V_iload_n o dX0_readsAct_42 rfl rfl ?_
  refine V_iastN 34 o dX0_readsAct_43 rfl rfl rfl (by omega) rfl ?_
  refine V_aload_n o dX0_readsAct_44 rfl rfl ?_
  refine V_dup o dX0_readsAct_45 rfl ?_
  refine V_getIE (v := nI (q)) o dX0_readsAct_46 rfl fl_X0_28 rfl (by exact hq) ?_
  refine V_iconst (v := 1) o dX0_readsAct_49 (by decide) ?_
  refine V_iadd o dX0_readsAct_50 ?_
  refine V_topI (v' := nI (q + 1)) (nI_1 q) ?_
  refine V_putI o dX0_readsAct_51 rfl fl_X0_28 rfl rfl rfl ?_
  refine V_iload_n o dX0_readsAct_54 rfl rfl ?_
  refine V_lookup (off := 78) (tgt := 133) o dX0_readsAct_55 (by decide) (by decide) (by decide) ?_
  refine V_aload_n o dX0_readsAct_133 rfl rfl ?_
  refine V_aload_n o dX0_readsAct_134 rfl rfl ?_
  refine V_iconst (v := 2) o dX0_readsAct_135 (by decide) ?_
  refine V_iconst (v := 0) o dX0_readsAct_136 (by decide) ?_
  refine V_bipush (v := 99) o dX0_readsAct_137 (by decide) ?_
  by_cases h1 : N.1 < 0
  · refine V_cVi o rt dX0_readsAct_139 ml_X0_56 (c0_number_f hf (T := T) (n := n) (by exact hT) rfl (by have := hc.1; omega) (D := 2) (by omega) rfl (by decide) hN h1) rfl rfl rfl (Nat.le_of_ble_eq_true rfl) rfl ?_
    refine V_if_eq (tgt := 156) o dX0_readsAct_142 (by decide) (fun c_142 => ?_) (fun c_142 => False.elim (absurd (by decide) c_142))
    refine V_iconst (v := 0) o dX0_readsAct_156 (by decide) ?_
    refine V_iret o rt dX0_readsAct_157 rfl (by first | rfl | exact bz_z) ?_
    subst hR
    exact ⟨(by repeat (first | exact AF.rf | refine AF.nm ?_ | refine AF.w ?_ (by omega))), fun q => absurd (of_decide_eq_true q) (fun q => absurd h1 (Int32.not_lt.mpr q)), fun _ => ⟨rfl, rfl⟩⟩
  · refine V_cVi o rt dX0_readsAct_139 ml_X0_56 (c0_number_t hf (T := T) (n := n) (by exact hT) rfl (by have := hc.1; omega) (D := 2) (by omega) rfl (by decide) hN h1) rfl rfl rfl (Nat.le_of_ble_eq_true rfl) rfl ?_
    refine V_if_eq (tgt := 156) o dX0_readsAct_142 (by decide) (fun c_142 => False.elim (absurd c_142 (by decide))) (fun c_142 => ?_)
    refine V_aload_n o dX0_readsAct_145 rfl rfl ?_
    refine V_cVi o rt dX0_readsAct_146 ml_X0_60 (c0_keeps hf (by exact hk) hk34 (v := N.1) rfl) rfl rfl rfl (Nat.le_of_ble_eq_true rfl) rfl ?_
    refine V_if_eq (tgt := 156) o dX0_readsAct_149 (by decide) (fun c_149 => False.elim (absurd c_149 (by decide))) (fun c_149 => ?_)
    refine V_iconst (v := 1) o dX0_readsAct_152 (by decide) ?_
    refine V_goto (tgt := 157) o dX0_readsAct_153 (by decide) ?_
    refine V_iret o rt dX0_readsAct_157 rfl (by first | rfl | exact bz_z) ?_
    subst hR
    exact ⟨(by repeat (first | exact AF.rf | refine AF.nm ?_ | refine AF.w ?_ (by omega))), fun _ => ⟨rfl, rfl, at_k, at_k, fun h => absurd (show (3 : Int32) = 0 from h) (by decide)⟩, fun q => absurd (Int32.not_lt.mp h1) (of_decide_eq_false q)⟩
set_option maxRecDepth 20000 in
set_option maxHeartbeats 4000000 in
theorem c0_act_0 {w : Wp} (hf : Fit sh0 w) {σ : Mm} {T : Nat → Int32} {n : Nat} (hT : TxR T n σ) {k : Nat} (hk : σ.1 62 4 = nI k) (hk34 : k < 34) {q : Nat} (hq : σ.1 62 6 = nI q) (hqn : q ≤ n) (h1 : ¬ tkP T n q 115) (h2 : ¬ tkP T n q 116) (h3 : ¬ tkP T n q 108) (h4 : ¬ tkP T n q 99) {R : Bool × Nat × Act} (hR : (false, q, 0, 0, 0, 0) = R) : Ct sh0 w 4 mX0_readsAct [.ref 62, .ref 60] σ (acQ k σ R) := by
  have hn := hT.2.1
  have g0 := fun e => h4 ((sg_iff (by decide)).mp e)
  have g1 := fun e => h3 ((sg_iff (by decide)).mp e)
  have g2 := fun e => h1 ((sg_iff (by decide)).mp e)
  have g3 := fun e => h2 ((sg_iff (by decide)).mp e)
  refine Ct_of hf (by decide) rfl (Nat.le_of_ble_eq_true rfl) (fun x o rt => ?_)
  refine V_aload_n o dX0_readsAct_0 rfl rfl ?_
  refine V_aload_n o dX0_readsAct_1 rfl rfl ?_
  refine V_getIE (v := nI (q)) o dX0_readsAct_2 rfl fl_X0_28 rfl hq ?_
  refine V_cVi o rt dX0_readsAct_5 ml_X0_49 (c5_at hf (T := T) (n := n) (by exact hT) (p := q) (by omega)) rfl rfl rfl (Nat.le_of_ble_eq_true rfl) rfl ?_
  refine V_istore_n (ls' := [(2, _), (0, _), (1, _)]) o dX0_readsAct_8 rfl (by decide) rfl ?_
  refine V_aload_n o dX0_readsAct_9 rfl rfl ?_
  refine V_getIE (v := nI (k)) o dX0_readsAct_10 rfl fl_X0_24 rfl (by exact hk) ?_
  refine V_if_lt (tgt := 25) o dX0_readsAct_13 (by decide) (fun c_13 => False.elim (absurd c_13 (Int32.not_lt.mpr (nI_le (a := 0) (Nat.zero_le _) (by omega))))) (fun c_13 => ?_)
  refine V_aload_n o dX0_readsAct_16 rfl rfl ?_
  refine V_getIE (v := nI (k)) o dX0_readsAct_17 rfl fl_X0_24 rfl (by exact hk) ?_
  refine V_bipush (v := 34) o dX0_readsAct_20 (by decide) ?_
  refine V_icmp_lt (tgt := 34) o dX0_readsAct_22 (by decide) (fun c_22 => ?_) (fun c_22 => False.elim (c_22 (nI_lt (b := 34) (by omega) (by omega))))
  refine V_aload_n o dX0_readsAct_34 rfl rfl ?_
  refine V_getR (t := 63) o dX0_readsAct_35 rfl fl_X0_9 rfl ?_
  refine V_aload_n o dX0_readsAct_38 rfl rfl ?_
  refine V_getIE (v := nI (k)) o dX0_readsAct_39 rfl fl_X0_24 rfl (by exact hk) ?_
  refine V_iload_n o dX0_readsAct_42 rfl rfl ?_
  refine V_iastN 34 o dX0_readsAct_43 rfl rfl rfl (by omega) rfl ?_
  refine V_aload_n o dX0_readsAct_44 rfl rfl ?_
  refine V_dup o dX0_readsAct_45 rfl ?_
  refine V_getIE (v := nI (q)) o dX0_readsAct_46 rfl fl_X0_28 rfl (by exact hq) ?_
  refine V_iconst (v := 1) o dX0_readsAct_49 (by decide) ?_
  refine V_iadd o dX0_readsAct_50 ?_
  refine V_topI (v' := nI (q + 1)) (nI_1 q) ?_
  refine V_putI o dX0_readsAct_51 rfl fl_X0_28 rfl rfl rfl ?_
  refine V_iload_n o dX0_readsAct_54 rfl rfl ?_
  refine V_lookup (off := 103) (tgt := 158) o dX0_readsAct_55 (by decide) (lk4 g0 g1 g2 g3) (by decide) ?_
  refine V_aload_n o dX0_readsAct_158 rfl rfl ?_
  refine V_aload_n o dX0_readsAct_159 rfl rfl ?_
  refine V_getIE (v := nI (q + 1)) o dX0_readsAct_160 rfl fl_X0_28 rfl rfl ?_
  refine V_iconst (v := 1) o dX0_readsAct_163 (by decide) ?_
  refine V_isub o dX0_readsAct_164 ?_
  refine V_topI (v' := nI (q)) (nI_pred q) ?_
  refine V_cVi o rt dX0_readsAct_165 ml_X0_45 (c0_fails hf) rfl rfl rfl (Nat.le_of_ble_eq_true rfl) rfl ?_
  refine V_iret o rt dX0_readsAct_168 rfl (by first | rfl | exact bz_z) ?_
  subst hR
  exact ⟨(by repeat (first | exact AF.rf | refine AF.nm ?_ | refine AF.w ?_ (by omega))), fun h => (by cases h), fun _ => ⟨rfl, rfl⟩⟩
theorem c0_readsAct {w : Wp} (hf : Fit sh0 w) {σ : Mm} {T : Nat → Int32} {n : Nat} (hT : TxR T n σ) {k : Nat} (hk : σ.1 62 4 = nI k) (hk34 : k < 34) {q : Nat} (hq : σ.1 62 6 = nI q) (hqn : q ≤ n) {R : Bool × Nat × Act} (hR : rdA T n q = R) : Ct sh0 w 4 mX0_readsAct [.ref 62, .ref 60] σ (acQ k σ R) := by
  unfold rdA at hR
  by_cases h1 : tkP T n q 115
  · rw [if_pos h1] at hR
    exact c0_act_s hf hT hk hk34 hq hqn h1 hR
  · rw [if_neg h1] at hR
    by_cases h2 : tkP T n q 116
    · rw [if_pos h2] at hR
      exact c0_act_t hf hT hk hk34 hq hqn h2 hR
    · rw [if_neg h2] at hR
      by_cases h3 : tkP T n q 108
      · rw [if_pos h3] at hR
        exact c0_act_l hf hT hk hk34 hq hqn h3 hR
      · rw [if_neg h3] at hR
        by_cases h4 : tkP T n q 99
        · rw [if_pos h4] at hR
          exact c0_act_c hf hT hk hk34 hq hqn h4 hR
        · rw [if_neg h4] at hR
          exact c0_act_0 hf hT hk hk34 hq hqn h1 h2 h3 h4 hR
