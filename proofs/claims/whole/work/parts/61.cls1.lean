set_option maxRecDepth 20000 in
set_option maxHeartbeats 4000000 in
theorem c8_isWithin {w : Wp} (hf : Fit sh0 w) {σ : Mm} {v lo hi : Int32} : Cf sh0 w 0 mX8_isWithin [.int v, .int lo, .int hi] σ (some (.int (bz (inR v lo hi)))) σ := by
  refine Ct_of hf (by decide) rfl (Nat.le_of_ble_eq_true rfl) (fun x o rt => ?_)
  refine V_iload_n o dX8_isWithin_0 rfl rfl ?_
  refine V_iload_n o dX8_isWithin_1 rfl rfl ?_
  refine V_icmp_lt (tgt := 14) o dX8_isWithin_2 (by decide) (fun c_2 => ?_) (fun c_2 => ?_)
  · refine V_iconst (v := 0) o dX8_isWithin_14 (by decide) ?_
    refine V_iret o rt dX8_isWithin_15 rfl rfl ?_
    exact ⟨by rw [bz_f (fun q => absurd c_2 (Int32.not_lt.mpr q.1))], rfl⟩
  · refine V_iload_n o dX8_isWithin_5 rfl rfl ?_
    refine V_iload_n o dX8_isWithin_6 rfl rfl ?_
    refine V_icmp_gt (tgt := 14) o dX8_isWithin_7 (by decide) (fun c_7 => ?_) (fun c_7 => ?_)
    · refine V_iconst (v := 0) o dX8_isWithin_14 (by decide) ?_
      refine V_iret o rt dX8_isWithin_15 rfl rfl ?_
      exact ⟨by rw [bz_f (fun q => absurd c_7 (Int32.not_lt.mpr q.2))], rfl⟩
    · refine V_iconst (v := 1) o dX8_isWithin_10 (by decide) ?_
      refine V_goto (tgt := 15) o dX8_isWithin_11 (by decide) ?_
      refine V_iret o rt dX8_isWithin_15 rfl rfl ?_
      exact ⟨by rw [bz_t ⟨Int32.not_lt.mp c_2, Int32.not_lt.mp c_7⟩], rfl⟩
set_option maxRecDepth 20000 in
set_option maxHeartbeats 4000000 in
theorem c8_isGroup {w : Wp} (hf : Fit sh0 w) {σ : Mm} {v : Int32} : Cf sh0 w 1 mX8_isGroup [.int v] σ (some (.int (bz (inR v 0 7)))) σ := by
  refine Ct_of hf (by decide) rfl (Nat.le_of_ble_eq_true rfl) (fun x o rt => ?_)
  refine V_iload_n o dX8_isGroup_0 rfl rfl ?_
  refine V_iconst (v := 0) o dX8_isGroup_1 (by decide) ?_
  refine V_bipush (v := 7) o dX8_isGroup_2 (by decide) ?_
  refine V_cSi o rt dX8_isGroup_4 ms_X8_79 (c8_isWithin hf) rfl rfl (Nat.le_of_ble_eq_true rfl) rfl ?_
  refine V_iret o rt dX8_isGroup_7 rfl (by first | rfl | exact bz_z) ?_
  exact ⟨rfl, rfl⟩
set_option maxRecDepth 20000 in
set_option maxHeartbeats 4000000 in
theorem c8_isMultiple {w : Wp} (hf : Fit sh0 w) {σ : Mm} {v : Int32} {s : Nat} (h1 : 1 ≤ s) (h2 : s < 2147483648) : Cf sh0 w 0 mX8_isMultiple [.int v, .int (nI s)] σ (some (.int (bz (rmI v (nI s) = 0)))) σ := by
  have hs0 : ¬ nI s = 0 := nI_ne0 (by omega) (by omega)
  refine Ct_of hf (by decide) rfl (Nat.le_of_ble_eq_true rfl) (fun x o rt => ?_)
  refine V_iload_n o dX8_isMultiple_0 rfl rfl ?_
  refine V_if_le (tgt := 14) o dX8_isMultiple_1 (by decide) (fun c_1 => False.elim (absurd c_1 (nI_ge (a := 0) (by omega) (by omega)))) (fun c_1 => ?_)
  refine V_iload_n o dX8_isMultiple_4 rfl rfl ?_
  refine V_iload_n o dX8_isMultiple_5 rfl rfl ?_
  refine V_irem o dX8_isMultiple_6 hs0 ?_
  refine V_if_ne (tgt := 14) o dX8_isMultiple_7 (by decide) (fun c_7 => ?_) (fun c_7 => ?_)
  · refine V_iconst (v := 0) o dX8_isMultiple_14 (by decide) ?_
    refine V_iret o rt dX8_isMultiple_15 rfl rfl ?_
    exact ⟨by rw [rmI, bz_f c_7], rfl⟩
  · refine V_iconst (v := 1) o dX8_isMultiple_10 (by decide) ?_
    refine V_goto (tgt := 15) o dX8_isMultiple_11 (by decide) ?_
    refine V_iret o rt dX8_isMultiple_15 rfl rfl ?_
    exact ⟨by rw [rmI, bz_t c_7], rfl⟩
set_option maxRecDepth 20000 in
set_option maxHeartbeats 4000000 in
theorem c8_numberOf_n {w : Wp} (hf : Fit sh0 w) {σ : Mm} : Cf sh0 w 0 mX8_numberOf [.null] σ (some (.int (-1))) σ := by
  refine Ct_of hf (by decide) rfl (Nat.le_of_ble_eq_true rfl) (fun x o rt => ?_)
  refine V_aload_nN o dX8_numberOf_0 rfl rfl ?_
  refine V_ifnonnull_n o dX8_numberOf_1 ?_
  refine V_iconst (v := -1) o dX8_numberOf_4 (by decide) ?_
  refine V_goto (tgt := 12) o dX8_numberOf_5 (by decide) ?_
  refine V_iret o rt dX8_numberOf_12 rfl rfl ?_
  exact ⟨rfl, rfl⟩
set_option maxRecDepth 20000 in
set_option maxHeartbeats 4000000 in
theorem c8_numberOf_9 {w : Wp} (hf : Fit sh0 w) {σ : Mm} {t : Nat} (ht : t < 16) (h0 : σ.1 (9 + t) 0 = nI t) : Cf sh0 w 0 mX8_numberOf [.ref (9 + t)] σ (some (.int (nI t))) σ := by
  refine Ct_of hf (by decide) rfl (Nat.le_of_ble_eq_true rfl) (fun x o rt => ?_)
  refine V_aload_n o dX8_numberOf_0 rfl rfl ?_
  refine V_ifnonnull_r (tgt := 8) o dX8_numberOf_1 (by decide) ?_
  refine V_aload_n o dX8_numberOf_8 rfl rfl ?_
  refine V_getIE (v := nI (t)) o dX8_numberOf_9 (kT9 t ht) fl_X8_151 (rT9 ht) h0 ?_
  refine V_iret o rt dX8_numberOf_12 rfl rfl ?_
  exact ⟨rfl, rfl⟩
set_option maxRecDepth 20000 in
set_option maxHeartbeats 4000000 in
theorem c8_numberOf_32 {w : Wp} (hf : Fit sh0 w) {σ : Mm} {t : Nat} (ht : t < 16) (h0 : σ.1 (32 + t) 0 = nI t) : Cf sh0 w 0 mX8_numberOf [.ref (32 + t)] σ (some (.int (nI t))) σ := by
  refine Ct_of hf (by decide) rfl (Nat.le_of_ble_eq_true rfl) (fun x o rt => ?_)
  refine V_aload_n o dX8_numberOf_0 rfl rfl ?_
  refine V_ifnonnull_r (tgt := 8) o dX8_numberOf_1 (by decide) ?_
  refine V_aload_n o dX8_numberOf_8 rfl rfl ?_
  refine V_getIE (v := nI (t)) o dX8_numberOf_9 (kT32 t ht) fl_X8_151 (rT32 ht) h0 ?_
  refine V_iret o rt dX8_numberOf_12 rfl rfl ?_
  exact ⟨rfl, rfl⟩
set_option maxRecDepth 20000 in
set_option maxHeartbeats 4000000 in
theorem c4_isSize {w : Wp} (hf : Fit sh0 w) {σ : Mm} {v : Int32} : Cf sh0 w 1 mX4_isSize [.int v] σ (some (.int (bz (inR v 2 16)))) σ := by
  refine Ct_of hf (by decide) rfl (Nat.le_of_ble_eq_true rfl) (fun x o rt => ?_)
  refine V_iload_n o dX4_isSize_0 rfl rfl ?_
  refine V_iconst (v := 2) o dX4_isSize_1 (by decide) ?_
  refine V_bipush (v := 16) o dX4_isSize_2 (by decide) ?_
  refine V_cSNi o rt dX4_isSize_4 ms_X4_25 (c8_isWithin hf) rfl rfl (Nat.le_of_ble_eq_true rfl) rfl ?_
  refine V_iret o rt dX4_isSize_7 rfl (by first | rfl | exact bz_z) ?_
  exact ⟨rfl, rfl⟩
set_option maxRecDepth 20000 in
set_option maxHeartbeats 4000000 in
theorem c4_isSizeOrNone {w : Wp} (hf : Fit sh0 w) {σ : Mm} {v : Int32} : Cf sh0 w 2 mX4_isSizeOrNone [.int v] σ (some (.int (bz (v = 0 ∨ inR v 2 16)))) σ := by
  refine Ct_of hf (by decide) rfl (Nat.le_of_ble_eq_true rfl) (fun x o rt => ?_)
  refine V_iload_n o dX4_isSizeOrNone_0 rfl rfl ?_
  refine V_if_eq (tgt := 11) o dX4_isSizeOrNone_1 (by decide) (fun c_1 => ?_) (fun c_1 => ?_)
  · refine V_iconst (v := 1) o dX4_isSizeOrNone_11 (by decide) ?_
    refine V_goto (tgt := 16) o dX4_isSizeOrNone_12 (by decide) ?_
    refine V_iret o rt dX4_isSizeOrNone_16 rfl rfl ?_
    exact ⟨by rw [bz_t (Or.inl c_1)], rfl⟩
  · refine V_iload_n o dX4_isSizeOrNone_4 rfl rfl ?_
    refine V_cSi o rt dX4_isSizeOrNone_5 ms_X4_18 (c4_isSize hf) rfl rfl (Nat.le_of_ble_eq_true rfl) rfl ?_
    refine V_if_eq (tgt := 15) o dX4_isSizeOrNone_8 (by decide) (fun c_8 => ?_) (fun c_8 => ?_)
    · refine V_iconst (v := 0) o dX4_isSizeOrNone_15 (by decide) ?_
      refine V_iret o rt dX4_isSizeOrNone_16 rfl rfl ?_
      exact ⟨by rw [bz_f (fun q => q.elim c_1 (bz_0.mp c_8))], rfl⟩
    · refine V_iconst (v := 1) o dX4_isSizeOrNone_11 (by decide) ?_
      refine V_goto (tgt := 16) o dX4_isSizeOrNone_12 (by decide) ?_
      refine V_iret o rt dX4_isSizeOrNone_16 rfl rfl ?_
      exact ⟨by rw [bz_t (Or.inr (bz_n0.mp c_8))], rfl⟩
abbrev posC (a b c e : Int32) : Prop := (inR a 2 16 ∧ (b = 0 ∨ inR b 2 16) ∧ (c = 0 ∨ inR c 2 16) ∧ (e = 0 ∨ inR e 2 16)) ∧ (b ≠ 0 ∨ c = 0) ∧ (c ≠ 0 ∨ e = 0)
set_option maxRecDepth 20000 in
set_option maxHeartbeats 4000000 in
theorem c4_isPossible {w : Wp} (hf : Fit sh0 w) {σ : Mm} {a b c e : Int32} : Cf sh0 w 3 mX4_isPossible [.int a, .int b, .int c, .int e] σ (some (.int (bz (posC a b c e)))) σ := by
  refine Ct_of hf (by decide) rfl (Nat.le_of_ble_eq_true rfl) (fun x o rt => ?_)
  have t3 : ∀ (x4 x5 : Int32), V sh0 w x mX4_isPossible (0, 0) 58 [(5, .int x5), (4, .int x4), (0, .int a), (1, .int b), (2, .int c), (3, .int e)] [] σ ∨ True := fun _ _ => Or.inr trivial
  have t2 : ∀ (P : Prop) [Decidable P], (P ↔ (inR a 2 16 ∧ (b = 0 ∨ inR b 2 16) ∧ (c = 0 ∨ inR c 2 16) ∧ (e = 0 ∨ inR e 2 16))) → ∀ x4, x4 = bz P → V sh0 w x mX4_isPossible (0, 0) 35 [(4, .int x4), (0, .int a), (1, .int b), (2, .int c), (3, .int e)] [] σ := by
    intro P _ hP x4 hx
    subst hx
    refine V_iload_n o dX4_isPossible_35 rfl rfl ?_
    refine V_if_ne (tgt := 43) o dX4_isPossible_36 (by decide) (fun c_36 => ?_) (fun c_36 => ?_)
    · refine V_iload_n o dX4_isPossible_43 rfl rfl ?_
      refine V_if_ne (tgt := 51) o dX4_isPossible_44 (by decide) (fun c_44 => ?_) (fun c_44 => ?_)
      · refine V_iconst (v := 1) o dX4_isPossible_51 (by decide) ?_
        refine V_goto (tgt := 56) o dX4_isPossible_52 (by decide) ?_
        refine V_istore (ls' := [(5, _), (4, _), (0, _), (1, _), (2, _), (3, _)]) o dX4_isPossible_56 (by decide) rfl ?_
        refine V_iload o dX4_isPossible_58 rfl ?_
        refine V_if_eq (tgt := 72) o dX4_isPossible_60 (by decide) (fun c_60 => ?_) (fun c_60 => ?_)
        · refine V_iconst (v := 0) o dX4_isPossible_72 (by decide) ?_
          refine V_iret o rt dX4_isPossible_73 rfl rfl ?_
          refine ⟨?_, rfl⟩
          unfold bz at *
          simp_all [posC]
        · refine V_iload o dX4_isPossible_63 rfl ?_
          refine V_if_eq (tgt := 72) o dX4_isPossible_65 (by decide) (fun c_65 => ?_) (fun c_65 => ?_)
          · refine V_iconst (v := 0) o dX4_isPossible_72 (by decide) ?_
            refine V_iret o rt dX4_isPossible_73 rfl rfl ?_
            refine ⟨?_, rfl⟩
            unfold bz at *
            simp_all [posC]
          · refine V_iconst (v := 1) o dX4_isPossible_68 (by decide) ?_
            refine V_goto (tgt := 73) o dX4_isPossible_69 (by decide) ?_
            refine V_iret o rt dX4_isPossible_73 rfl rfl ?_
            refine ⟨?_, rfl⟩
            unfold bz at *
            simp_all [posC]
      · refine V_iload_n o dX4_isPossible_47 rfl rfl ?_
        refine V_if_ne (tgt := 55) o dX4_isPossible_48 (by decide) (fun c_48 => ?_) (fun c_48 => ?_)
        · refine V_iconst (v := 0) o dX4_isPossible_55 (by decide) ?_
          refine V_istore (ls' := [(5, _), (4, _), (0, _), (1, _), (2, _), (3, _)]) o dX4_isPossible_56 (by decide) rfl ?_
          refine V_iload o dX4_isPossible_58 rfl ?_
          refine V_if_eq (tgt := 72) o dX4_isPossible_60 (by decide) (fun c_60 => ?_) (fun c_60 => ?_)
          · refine V_iconst (v := 0) o dX4_isPossible_72 (by decide) ?_
            refine V_iret o rt dX4_isPossible_73 rfl rfl ?_
            refine ⟨?_, rfl⟩
            unfold bz at *
            simp_all [posC]
          · refine V_iload o dX4_isPossible_63 rfl ?_
            refine V_if_eq (tgt := 72) o dX4_isPossible_65 (by decide) (fun c_65 => ?_) (fun c_65 => ?_)
            · refine V_iconst (v := 0) o dX4_isPossible_72 (by decide) ?_
              refine V_iret o rt dX4_isPossible_73 rfl rfl ?_
              refine ⟨?_, rfl⟩
              unfold bz at *
              simp_all [posC]
            · refine V_iconst (v := 1) o dX4_isPossible_68 (by decide) ?_
              refine V_goto (tgt := 73) o dX4_isPossible_69 (by decide) ?_
              refine V_iret o rt dX4_isPossible_73 rfl rfl ?_
              refine ⟨?_, rfl⟩
              unfold bz at *
              simp_all [posC]
        · refine V_iconst (v := 1) o dX4_isPossible_51 (by decide) ?_
          refine V_goto (tgt := 56) o dX4_isPossible_52 (by decide) ?_
          refine V_istore (ls' := [(5, _), (4, _), (0, _), (1, _), (2, _), (3, _)]) o dX4_isPossible_56 (by decide) rfl ?_
          refine V_iload o dX4_isPossible_58 rfl ?_
          refine V_if_eq (tgt := 72) o dX4_isPossible_60 (by decide) (fun c_60 => ?_) (fun c_60 => ?_)
          · refine V_iconst (v := 0) o dX4_isPossible_72 (by decide) ?_
            refine V_iret o rt dX4_isPossible_73 rfl rfl ?_
            refine ⟨?_, rfl⟩
            unfold bz at *
            simp_all [posC]
          · refine V_iload o dX4_isPossible_63 rfl ?_
            refine V_if_eq (tgt := 72) o dX4_isPossible_65 (by decide) (fun c_65 => ?_) (fun c_65 => ?_)
            · refine V_iconst (v := 0) o dX4_isPossible_72 (by decide) ?_
              refine V_iret o rt dX4_isPossible_73 rfl rfl ?_
              refine ⟨?_, rfl⟩
              unfold bz at *
              simp_all [posC]
            · refine V_iconst (v := 1) o dX4_isPossible_68 (by decide) ?_
              refine V_goto (tgt := 73) o dX4_isPossible_69 (by decide) ?_
              refine V_iret o rt dX4_isPossible_73 rfl rfl ?_
              refine ⟨?_, rfl⟩
              unfold bz at *
              simp_all [posC]
    · refine V_iload_n o dX4_isPossible_39 rfl rfl ?_
      refine V_if_ne (tgt := 55) o dX4_isPossible_40 (by decide) (fun c_40 => ?_) (fun c_40 => ?_)
      · refine V_iconst (v := 0) o dX4_isPossible_55 (by decide) ?_
        refine V_istore (ls' := [(5, _), (4, _), (0, _), (1, _), (2, _), (3, _)]) o dX4_isPossible_56 (by decide) rfl ?_
        refine V_iload o dX4_isPossible_58 rfl ?_
        refine V_if_eq (tgt := 72) o dX4_isPossible_60 (by decide) (fun c_60 => ?_) (fun c_60 => ?_)
        · refine V_iconst (v := 0) o dX4_isPossible_72 (by decide) ?_
          refine V_iret o rt dX4_isPossible_73 rfl rfl ?_
          refine ⟨?_, rfl⟩
          unfold bz at *
          simp_all [posC]
        · refine V_iload o dX4_isPossible_63 rfl ?_
          refine V_if_eq (tgt := 72) o dX4_isPossible_65 (by decide) (fun c_65 => ?_) (fun c_65 => ?_)
          · refine V_iconst (v := 0) o dX4_isPossible_72 (by decide) ?_
            refine V_iret o rt dX4_isPossible_73 rfl rfl ?_
            refine ⟨?_, rfl⟩
            unfold bz at *
            simp_all [posC]
          · refine V_iconst (v := 1) o dX4_isPossible_68 (by decide) ?_
            refine V_goto (tgt := 73) o dX4_isPossible_69 (by decide) ?_
            refine V_iret o rt dX4_isPossible_73 rfl rfl ?_
            refine ⟨?_, rfl⟩
            unfold bz at *
            simp_all [posC]
      · refine V_iload_n o dX4_isPossible_43 rfl rfl ?_
        refine V_if_ne (tgt := 51) o dX4_isPossible_44 (by decide) (fun c_44 => ?_) (fun c_44 => ?_)
        · refine V_iconst (v := 1) o dX4_isPossible_51 (by decide) ?_
          refine V_goto (tgt := 56) o dX4_isPossible_52 (by decide) ?_
          refine V_istore (ls' := [(5, _), (4, _), (0, _), (1, _), (2, _), (3, _)]) o dX4_isPossible_56 (by decide) rfl ?_
          refine V_iload o dX4_isPossible_58 rfl ?_
          refine V_if_eq (tgt := 72) o dX4_isPossible_60 (by decide) (fun c_60 => ?_) (fun c_60 => ?_)
          · refine V_iconst (v := 0) o dX4_isPossible_72 (by decide) ?_
            refine V_iret o rt dX4_isPossible_73 rfl rfl ?_
            refine ⟨?_, rfl⟩
            unfold bz at *
            simp_all [posC]
          · refine V_iload o dX4_isPossible_63 rfl ?_
            refine V_if_eq (tgt := 72) o dX4_isPossible_65 (by decide) (fun c_65 => ?_) (fun c_65 => ?_)
            · refine V_iconst (v := 0) o dX4_isPossible_72 (by decide) ?_
              refine V_iret o rt dX4_isPossible_73 rfl rfl ?_
              refine ⟨?_, rfl⟩
              unfold bz at *
              simp_all [posC]
            · refine V_iconst (v := 1) o dX4_isPossible_68 (by decide) ?_
              refine V_goto (tgt := 73) o dX4_isPossible_69 (by decide) ?_
              refine V_iret o rt dX4_isPossible_73 rfl rfl ?_
              refine ⟨?_, rfl⟩
              unfold bz at *
              simp_all [posC]
        · refine V_iload_n o dX4_isPossible_47 rfl rfl ?_
          refine V_if_ne (tgt := 55) o dX4_isPossible_48 (by decide) (fun c_48 => ?_) (fun c_48 => ?_)
          · refine V_iconst (v := 0) o dX4_isPossible_55 (by decide) ?_
            refine V_istore (ls' := [(5, _), (4, _), (0, _), (1, _), (2, _), (3, _)]) o dX4_isPossible_56 (by decide) rfl ?_
            refine V_iload o dX4_isPossible_58 rfl ?_
            refine V_if_eq (tgt := 72) o dX4_isPossible_60 (by decide) (fun c_60 => ?_) (fun c_60 => ?_)
            · refine V_iconst (v := 0) o dX4_isPossible_72 (by decide) ?_
              refine V_iret o rt dX4_isPossible_73 rfl rfl ?_
              refine ⟨?_, rfl⟩
              unfold bz at *
              simp_all [posC]
            · refine V_iload o dX4_isPossible_63 rfl ?_
              refine V_if_eq (tgt := 72) o dX4_isPossible_65 (by decide) (fun c_65 => ?_) (fun c_65 => ?_)
              · refine V_iconst (v := 0) o dX4_isPossible_72 (by decide) ?_
                refine V_iret o rt dX4_isPossible_73 rfl rfl ?_
                refine ⟨?_, rfl⟩
                unfold bz at *
                simp_all [posC]
              · refine V_iconst (v := 1) o dX4_isPossible_68 (by decide) ?_
                refine V_goto (tgt := 73) o dX4_isPossible_69 (by decide) ?_
                refine V_iret o rt dX4_isPossible_73 rfl rfl ?_
                refine ⟨?_, rfl⟩
                unfold bz at *
                simp_all [posC]
          · refine V_iconst (v := 1) o dX4_isPossible_51 (by decide) ?_
            refine V_goto (tgt := 56) o dX4_isPossible_52 (by decide) ?_
            refine V_istore (ls' := [(5, _), (4, _), (0, _), (1, _), (2, _), (3, _)]) o dX4_isPossible_56 (by decide) rfl ?_
            refine V_iload o dX4_isPossible_58 rfl ?_
            refine V_if_eq (tgt := 72) o dX4_isPossible_60 (by decide) (fun c_60 => ?_) (fun c_60 => ?_)
            · refine V_iconst (v := 0) o dX4_isPossible_72 (by decide) ?_
              refine V_iret o rt dX4_isPossible_73 rfl rfl ?_
              refine ⟨?_, rfl⟩
              unfold bz at *
              simp_all [posC]
            · refine V_iload o dX4_isPossible_63 rfl ?_
              refine V_if_eq (tgt := 72) o dX4_isPossible_65 (by decide) (fun c_65 => ?_) (fun c_65 => ?_)
              · refine V_iconst (v := 0) o dX4_isPossible_72 (by decide) ?_
                refine V_iret o rt dX4_isPossible_73 rfl rfl ?_
                refine ⟨?_, rfl⟩
                unfold bz at *
                simp_all [posC]
              · refine V_iconst (v := 1) o dX4_isPossible_68 (by decide) ?_
                refine V_goto (tgt := 73) o dX4_isPossible_69 (by decide) ?_
                refine V_iret o rt dX4_isPossible_73 rfl rfl ?_
                refine ⟨?_, rfl⟩
                unfold bz at *
                simp_all [posC]
  refine V_iload_n o dX4_isPossible_0 rfl rfl ?_
  refine V_cSi o rt dX4_isPossible_1 ms_X4_18 (c4_isSize hf) rfl rfl (Nat.le_of_ble_eq_true rfl) rfl ?_
  refine V_if_eq (tgt := 32) o dX4_isPossible_4 (by decide) (fun c_4 => ?_) (fun c_4 => ?_)
  · refine V_iconst (v := 0) o dX4_isPossible_32 (by decide) ?_
    refine V_istore (ls' := [(4, _), (0, _), (1, _), (2, _), (3, _)]) o dX4_isPossible_33 (by decide) rfl ?_
    exact t2 False ⟨fun q => q.elim, fun q => bz_0.mp c_4 q.1⟩ 0 rfl
  · refine V_iload_n o dX4_isPossible_7 rfl rfl ?_
    refine V_cSi o rt dX4_isPossible_8 ms_X4_22 (c4_isSizeOrNone hf) rfl rfl (Nat.le_of_ble_eq_true rfl) rfl ?_
    refine V_if_eq (tgt := 32) o dX4_isPossible_11 (by decide) (fun c_11 => ?_) (fun c_11 => ?_)
    · refine V_iconst (v := 0) o dX4_isPossible_32 (by decide) ?_
      refine V_istore (ls' := [(4, _), (0, _), (1, _), (2, _), (3, _)]) o dX4_isPossible_33 (by decide) rfl ?_
      exact t2 False ⟨fun q => q.elim, fun q => bz_0.mp c_11 q.2.1⟩ 0 rfl
    · refine V_iload_n o dX4_isPossible_14 rfl rfl ?_
      refine V_cSi o rt dX4_isPossible_15 ms_X4_22 (c4_isSizeOrNone hf) rfl rfl (Nat.le_of_ble_eq_true rfl) rfl ?_
      refine V_if_eq (tgt := 32) o dX4_isPossible_18 (by decide) (fun c_18 => ?_) (fun c_18 => ?_)
      · refine V_iconst (v := 0) o dX4_isPossible_32 (by decide) ?_
        refine V_istore (ls' := [(4, _), (0, _), (1, _), (2, _), (3, _)]) o dX4_isPossible_33 (by decide) rfl ?_
        exact t2 False ⟨fun q => q.elim, fun q => bz_0.mp c_18 q.2.2.1⟩ 0 rfl
      · refine V_iload_n o dX4_isPossible_21 rfl rfl ?_
        refine V_cSi o rt dX4_isPossible_22 ms_X4_22 (c4_isSizeOrNone hf) rfl rfl (Nat.le_of_ble_eq_true rfl) rfl ?_
        refine V_if_eq (tgt := 32) o dX4_isPossible_25 (by decide) (fun c_25 => ?_) (fun c_25 => ?_)
        · refine V_iconst (v := 0) o dX4_isPossible_32 (by decide) ?_
          refine V_istore (ls' := [(4, _), (0, _), (1, _), (2, _), (3, _)]) o dX4_isPossible_33 (by decide) rfl ?_
          exact t2 False ⟨fun q => q.elim, fun q => bz_0.mp c_25 q.2.2.2⟩ 0 rfl
        · refine V_iconst (v := 1) o dX4_isPossible_28 (by decide) ?_
          refine V_goto (tgt := 33) o dX4_isPossible_29 (by decide) ?_
          refine V_istore (ls' := [(4, _), (0, _), (1, _), (2, _), (3, _)]) o dX4_isPossible_33 (by decide) rfl ?_
          exact t2 True ⟨fun _ => ⟨bz_n0.mp c_4, bz_n0.mp c_11, bz_n0.mp c_18, bz_n0.mp c_25⟩, fun _ => trivial⟩ 1 rfl
set_option maxRecDepth 20000 in
set_option maxHeartbeats 4000000 in
theorem c4_sizeOf_3 {w : Wp} (hf : Fit sh0 w) {σ : Mm} {M : Nat → Int32} {L : Nat} (hS : ShR 3 M L σ) (hL : L ≤ 4) {k : Nat} (hk : k < 4) : Cf sh0 w 0 mX4_sizeOf [.ref 3, .int (nI k)] σ (some (.int (M (1 + k)))) σ := by
  refine Ct_of hf (by decide) rfl (Nat.le_of_ble_eq_true rfl) (fun x o rt => ?_)
  refine V_iload_n o dX4_sizeOf_0 rfl rfl ?_
  refine V_if_lt (tgt := 9) o dX4_sizeOf_1 (by decide) (fun c_1 => False.elim (absurd c_1 (Int32.not_lt.mpr (nI_le (a := 0) (Nat.zero_le _) (by omega))))) (fun c_1 => ?_)
  refine V_iload_n o dX4_sizeOf_4 rfl rfl ?_
  refine V_iconst (v := 4) o dX4_sizeOf_5 (by decide) ?_
  refine V_icmp_lt (tgt := 13) o dX4_sizeOf_6 (by decide) (fun c_6 => ?_) (fun c_6 => False.elim (c_6 (nI_lt (b := 4) (by omega) (by omega))))
  refine V_aload_n o dX4_sizeOf_13 rfl rfl ?_
  refine V_getR (t := 4) o dX4_sizeOf_14 rfl fl_X4_9 rfl ?_
  refine V_iload_n o dX4_sizeOf_17 rfl rfl ?_
  refine V_ialdN 4 o dX4_sizeOf_18 rfl rfl rfl (by omega) rfl ?_
  refine V_iret o rt dX4_sizeOf_19 rfl rfl ?_
  exact ⟨by rw [← hS.2.2.1 k hk], rfl⟩
set_option maxRecDepth 20000 in
set_option maxHeartbeats 4000000 in
theorem c4_spanOf_3 {w : Wp} (hf : Fit sh0 w) {σ : Mm} {M : Nat → Int32} {L : Nat} (hS : ShR 3 M L σ) (hL : L ≤ 4) {k : Nat} (hk : k < L) : Cf sh0 w 0 mX4_spanOf [.ref 3, .int (nI k)] σ (some (.int (spanM M k))) σ := by
  refine Ct_of hf (by decide) rfl (Nat.le_of_ble_eq_true rfl) (fun x o rt => ?_)
  refine V_iload_n o dX4_spanOf_0 rfl rfl ?_
  refine V_if_lt (tgt := 9) o dX4_spanOf_1 (by decide) (fun c_1 => False.elim (absurd c_1 (Int32.not_lt.mpr (nI_le (a := 0) (Nat.zero_le _) (by omega))))) (fun c_1 => ?_)
  refine V_iload_n o dX4_spanOf_4 rfl rfl ?_
  refine V_iconst (v := 4) o dX4_spanOf_5 (by decide) ?_
  refine V_icmp_lt (tgt := 16) o dX4_spanOf_6 (by decide) (fun c_6 => ?_) (fun c_6 => False.elim (c_6 (nI_lt (b := 4) (by omega) (by omega))))
  refine V_aload_n o dX4_spanOf_16 rfl rfl ?_
  refine V_getR (t := 5) o dX4_spanOf_17 rfl fl_X4_15 rfl ?_
  refine V_iload_n o dX4_spanOf_20 rfl rfl ?_
  refine V_ialdN 4 o dX4_spanOf_21 rfl rfl rfl (by omega) rfl ?_
  refine V_iret o rt dX4_spanOf_22 rfl rfl ?_
  exact ⟨by rw [← hS.2.2.2 k hk], rfl⟩
set_option maxRecDepth 20000 in
set_option maxHeartbeats 4000000 in
theorem c4_spanOf_n_3 {w : Wp} (hf : Fit sh0 w) {σ : Mm} {M : Nat → Int32} {L : Nat} (hS : ShR 3 M L σ) {k : Int32} (hk : k < 0) : Cf sh0 w 0 mX4_spanOf [.ref 3, .int k] σ (some (.int (spanM M L))) σ := by
  refine Ct_of hf (by decide) rfl (Nat.le_of_ble_eq_true rfl) (fun x o rt => ?_)
  refine V_iload_n o dX4_spanOf_0 rfl rfl ?_
  refine V_if_lt (tgt := 9) o dX4_spanOf_1 (by decide) (fun c_1 => ?_) (fun c_1 => False.elim (c_1 hk))
  refine V_aload_n o dX4_spanOf_9 rfl rfl ?_
  refine V_getI o dX4_spanOf_10 rfl fl_X4_37 rfl ?_
  refine V_goto (tgt := 22) o dX4_spanOf_13 (by decide) ?_
  refine V_iret o rt dX4_spanOf_22 rfl rfl ?_
  exact ⟨by rw [← hS.2.1], rfl⟩
set_option maxRecDepth 20000 in
set_option maxHeartbeats 4000000 in
theorem c4_hasLevel_3 {w : Wp} (hf : Fit sh0 w) {σ : Mm} {M : Nat → Int32} {L : Nat} (hS : ShR 3 M L σ) {k : Int32} : Cf sh0 w 1 mX4_hasLevel [.ref 3, .int k] σ (some (.int (bz (inR k 0 (nI L - 1))))) σ := by
  refine Ct_of hf (by decide) rfl (Nat.le_of_ble_eq_true rfl) (fun x o rt => ?_)
  refine V_iload_n o dX4_hasLevel_0 rfl rfl ?_
  refine V_iconst (v := 0) o dX4_hasLevel_1 (by decide) ?_
  refine V_aload_n o dX4_hasLevel_2 rfl rfl ?_
  refine V_getIE (v := nI (L)) o dX4_hasLevel_3 rfl fl_X4_33 rfl hS.1 ?_
  refine V_iconst (v := 1) o dX4_hasLevel_6 (by decide) ?_
  refine V_isub o dX4_hasLevel_7 ?_
  refine V_cSNi o rt dX4_hasLevel_8 ms_X4_25 (c8_isWithin hf) rfl rfl (Nat.le_of_ble_eq_true rfl) rfl ?_
  refine V_iret o rt dX4_hasLevel_11 rfl (by first | rfl | exact bz_z) ?_
  exact ⟨rfl, rfl⟩
set_option maxRecDepth 20000 in
set_option maxHeartbeats 4000000 in
theorem c4_levelFor_3 {w : Wp} (hf : Fit sh0 w) {σ : Mm} {M : Nat → Int32} {L : Nat} (hS : ShR 3 M L σ) (hL : L ≤ 4) {d R : Int32} (hR0 : lvF M d L 0 = R) : Cf sh0 w 0 mX4_levelFor [.ref 3, .int d] σ (some (.int R)) σ := by
  refine Ct_of hf (by decide) rfl (Nat.le_of_ble_eq_true rfl) (fun x o rt => ?_)
  have loop : ∀ n k, k + n = L → lvF M d n k = R → V sh0 w x mX4_levelFor (0, 0) 2 [(2, .int (nI k)), (0, .ref 3), (1, .int d)] [] σ := by
    intro n
    induction n with
    | zero =>
      intro k hk hR
      have hkL : k = L := by omega
      have hR1 : (-1 : Int32) = R := hR
      subst hR1
      refine V_iload_n o dX4_levelFor_2 rfl rfl ?_
      refine V_aload_n o dX4_levelFor_3 rfl rfl ?_
      refine V_getIE (v := nI (L)) o dX4_levelFor_4 rfl fl_X4_33 rfl hS.1 ?_
      refine V_icmp_ge (tgt := 40) o dX4_levelFor_7 (by decide) (fun c_7 => ?_) (fun c_7 => False.elim (c_7 (by rw [hkL]; exact Int32.le_refl _)))
      refine V_iconst (v := -1) o dX4_levelFor_40 (by decide) ?_
      refine V_iret o rt dX4_levelFor_41 rfl rfl ?_
      exact ⟨rfl, rfl⟩
    | succ n ih =>
      intro k hk hR
      have e1 : σ.1 4 k * σ.1 5 k = spanM M (k + 1) := by rw [span_last, ← hS.2.2.1 k (by omega), ← hS.2.2.2 k (by omega)]
      rw [lvF] at hR
      refine V_iload_n o dX4_levelFor_2 rfl rfl ?_
      refine V_aload_n o dX4_levelFor_3 rfl rfl ?_
      refine V_getIE (v := nI (L)) o dX4_levelFor_4 rfl fl_X4_33 rfl hS.1 ?_
      refine V_icmp_ge (tgt := 40) o dX4_levelFor_7 (by decide) (fun c_7 => False.elim (absurd c_7 (nI_ge (by omega) (by omega)))) (fun c_7 => ?_)
      refine V_iload_n o dX4_levelFor_10 rfl rfl ?_
      refine V_iconst (v := 4) o dX4_levelFor_11 (by decide) ?_
      refine V_icmp_ge (tgt := 40) o dX4_levelFor_12 (by decide) (fun c_12 => False.elim (absurd c_12 (nI_ge (b := 4) (by omega) (by omega)))) (fun c_12 => ?_)
      refine V_aload_n o dX4_levelFor_15 rfl rfl ?_
      refine V_getR (t := 4) o dX4_levelFor_16 rfl fl_X4_9 rfl ?_
      refine V_iload_n o dX4_levelFor_19 rfl rfl ?_
      refine V_ialdN 4 o dX4_levelFor_20 rfl rfl rfl (by omega) rfl ?_
      refine V_aload_n o dX4_levelFor_21 rfl rfl ?_
      refine V_getR (t := 5) o dX4_levelFor_22 rfl fl_X4_15 rfl ?_
      refine V_iload_n o dX4_levelFor_25 rfl rfl ?_
      refine V_ialdN 4 o dX4_levelFor_26 rfl rfl rfl (by omega) rfl ?_
      refine V_imul o dX4_levelFor_27 ?_
      refine V_topI (v' := spanM M (k + 1)) e1 ?_
      refine V_iload_n o dX4_levelFor_28 rfl rfl ?_
      refine V_icmp_le (tgt := 34) o dX4_levelFor_29 (by decide) (fun c_29 => ?_) (fun c_29 => ?_)
      · refine V_iincV (v := nI (k + 1)) (ls' := [(2, _), (0, _), (1, _)]) o dX4_levelFor_34 rfl (ninc 1 rfl) (by decide) rfl ?_
        refine V_goto (tgt := 2) o dX4_levelFor_37 (by decide) ?_
        rw [if_neg (Int32.not_lt.mpr c_29)] at hR
        exact ih (k + 1) (by omega) hR
      · refine V_iload_n o dX4_levelFor_32 rfl rfl ?_
        refine V_iret o rt dX4_levelFor_33 rfl rfl ?_
        rw [if_pos (Int32.not_le.mp c_29)] at hR
        subst hR
        exact ⟨rfl, rfl⟩
  refine V_iconst (v := 0) o dX4_levelFor_0 (by decide) ?_
  refine V_istore_n (ls' := [(2, _), (0, _), (1, _)]) o dX4_levelFor_1 rfl (by decide) rfl ?_
  exact V_sub (by simp; rfl) (loop L 0 (by omega) hR0)
set_option maxRecDepth 20000 in
set_option maxHeartbeats 4000000 in
theorem c4_slotFor_3 {w : Wp} (hf : Fit sh0 w) {σ : Mm} {M : Nat → Int32} {L : Nat} (hS : ShR 3 M L σ) (hW : Wf M L) {k : Nat} (hk : k < L) {v : Int32} : Cf sh0 w 0 mX4_slotFor [.ref 3, .int (nI k), .int v] σ (some (.int (rmI (v / spanM M k) (M (1 + k))))) σ := by
  obtain ⟨s, hs, hs1, hs2⟩ := Wf_span hW k (by omega)
  obtain ⟨z, hz, hz1, hz2⟩ := hW.2.2.2 k hk
  have hL := hW.2.2.1
  have hs3 : s ≤ 16 ^ 4 := Nat.le_trans hs2 (Nat.pow_le_pow_right (by omega) (by omega))
  have hs9 : s < 2147483648 := Nat.lt_of_le_of_lt hs3 (by decide)
  have g1 : σ.1 5 k = nI s := (hS.2.2.2 k hk).trans hs
  have g2 : σ.1 4 k = nI z := (hS.2.2.1 k (by omega)).trans hz
  rw [hs, hz]
  refine Ct_of hf (by decide) rfl (Nat.le_of_ble_eq_true rfl) (fun x o rt => ?_)
  refine V_iload_n o dX4_slotFor_0 rfl rfl ?_
  refine V_if_lt (tgt := 29) o dX4_slotFor_1 (by decide) (fun c_1 => False.elim (absurd c_1 (Int32.not_lt.mpr (nI_le (a := 0) (Nat.zero_le _) (by omega))))) (fun c_1 => ?_)
  refine V_iload_n o dX4_slotFor_4 rfl rfl ?_
  refine V_iconst (v := 4) o dX4_slotFor_5 (by decide) ?_
  refine V_icmp_ge (tgt := 29) o dX4_slotFor_6 (by decide) (fun c_6 => False.elim (absurd c_6 (nI_ge (b := 4) (by omega) (by omega)))) (fun c_6 => ?_)
  refine V_aload_n o dX4_slotFor_9 rfl rfl ?_
  refine V_getR (t := 5) o dX4_slotFor_10 rfl fl_X4_15 rfl ?_
  refine V_iload_n o dX4_slotFor_13 rfl rfl ?_
  refine V_ialdE (v := nI (s)) 4 o dX4_slotFor_14 rfl rfl rfl (by omega) rfl g1 ?_
  refine V_iconst (v := 1) o dX4_slotFor_15 (by decide) ?_
  refine V_icmp_lt (tgt := 29) o dX4_slotFor_16 (by decide) (fun c_16 => False.elim (absurd c_16 (Int32.not_lt.mpr (nI_le (a := 1) hs1 hs9)))) (fun c_16 => ?_)
  refine V_aload_n o dX4_slotFor_19 rfl rfl ?_
  refine V_getR (t := 4) o dX4_slotFor_20 rfl fl_X4_9 rfl ?_
  refine V_iload_n o dX4_slotFor_23 rfl rfl ?_
  refine V_ialdE (v := nI (z)) 4 o dX4_slotFor_24 rfl rfl rfl (by omega) rfl g2 ?_
  refine V_iconst (v := 1) o dX4_slotFor_25 (by decide) ?_
  refine V_icmp_ge (tgt := 31) o dX4_slotFor_26 (by decide) (fun c_26 => ?_) (fun c_26 => False.elim (c_26 (nI_le (a := 1) (by omega) (by omega))))
  refine V_iload_n o dX4_slotFor_31 rfl rfl ?_
  refine V_aload_n o dX4_slotFor_32 rfl rfl ?_
  refine V_getR (t := 5) o dX4_slotFor_33 rfl fl_X4_15 rfl ?_
  refine V_iload_n o dX4_slotFor_36 rfl rfl ?_
  refine V_ialdE (v := nI (s)) 4 o dX4_slotFor_37 rfl rfl rfl (by omega) rfl g1 ?_
  refine V_idiv o dX4_slotFor_38 (nI_ne0 (by omega) hs9) ?_
  refine V_aload_n o dX4_slotFor_39 rfl rfl ?_
  refine V_getR (t := 4) o dX4_slotFor_40 rfl fl_X4_9 rfl ?_
  refine V_iload_n o dX4_slotFor_43 rfl rfl ?_
  refine V_ialdE (v := nI (z)) 4 o dX4_slotFor_44 rfl rfl rfl (by omega) rfl g2 ?_
  refine V_irem o dX4_slotFor_45 (nI_ne0 (by omega) (by omega)) ?_
  refine V_iret o rt dX4_slotFor_46 rfl rfl ?_
  exact ⟨rfl, rfl⟩
set_option maxRecDepth 20000 in
set_option maxHeartbeats 4000000 in
theorem c4_turnTime_3 {w : Wp} (hf : Fit sh0 w) {σ : Mm} {M : Nat → Int32} {L : Nat} (hS : ShR 3 M L σ) (hW : Wf M L) {lv due : Int32} (hlv : LvOk L lv) : Cf sh0 w 1 mX4_turnTime [.ref 3, .int lv, .int due] σ (some (.int (due / wyBy M L lv * wyBy M L lv))) σ := by
  obtain ⟨s, hs, hs1, hs2⟩ : ∃ s : Nat, wyBy M L lv = nI s ∧ 1 ≤ s ∧ s ≤ 65536 := by
    have hL := hW.2.2.1
    have hp : ∀ k, k ≤ 4 → 16 ^ k ≤ 65536 := fun k hk => Nat.le_trans (Nat.pow_le_pow_right (by omega) hk) (by decide)
    rcases hlv with rfl | ⟨j, hj, rfl⟩
    · obtain ⟨s, e, h1, h2⟩ := Wf_span hW L (Nat.le_refl _)
      exact ⟨s, by rw [wyBy, if_pos (by decide), e], h1, Nat.le_trans h2 (hp L hL)⟩
    · obtain ⟨s, e, h1, h2⟩ := Wf_span hW j (by omega)
      exact ⟨s, by rw [wyBy, if_neg (show ¬ nI j < 0 from Int32.not_lt.mpr (nI_le (a := 0) (Nat.zero_le _) (by omega))), ix_nI (by omega), e], h1, Nat.le_trans h2 (hp j (by omega))⟩
  have hc : Cf sh0 w 0 mX4_spanOf [.ref 3, .int lv] σ (some (.int (nI s))) σ := by
    rw [← hs]
    have hL := hW.2.2.1
    rcases hlv with rfl | ⟨j, hj, rfl⟩
    · rw [wyBy, if_pos (by decide)]
      exact c4_spanOf_n_3 hf hS (by decide)
    · rw [wyBy, if_neg (show ¬ nI j < 0 from Int32.not_lt.mpr (nI_le (a := 0) (Nat.zero_le _) (by omega))), ix_nI (by omega)]
      exact c4_spanOf_3 hf hS hL hj
  rw [hs]
  refine Ct_of hf (by decide) rfl (Nat.le_of_ble_eq_true rfl) (fun x o rt => ?_)
  refine V_aload_n o dX4_turnTime_0 rfl rfl ?_
  refine V_iload_n o dX4_turnTime_1 rfl rfl ?_
  refine V_cVi o rt dX4_turnTime_2 ml_X4_44 hc rfl rfl rfl (Nat.le_of_ble_eq_true rfl) rfl ?_
  refine V_istore_n (ls' := [(3, _), (0, _), (1, _), (2, _)]) o dX4_turnTime_5 rfl (by decide) rfl ?_
  refine V_iload_n o dX4_turnTime_6 rfl rfl ?_
  refine V_iconst (v := 1) o dX4_turnTime_7 (by decide) ?_
  refine V_icmp_ge (tgt := 15) o dX4_turnTime_8 (by decide) (fun c_8 => ?_) (fun c_8 => False.elim (c_8 (nI_le (a := 1) hs1 (by omega))))
  refine V_iload_n o dX4_turnTime_15 rfl rfl ?_
  refine V_iload_n o dX4_turnTime_16 rfl rfl ?_
  refine V_iload_n o dX4_turnTime_17 rfl rfl ?_
  refine V_irem o dX4_turnTime_18 (nI_ne0 (by omega) (by omega)) ?_
  refine V_isub o dX4_turnTime_19 ?_
  refine V_iret o rt dX4_turnTime_20 rfl rfl ?_
  exact ⟨by rw [sub_sub_same], rfl⟩
set_option maxRecDepth 20000 in
set_option maxHeartbeats 4000000 in
theorem c4_movesFrom_3 {w : Wp} (hf : Fit sh0 w) {σ : Mm} {M : Nat → Int32} {L : Nat} (hS : ShR 3 M L σ) (hW : Wf M L) {lv due : Int32} (hlv : LvOk L lv) {WL : List (Int32 × Int32)} (hWL : wyL M L due 5 lv = WL) : Cf sh0 w 2 mX4_movesFrom [.ref 3, .int lv, .int due] σ (some (.int (nI WL.length))) σ := by
  refine Ct_of hf (by decide) rfl (Nat.le_of_ble_eq_true rfl) (fun x o rt => ?_)
  have loop : ∀ n i on, i + n = 5 → LvOk L on → i + (wyL M L due n on).length = WL.length → V sh0 w x mX4_movesFrom (0, 0) 8 [(5, .int (nI i)), (4, .int on), (3, .int (nI i)), (0, .ref 3), (1, .int lv), (2, .int due)] [] σ := by
    intro n
    induction n with
    | zero =>
      intro i on hi hon hR
      have h5 : i = 5 := by omega
      have hR1 : i = WL.length := hR
      refine V_iload o dX4_movesFrom_8 rfl ?_
      refine V_iconst (v := 4) o dX4_movesFrom_10 (by decide) ?_
      refine V_icmp_gt (tgt := 43) o dX4_movesFrom_11 (by decide) (fun c_11 => ?_) (fun c_11 => False.elim (c_11 (by rw [h5]; decide)))
      refine V_iload_n o dX4_movesFrom_43 rfl rfl ?_
      refine V_iret o rt dX4_movesFrom_44 rfl rfl ?_
      exact ⟨by rw [← hR1], rfl⟩
    | succ n ih =>
      intro i on hi hon hR
      rw [wyL] at hR
      by_cases h0 : on = 0
      · rw [if_pos h0] at hR
        have hR1 : i = WL.length := hR
        refine V_iload o dX4_movesFrom_8 rfl ?_
        refine V_iconst (v := 4) o dX4_movesFrom_10 (by decide) ?_
        refine V_icmp_gt (tgt := 43) o dX4_movesFrom_11 (by decide) (fun c_11 => False.elim (absurd c_11 (Int32.not_lt.mpr (nI_le (b := 4) (by omega) (by omega))))) (fun c_11 => ?_)
        refine V_iload o dX4_movesFrom_14 rfl ?_
        refine V_if_eq (tgt := 43) o dX4_movesFrom_16 (by decide) (fun c_16 => ?_) (fun c_16 => False.elim (c_16 h0))
        refine V_iload_n o dX4_movesFrom_43 rfl rfl ?_
        refine V_iret o rt dX4_movesFrom_44 rfl rfl ?_
        exact ⟨by rw [← hR1], rfl⟩
      · rw [if_neg h0, List.length_cons] at hR
        refine V_iload o dX4_movesFrom_8 rfl ?_
        refine V_iconst (v := 4) o dX4_movesFrom_10 (by decide) ?_
        refine V_icmp_gt (tgt := 43) o dX4_movesFrom_11 (by decide) (fun c_11 => False.elim (absurd c_11 (Int32.not_lt.mpr (nI_le (b := 4) (by omega) (by omega))))) (fun c_11 => ?_)
        refine V_iload o dX4_movesFrom_14 rfl ?_
        refine V_if_eq (tgt := 43) o dX4_movesFrom_16 (by decide) (fun c_16 => False.elim (h0 c_16)) (fun c_16 => ?_)
        refine V_aload_n o dX4_movesFrom_19 rfl rfl ?_
        refine V_iload_n o dX4_movesFrom_20 rfl rfl ?_
        refine V_aload_n o dX4_movesFrom_21 rfl rfl ?_
        refine V_iload o dX4_movesFrom_22 rfl ?_
        refine V_iload_n o dX4_movesFrom_24 rfl rfl ?_
        refine V_cVi o rt dX4_movesFrom_25 ml_X4_47 (c4_turnTime_3 hf hS hW hon) rfl rfl rfl (Nat.le_of_ble_eq_true rfl) rfl ?_
        refine V_isub o dX4_movesFrom_28 ?_
        refine V_cVi o rt dX4_movesFrom_29 ml_X4_51 (c4_levelFor_3 hf hS hW.2.2.1 rfl) rfl rfl rfl (Nat.le_of_ble_eq_true rfl) rfl ?_
        refine V_istore (ls' := [(4, _), (5, _), (3, _), (0, _), (1, _), (2, _)]) o dX4_movesFrom_32 (by decide) rfl ?_
        refine V_iincV (v := nI (i + 1)) (ls' := [(3, _), (4, _), (5, _), (0, _), (1, _), (2, _)]) o dX4_movesFrom_34 rfl (ninc 1 rfl) (by decide) rfl ?_
        refine V_iincV (v := nI (i + 1)) (ls' := [(5, _), (3, _), (4, _), (0, _), (1, _), (2, _)]) o dX4_movesFrom_37 rfl (ninc 1 rfl) (by decide) rfl ?_
        refine V_goto (tgt := 8) o dX4_movesFrom_40 (by decide) ?_
        exact V_sub (by simp) (ih (i + 1) (lvF M (due - due / wyBy M L on * wyBy M L on) L 0) (by omega) LvOk_lvF (by omega))
  refine V_iconst (v := 0) o dX4_movesFrom_0 (by decide) ?_
  refine V_istore_n (ls' := [(3, _), (0, _), (1, _), (2, _)]) o dX4_movesFrom_1 rfl (by decide) rfl ?_
  refine V_iload_n o dX4_movesFrom_2 rfl rfl ?_
  refine V_istore (ls' := [(4, _), (3, _), (0, _), (1, _), (2, _)]) o dX4_movesFrom_3 (by decide) rfl ?_
  refine V_iconst (v := 0) o dX4_movesFrom_5 (by decide) ?_
  refine V_istore (ls' := [(5, _), (4, _), (3, _), (0, _), (1, _), (2, _)]) o dX4_movesFrom_6 (by decide) rfl ?_
  exact V_sub (by simp; rfl) (loop 5 0 lv (by omega) hlv (by rw [hWL]; omega))
set_option maxRecDepth 20000 in
set_option maxHeartbeats 4000000 in
theorem c4_sizeOf_26 {w : Wp} (hf : Fit sh0 w) {σ : Mm} {M : Nat → Int32} {L : Nat} (hS : ShR 26 M L σ) (hL : L ≤ 4) {k : Nat} (hk : k < 4) : Cf sh0 w 0 mX4_sizeOf [.ref 26, .int (nI k)] σ (some (.int (M (1 + k)))) σ := by
  refine Ct_of hf (by decide) rfl (Nat.le_of_ble_eq_true rfl) (fun x o rt => ?_)
  refine V_iload_n o dX4_sizeOf_0 rfl rfl ?_
  refine V_if_lt (tgt := 9) o dX4_sizeOf_1 (by decide) (fun c_1 => False.elim (absurd c_1 (Int32.not_lt.mpr (nI_le (a := 0) (Nat.zero_le _) (by omega))))) (fun c_1 => ?_)
  refine V_iload_n o dX4_sizeOf_4 rfl rfl ?_
  refine V_iconst (v := 4) o dX4_sizeOf_5 (by decide) ?_
  refine V_icmp_lt (tgt := 13) o dX4_sizeOf_6 (by decide) (fun c_6 => ?_) (fun c_6 => False.elim (c_6 (nI_lt (b := 4) (by omega) (by omega))))
  refine V_aload_n o dX4_sizeOf_13 rfl rfl ?_
  refine V_getR (t := 27) o dX4_sizeOf_14 rfl fl_X4_9 rfl ?_
  refine V_iload_n o dX4_sizeOf_17 rfl rfl ?_
  refine V_ialdN 4 o dX4_sizeOf_18 rfl rfl rfl (by omega) rfl ?_
  refine V_iret o rt dX4_sizeOf_19 rfl rfl ?_
  exact ⟨by rw [← hS.2.2.1 k hk], rfl⟩
set_option maxRecDepth 20000 in
set_option maxHeartbeats 4000000 in
theorem c4_spanOf_26 {w : Wp} (hf : Fit sh0 w) {σ : Mm} {M : Nat → Int32} {L : Nat} (hS : ShR 26 M L σ) (hL : L ≤ 4) {k : Nat} (hk : k < L) : Cf sh0 w 0 mX4_spanOf [.ref 26, .int (nI k)] σ (some (.int (spanM M k))) σ := by
  refine Ct_of hf (by decide) rfl (Nat.le_of_ble_eq_true rfl) (fun x o rt => ?_)
  refine V_iload_n o dX4_spanOf_0 rfl rfl ?_
  refine V_if_lt (tgt := 9) o dX4_spanOf_1 (by decide) (fun c_1 => False.elim (absurd c_1 (Int32.not_lt.mpr (nI_le (a := 0) (Nat.zero_le _) (by omega))))) (fun c_1 => ?_)
  refine V_iload_n o dX4_spanOf_4 rfl rfl ?_
  refine V_iconst (v := 4) o dX4_spanOf_5 (by decide) ?_
  refine V_icmp_lt (tgt := 16) o dX4_spanOf_6 (by decide) (fun c_6 => ?_) (fun c_6 => False.elim (c_6 (nI_lt (b := 4) (by omega) (by omega))))
  refine V_aload_n o dX4_spanOf_16 rfl rfl ?_
  refine V_getR (t := 28) o dX4_spanOf_17 rfl fl_X4_15 rfl ?_
  refine V_iload_n o dX4_spanOf_20 rfl rfl ?_
  refine V_ialdN 4 o dX4_spanOf_21 rfl rfl rfl (by omega) rfl ?_
  refine V_iret o rt dX4_spanOf_22 rfl rfl ?_
  exact ⟨by rw [← hS.2.2.2 k hk], rfl⟩
set_option maxRecDepth 20000 in
set_option maxHeartbeats 4000000 in
theorem c4_spanOf_n_26 {w : Wp} (hf : Fit sh0 w) {σ : Mm} {M : Nat → Int32} {L : Nat} (hS : ShR 26 M L σ) {k : Int32} (hk : k < 0) : Cf sh0 w 0 mX4_spanOf [.ref 26, .int k] σ (some (.int (spanM M L))) σ := by
  refine Ct_of hf (by decide) rfl (Nat.le_of_ble_eq_true rfl) (fun x o rt => ?_)
  refine V_iload_n o dX4_spanOf_0 rfl rfl ?_
  refine V_if_lt (tgt := 9) o dX4_spanOf_1 (by decide) (fun c_1 => ?_) (fun c_1 => False.elim (c_1 hk))
  refine V_aload_n o dX4_spanOf_9 rfl rfl ?_
  refine V_getI o dX4_spanOf_10 rfl fl_X4_37 rfl ?_
  refine V_goto (tgt := 22) o dX4_spanOf_13 (by decide) ?_
  refine V_iret o rt dX4_spanOf_22 rfl rfl ?_
  exact ⟨by rw [← hS.2.1], rfl⟩
set_option maxRecDepth 20000 in
set_option maxHeartbeats 4000000 in
theorem c4_hasLevel_26 {w : Wp} (hf : Fit sh0 w) {σ : Mm} {M : Nat → Int32} {L : Nat} (hS : ShR 26 M L σ) {k : Int32} : Cf sh0 w 1 mX4_hasLevel [.ref 26, .int k] σ (some (.int (bz (inR k 0 (nI L - 1))))) σ := by
  refine Ct_of hf (by decide) rfl (Nat.le_of_ble_eq_true rfl) (fun x o rt => ?_)
  refine V_iload_n o dX4_hasLevel_0 rfl rfl ?_
  refine V_iconst (v := 0) o dX4_hasLevel_1 (by decide) ?_
  refine V_aload_n o dX4_hasLevel_2 rfl rfl ?_
  refine V_getIE (v := nI (L)) o dX4_hasLevel_3 rfl fl_X4_33 rfl hS.1 ?_
  refine V_iconst (v := 1) o dX4_hasLevel_6 (by decide) ?_
  refine V_isub o dX4_hasLevel_7 ?_
  refine V_cSNi o rt dX4_hasLevel_8 ms_X4_25 (c8_isWithin hf) rfl rfl (Nat.le_of_ble_eq_true rfl) rfl ?_
  refine V_iret o rt dX4_hasLevel_11 rfl (by first | rfl | exact bz_z) ?_
  exact ⟨rfl, rfl⟩
set_option maxRecDepth 20000 in
set_option maxHeartbeats 4000000 in
theorem c4_levelFor_26 {w : Wp} (hf : Fit sh0 w) {σ : Mm} {M : Nat → Int32} {L : Nat} (hS : ShR 26 M L σ) (hL : L ≤ 4) {d R : Int32} (hR0 : lvF M d L 0 = R) : Cf sh0 w 0 mX4_levelFor [.ref 26, .int d] σ (some (.int R)) σ := by
  refine Ct_of hf (by decide) rfl (Nat.le_of_ble_eq_true rfl) (fun x o rt => ?_)
  have loop : ∀ n k, k + n = L → lvF M d n k = R → V sh0 w x mX4_levelFor (0, 0) 2 [(2, .int (nI k)), (0, .ref 26), (1, .int d)] [] σ := by
    intro n
    induction n with
    | zero =>
      intro k hk hR
      have hkL : k = L := by omega
      have hR1 : (-1 : Int32) = R := hR
      subst hR1
      refine V_iload_n o dX4_levelFor_2 rfl rfl ?_
      refine V_aload_n o dX4_levelFor_3 rfl rfl ?_
      refine V_getIE (v := nI (L)) o dX4_levelFor_4 rfl fl_X4_33 rfl hS.1 ?_
      refine V_icmp_ge (tgt := 40) o dX4_levelFor_7 (by decide) (fun c_7 => ?_) (fun c_7 => False.elim (c_7 (by rw [hkL]; exact Int32.le_refl _)))
      refine V_iconst (v := -1) o dX4_levelFor_40 (by decide) ?_
      refine V_iret o rt dX4_levelFor_41 rfl rfl ?_
      exact ⟨rfl, rfl⟩
    | succ n ih =>
      intro k hk hR
      have e1 : σ.1 27 k * σ.1 28 k = spanM M (k + 1) := by rw [span_last, ← hS.2.2.1 k (by omega), ← hS.2.2.2 k (by omega)]
      rw [lvF] at hR
      refine V_iload_n o dX4_levelFor_2 rfl rfl ?_
      refine V_aload_n o dX4_levelFor_3 rfl rfl ?_
      refine V_getIE (v := nI (L)) o dX4_levelFor_4 rfl fl_X4_33 rfl hS.1 ?_
      refine V_icmp_ge (tgt := 40) o dX4_levelFor_7 (by decide) (fun c_7 => False.elim (absurd c_7 (nI_ge (by omega) (by omega)))) (fun c_7 => ?_)
      refine V_iload_n o dX4_levelFor_10 rfl rfl ?_
      refine V_iconst (v := 4) o dX4_levelFor_11 (by decide) ?_
      refine V_icmp_ge (tgt := 40) o dX4_levelFor_12 (by decide) (fun c_12 => False.elim (absurd c_12 (nI_ge (b := 4) (by omega) (by omega)))) (fun c_12 => ?_)
      refine V_aload_n o dX4_levelFor_15 rfl rfl ?_
      refine V_getR (t := 27) o dX4_levelFor_16 rfl fl_X4_9 rfl ?_
      refine V_iload_n o dX4_levelFor_19 rfl rfl ?_
      refine V_ialdN 4 o dX4_levelFor_20 rfl rfl rfl (by omega) rfl ?_
      refine V_aload_n o dX4_levelFor_21 rfl rfl ?_
      refine V_getR (t := 28) o dX4_levelFor_22 rfl fl_X4_15 rfl ?_
      refine V_iload_n o dX4_levelFor_25 rfl rfl ?_
      refine V_ialdN 4 o dX4_levelFor_26 rfl rfl rfl (by omega) rfl ?_
      refine V_imul o dX4_levelFor_27 ?_
      refine V_topI (v' := spanM M (k + 1)) e1 ?_
      refine V_iload_n o dX4_levelFor_28 rfl rfl ?_
      refine V_icmp_le (tgt := 34) o dX4_levelFor_29 (by decide) (fun c_29 => ?_) (fun c_29 => ?_)
      · refine V_iincV (v := nI (k + 1)) (ls' := [(2, _), (0, _), (1, _)]) o dX4_levelFor_34 rfl (ninc 1 rfl) (by decide) rfl ?_
        refine V_goto (tgt := 2) o dX4_levelFor_37 (by decide) ?_
        rw [if_neg (Int32.not_lt.mpr c_29)] at hR
        exact ih (k + 1) (by omega) hR
      · refine V_iload_n o dX4_levelFor_32 rfl rfl ?_
        refine V_iret o rt dX4_levelFor_33 rfl rfl ?_
        rw [if_pos (Int32.not_le.mp c_29)] at hR
        subst hR
        exact ⟨rfl, rfl⟩
  refine V_iconst (v := 0) o dX4_levelFor_0 (by decide) ?_
  refine V_istore_n (ls' := [(2, _), (0, _), (1, _)]) o dX4_levelFor_1 rfl (by decide) rfl ?_
  exact V_sub (by simp; rfl) (loop L 0 (by omega) hR0)
set_option maxRecDepth 20000 in
set_option maxHeartbeats 4000000 in
theorem c4_slotFor_26 {w : Wp} (hf : Fit sh0 w) {σ : Mm} {M : Nat → Int32} {L : Nat} (hS : ShR 26 M L σ) (hW : Wf M L) {k : Nat} (hk : k < L) {v : Int32} : Cf sh0 w 0 mX4_slotFor [.ref 26, .int (nI k), .int v] σ (some (.int (rmI (v / spanM M k) (M (1 + k))))) σ := by
  obtain ⟨s, hs, hs1, hs2⟩ := Wf_span hW k (by omega)
  obtain ⟨z, hz, hz1, hz2⟩ := hW.2.2.2 k hk
  have hL := hW.2.2.1
  have hs3 : s ≤ 16 ^ 4 := Nat.le_trans hs2 (Nat.pow_le_pow_right (by omega) (by omega))
  have hs9 : s < 2147483648 := Nat.lt_of_le_of_lt hs3 (by decide)
  have g1 : σ.1 28 k = nI s := (hS.2.2.2 k hk).trans hs
  have g2 : σ.1 27 k = nI z := (hS.2.2.1 k (by omega)).trans hz
  rw [hs, hz]
  refine Ct_of hf (by decide) rfl (Nat.le_of_ble_eq_true rfl) (fun x o rt => ?_)
  refine V_iload_n o dX4_slotFor_0 rfl rfl ?_
  refine V_if_lt (tgt := 29) o dX4_slotFor_1 (by decide) (fun c_1 => False.elim (absurd c_1 (Int32.not_lt.mpr (nI_le (a := 0) (Nat.zero_le _) (by omega))))) (fun c_1 => ?_)
  refine V_iload_n o dX4_slotFor_4 rfl rfl ?_
  refine V_iconst (v := 4) o dX4_slotFor_5 (by decide) ?_
  refine V_icmp_ge (tgt := 29) o dX4_slotFor_6 (by decide) (fun c_6 => False.elim (absurd c_6 (nI_ge (b := 4) (by omega) (by omega)))) (fun c_6 => ?_)
  refine V_aload_n o dX4_slotFor_9 rfl rfl ?_
  refine V_getR (t := 28) o dX4_slotFor_10 rfl fl_X4_15 rfl ?_
  refine V_iload_n o dX4_slotFor_13 rfl rfl ?_
  refine V_ialdE (v := nI (s)) 4 o dX4_slotFor_14 rfl rfl rfl (by omega) rfl g1 ?_
  refine V_iconst (v := 1) o dX4_slotFor_15 (by decide) ?_
  refine V_icmp_lt (tgt := 29) o dX4_slotFor_16 (by decide) (fun c_16 => False.elim (absurd c_16 (Int32.not_lt.mpr (nI_le (a := 1) hs1 hs9)))) (fun c_16 => ?_)
  refine V_aload_n o dX4_slotFor_19 rfl rfl ?_
  refine V_getR (t := 27) o dX4_slotFor_20 rfl fl_X4_9 rfl ?_
  refine V_iload_n o dX4_slotFor_23 rfl rfl ?_
  refine V_ialdE (v := nI (z)) 4 o dX4_slotFor_24 rfl rfl rfl (by omega) rfl g2 ?_
  refine V_iconst (v := 1) o dX4_slotFor_25 (by decide) ?_
  refine V_icmp_ge (tgt := 31) o dX4_slotFor_26 (by decide) (fun c_26 => ?_) (fun c_26 => False.elim (c_26 (nI_le (a := 1) (by omega) (by omega))))
  refine V_iload_n o dX4_slotFor_31 rfl rfl ?_
  refine V_aload_n o dX4_slotFor_32 rfl rfl ?_
  refine V_getR (t := 28) o dX4_slotFor_33 rfl fl_X4_15 rfl ?_
  refine V_iload_n o dX4_slotFor_36 rfl rfl ?_
  refine V_ialdE (v := nI (s)) 4 o dX4_slotFor_37 rfl rfl rfl (by omega) rfl g1 ?_
  refine V_idiv o dX4_slotFor_38 (nI_ne0 (by omega) hs9) ?_
  refine V_aload_n o dX4_slotFor_39 rfl rfl ?_
  refine V_getR (t := 27) o dX4_slotFor_40 rfl fl_X4_9 rfl ?_
  refine V_iload_n o dX4_slotFor_43 rfl rfl ?_
  refine V_ialdE (v := nI (z)) 4 o dX4_slotFor_44 rfl rfl rfl (by omega) rfl g2 ?_
  refine V_irem o dX4_slotFor_45 (nI_ne0 (by omega) (by omega)) ?_
  refine V_iret o rt dX4_slotFor_46 rfl rfl ?_
  exact ⟨rfl, rfl⟩
set_option maxRecDepth 20000 in
set_option maxHeartbeats 4000000 in
theorem c4_turnTime_26 {w : Wp} (hf : Fit sh0 w) {σ : Mm} {M : Nat → Int32} {L : Nat} (hS : ShR 26 M L σ) (hW : Wf M L) {lv due : Int32} (hlv : LvOk L lv) : Cf sh0 w 1 mX4_turnTime [.ref 26, .int lv, .int due] σ (some (.int (due / wyBy M L lv * wyBy M L lv))) σ := by
  obtain ⟨s, hs, hs1, hs2⟩ : ∃ s : Nat, wyBy M L lv = nI s ∧ 1 ≤ s ∧ s ≤ 65536 := by
    have hL := hW.2.2.1
    have hp : ∀ k, k ≤ 4 → 16 ^ k ≤ 65536 := fun k hk => Nat.le_trans (Nat.pow_le_pow_right (by omega) hk) (by decide)
    rcases hlv with rfl | ⟨j, hj, rfl⟩
    · obtain ⟨s, e, h1, h2⟩ := Wf_span hW L (Nat.le_refl _)
      exact ⟨s, by rw [wyBy, if_pos (by decide), e], h1, Nat.le_trans h2 (hp L hL)⟩
    · obtain ⟨s, e, h1, h2⟩ := Wf_span hW j (by omega)
      exact ⟨s, by rw [wyBy, if_neg (show ¬ nI j < 0 from Int32.not_lt.mpr (nI_le (a := 0) (Nat.zero_le _) (by omega))), ix_nI (by omega), e], h1, Nat.le_trans h2 (hp j (by omega))⟩
  have hc : Cf sh0 w 0 mX4_spanOf [.ref 26, .int lv] σ (some (.int (nI s))) σ := by
    rw [← hs]
    have hL := hW.2.2.1
    rcases hlv with rfl | ⟨j, hj, rfl⟩
    · rw [wyBy, if_pos (by decide)]
      exact c4_spanOf_n_26 hf hS (by decide)
    · rw [wyBy, if_neg (show ¬ nI j < 0 from Int32.not_lt.mpr (nI_le (a := 0) (Nat.zero_le _) (by omega))), ix_nI (by omega)]
      exact c4_spanOf_26 hf hS hL hj
  rw [hs]
  refine Ct_of hf (by decide) rfl (Nat.le_of_ble_eq_true rfl) (fun x o rt => ?_)
  refine V_aload_n o dX4_turnTime_0 rfl rfl ?_
  refine V_iload_n o dX4_turnTime_1 rfl rfl ?_
  refine V_cVi o rt dX4_turnTime_2 ml_X4_44 hc rfl rfl rfl (Nat.le_of_ble_eq_true rfl) rfl ?_
  refine V_istore_n (ls' := [(3, _), (0, _), (1, _), (2, _)]) o dX4_turnTime_5 rfl (by decide) rfl ?_
  refine V_iload_n o dX4_turnTime_6 rfl rfl ?_
  refine V_iconst (v := 1) o dX4_turnTime_7 (by decide) ?_
  refine V_icmp_ge (tgt := 15) o dX4_turnTime_8 (by decide) (fun c_8 => ?_) (fun c_8 => False.elim (c_8 (nI_le (a := 1) hs1 (by omega))))
  refine V_iload_n o dX4_turnTime_15 rfl rfl ?_
  refine V_iload_n o dX4_turnTime_16 rfl rfl ?_
  refine V_iload_n o dX4_turnTime_17 rfl rfl ?_
  refine V_irem o dX4_turnTime_18 (nI_ne0 (by omega) (by omega)) ?_
  refine V_isub o dX4_turnTime_19 ?_
  refine V_iret o rt dX4_turnTime_20 rfl rfl ?_
  exact ⟨by rw [sub_sub_same], rfl⟩
set_option maxRecDepth 20000 in
set_option maxHeartbeats 4000000 in
theorem c4_movesFrom_26 {w : Wp} (hf : Fit sh0 w) {σ : Mm} {M : Nat → Int32} {L : Nat} (hS : ShR 26 M L σ) (hW : Wf M L) {lv due : Int32} (hlv : LvOk L lv) {WL : List (Int32 × Int32)} (hWL : wyL M L due 5 lv = WL) : Cf sh0 w 2 mX4_movesFrom [.ref 26, .int lv, .int due] σ (some (.int (nI WL.length))) σ := by
  refine Ct_of hf (by decide) rfl (Nat.le_of_ble_eq_true rfl) (fun x o rt => ?_)
  have loop : ∀ n i on, i + n = 5 → LvOk L on → i + (wyL M L due n on).length = WL.length → V sh0 w x mX4_movesFrom (0, 0) 8 [(5, .int (nI i)), (4, .int on), (3, .int (nI i)), (0, .ref 26), (1, .int lv), (2, .int due)] [] σ := by
    intro n
    induction n with
    | zero =>
      intro i on hi hon hR
      have h5 : i = 5 := by omega
      have hR1 : i = WL.length := hR
      refine V_iload o dX4_movesFrom_8 rfl ?_
      refine V_iconst (v := 4) o dX4_movesFrom_10 (by decide) ?_
      refine V_icmp_gt (tgt := 43) o dX4_movesFrom_11 (by decide) (fun c_11 => ?_) (fun c_11 => False.elim (c_11 (by rw [h5]; decide)))
      refine V_iload_n o dX4_movesFrom_43 rfl rfl ?_
      refine V_iret o rt dX4_movesFrom_44 rfl rfl ?_
      exact ⟨by rw [← hR1], rfl⟩
    | succ n ih =>
      intro i on hi hon hR
      rw [wyL] at hR
      by_cases h0 : on = 0
      · rw [if_pos h0] at hR
        have hR1 : i = WL.length := hR
        refine V_iload o dX4_movesFrom_8 rfl ?_
        refine V_iconst (v := 4) o dX4_movesFrom_10 (by decide) ?_
        refine V_icmp_gt (tgt := 43) o dX4_movesFrom_11 (by decide) (fun c_11 => False.elim (absurd c_11 (Int32.not_lt.mpr (nI_le (b := 4) (by omega) (by omega))))) (fun c_11 => ?_)
        refine V_iload o dX4_movesFrom_14 rfl ?_
        refine V_if_eq (tgt := 43) o dX4_movesFrom_16 (by decide) (fun c_16 => ?_) (fun c_16 => False.elim (c_16 h0))
        refine V_iload_n o dX4_movesFrom_43 rfl rfl ?_
        refine V_iret o rt dX4_movesFrom_44 rfl rfl ?_
        exact ⟨by rw [← hR1], rfl⟩
      · rw [if_neg h0, List.length_cons] at hR
        refine V_iload o dX4_movesFrom_8 rfl ?_
        refine V_iconst (v := 4) o dX4_movesFrom_10 (by decide) ?_
        refine V_icmp_gt (tgt := 43) o dX4_movesFrom_11 (by decide) (fun c_11 => False.elim (absurd c_11 (Int32.not_lt.mpr (nI_le (b := 4) (by omega) (by omega))))) (fun c_11 => ?_)
        refine V_iload o dX4_movesFrom_14 rfl ?_
        refine V_if_eq (tgt := 43) o dX4_movesFrom_16 (by decide) (fun c_16 => False.elim (h0 c_16)) (fun c_16 => ?_)
        refine V_aload_n o dX4_movesFrom_19 rfl rfl ?_
        refine V_iload_n o dX4_movesFrom_20 rfl rfl ?_
        refine V_aload_n o dX4_movesFrom_21 rfl rfl ?_
        refine V_iload o dX4_movesFrom_22 rfl ?_
        refine V_iload_n o dX4_movesFrom_24 rfl rfl ?_
        refine V_cVi o rt dX4_movesFrom_25 ml_X4_47 (c4_turnTime_26 hf hS hW hon) rfl rfl rfl (Nat.le_of_ble_eq_true rfl) rfl ?_
        refine V_isub o dX4_movesFrom_28 ?_
        refine V_cVi o rt dX4_movesFrom_29 ml_X4_51 (c4_levelFor_26 hf hS hW.2.2.1 rfl) rfl rfl rfl (Nat.le_of_ble_eq_true rfl) rfl ?_
        refine V_istore (ls' := [(4, _), (5, _), (3, _), (0, _), (1, _), (2, _)]) o dX4_movesFrom_32 (by decide) rfl ?_
        refine V_iincV (v := nI (i + 1)) (ls' := [(3, _), (4, _), (5, _), (0, _), (1, _), (2, _)]) o dX4_movesFrom_34 rfl (ninc 1 rfl) (by decide) rfl ?_
        refine V_iincV (v := nI (i + 1)) (ls' := [(5, _), (3, _), (4, _), (0, _), (1, _), (2, _)]) o dX4_movesFrom_37 rfl (ninc 1 rfl) (by decide) rfl ?_
        refine V_goto (tgt := 8) o dX4_movesFrom_40 (by decide) ?_
        exact V_sub (by simp) (ih (i + 1) (lvF M (due - due / wyBy M L on * wyBy M L on) L 0) (by omega) LvOk_lvF (by omega))
  refine V_iconst (v := 0) o dX4_movesFrom_0 (by decide) ?_
  refine V_istore_n (ls' := [(3, _), (0, _), (1, _), (2, _)]) o dX4_movesFrom_1 rfl (by decide) rfl ?_
  refine V_iload_n o dX4_movesFrom_2 rfl rfl ?_
  refine V_istore (ls' := [(4, _), (3, _), (0, _), (1, _), (2, _)]) o dX4_movesFrom_3 (by decide) rfl ?_
  refine V_iconst (v := 0) o dX4_movesFrom_5 (by decide) ?_
  refine V_istore (ls' := [(5, _), (4, _), (3, _), (0, _), (1, _), (2, _)]) o dX4_movesFrom_6 (by decide) rfl ?_
  exact V_sub (by simp; rfl) (loop 5 0 lv (by omega) hlv (by rw [hWL]; omega))
set_option maxRecDepth 20000 in
set_option maxHeartbeats 4000000 in
theorem c4_sizeOf_48 {w : Wp} (hf : Fit sh0 w) {σ : Mm} {M : Nat → Int32} {L : Nat} (hS : ShR 48 M L σ) (hL : L ≤ 4) {k : Nat} (hk : k < 4) : Cf sh0 w 0 mX4_sizeOf [.ref 48, .int (nI k)] σ (some (.int (M (1 + k)))) σ := by
  refine Ct_of hf (by decide) rfl (Nat.le_of_ble_eq_true rfl) (fun x o rt => ?_)
  refine V_iload_n o dX4_sizeOf_0 rfl rfl ?_
  refine V_if_lt (tgt := 9) o dX4_sizeOf_1 (by decide) (fun c_1 => False.elim (absurd c_1 (Int32.not_lt.mpr (nI_le (a := 0) (Nat.zero_le _) (by omega))))) (fun c_1 => ?_)
  refine V_iload_n o dX4_sizeOf_4 rfl rfl ?_
  refine V_iconst (v := 4) o dX4_sizeOf_5 (by decide) ?_
  refine V_icmp_lt (tgt := 13) o dX4_sizeOf_6 (by decide) (fun c_6 => ?_) (fun c_6 => False.elim (c_6 (nI_lt (b := 4) (by omega) (by omega))))
  refine V_aload_n o dX4_sizeOf_13 rfl rfl ?_
  refine V_getR (t := 49) o dX4_sizeOf_14 rfl fl_X4_9 rfl ?_
  refine V_iload_n o dX4_sizeOf_17 rfl rfl ?_
  refine V_ialdN 4 o dX4_sizeOf_18 rfl rfl rfl (by omega) rfl ?_
  refine V_iret o rt dX4_sizeOf_19 rfl rfl ?_
  exact ⟨by rw [← hS.2.2.1 k hk], rfl⟩
set_option maxRecDepth 20000 in
set_option maxHeartbeats 4000000 in
theorem c4_spanOf_48 {w : Wp} (hf : Fit sh0 w) {σ : Mm} {M : Nat → Int32} {L : Nat} (hS : ShR 48 M L σ) (hL : L ≤ 4) {k : Nat} (hk : k < L) : Cf sh0 w 0 mX4_spanOf [.ref 48, .int (nI k)] σ (some (.int (spanM M k))) σ := by
  refine Ct_of hf (by decide) rfl (Nat.le_of_ble_eq_true rfl) (fun x o rt => ?_)
  refine V_iload_n o dX4_spanOf_0 rfl rfl ?_
  refine V_if_lt (tgt := 9) o dX4_spanOf_1 (by decide) (fun c_1 => False.elim (absurd c_1 (Int32.not_lt.mpr (nI_le (a := 0) (Nat.zero_le _) (by omega))))) (fun c_1 => ?_)
  refine V_iload_n o dX4_spanOf_4 rfl rfl ?_
  refine V_iconst (v := 4) o dX4_spanOf_5 (by decide) ?_
  refine V_icmp_lt (tgt := 16) o dX4_spanOf_6 (by decide) (fun c_6 => ?_) (fun c_6 => False.elim (c_6 (nI_lt (b := 4) (by omega) (by omega))))
  refine V_aload_n o dX4_spanOf_16 rfl rfl ?_
  refine V_getR (t := 50) o dX4_spanOf_17 rfl fl_X4_15 rfl ?_
  refine V_iload_n o dX4_spanOf_20 rfl rfl ?_
  refine V_ialdN 4 o dX4_spanOf_21 rfl rfl rfl (by omega) rfl ?_
  refine V_iret o rt dX4_spanOf_22 rfl rfl ?_
  exact ⟨by rw [← hS.2.2.2 k hk], rfl⟩
set_option maxRecDepth 20000 in
set_option maxHeartbeats 4000000 in
theorem c4_spanOf_n_48 {w : Wp} (hf : Fit sh0 w) {σ : Mm} {M : Nat → Int32} {L : Nat} (hS : ShR 48 M L σ) {k : Int32} (hk : k < 0) : Cf sh0 w 0 mX4_spanOf [.ref 48, .int k] σ (some (.int (spanM M L))) σ := by
  refine Ct_of hf (by decide) rfl (Nat.le_of_ble_eq_true rfl) (fun x o rt => ?_)
  refine V_iload_n o dX4_spanOf_0 rfl rfl ?_
  refine V_if_lt (tgt := 9) o dX4_spanOf_1 (by decide) (fun c_1 => ?_) (fun c_1 => False.elim (c_1 hk))
  refine V_aload_n o dX4_spanOf_9 rfl rfl ?_
  refine V_getI o dX4_spanOf_10 rfl fl_X4_37 rfl ?_
  refine V_goto (tgt := 22) o dX4_spanOf_13 (by decide) ?_
  refine V_iret o rt dX4_spanOf_22 rfl rfl ?_
  exact ⟨by rw [← hS.2.1], rfl⟩
set_option maxRecDepth 20000 in
set_option maxHeartbeats 4000000 in
theorem c4_hasLevel_48 {w : Wp} (hf : Fit sh0 w) {σ : Mm} {M : Nat → Int32} {L : Nat} (hS : ShR 48 M L σ) {k : Int32} : Cf sh0 w 1 mX4_hasLevel [.ref 48, .int k] σ (some (.int (bz (inR k 0 (nI L - 1))))) σ := by
  refine Ct_of hf (by decide) rfl (Nat.le_of_ble_eq_true rfl) (fun x o rt => ?_)
  refine V_iload_n o dX4_hasLevel_0 rfl rfl ?_
  refine V_iconst (v := 0) o dX4_hasLevel_1 (by decide) ?_
  refine V_aload_n o dX4_hasLevel_2 rfl rfl ?_
  refine V_getIE (v := nI (L)) o dX4_hasLevel_3 rfl fl_X4_33 rfl hS.1 ?_
  refine V_iconst (v := 1) o dX4_hasLevel_6 (by decide) ?_
  refine V_isub o dX4_hasLevel_7 ?_
  refine V_cSNi o rt dX4_hasLevel_8 ms_X4_25 (c8_isWithin hf) rfl rfl (Nat.le_of_ble_eq_true rfl) rfl ?_
  refine V_iret o rt dX4_hasLevel_11 rfl (by first | rfl | exact bz_z) ?_
  exact ⟨rfl, rfl⟩
set_option maxRecDepth 20000 in
set_option maxHeartbeats 4000000 in
theorem c4_levelFor_48 {w : Wp} (hf : Fit sh0 w) {σ : Mm} {M : Nat → Int32} {L : Nat} (hS : ShR 48 M L σ) (hL : L ≤ 4) {d R : Int32} (hR0 : lvF M d L 0 = R) : Cf sh0 w 0 mX4_levelFor [.ref 48, .int d] σ (some (.int R)) σ := by
  refine Ct_of hf (by decide) rfl (Nat.le_of_ble_eq_true rfl) (fun x o rt => ?_)
  have loop : ∀ n k, k + n = L → lvF M d n k = R → V sh0 w x mX4_levelFor (0, 0) 2 [(2, .int (nI k)), (0, .ref 48), (1, .int d)] [] σ := by
    intro n
    induction n with
    | zero =>
      intro k hk hR
      have hkL : k = L := by omega
      have hR1 : (-1 : Int32) = R := hR
      subst hR1
      refine V_iload_n o dX4_levelFor_2 rfl rfl ?_
      refine V_aload_n o dX4_levelFor_3 rfl rfl ?_
      refine V_getIE (v := nI (L)) o dX4_levelFor_4 rfl fl_X4_33 rfl hS.1 ?_
      refine V_icmp_ge (tgt := 40) o dX4_levelFor_7 (by decide) (fun c_7 => ?_) (fun c_7 => False.elim (c_7 (by rw [hkL]; exact Int32.le_refl _)))
      refine V_iconst (v := -1) o dX4_levelFor_40 (by decide) ?_
      refine V_iret o rt dX4_levelFor_41 rfl rfl ?_
      exact ⟨rfl, rfl⟩
    | succ n ih =>
      intro k hk hR
      have e1 : σ.1 49 k * σ.1 50 k = spanM M (k + 1) := by rw [span_last, ← hS.2.2.1 k (by omega), ← hS.2.2.2 k (by omega)]
      rw [lvF] at hR
      refine V_iload_n o dX4_levelFor_2 rfl rfl ?_
      refine V_aload_n o dX4_levelFor_3 rfl rfl ?_
      refine V_getIE (v := nI (L)) o dX4_levelFor_4 rfl fl_X4_33 rfl hS.1 ?_
      refine V_icmp_ge (tgt := 40) o dX4_levelFor_7 (by decide) (fun c_7 => False.elim (absurd c_7 (nI_ge (by omega) (by omega)))) (fun c_7 => ?_)
      refine V_iload_n o dX4_levelFor_10 rfl rfl ?_
      refine V_iconst (v := 4) o dX4_levelFor_11 (by decide) ?_
      refine V_icmp_ge (tgt := 40) o dX4_levelFor_12 (by decide) (fun c_12 => False.elim (absurd c_12 (nI_ge (b := 4) (by omega) (by omega)))) (fun c_12 => ?_)
      refine V_aload_n o dX4_levelFor_15 rfl rfl ?_
      refine V_getR (t := 49) o dX4_levelFor_16 rfl fl_X4_9 rfl ?_
      refine V_iload_n o dX4_levelFor_19 rfl rfl ?_
      refine V_ialdN 4 o dX4_levelFor_20 rfl rfl rfl (by omega) rfl ?_
      refine V_aload_n o dX4_levelFor_21 rfl rfl ?_
      refine V_getR (t := 50) o dX4_levelFor_22 rfl fl_X4_15 rfl ?_
      refine V_iload_n o dX4_levelFor_25 rfl rfl ?_
      refine V_ialdN 4 o dX4_levelFor_26 rfl rfl rfl (by omega) rfl ?_
      refine V_imul o dX4_levelFor_27 ?_
      refine V_topI (v' := spanM M (k + 1)) e1 ?_
      refine V_iload_n o dX4_levelFor_28 rfl rfl ?_
      refine V_icmp_le (tgt := 34) o dX4_levelFor_29 (by decide) (fun c_29 => ?_) (fun c_29 => ?_)
      · refine V_iincV (v := nI (k + 1)) (ls' := [(2, _), (0, _), (1, _)]) o dX4_levelFor_34 rfl (ninc 1 rfl) (by decide) rfl ?_
        refine V_goto (tgt := 2) o dX4_levelFor_37 (by decide) ?_
        rw [if_neg (Int32.not_lt.mpr c_29)] at hR
        exact ih (k + 1) (by omega) hR
      · refine V_iload_n o dX4_levelFor_32 rfl rfl ?_
        refine V_iret o rt dX4_levelFor_33 rfl rfl ?_
        rw [if_pos (Int32.not_le.mp c_29)] at hR
        subst hR
        exact ⟨rfl, rfl⟩
  refine V_iconst (v := 0) o dX4_levelFor_0 (by decide) ?_
  refine V_istore_n (ls' := [(2, _), (0, _), (1, _)]) o dX4_levelFor_1 rfl (by decide) rfl ?_
  exact V_sub (by simp; rfl) (loop L 0 (by omega) hR0)
set_option maxRecDepth 20000 in
set_option maxHeartbeats 4000000 in
theorem c4_slotFor_48 {w : Wp} (hf : Fit sh0 w) {σ : Mm} {M : Nat → Int32} {L : Nat} (hS : ShR 48 M L σ) (hW : Wf M L) {k : Nat} (hk : k < L) {v : Int32} : Cf sh0 w 0 mX4_slotFor [.ref 48, .int (nI k), .int v] σ (some (.int (rmI (v / spanM M k) (M (1 + k))))) σ := by
  obtain ⟨s, hs, hs1, hs2⟩ := Wf_span hW k (by omega)
  obtain ⟨z, hz, hz1, hz2⟩ := hW.2.2.2 k hk
  have hL := hW.2.2.1
  have hs3 : s ≤ 16 ^ 4 := Nat.le_trans hs2 (Nat.pow_le_pow_right (by omega) (by omega))
  have hs9 : s < 2147483648 := Nat.lt_of_le_of_lt hs3 (by decide)
  have g1 : σ.1 50 k = nI s := (hS.2.2.2 k hk).trans hs
  have g2 : σ.1 49 k = nI z := (hS.2.2.1 k (by omega)).trans hz
  rw [hs, hz]
  refine Ct_of hf (by decide) rfl (Nat.le_of_ble_eq_true rfl) (fun x o rt => ?_)
  refine V_iload_n o dX4_slotFor_0 rfl rfl ?_
  refine V_if_lt (tgt := 29) o dX4_slotFor_1 (by decide) (fun c_1 => False.elim (absurd c_1 (Int32.not_lt.mpr (nI_le (a := 0) (Nat.zero_le _) (by omega))))) (fun c_1 => ?_)
  refine V_iload_n o dX4_slotFor_4 rfl rfl ?_
  refine V_iconst (v := 4) o dX4_slotFor_5 (by decide) ?_
  refine V_icmp_ge (tgt := 29) o dX4_slotFor_6 (by decide) (fun c_6 => False.elim (absurd c_6 (nI_ge (b := 4) (by omega) (by omega)))) (fun c_6 => ?_)
  refine V_aload_n o dX4_slotFor_9 rfl rfl ?_
  refine V_getR (t := 50) o dX4_slotFor_10 rfl fl_X4_15 rfl ?_
  refine V_iload_n o dX4_slotFor_13 rfl rfl ?_
  refine V_ialdE (v := nI (s)) 4 o dX4_slotFor_14 rfl rfl rfl (by omega) rfl g1 ?_
  refine V_iconst (v := 1) o dX4_slotFor_15 (by decide) ?_
  refine V_icmp_lt (tgt := 29) o dX4_slotFor_16 (by decide) (fun c_16 => False.elim (absurd c_16 (Int32.not_lt.mpr (nI_le (a := 1) hs1 hs9)))) (fun c_16 => ?_)
  refine V_aload_n o dX4_slotFor_19 rfl rfl ?_
  refine V_getR (t := 49) o dX4_slotFor_20 rfl fl_X4_9 rfl ?_
  refine V_iload_n o dX4_slotFor_23 rfl rfl ?_
  refine V_ialdE (v := nI (z)) 4 o dX4_slotFor_24 rfl rfl rfl (by omega) rfl g2 ?_
  refine V_iconst (v := 1) o dX4_slotFor_25 (by decide) ?_
  refine V_icmp_ge (tgt := 31) o dX4_slotFor_26 (by decide) (fun c_26 => ?_) (fun c_26 => False.elim (c_26 (nI_le (a := 1) (by omega) (by omega))))
  refine V_iload_n o dX4_slotFor_31 rfl rfl ?_
  refine V_aload_n o dX4_slotFor_32 rfl rfl ?_
  refine V_getR (t := 50) o dX4_slotFor_33 rfl fl_X4_15 rfl ?_
  refine V_iload_n o dX4_slotFor_36 rfl rfl ?_
  refine V_ialdE (v := nI (s)) 4 o dX4_slotFor_37 rfl rfl rfl (by omega) rfl g1 ?_
  refine V_idiv o dX4_slotFor_38 (nI_ne0 (by omega) hs9) ?_
  refine V_aload_n o dX4_slotFor_39 rfl rfl ?_
  refine V_getR (t := 49) o dX4_slotFor_40 rfl fl_X4_9 rfl ?_
  refine V_iload_n o dX4_slotFor_43 rfl rfl ?_
  refine V_ialdE (v := nI (z)) 4 o dX4_slotFor_44 rfl rfl rfl (by omega) rfl g2 ?_
  refine V_irem o dX4_slotFor_45 (nI_ne0 (by omega) (by omega)) ?_
  refine V_iret o rt dX4_slotFor_46 rfl rfl ?_
  exact ⟨rfl, rfl⟩
set_option maxRecDepth 20000 in
set_option maxHeartbeats 4000000 in
theorem c4_turnTime_48 {w : Wp} (hf : Fit sh0 w) {σ : Mm} {M : Nat → Int32} {L : Nat} (hS : ShR 48 M L σ) (hW : Wf M L) {lv due : Int32} (hlv : LvOk L lv) : Cf sh0 w 1 mX4_turnTime [.ref 48, .int lv, .int due] σ (some (.int (due / wyBy M L lv * wyBy M L lv))) σ := by
  obtain ⟨s, hs, hs1, hs2⟩ : ∃ s : Nat, wyBy M L lv = nI s ∧ 1 ≤ s ∧ s ≤ 65536 := by
    have hL := hW.2.2.1
    have hp : ∀ k, k ≤ 4 → 16 ^ k ≤ 65536 := fun k hk => Nat.le_trans (Nat.pow_le_pow_right (by omega) hk) (by decide)
    rcases hlv with rfl | ⟨j, hj, rfl⟩
    · obtain ⟨s, e, h1, h2⟩ := Wf_span hW L (Nat.le_refl _)
      exact ⟨s, by rw [wyBy, if_pos (by decide), e], h1, Nat.le_trans h2 (hp L hL)⟩
    · obtain ⟨s, e, h1, h2⟩ := Wf_span hW j (by omega)
      exact ⟨s, by rw [wyBy, if_neg (show ¬ nI j < 0 from Int32.not_lt.mpr (nI_le (a := 0) (Nat.zero_le _) (by omega))), ix_nI (by omega), e], h1, Nat.le_trans h2 (hp j (by omega))⟩
  have hc : Cf sh0 w 0 mX4_spanOf [.ref 48, .int lv] σ (some (.int (nI s))) σ := by
    rw [← hs]
    have hL := hW.2.2.1
    rcases hlv with rfl | ⟨j, hj, rfl⟩
    · rw [wyBy, if_pos (by decide)]
      exact c4_spanOf_n_48 hf hS (by decide)
    · rw [wyBy, if_neg (show ¬ nI j < 0 from Int32.not_lt.mpr (nI_le (a := 0) (Nat.zero_le _) (by omega))), ix_nI (by omega)]
      exact c4_spanOf_48 hf hS hL hj
  rw [hs]
  refine Ct_of hf (by decide) rfl (Nat.le_of_ble_eq_true rfl) (fun x o rt => ?_)
  refine V_aload_n o dX4_turnTime_0 rfl rfl ?_
  refine V_iload_n o dX4_turnTime_1 rfl rfl ?_
  refine V_cVi o rt dX4_turnTime_2 ml_X4_44 hc rfl rfl rfl (Nat.le_of_ble_eq_true rfl) rfl ?_
  refine V_istore_n (ls' := [(3, _), (0, _), (1, _), (2, _)]) o dX4_turnTime_5 rfl (by decide) rfl ?_
  refine V_iload_n o dX4_turnTime_6 rfl rfl ?_
  refine V_iconst (v := 1) o dX4_turnTime_7 (by decide) ?_
  refine V_icmp_ge (tgt := 15) o dX4_turnTime_8 (by decide) (fun c_8 => ?_) (fun c_8 => False.elim (c_8 (nI_le (a := 1) hs1 (by omega))))
  refine V_iload_n o dX4_turnTime_15 rfl rfl ?_
  refine V_iload_n o dX4_turnTime_16 rfl rfl ?_
  refine V_iload_n o dX4_turnTime_17 rfl rfl ?_
  refine V_irem o dX4_turnTime_18 (nI_ne0 (by omega) (by omega)) ?_
  refine V_isub o dX4_turnTime_19 ?_
  refine V_iret o rt dX4_turnTime_20 rfl rfl ?_
  exact ⟨by rw [sub_sub_same], rfl⟩
set_option maxRecDepth 20000 in
set_option maxHeartbeats 4000000 in
theorem c4_movesFrom_48 {w : Wp} (hf : Fit sh0 w) {σ : Mm} {M : Nat → Int32} {L : Nat} (hS : ShR 48 M L σ) (hW : Wf M L) {lv due : Int32} (hlv : LvOk L lv) {WL : List (Int32 × Int32)} (hWL : wyL M L due 5 lv = WL) : Cf sh0 w 2 mX4_movesFrom [.ref 48, .int lv, .int due] σ (some (.int (nI WL.length))) σ := by
  refine Ct_of hf (by decide) rfl (Nat.le_of_ble_eq_true rfl) (fun x o rt => ?_)
  have loop : ∀ n i on, i + n = 5 → LvOk L on → i + (wyL M L due n on).length = WL.length → V sh0 w x mX4_movesFrom (0, 0) 8 [(5, .int (nI i)), (4, .int on), (3, .int (nI i)), (0, .ref 48), (1, .int lv), (2, .int due)] [] σ := by
    intro n
    induction n with
    | zero =>
      intro i on hi hon hR
      have h5 : i = 5 := by omega
      have hR1 : i = WL.length := hR
      refine V_iload o dX4_movesFrom_8 rfl ?_
      refine V_iconst (v := 4) o dX4_movesFrom_10 (by decide) ?_
      refine V_icmp_gt (tgt := 43) o dX4_movesFrom_11 (by decide) (fun c_11 => ?_) (fun c_11 => False.elim (c_11 (by rw [h5]; decide)))
      refine V_iload_n o dX4_movesFrom_43 rfl rfl ?_
      refine V_iret o rt dX4_movesFrom_44 rfl rfl ?_
      exact ⟨by rw [← hR1], rfl⟩
    | succ n ih =>
      intro i on hi hon hR
      rw [wyL] at hR
      by_cases h0 : on = 0
      · rw [if_pos h0] at hR
        have hR1 : i = WL.length := hR
        refine V_iload o dX4_movesFrom_8 rfl ?_
        refine V_iconst (v := 4) o dX4_movesFrom_10 (by decide) ?_
        refine V_icmp_gt (tgt := 43) o dX4_movesFrom_11 (by decide) (fun c_11 => False.elim (absurd c_11 (Int32.not_lt.mpr (nI_le (b := 4) (by omega) (by omega))))) (fun c_11 => ?_)
        refine V_iload o dX4_movesFrom_14 rfl ?_
        refine V_if_eq (tgt := 43) o dX4_movesFrom_16 (by decide) (fun c_16 => ?_) (fun c_16 => False.elim (c_16 h0))
        refine V_iload_n o dX4_movesFrom_43 rfl rfl ?_
        refine V_iret o rt dX4_movesFrom_44 rfl rfl ?_
        exact ⟨by rw [← hR1], rfl⟩
      · rw [if_neg h0, List.length_cons] at hR
        refine V_iload o dX4_movesFrom_8 rfl ?_
        refine V_iconst (v := 4) o dX4_movesFrom_10 (by decide) ?_
        refine V_icmp_gt (tgt := 43) o dX4_movesFrom_11 (by decide) (fun c_11 => False.elim (absurd c_11 (Int32.not_lt.mpr (nI_le (b := 4) (by omega) (by omega))))) (fun c_11 => ?_)
        refine V_iload o dX4_movesFrom_14 rfl ?_
        refine V_if_eq (tgt := 43) o dX4_movesFrom_16 (by decide) (fun c_16 => False.elim (h0 c_16)) (fun c_16 => ?_)
        refine V_aload_n o dX4_movesFrom_19 rfl rfl ?_
        refine V_iload_n o dX4_movesFrom_20 rfl rfl ?_
        refine V_aload_n o dX4_movesFrom_21 rfl rfl ?_
        refine V_iload o dX4_movesFrom_22 rfl ?_
        refine V_iload_n o dX4_movesFrom_24 rfl rfl ?_
        refine V_cVi o rt dX4_movesFrom_25 ml_X4_47 (c4_turnTime_48 hf hS hW hon) rfl rfl rfl (Nat.le_of_ble_eq_true rfl) rfl ?_
        refine V_isub o dX4_movesFrom_28 ?_
        refine V_cVi o rt dX4_movesFrom_29 ml_X4_51 (c4_levelFor_48 hf hS hW.2.2.1 rfl) rfl rfl rfl (Nat.le_of_ble_eq_true rfl) rfl ?_
        refine V_istore (ls' := [(4, _), (5, _), (3, _), (0, _), (1, _), (2, _)]) o dX4_movesFrom_32 (by decide) rfl ?_
        refine V_iincV (v := nI (i + 1)) (ls' := [(3, _), (4, _), (5, _), (0, _), (1, _), (2, _)]) o dX4_movesFrom_34 rfl (ninc 1 rfl) (by decide) rfl ?_
        refine V_iincV (v := nI (i + 1)) (ls' := [(5, _), (3, _), (4, _), (0, _), (1, _), (2, _)]) o dX4_movesFrom_37 rfl (ninc 1 rfl) (by decide) rfl ?_
        refine V_goto (tgt := 8) o dX4_movesFrom_40 (by decide) ?_
        exact V_sub (by simp) (ih (i + 1) (lvF M (due - due / wyBy M L on * wyBy M L on) L 0) (by omega) LvOk_lvF (by omega))
  refine V_iconst (v := 0) o dX4_movesFrom_0 (by decide) ?_
  refine V_istore_n (ls' := [(3, _), (0, _), (1, _), (2, _)]) o dX4_movesFrom_1 rfl (by decide) rfl ?_
  refine V_iload_n o dX4_movesFrom_2 rfl rfl ?_
  refine V_istore (ls' := [(4, _), (3, _), (0, _), (1, _), (2, _)]) o dX4_movesFrom_3 (by decide) rfl ?_
  refine V_iconst (v := 0) o dX4_movesFrom_5 (by decide) ?_
  refine V_istore (ls' := [(5, _), (4, _), (3, _), (0, _), (1, _), (2, _)]) o dX4_movesFrom_6 (by decide) rfl ?_
  exact V_sub (by simp; rfl) (loop 5 0 lv (by omega) hlv (by rw [hWL]; omega))
