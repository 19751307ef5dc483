set_option maxRecDepth 20000 in
set_option maxHeartbeats 4000000 in
theorem c9_isTm {w : Wp} (hf : Fit sh0 w) {σ : Mm} {d : Nat} {M : Nat → Int32} (hd : σ.1 67 8 = nI d) (hd4 : d ≤ 423) {k : Int32} : Cf sh0 w 1 mX9_isTimer [.ref 67, .int k] (sM σ d M) (some (.int (bz (isTm M k)))) (sM σ d M) := by
  by_cases h : inR k 0 15
  · have hx := isTm_ix h
    have e : bz (isTm M k) = bz (isT M (ix k)) := bz_congr ⟨fun q => q.2, fun q => ⟨h, q⟩⟩
    rw [e]
    exact c9_isTimer hf hd hd4 hx.1 hx.2
  · rw [bz_f (fun q : isTm M k => h q.1)]
    exact c9_isTimer_out hf hd hd4 h
set_option maxRecDepth 20000 in
set_option maxHeartbeats 4000000 in
theorem c9_order {w : Wp} (hf : Fit sh0 w) {σ : Mm} {M : Nat → Int32} (hd : σ.1 67 8 = nI 0) {k : Int32} : Cf sh0 w 1 mX9_order [.ref 67, .int k] (sM σ 0 M) (some (.int (orderR M k))) (sM (wI σ 67 0 0) 0 (orderM M k)) := by
  refine Ct_of hf (by decide) rfl (Nat.le_of_ble_eq_true rfl) (fun x o rt => ?_)
  have hd4 : 0 ≤ 423 := Nat.zero_le _
  have hb := (in_lo (k := k) (lo := 0) (hi := 2) (l := 0) (h := 2) (by decide) (by decide))
  refine V_aload_n o dX9_order_0 rfl rfl ?_
  refine V_iconst (v := 0) o dX9_order_1 (by decide) ?_
  refine V_putI o dX9_order_2 rfl fl_X9_1 rfl rfl rfl ?_
  rw [wI_sM67]
  refine V_iload_n o dX9_order_5 rfl rfl ?_
  refine V_i2l o dX9_order_6 ?_
  refine V_lconst (v := 0) o dX9_order_7 (by decide) ?_
  refine V_ldc2 o dX9_order_8 kc_X9_169 ?_
  refine V_cSi o rt dX9_order_11 ms_X9_21 (c9_in hf) rfl rfl (Nat.le_of_ble_eq_true rfl) rfl ?_
  refine V_if_ne (tgt := 19) o dX9_order_14 (by decide) (fun c_14 => ?_) (fun c_14 => ?_)
  · refine V_aload_n o dX9_order_19 rfl rfl ?_
    refine V_iconst (v := 5) o dX9_order_20 (by decide) ?_
    refine V_cVi o rt dX9_order_21 ml_X9_85 (c9_of hf (by exact hd) (show (5 : Int32) = nI 5 from rfl) (by omega)) rfl rfl rfl (Nat.le_of_ble_eq_true rfl) rfl ?_
    refine V_istore_n (ls' := [(2, _), (0, _), (1, _)]) o dX9_order_24 rfl (by decide) rfl ?_
    refine V_iload_n o dX9_order_25 rfl rfl ?_
    refine V_iload_n o dX9_order_26 rfl rfl ?_
    refine V_icmp_ne (tgt := 33) o dX9_order_27 (by decide) (fun c_27 => ?_) (fun c_27 => ?_)
    · refine V_aload_n o dX9_order_33 rfl rfl ?_
      refine V_iconst (v := 5) o dX9_order_34 (by decide) ?_
      refine V_iload_n o dX9_order_35 rfl rfl ?_
      refine V_cVv o rt dX9_order_36 ml_X9_76 (c9_puts hf (by exact hd) (show (5 : Int32) = nI 5 from rfl) (by omega)) rfl rfl rfl (Nat.le_of_ble_eq_true rfl) rfl ?_
      refine V_iload_n o dX9_order_39 rfl rfl ?_
      refine V_iret o rt dX9_order_40 rfl rfl ?_
      have h : inR k 0 2 := hb.mp (bz_n0.mp c_14)
      exact ⟨by rw [orderR, if_pos h, if_neg c_27], by rw [orderM, if_pos ⟨h, c_27⟩]⟩
    · refine V_bipush (v := -2) o dX9_order_30 (by decide) ?_
      refine V_iret o rt dX9_order_32 rfl rfl ?_
      have h : inR k 0 2 := hb.mp (bz_n0.mp c_14)
      exact ⟨by rw [orderR, if_pos h, if_pos c_27], by rw [orderM, if_neg (fun q => q.2 c_27)]⟩
  · refine V_iconst (v := -1) o dX9_order_17 (by decide) ?_
    refine V_iret o rt dX9_order_18 rfl rfl ?_
    have h : ¬ inR k 0 2 := fun h => bz_0.mp c_14 (hb.mpr h)
    exact ⟨by rw [orderR, if_neg h], by rw [orderM, if_neg (fun q => h q.1)]⟩
theorem setsC_dec (dl gr so pe ti : Int32) : setsC dl gr so pe ti ∨ ¬ setsC dl gr so pe ti := Classical.em _
set_option maxRecDepth 20000 in
set_option maxHeartbeats 4000000 in
theorem c9_sets {w : Wp} (hf : Fit sh0 w) {σ : Mm} {M : Nat → Int32} (hd : σ.1 67 8 = nI 0) {L : Nat} (hW : Wf M L) {dl gr so pe ti : Int32} (hc : setsC dl gr so pe ti) : Cf sh0 w 5 mX9_sets [.ref 67, .int dl, .int gr, .int so, .int pe, .int ti] (sM σ 0 M) (some (.int (setR M))) (sM (wI σ 67 0 0) 0 (setsM M L dl gr so pe ti)) := by
  refine Ct_of hf (by decide) rfl (Nat.le_of_ble_eq_true rfl) (fun x o rt => ?_)
  refine V_aload_n o dX9_sets_0 rfl rfl ?_
  refine V_iconst (v := 0) o dX9_sets_1 (by decide) ?_
  refine V_putI o dX9_sets_2 rfl fl_X9_1 rfl rfl rfl ?_
  rw [wI_sM67]
  refine V_iload_n o dX9_sets_5 rfl rfl ?_
  refine V_i2l o dX9_sets_6 ?_
  refine V_lconst (v := 1) o dX9_sets_7 (by decide) ?_
  refine V_ldc2 o dX9_sets_8 kc_X9_193 ?_
  refine V_cSi o rt dX9_sets_11 ms_X9_21 (c9_in hf) rfl rfl (Nat.le_of_ble_eq_true rfl) rfl ?_
  refine V_if_eq (tgt := 67) o dX9_sets_14 (by decide) (fun c_14 => False.elim (bz_0.mp c_14 ((in_lo (k := dl) (lo := 1) (hi := 1000000) (l := 1) (h := 1000000) (by decide) (by decide)).mpr hc.1))) (fun c_14 => ?_)
  refine V_iload_n o dX9_sets_17 rfl rfl ?_
  refine V_i2l o dX9_sets_18 ?_
  refine V_lconst (v := 0) o dX9_sets_19 (by decide) ?_
  refine V_ldc2 o dX9_sets_20 kc_X9_201 ?_
  refine V_cSi o rt dX9_sets_23 ms_X9_21 (c9_in hf) rfl rfl (Nat.le_of_ble_eq_true rfl) rfl ?_
  refine V_if_eq (tgt := 67) o dX9_sets_26 (by decide) (fun c_26 => False.elim (bz_0.mp c_26 ((in_lo (k := gr) (lo := 0) (hi := 7) (l := 0) (h := 7) (by decide) (by decide)).mpr hc.2.1))) (fun c_26 => ?_)
  refine V_iload_n o dX9_sets_29 rfl rfl ?_
  refine V_i2l o dX9_sets_30 ?_
  refine V_lconst (v := 0) o dX9_sets_31 (by decide) ?_
  refine V_ldc2 o dX9_sets_32 kc_X9_203 ?_
  refine V_cSi o rt dX9_sets_35 ms_X9_21 (c9_in hf) rfl rfl (Nat.le_of_ble_eq_true rfl) rfl ?_
  refine V_if_eq (tgt := 67) o dX9_sets_38 (by decide) (fun c_38 => False.elim (bz_0.mp c_38 ((in_lo (k := so) (lo := 0) (hi := 3) (l := 0) (h := 3) (by decide) (by decide)).mpr hc.2.2.1))) (fun c_38 => ?_)
  refine V_iload o dX9_sets_41 rfl ?_
  refine V_i2l o dX9_sets_43 ?_
  refine V_lconst (v := 1) o dX9_sets_44 (by decide) ?_
  refine V_ldc2 o dX9_sets_45 kc_X9_205 ?_
  refine V_cSi o rt dX9_sets_48 ms_X9_21 (c9_in hf) rfl rfl (Nat.le_of_ble_eq_true rfl) rfl ?_
  refine V_if_eq (tgt := 67) o dX9_sets_51 (by decide) (fun c_51 => False.elim (bz_0.mp c_51 ((in_lo (k := pe) (lo := 1) (hi := 1000) (l := 1) (h := 1000) (by decide) (by decide)).mpr hc.2.2.2.1))) (fun c_51 => ?_)
  refine V_iload o dX9_sets_54 rfl ?_
  refine V_i2l o dX9_sets_56 ?_
  refine V_lconst (v := 0) o dX9_sets_57 (by decide) ?_
  refine V_ldc2 o dX9_sets_58 kc_X9_207 ?_
  refine V_cSi o rt dX9_sets_61 ms_X9_21 (c9_in hf) rfl rfl (Nat.le_of_ble_eq_true rfl) rfl ?_
  refine V_if_ne (tgt := 69) o dX9_sets_64 (by decide) (fun c_64 => ?_) (fun c_64 => False.elim (bz_n0.mpr ((in_lo (k := ti) (lo := 0) (hi := 99) (l := 0) (h := 99) (by decide) (by decide)).mpr hc.2.2.2.2) c_64))
  refine V_aload_n o dX9_sets_69 rfl rfl ?_
  refine V_iload_n o dX9_sets_70 rfl rfl ?_
  refine V_iload_n o dX9_sets_71 rfl rfl ?_
  refine V_iload_n o dX9_sets_72 rfl rfl ?_
  refine V_iload o dX9_sets_73 rfl ?_
  refine V_iload o dX9_sets_75 rfl ?_
  refine V_cVi o rt dX9_sets_77 ml_X9_209 (c9_setsOne hf (by exact hd) (Nat.zero_le 423) hW) rfl rfl rfl (Nat.le_of_ble_eq_true rfl) rfl ?_
  refine V_iret o rt dX9_sets_80 rfl rfl ?_
  exact ⟨rfl, rfl⟩
set_option maxRecDepth 20000 in
set_option maxHeartbeats 4000000 in
theorem c9_sets_no {w : Wp} (hf : Fit sh0 w) {σ : Mm} {M : Nat → Int32} (hd : σ.1 67 8 = nI 0) {dl gr so pe ti : Int32} (hc : ¬ setsC dl gr so pe ti) : Cf sh0 w 5 mX9_sets [.ref 67, .int dl, .int gr, .int so, .int pe, .int ti] (sM σ 0 M) (some (.int (-1))) (sM (wI σ 67 0 0) 0 M) := by
  refine Ct_of hf (by decide) rfl (Nat.le_of_ble_eq_true rfl) (fun x o rt => ?_)
  refine V_aload_n o dX9_sets_0 rfl rfl ?_
  refine V_iconst (v := 0) o dX9_sets_1 (by decide) ?_
  refine V_putI o dX9_sets_2 rfl fl_X9_1 rfl rfl rfl ?_
  rw [wI_sM67]
  refine V_iload_n o dX9_sets_5 rfl rfl ?_
  refine V_i2l o dX9_sets_6 ?_
  refine V_lconst (v := 1) o dX9_sets_7 (by decide) ?_
  refine V_ldc2 o dX9_sets_8 kc_X9_193 ?_
  refine V_cSi o rt dX9_sets_11 ms_X9_21 (c9_in hf) rfl rfl (Nat.le_of_ble_eq_true rfl) rfl ?_
  refine V_if_eq (tgt := 67) o dX9_sets_14 (by decide) (fun c_14 => ?_) (fun c_14 => ?_)
  · refine V_iconst (v := -1) o dX9_sets_67 (by decide) ?_
    refine V_iret o rt dX9_sets_68 rfl rfl ?_
    exact ⟨rfl, rfl⟩
  · refine V_iload_n o dX9_sets_17 rfl rfl ?_
    refine V_i2l o dX9_sets_18 ?_
    refine V_lconst (v := 0) o dX9_sets_19 (by decide) ?_
    refine V_ldc2 o dX9_sets_20 kc_X9_201 ?_
    refine V_cSi o rt dX9_sets_23 ms_X9_21 (c9_in hf) rfl rfl (Nat.le_of_ble_eq_true rfl) rfl ?_
    refine V_if_eq (tgt := 67) o dX9_sets_26 (by decide) (fun c_26 => ?_) (fun c_26 => ?_)
    · refine V_iconst (v := -1) o dX9_sets_67 (by decide) ?_
      refine V_iret o rt dX9_sets_68 rfl rfl ?_
      exact ⟨rfl, rfl⟩
    · refine V_iload_n o dX9_sets_29 rfl rfl ?_
      refine V_i2l o dX9_sets_30 ?_
      refine V_lconst (v := 0) o dX9_sets_31 (by decide) ?_
      refine V_ldc2 o dX9_sets_32 kc_X9_203 ?_
      refine V_cSi o rt dX9_sets_35 ms_X9_21 (c9_in hf) rfl rfl (Nat.le_of_ble_eq_true rfl) rfl ?_
      refine V_if_eq (tgt := 67) o dX9_sets_38 (by decide) (fun c_38 => ?_) (fun c_38 => ?_)
      · refine V_iconst (v := -1) o dX9_sets_67 (by decide) ?_
        refine V_iret o rt dX9_sets_68 rfl rfl ?_
        exact ⟨rfl, rfl⟩
      · refine V_iload o dX9_sets_41 rfl ?_
        refine V_i2l o dX9_sets_43 ?_
        refine V_lconst (v := 1) o dX9_sets_44 (by decide) ?_
        refine V_ldc2 o dX9_sets_45 kc_X9_205 ?_
        refine V_cSi o rt dX9_sets_48 ms_X9_21 (c9_in hf) rfl rfl (Nat.le_of_ble_eq_true rfl) rfl ?_
        refine V_if_eq (tgt := 67) o dX9_sets_51 (by decide) (fun c_51 => ?_) (fun c_51 => ?_)
        · refine V_iconst (v := -1) o dX9_sets_67 (by decide) ?_
          refine V_iret o rt dX9_sets_68 rfl rfl ?_
          exact ⟨rfl, rfl⟩
        · refine V_iload o dX9_sets_54 rfl ?_
          refine V_i2l o dX9_sets_56 ?_
          refine V_lconst (v := 0) o dX9_sets_57 (by decide) ?_
          refine V_ldc2 o dX9_sets_58 kc_X9_207 ?_
          refine V_cSi o rt dX9_sets_61 ms_X9_21 (c9_in hf) rfl rfl (Nat.le_of_ble_eq_true rfl) rfl ?_
          refine V_if_ne (tgt := 69) o dX9_sets_64 (by decide) (fun c_64 => False.elim (hc ⟨(in_lo (k := dl) (lo := 1) (hi := 1000000) (l := 1) (h := 1000000) (by decide) (by decide)).mp (bz_n0.mp c_14), (in_lo (k := gr) (lo := 0) (hi := 7) (l := 0) (h := 7) (by decide) (by decide)).mp (bz_n0.mp c_26), (in_lo (k := so) (lo := 0) (hi := 3) (l := 0) (h := 3) (by decide) (by decide)).mp (bz_n0.mp c_38), (in_lo (k := pe) (lo := 1) (hi := 1000) (l := 1) (h := 1000) (by decide) (by decide)).mp (bz_n0.mp c_51), (in_lo (k := ti) (lo := 0) (hi := 99) (l := 0) (h := 99) (by decide) (by decide)).mp (bz_n0.mp c_64)⟩)) (fun c_64 => ?_)
          refine V_iconst (v := -1) o dX9_sets_67 (by decide) ?_
          refine V_iret o rt dX9_sets_68 rfl rfl ?_
          exact ⟨rfl, rfl⟩
set_option maxRecDepth 20000 in
set_option maxHeartbeats 4000000 in
theorem c9_pauses {w : Wp} (hf : Fit sh0 w) {σ : Mm} {M : Nat → Int32} (hd : σ.1 67 8 = nI 0) {k : Int32} : Cf sh0 w 2 mX9_pauses [.ref 67, .int k] (sM σ 0 M) (some (.int (pausesR M k))) (sM (wI σ 67 0 0) 0 (pausesM M k)) := by
  refine Ct_of hf (by decide) rfl (Nat.le_of_ble_eq_true rfl) (fun x o rt => ?_)
  by_cases hT : isTm M k
  · have hx := isTm_ix hT.1
    refine V_aload_n o dX9_pauses_0 rfl rfl ?_
    refine V_iconst (v := 0) o dX9_pauses_1 (by decide) ?_
    refine V_putI o dX9_pauses_2 rfl fl_X9_1 rfl rfl rfl ?_
    rw [wI_sM67]
    refine V_aload_n o dX9_pauses_5 rfl rfl ?_
    refine V_iload_n o dX9_pauses_6 rfl rfl ?_
    refine V_cVi o rt dX9_pauses_7 ml_X9_89 (c9_isTm hf (by exact hd) (Nat.zero_le 423)) rfl rfl rfl (Nat.le_of_ble_eq_true rfl) rfl ?_
    refine V_if_ne (tgt := 15) o dX9_pauses_10 (by decide) (fun c_10 => ?_) (fun c_10 => False.elim (bz_n0.mpr hT c_10))
    refine V_aload_n o dX9_pauses_15 rfl rfl ?_
    refine V_sipush (v := 343) o dX9_pauses_16 (by decide) ?_
    refine V_iload_n o dX9_pauses_19 rfl rfl ?_
    refine V_iadd o dX9_pauses_20 ?_
    refine V_cVi o rt dX9_pauses_21 ml_X9_85 (c9_of hf (by exact hd) (nadd (show (343 : Int32) = nI 343 from rfl) hx.1) (by omega)) rfl rfl rfl (Nat.le_of_ble_eq_true rfl) rfl ?_
    refine V_iconst (v := 1) o dX9_pauses_24 (by decide) ?_
    refine V_icmp_ne (tgt := 31) o dX9_pauses_25 (by decide) (fun c_25 => ?_) (fun c_25 => ?_)
    · refine V_aload_n o dX9_pauses_31 rfl rfl ?_
      refine V_iload_n o dX9_pauses_32 rfl rfl ?_
      refine V_cVv o rt dX9_pauses_33 ml_X9_219 (c9_pausesOne hf (by exact hd) (Nat.zero_le 423) hx.1 hx.2) rfl rfl rfl (Nat.le_of_ble_eq_true rfl) rfl ?_
      refine V_aload_n o dX9_pauses_36 rfl rfl ?_
      refine V_sipush (v := 359) o dX9_pauses_37 (by decide) ?_
      refine V_iload_n o dX9_pauses_40 rfl rfl ?_
      refine V_iadd o dX9_pauses_41 ?_
      refine V_cVi o rt dX9_pauses_42 ml_X9_85 (c9_of hf (by exact hd) (nadd (show (359 : Int32) = nI 359 from rfl) hx.1) (by omega)) rfl rfl rfl (Nat.le_of_ble_eq_true rfl) rfl ?_
      refine V_iret o rt dX9_pauses_45 rfl rfl ?_
      exact ⟨by rw [pausesR, if_pos hT, if_neg c_25, paM, uM_self], by rw [pausesM, if_pos ⟨hT, c_25⟩]⟩
    · refine V_bipush (v := -2) o dX9_pauses_28 (by decide) ?_
      refine V_iret o rt dX9_pauses_30 rfl rfl ?_
      exact ⟨by rw [pausesR, if_pos hT, if_pos c_25], by rw [pausesM, if_neg (fun q => q.2 c_25)]⟩
  · refine V_aload_n o dX9_pauses_0 rfl rfl ?_
    refine V_iconst (v := 0) o dX9_pauses_1 (by decide) ?_
    refine V_putI o dX9_pauses_2 rfl fl_X9_1 rfl rfl rfl ?_
    rw [wI_sM67]
    refine V_aload_n o dX9_pauses_5 rfl rfl ?_
    refine V_iload_n o dX9_pauses_6 rfl rfl ?_
    refine V_cVi o rt dX9_pauses_7 ml_X9_89 (c9_isTm hf (by exact hd) (Nat.zero_le 423)) rfl rfl rfl (Nat.le_of_ble_eq_true rfl) rfl ?_
    refine V_if_ne (tgt := 15) o dX9_pauses_10 (by decide) (fun c_10 => False.elim (hT (bz_n0.mp c_10))) (fun c_10 => ?_)
    refine V_iconst (v := -1) o dX9_pauses_13 (by decide) ?_
    refine V_iret o rt dX9_pauses_14 rfl rfl ?_
    exact ⟨by rw [pausesR, if_neg hT], by rw [pausesM, if_neg (fun q => hT q.1)]⟩
set_option maxRecDepth 20000 in
set_option maxHeartbeats 4000000 in
theorem c9_resumes {w : Wp} (hf : Fit sh0 w) {σ : Mm} {M : Nat → Int32} (hd : σ.1 67 8 = nI 0) {L : Nat} (hW : Wf M L) {k : Int32} : Cf sh0 w 5 mX9_resumes [.ref 67, .int k] (sM σ 0 M) (some (.int (resumesR M k))) (sM (wI σ 67 0 0) 0 (resumesM M L k)) := by
  refine Ct_of hf (by decide) rfl (Nat.le_of_ble_eq_true rfl) (fun x o rt => ?_)
  by_cases hT : isTm M k
  · have hx := isTm_ix hT.1
    refine V_aload_n o dX9_resumes_0 rfl rfl ?_
    refine V_iconst (v := 0) o dX9_resumes_1 (by decide) ?_
    refine V_putI o dX9_resumes_2 rfl fl_X9_1 rfl rfl rfl ?_
    rw [wI_sM67]
    refine V_aload_n o dX9_resumes_5 rfl rfl ?_
    refine V_iload_n o dX9_resumes_6 rfl rfl ?_
    refine V_cVi o rt dX9_resumes_7 ml_X9_89 (c9_isTm hf (by exact hd) (Nat.zero_le 423)) rfl rfl rfl (Nat.le_of_ble_eq_true rfl) rfl ?_
    refine V_if_ne (tgt := 15) o dX9_resumes_10 (by decide) (fun c_10 => ?_) (fun c_10 => False.elim (bz_n0.mpr hT c_10))
    refine V_aload_n o dX9_resumes_15 rfl rfl ?_
    refine V_sipush (v := 343) o dX9_resumes_16 (by decide) ?_
    refine V_iload_n o dX9_resumes_19 rfl rfl ?_
    refine V_iadd o dX9_resumes_20 ?_
    refine V_cVi o rt dX9_resumes_21 ml_X9_85 (c9_of hf (by exact hd) (nadd (show (343 : Int32) = nI 343 from rfl) hx.1) (by omega)) rfl rfl rfl (Nat.le_of_ble_eq_true rfl) rfl ?_
    refine V_if_ne (tgt := 30) o dX9_resumes_24 (by decide) (fun c_24 => ?_) (fun c_24 => ?_)
    · refine V_aload_n o dX9_resumes_30 rfl rfl ?_
      refine V_iload_n o dX9_resumes_31 rfl rfl ?_
      refine V_cVv o rt dX9_resumes_32 ml_X9_222 (c9_resumesOne hf (by exact hd) (Nat.zero_le 423) hW hx.1 hx.2) rfl rfl rfl (Nat.le_of_ble_eq_true rfl) rfl ?_
      refine V_aload_n o dX9_resumes_35 rfl rfl ?_
      refine V_sipush (v := 231) o dX9_resumes_36 (by decide) ?_
      refine V_iload_n o dX9_resumes_39 rfl rfl ?_
      refine V_iadd o dX9_resumes_40 ?_
      refine V_cVi o rt dX9_resumes_41 ml_X9_85 (c9_of hf (by exact hd) (nadd (show (231 : Int32) = nI 231 from rfl) hx.1) (by omega)) rfl rfl rfl (Nat.le_of_ble_eq_true rfl) rfl ?_
      refine V_iret o rt dX9_resumes_44 rfl rfl ?_
      exact ⟨by rw [resumesR, if_pos hT, if_neg c_24, reM, layM_ne (by have := hx.2; omega), uM_self], by rw [resumesM, if_pos ⟨hT, c_24⟩]⟩
    · refine V_bipush (v := -2) o dX9_resumes_27 (by decide) ?_
      refine V_iret o rt dX9_resumes_29 rfl rfl ?_
      exact ⟨by rw [resumesR, if_pos hT, if_pos c_24], by rw [resumesM, if_neg (fun q => q.2 c_24)]⟩
  · refine V_aload_n o dX9_resumes_0 rfl rfl ?_
    refine V_iconst (v := 0) o dX9_resumes_1 (by decide) ?_
    refine V_putI o dX9_resumes_2 rfl fl_X9_1 rfl rfl rfl ?_
    rw [wI_sM67]
    refine V_aload_n o dX9_resumes_5 rfl rfl ?_
    refine V_iload_n o dX9_resumes_6 rfl rfl ?_
    refine V_cVi o rt dX9_resumes_7 ml_X9_89 (c9_isTm hf (by exact hd) (Nat.zero_le 423)) rfl rfl rfl (Nat.le_of_ble_eq_true rfl) rfl ?_
    refine V_if_ne (tgt := 15) o dX9_resumes_10 (by decide) (fun c_10 => False.elim (hT (bz_n0.mp c_10))) (fun c_10 => ?_)
    refine V_iconst (v := -1) o dX9_resumes_13 (by decide) ?_
    refine V_iret o rt dX9_resumes_14 rfl rfl ?_
    exact ⟨by rw [resumesR, if_neg hT], by rw [resumesM, if_neg (fun q => hT q.1)]⟩
set_option maxRecDepth 20000 in
set_option maxHeartbeats 4000000 in
theorem c9_steady {w : Wp} (hf : Fit sh0 w) {σ : Mm} {M : Nat → Int32} (hd : σ.1 67 8 = nI 0) {k b : Int32} (hb : b = 0 ∨ b = 1) : Cf sh0 w 2 mX9_steady [.ref 67, .int k, .int b] (sM σ 0 M) (some (.int (steadyR M k b))) (sM (wI σ 67 0 0) 0 (steadyM M k b)) := by
  refine Ct_of hf (by decide) rfl (Nat.le_of_ble_eq_true rfl) (fun x o rt => ?_)
  by_cases hT : isTm M k
  · have hx := isTm_ix hT.1
    refine V_aload_n o dX9_steady_0 rfl rfl ?_
    refine V_iconst (v := 0) o dX9_steady_1 (by decide) ?_
    refine V_putI o dX9_steady_2 rfl fl_X9_1 rfl rfl rfl ?_
    rw [wI_sM67]
    refine V_aload_n o dX9_steady_5 rfl rfl ?_
    refine V_iload_n o dX9_steady_6 rfl rfl ?_
    refine V_cVi o rt dX9_steady_7 ml_X9_89 (c9_isTm hf (by exact hd) (Nat.zero_le 423)) rfl rfl rfl (Nat.le_of_ble_eq_true rfl) rfl ?_
    refine V_if_ne (tgt := 15) o dX9_steady_10 (by decide) (fun c_10 => ?_) (fun c_10 => False.elim (bz_n0.mpr hT c_10))
    refine V_aload_n o dX9_steady_15 rfl rfl ?_
    refine V_sipush (v := 327) o dX9_steady_16 (by decide) ?_
    refine V_iload_n o dX9_steady_19 rfl rfl ?_
    refine V_iadd o dX9_steady_20 ?_
    refine V_cVi o rt dX9_steady_21 ml_X9_85 (c9_of hf (by exact hd) (nadd (show (327 : Int32) = nI 327 from rfl) hx.1) (by omega)) rfl rfl rfl (Nat.le_of_ble_eq_true rfl) rfl ?_
    refine V_istore_n (ls' := [(3, _), (0, _), (1, _), (2, _)]) o dX9_steady_24 rfl (by decide) rfl ?_
    refine V_iload_n o dX9_steady_25 rfl rfl ?_
    refine V_iload_n o dX9_steady_26 rfl rfl ?_
    refine V_cSi o rt dX9_steady_27 ms_X9_31 (c9_flag hf hb) rfl rfl (Nat.le_of_ble_eq_true rfl) rfl ?_
    refine V_icmp_ne (tgt := 36) o dX9_steady_30 (by decide) (fun c_30 => ?_) (fun c_30 => ?_)
    · refine V_aload_n o dX9_steady_36 rfl rfl ?_
      refine V_sipush (v := 327) o dX9_steady_37 (by decide) ?_
      refine V_iload_n o dX9_steady_40 rfl rfl ?_
      refine V_iadd o dX9_steady_41 ?_
      refine V_iload_n o dX9_steady_42 rfl rfl ?_
      refine V_cSi o rt dX9_steady_43 ms_X9_31 (c9_flag hf hb) rfl rfl (Nat.le_of_ble_eq_true rfl) rfl ?_
      refine V_cVv o rt dX9_steady_46 ml_X9_76 (c9_puts hf (by exact hd) (nadd (show (327 : Int32) = nI 327 from rfl) hx.1) (by omega)) rfl rfl rfl (Nat.le_of_ble_eq_true rfl) rfl ?_
      refine V_iload_n o dX9_steady_49 rfl rfl ?_
      refine V_iret o rt dX9_steady_50 rfl rfl ?_
      exact ⟨by rw [steadyR, if_pos hT, if_neg c_30], by rw [steadyM, if_pos ⟨hT, c_30⟩]⟩
    · refine V_bipush (v := -2) o dX9_steady_33 (by decide) ?_
      refine V_iret o rt dX9_steady_35 rfl rfl ?_
      exact ⟨by rw [steadyR, if_pos hT, if_pos c_30], by rw [steadyM, if_neg (fun q => q.2 c_30)]⟩
  · refine V_aload_n o dX9_steady_0 rfl rfl ?_
    refine V_iconst (v := 0) o dX9_steady_1 (by decide) ?_
    refine V_putI o dX9_steady_2 rfl fl_X9_1 rfl rfl rfl ?_
    rw [wI_sM67]
    refine V_aload_n o dX9_steady_5 rfl rfl ?_
    refine V_iload_n o dX9_steady_6 rfl rfl ?_
    refine V_cVi o rt dX9_steady_7 ml_X9_89 (c9_isTm hf (by exact hd) (Nat.zero_le 423)) rfl rfl rfl (Nat.le_of_ble_eq_true rfl) rfl ?_
    refine V_if_ne (tgt := 15) o dX9_steady_10 (by decide) (fun c_10 => False.elim (hT (bz_n0.mp c_10))) (fun c_10 => ?_)
    refine V_iconst (v := -1) o dX9_steady_13 (by decide) ?_
    refine V_iret o rt dX9_steady_14 rfl rfl ?_
    exact ⟨by rw [steadyR, if_neg hT], by rw [steadyM, if_neg (fun q => hT q.1)]⟩
set_option maxRecDepth 20000 in
set_option maxHeartbeats 4000000 in
theorem c9_cancels {w : Wp} (hf : Fit sh0 w) {σ : Mm} {M : Nat → Int32} (hd : σ.1 67 8 = nI 0) {k : Int32} : Cf sh0 w 3 mX9_cancels [.ref 67, .int k] (sM σ 0 M) (some (.int (cancelsR M k))) (sM (wI σ 67 0 0) 0 (cancelsM M k)) := by
  refine Ct_of hf (by decide) rfl (Nat.le_of_ble_eq_true rfl) (fun x o rt => ?_)
  have hc : Cf sh0 w 2 mX9_cancelsOne [.ref 67, .int k] (sM (wI σ 67 0 0) 0 M) (some (.int (cancelsR M k))) (sM (wI σ 67 0 0) 0 (cancelsM M k)) := by
    by_cases hT : isTm M k
    · have hx := isTm_ix hT.1
      rw [cancelsR, cancelsM, if_pos hT, if_pos hT]
      exact c9_cancelsOne hf (by exact hd) (Nat.zero_le 423) hx.1 hx.2 hT.2
    · rw [cancelsR, cancelsM, if_neg hT, if_neg hT]
      by_cases h : inR k 0 15
      · have hx := isTm_ix h
        exact c9_cancelsOne_no hf (by exact hd) (Nat.zero_le 423) hx.1 hx.2 (fun q => hT ⟨h, q⟩)
      · exact c9_cancelsOne_out hf (by exact hd) (Nat.zero_le 423) h
  refine V_aload_n o dX9_cancels_0 rfl rfl ?_
  refine V_iconst (v := 0) o dX9_cancels_1 (by decide) ?_
  refine V_putI o dX9_cancels_2 rfl fl_X9_1 rfl rfl rfl ?_
  rw [wI_sM67]
  refine V_aload_n o dX9_cancels_5 rfl rfl ?_
  refine V_iload_n o dX9_cancels_6 rfl rfl ?_
  refine V_cVi o rt dX9_cancels_7 ml_X9_216 hc rfl rfl rfl (Nat.le_of_ble_eq_true rfl) rfl ?_
  refine V_iret o rt dX9_cancels_10 rfl rfl ?_
  exact ⟨rfl, rfl⟩
