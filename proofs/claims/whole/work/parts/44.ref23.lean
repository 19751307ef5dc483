def rgL (M : Nat → Int32) (i j : Nat) : List Int64 := (List.range (j - 1)).map (fun q => (M (15 + 5 * i + (q + 1))).toInt64)
theorem rgL_succ (M : Nat → Int32) (i : Nat) {j : Nat} (h : 1 ≤ j) : rgL M i (j + 1) = rgL M i j ++ [(M (15 + 5 * i + j)).toInt64] := by
  unfold rgL
  rw [show j + 1 - 1 = (j - 1) + 1 by omega, List.range_succ, List.map_append, List.map_singleton, show j - 1 + 1 = j by omega]
theorem rgL_len (M : Nat → Int32) (i j : Nat) : (rgL M i j).length = j - 1 := by simp [rgL]
set_option maxRecDepth 20000 in
set_option maxHeartbeats 4000000 in
theorem c9_rung {w : Wp} (hf : Fit sh0 w) {σ : Mm} {M : Nat → Int32} (hd : σ.1 67 8 = nI 0) {r : Nat} (hr : M 14 = nI r) (hr4 : r ≤ 40) {k : Int32} {i : Nat} (hk : k = nI i) (hi : i < r) : Ct sh0 w 1 mX9_rung [.ref 67, .int k] (sM σ 0 M) (fun r' σ' => ∃ fr, r' = some (.int (M (15 + 5 * i))) ∧ σ' = sM (sRw (wI σ 67 0 0) fr 4) 0 M ∧ RwR fr (rgL M i 5)) := by
  subst hk
  refine Ct_of hf (by decide) rfl (Nat.le_of_ble_eq_true rfl) (fun x o rt => ?_)
  have hm : M 14 - 1 = nI (r - 1) := by rw [hr, show r = (r - 1) + 1 by omega]; exact nI_pred _
  have hkr : inR (nI i) 0 (M 14 - 1) := by rw [hm]; exact nI_rng (by omega) (by omega)
  have loop : ∀ n j (fr : Nat → Int64), j + n = 5 → 1 ≤ j → RwR fr (rgL M i j) → V sh0 w x mX9_rung (0, 0) 39 [(3, .int (nI j)), (2, .int (nI (15 + 5 * i))), (0, .ref 67), (1, .int (nI i))] [] (sM (sRw (wI σ 67 0 0) fr (j - 1)) 0 M) := by
    intro n
    induction n with
    | zero =>
      intro j fr hj h1 hF
      have h5 : j = 5 := by omega
      subst h5
      refine V_iload_n o dX9_rung_39 rfl rfl ?_
      refine V_iconst (v := 5) o dX9_rung_40 (by decide) ?_
      refine V_icmp_ge (tgt := 62) o dX9_rung_41 (by decide) (fun c_41 => ?_) (fun c_41 => False.elim (c_41 (by decide)))
      refine V_aload_n o dX9_rung_62 rfl rfl ?_
      refine V_iload_n o dX9_rung_63 rfl rfl ?_
      refine V_cVi o rt dX9_rung_64 ml_X9_85 (c9_of hf (by exact hd) rfl (by omega)) rfl rfl rfl (Nat.le_of_ble_eq_true rfl) rfl ?_
      refine V_iret o rt dX9_rung_67 rfl rfl ?_
      exact ⟨fr, rfl, rfl, hF⟩
    | succ n ih =>
      intro j fr hj h1 hF
      refine V_iload_n o dX9_rung_39 rfl rfl ?_
      refine V_iconst (v := 5) o dX9_rung_40 (by decide) ?_
      refine V_icmp_ge (tgt := 62) o dX9_rung_41 (by decide) (fun c_41 => False.elim (absurd c_41 (nI_ge (b := 5) (by omega) (by omega)))) (fun c_41 => ?_)
      refine V_aload_n o dX9_rung_44 rfl rfl ?_
      refine V_aload_n o dX9_rung_45 rfl rfl ?_
      refine V_iload_n o dX9_rung_46 rfl rfl ?_
      refine V_iload_n o dX9_rung_47 rfl rfl ?_
      refine V_iadd o dX9_rung_48 ?_
      refine V_cVi o rt dX9_rung_49 ml_X9_85 (c9_of hf (by exact hd) (nadd rfl rfl) (by omega)) rfl rfl rfl (Nat.le_of_ble_eq_true rfl) rfl ?_
      refine V_i2l o dX9_rung_52 ?_
      refine V_cVv o rt dX9_rung_53 ml_X9_153 (c9_enters hf (by omega)) rfl rfl rfl (Nat.le_of_ble_eq_true rfl) rfl ?_
      refine V_iincV (v := nI (j + 1)) (ls' := [(3, _), (2, _), (0, _), (1, _)]) o dX9_rung_56 rfl (ninc 1 rfl) (by decide) rfl ?_
      refine V_goto (tgt := 39) o dX9_rung_59 (by decide) ?_
      have h2 := ih (j + 1) (updL fr (j - 1) (M (15 + 5 * i + j)).toInt64) (by omega) (by omega) (by rw [rgL_succ M i h1]; exact RwR_push (rgL_len M i j).symm hF)
      rw [show j + 1 - 1 = j - 1 + 1 by omega] at h2
      exact h2
  refine V_aload_n o dX9_rung_0 rfl rfl ?_
  refine V_iconst (v := 0) o dX9_rung_1 (by decide) ?_
  refine V_putI o dX9_rung_2 rfl fl_X9_1 rfl rfl rfl ?_
  rw [wI_sM67]
  refine V_iload_n o dX9_rung_5 rfl rfl ?_
  refine V_i2l o dX9_rung_6 ?_
  refine V_lconst (v := 0) o dX9_rung_7 (by decide) ?_
  refine V_aload_n o dX9_rung_8 rfl rfl ?_
  refine V_bipush (v := 14) o dX9_rung_9 (by decide) ?_
  refine V_cVi o rt dX9_rung_11 ml_X9_85 (c9_of hf (by exact hd) (show (14 : Int32) = nI 14 from rfl) (by omega)) rfl rfl rfl (Nat.le_of_ble_eq_true rfl) rfl ?_
  refine V_iconst (v := 1) o dX9_rung_14 (by decide) ?_
  refine V_isub o dX9_rung_15 ?_
  refine V_i2l o dX9_rung_16 ?_
  refine V_cSi o rt dX9_rung_17 ms_X9_21 (c9_in hf) rfl rfl (Nat.le_of_ble_eq_true rfl) rfl ?_
  refine V_if_ne (tgt := 25) o dX9_rung_20 (by decide) (fun c_20 => ?_) (fun c_20 => False.elim (bz_n0.mpr ((in_lo (k := nI i) (lo := 0) (hi := M 14 - 1) (by decide) rfl).mpr hkr) c_20))
  refine V_bipush (v := 15) o dX9_rung_25 (by decide) ?_
  refine V_iconst (v := 5) o dX9_rung_27 (by decide) ?_
  refine V_iload_n o dX9_rung_28 rfl rfl ?_
  refine V_imul o dX9_rung_29 ?_
  refine V_iadd o dX9_rung_30 ?_
  refine V_topI (v' := nI (15 + 5 * i)) (nadd (show (15 : Int32) = nI 15 from rfl) (nmul (show (5 : Int32) = nI 5 from rfl) rfl)) ?_
  refine V_istore_n (ls' := [(2, _), (0, _), (1, _)]) o dX9_rung_31 rfl (by decide) rfl ?_
  refine V_aload_n o dX9_rung_32 rfl rfl ?_
  refine V_iconst (v := 0) o dX9_rung_33 (by decide) ?_
  refine V_putI o dX9_rung_34 rfl fl_X9_11 rfl rfl rfl ?_
  rw [wI_sM67]
  rw [wI_sRw0]
  refine V_iconst (v := 1) o dX9_rung_37 (by decide) ?_
  refine V_istore_n (ls' := [(3, _), (2, _), (0, _), (1, _)]) o dX9_rung_38 rfl (by decide) rfl ?_
  exact loop 4 1 _ (by omega) (by omega) RwR_nil
set_option maxRecDepth 20000 in
set_option maxHeartbeats 4000000 in
theorem c9_rung_no {w : Wp} (hf : Fit sh0 w) {σ : Mm} {M : Nat → Int32} (hd : σ.1 67 8 = nI 0) {k : Int32} (hk : ¬ inR k 0 (M 14 - 1)) : Cf sh0 w 1 mX9_rung [.ref 67, .int k] (sM σ 0 M) (some (.int (-1))) (sM (wI σ 67 0 0) 0 M) := by
  refine Ct_of hf (by decide) rfl (Nat.le_of_ble_eq_true rfl) (fun x o rt => ?_)
  refine V_aload_n o dX9_rung_0 rfl rfl ?_
  refine V_iconst (v := 0) o dX9_rung_1 (by decide) ?_
  refine V_putI o dX9_rung_2 rfl fl_X9_1 rfl rfl rfl ?_
  rw [wI_sM67]
  refine V_iload_n o dX9_rung_5 rfl rfl ?_
  refine V_i2l o dX9_rung_6 ?_
  refine V_lconst (v := 0) o dX9_rung_7 (by decide) ?_
  refine V_aload_n o dX9_rung_8 rfl rfl ?_
  refine V_bipush (v := 14) o dX9_rung_9 (by decide) ?_
  refine V_cVi o rt dX9_rung_11 ml_X9_85 (c9_of hf (by exact hd) (show (14 : Int32) = nI 14 from rfl) (by omega)) rfl rfl rfl (Nat.le_of_ble_eq_true rfl) rfl ?_
  refine V_iconst (v := 1) o dX9_rung_14 (by decide) ?_
  refine V_isub o dX9_rung_15 ?_
  refine V_i2l o dX9_rung_16 ?_
  refine V_cSi o rt dX9_rung_17 ms_X9_21 (c9_in hf) rfl rfl (Nat.le_of_ble_eq_true rfl) rfl ?_
  refine V_if_ne (tgt := 25) o dX9_rung_20 (by decide) (fun c_20 => False.elim (hk ((in_lo (k := k) (lo := 0) (hi := M 14 - 1) (by decide) rfl).mp (bz_n0.mp c_20)))) (fun c_20 => ?_)
  refine V_iconst (v := -1) o dX9_rung_23 (by decide) ?_
  refine V_iret o rt dX9_rung_24 rfl rfl ?_
  exact ⟨rfl, rfl⟩
set_option maxRecDepth 20000 in
set_option maxHeartbeats 4000000 in
theorem c9_row {w : Wp} (hf : Fit sh0 w) {σ : Mm} {d : Nat} {M : Nat → Int32} {n : Nat} (hn : σ.1 67 1 = nI n) (hn4 : n ≤ 64) {k : Int32} {i : Nat} (hk : k = nI i) (hi : i < n) : Cf sh0 w 1 mX9_row [.ref 67, .int k] (sM σ d M) (some (.long (σ.2.1 68 i))) (sM (wI σ 67 0 0) d M) := by
  subst hk
  refine Ct_of hf (by decide) rfl (Nat.le_of_ble_eq_true rfl) (fun x o rt => ?_)
  have hm : nI n - 1 = nI (n - 1) := by rw [show n = (n - 1) + 1 by omega]; exact nI_pred _
  have hkr : inR (nI i) 0 (nI n - 1) := by rw [hm]; exact nI_rng (by omega) (by omega)
  refine V_aload_n o dX9_row_0 rfl rfl ?_
  refine V_iload_n o dX9_row_1 rfl rfl ?_
  refine V_i2l o dX9_row_2 ?_
  refine V_lconst (v := 0) o dX9_row_3 (by decide) ?_
  refine V_aload_n o dX9_row_4 rfl rfl ?_
  refine V_getIE (v := nI (n)) o dX9_row_5 rfl fl_X9_11 rfl hn ?_
  refine V_iconst (v := 1) o dX9_row_8 (by decide) ?_
  refine V_isub o dX9_row_9 ?_
  refine V_i2l o dX9_row_10 ?_
  refine V_cSi o rt dX9_row_11 ms_X9_21 (c9_in hf) rfl rfl (Nat.le_of_ble_eq_true rfl) rfl ?_
  refine V_if_ne (tgt := 21) o dX9_row_14 (by decide) (fun c_14 => ?_) (fun c_14 => False.elim (bz_n0.mpr ((in_lo (k := nI i) (lo := 0) (hi := nI n - 1) (by decide) rfl).mpr hkr) c_14))
  refine V_iconst (v := 0) o dX9_row_21 (by decide) ?_
  refine V_cSi o rt dX9_row_22 ms_X9_31 (c9_flag hf (by simp)) rfl rfl (Nat.le_of_ble_eq_true rfl) rfl ?_
  refine V_putI o dX9_row_25 rfl fl_X9_1 rfl rfl rfl ?_
  rw [wI_sM67]
  refine V_aload_n o dX9_row_28 rfl rfl ?_
  refine V_getI o dX9_row_29 rfl fl_X9_1 rfl ?_
  refine V_iconst (v := 1) o dX9_row_32 (by decide) ?_
  refine V_icmp_ne (tgt := 40) o dX9_row_33 (by decide) (fun c_33 => ?_) (fun c_33 => False.elim (absurd (show (0 : Int32) = 1 from c_33) (by decide)))
  refine V_aload_n o dX9_row_40 rfl rfl ?_
  refine V_getR (t := 68) o dX9_row_41 rfl fl_X9_7 rfl ?_
  refine V_iload_n o dX9_row_44 rfl rfl ?_
  refine V_laldN 64 o dX9_row_45 rfl rfl rfl (by omega) rfl ?_
  refine V_lret o rt dX9_row_46 rfl ?_
  exact ⟨rfl, rfl⟩
set_option maxRecDepth 20000 in
set_option maxHeartbeats 4000000 in
theorem c9_row_no {w : Wp} (hf : Fit sh0 w) {σ : Mm} {d : Nat} {M : Nat → Int32} {k : Int32} (hk : ¬ inR k 0 (σ.1 67 1 - 1)) : Cf sh0 w 1 mX9_row [.ref 67, .int k] (sM σ d M) (some (.long 0)) (sM (wI σ 67 0 1) d M) := by
  refine Ct_of hf (by decide) rfl (Nat.le_of_ble_eq_true rfl) (fun x o rt => ?_)
  refine V_aload_n o dX9_row_0 rfl rfl ?_
  refine V_iload_n o dX9_row_1 rfl rfl ?_
  refine V_i2l o dX9_row_2 ?_
  refine V_lconst (v := 0) o dX9_row_3 (by decide) ?_
  refine V_aload_n o dX9_row_4 rfl rfl ?_
  refine V_getI o dX9_row_5 rfl fl_X9_11 rfl ?_
  refine V_iconst (v := 1) o dX9_row_8 (by decide) ?_
  refine V_isub o dX9_row_9 ?_
  refine V_i2l o dX9_row_10 ?_
  refine V_cSi o rt dX9_row_11 ms_X9_21 (c9_in hf) rfl rfl (Nat.le_of_ble_eq_true rfl) rfl ?_
  refine V_if_ne (tgt := 21) o dX9_row_14 (by decide) (fun c_14 => False.elim (hk ((in_lo (k := k) (lo := 0) (hi := σ.1 67 1 - 1) (by decide) rfl).mp (bz_n0.mp c_14)))) (fun c_14 => ?_)
  refine V_iconst (v := 1) o dX9_row_17 (by decide) ?_
  refine V_goto (tgt := 22) o dX9_row_18 (by decide) ?_
  refine V_cSi o rt dX9_row_22 ms_X9_31 (c9_flag hf (by simp)) rfl rfl (Nat.le_of_ble_eq_true rfl) rfl ?_
  refine V_putI o dX9_row_25 rfl fl_X9_1 rfl rfl rfl ?_
  rw [wI_sM67]
  refine V_aload_n o dX9_row_28 rfl rfl ?_
  refine V_getI o dX9_row_29 rfl fl_X9_1 rfl ?_
  refine V_iconst (v := 1) o dX9_row_32 (by decide) ?_
  refine V_icmp_ne (tgt := 40) o dX9_row_33 (by decide) (fun c_33 => False.elim (c_33 rfl)) (fun c_33 => ?_)
  refine V_lconst (v := 0) o dX9_row_36 (by decide) ?_
  refine V_goto (tgt := 46) o dX9_row_37 (by decide) ?_
  refine V_lret o rt dX9_row_46 rfl ?_
  exact ⟨rfl, rfl⟩
def sTp (σ : Mm) (f : Nat → Int32) (n : Nat) : Mm := (fun a j => if a = 69 then f j else if a = 67 ∧ j = 4 then nI n else σ.1 a j, σ.2)
theorem wI_sTp69 {σ : Mm} {f : Nat → Int32} {n k : Nat} {v : Int32} : wI (sTp σ f n) 69 k v = sTp σ (upd f k v) n := by
  refine Prod.ext (funext fun a => funext fun j => ?_) rfl
  simp only [sTp, wI, up2, upd]
  by_cases h : a = 69
  · subst h; simp
  · simp [h]
theorem wI_sTp4 {σ : Mm} {f : Nat → Int32} {n m : Nat} : wI (sTp σ f n) 67 4 (nI m) = sTp σ f m := by
  refine Prod.ext (funext fun a => funext fun j => ?_) rfl
  simp only [sTp, wI, up2]
  by_cases h : a = 69
  · subst h; simp
  · by_cases h2 : a = 67 ∧ j = 4
    · simp [h2]
    · simp [h, h2]
theorem sTp_of {σ : Mm} {n : Nat} (h : σ.1 67 4 = nI n) : sTp σ (σ.1 69) n = σ := by
  refine Prod.ext (funext fun a => funext fun j => ?_) rfl
  simp only [sTp]
  split
  · next q => rw [q]
  · split
    · next q => rw [q.1, q.2, h]
    · rfl
def sgV (v : Int32) (k : Nat) : Int32 := (v >>> ((24 - 8 * nI k) &&& 31)) &&& 255
def sgF (v : Int32) (n : Nat) (k : Nat) (f : Nat → Int32) : Nat → Int32 := upd f (n + k) (sgV v k)
set_option maxRecDepth 20000 in
set_option maxHeartbeats 4000000 in
theorem c9_sign {w : Wp} (hf : Fit sh0 w) {σ : Mm} {d : Nat} {M : Nat → Int32} {n : Nat} (hn : σ.1 67 4 = nI n) (hn4 : n ≤ 96) {v : Int32} {F : Nat → Int32} (hF : itr (sgF v n) 0 4 (σ.1 69) = F) : Cf sh0 w 0 mX9_sign [.ref 67, .int v] (sM σ d M) (some (.int (nI (n + 4)))) (sM (sTp (wI σ 67 0 0) F (n + 4)) d M) := by
  refine Ct_of hf (by decide) rfl (Nat.le_of_ble_eq_true rfl) (fun x o rt => ?_)
  have loop : ∀ m k (f : Nat → Int32), k + m = 4 → itr (sgF v n) k m f = F → V sh0 w x mX9_sign (0, 0) 18 [(2, .int (nI k)), (0, .ref 67), (1, .int v)] [] (sM (sTp (wI σ 67 0 0) f n) d M) := by
    intro m
    induction m with
    | zero =>
      intro k f hk hR
      have h4 : k = 4 := by omega
      have hs : f = F := hR
      subst hs
      refine V_iload_n o dX9_sign_18 rfl rfl ?_
      refine V_iconst (v := 4) o dX9_sign_19 (by decide) ?_
      refine V_icmp_ge (tgt := 53) o dX9_sign_20 (by decide) (fun c_20 => ?_) (fun c_20 => False.elim (c_20 (by rw [h4]; exact Int32.le_refl _)))
      refine V_aload_n o dX9_sign_53 rfl rfl ?_
      refine V_dup o dX9_sign_54 rfl ?_
      refine V_getIE (v := nI (n)) o dX9_sign_55 rfl fl_X9_14 rfl rfl ?_
      refine V_iconst (v := 4) o dX9_sign_58 (by decide) ?_
      refine V_iadd o dX9_sign_59 ?_
      refine V_putI o dX9_sign_60 rfl fl_X9_14 rfl rfl rfl ?_
      rw [wI_sM67, show nI n + 4 = nI (n + 4) from nI_add n 4, wI_sTp4]
      refine V_aload_n o dX9_sign_63 rfl rfl ?_
      refine V_getIE (v := nI (n + 4)) o dX9_sign_64 rfl fl_X9_14 rfl rfl ?_
      refine V_iret o rt dX9_sign_67 rfl rfl ?_
      exact ⟨rfl, rfl⟩
    | succ m ih =>
      intro k f hk hR
      rw [itr_succ] at hR
      refine V_iload_n o dX9_sign_18 rfl rfl ?_
      refine V_iconst (v := 4) o dX9_sign_19 (by decide) ?_
      refine V_icmp_ge (tgt := 53) o dX9_sign_20 (by decide) (fun c_20 => False.elim (absurd c_20 (nI_ge (b := 4) (by omega) (by omega)))) (fun c_20 => ?_)
      refine V_aload_n o dX9_sign_23 rfl rfl ?_
      refine V_getR (t := 69) o dX9_sign_24 rfl fl_X9_17 rfl ?_
      refine V_aload_n o dX9_sign_27 rfl rfl ?_
      refine V_getIE (v := nI (n)) o dX9_sign_28 rfl fl_X9_14 rfl rfl ?_
      refine V_iload_n o dX9_sign_31 rfl rfl ?_
      refine V_iadd o dX9_sign_32 ?_
      refine V_iload_n o dX9_sign_33 rfl rfl ?_
      refine V_bipush (v := 24) o dX9_sign_34 (by decide) ?_
      refine V_bipush (v := 8) o dX9_sign_36 (by decide) ?_
      refine V_iload_n o dX9_sign_38 rfl rfl ?_
      refine V_imul o dX9_sign_39 ?_
      refine V_isub o dX9_sign_40 ?_
      refine V_ishr o dX9_sign_41 ?_
      refine V_sipush (v := 255) o dX9_sign_42 (by decide) ?_
      refine V_iand o dX9_sign_45 ?_
      refine V_iastN 100 o dX9_sign_46 rfl rfl (nadd rfl rfl) (by omega) rfl ?_
      rw [wI_sM69, wI_sTp69]
      refine V_iincV (v := nI (k + 1)) (ls' := [(2, _), (0, _), (1, _)]) o dX9_sign_47 rfl (ninc 1 rfl) (by decide) rfl ?_
      refine V_goto (tgt := 18) o dX9_sign_50 (by decide) ?_
      exact ih (k + 1) (upd f (n + k) (sgV v k)) (by omega) hR
  refine V_aload_n o dX9_sign_0 rfl rfl ?_
  refine V_iconst (v := 0) o dX9_sign_1 (by decide) ?_
  refine V_putI o dX9_sign_2 rfl fl_X9_1 rfl rfl rfl ?_
  rw [wI_sM67]
  refine V_aload_n o dX9_sign_5 rfl rfl ?_
  refine V_getIE (v := nI (n)) o dX9_sign_6 rfl fl_X9_14 rfl hn ?_
  refine V_bipush (v := 96) o dX9_sign_9 (by decide) ?_
  refine V_icmp_le (tgt := 16) o dX9_sign_11 (by decide) (fun c_11 => ?_) (fun c_11 => False.elim (c_11 (nI_le (b := 96) hn4 (by omega))))
  refine V_iconst (v := 0) o dX9_sign_16 (by decide) ?_
  refine V_istore_n (ls' := [(2, _), (0, _), (1, _)]) o dX9_sign_17 rfl (by decide) rfl ?_
  have h0 := loop 4 0 (σ.1 69) (by omega) hF
  rw [show sTp (wI σ 67 0 0) (σ.1 69) n = wI σ 67 0 0 from sTp_of (σ := wI σ 67 0 0) hn] at h0
  exact h0
set_option maxRecDepth 20000 in
set_option maxHeartbeats 4000000 in
theorem c9_sign_no {w : Wp} (hf : Fit sh0 w) {σ : Mm} {d : Nat} {M : Nat → Int32} {n : Nat} (hn : σ.1 67 4 = nI n) (hn4 : 96 < n) (hn5 : n ≤ 100) {v : Int32} : Cf sh0 w 0 mX9_sign [.ref 67, .int v] (sM σ d M) (some (.int (-1))) (sM (wI σ 67 0 0) d M) := by
  refine Ct_of hf (by decide) rfl (Nat.le_of_ble_eq_true rfl) (fun x o rt => ?_)
  refine V_aload_n o dX9_sign_0 rfl rfl ?_
  refine V_iconst (v := 0) o dX9_sign_1 (by decide) ?_
  refine V_putI o dX9_sign_2 rfl fl_X9_1 rfl rfl rfl ?_
  rw [wI_sM67]
  refine V_aload_n o dX9_sign_5 rfl rfl ?_
  refine V_getIE (v := nI (n)) o dX9_sign_6 rfl fl_X9_14 rfl hn ?_
  refine V_bipush (v := 96) o dX9_sign_9 (by decide) ?_
  refine V_icmp_le (tgt := 16) o dX9_sign_11 (by decide) (fun c_11 => False.elim (absurd c_11 (nI_ge (a := 96) hn4 (by omega)))) (fun c_11 => ?_)
  refine V_iconst (v := -1) o dX9_sign_14 (by decide) ?_
  refine V_iret o rt dX9_sign_15 rfl rfl ?_
  exact ⟨rfl, rfl⟩
set_option maxRecDepth 20000 in
set_option maxHeartbeats 4000000 in
theorem c9_end {w : Wp} (hf : Fit sh0 w) {σ : Mm} {d : Nat} {M : Nat → Int32} {k : Int32} : Cf sh0 w 1 mX9_end [.ref 67, .int k] (sM σ d M) (some (.int (bz (inR k 0 (σ.1 67 4))))) (sM (if inR k 0 (σ.1 67 4) then wI (wI σ 67 0 0) 67 4 k else wI σ 67 0 0) d M) := by
  refine Ct_of hf (by decide) rfl (Nat.le_of_ble_eq_true rfl) (fun x o rt => ?_)
  have hb := in_lo (k := k) (lo := 0) (hi := σ.1 67 4) (l := 0) (h := (σ.1 67 4).toInt64) (by decide) rfl
  refine V_aload_n o dX9_end_0 rfl rfl ?_
  refine V_iconst (v := 0) o dX9_end_1 (by decide) ?_
  refine V_putI o dX9_end_2 rfl fl_X9_1 rfl rfl rfl ?_
  rw [wI_sM67]
  refine V_iload_n o dX9_end_5 rfl rfl ?_
  refine V_i2l o dX9_end_6 ?_
  refine V_lconst (v := 0) o dX9_end_7 (by decide) ?_
  refine V_aload_n o dX9_end_8 rfl rfl ?_
  refine V_getI o dX9_end_9 rfl fl_X9_14 rfl ?_
  refine V_i2l o dX9_end_12 ?_
  refine V_cSi o rt dX9_end_13 ms_X9_21 (c9_in hf) rfl rfl (Nat.le_of_ble_eq_true rfl) rfl ?_
  refine V_if_ne (tgt := 21) o dX9_end_16 (by decide) (fun c_16 => ?_) (fun c_16 => ?_)
  · refine V_aload_n o dX9_end_21 rfl rfl ?_
    refine V_iload_n o dX9_end_22 rfl rfl ?_
    refine V_putI o dX9_end_23 rfl fl_X9_14 rfl rfl rfl ?_
    rw [wI_sM67]
    refine V_iconst (v := 1) o dX9_end_26 (by decide) ?_
    refine V_iret o rt dX9_end_27 rfl (by first | rfl | exact bz_z) ?_
    have h : inR k 0 (σ.1 67 4) := hb.mp (bz_n0.mp c_16)
    exact ⟨by rw [bz_t h], by rw [if_pos h]⟩
  · refine V_iconst (v := 0) o dX9_end_19 (by decide) ?_
    refine V_iret o rt dX9_end_20 rfl (by first | rfl | exact bz_z) ?_
    have h : ¬ inR k 0 (σ.1 67 4) := fun q => bz_0.mp c_16 (hb.mpr q)
    exact ⟨by rw [bz_f h], by rw [if_neg h]⟩
