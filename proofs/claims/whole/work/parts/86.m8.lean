set_option maxRecDepth 20000 in
set_option maxHeartbeats 4000000 in
theorem c8_full0 {w : Wp} (hf : Fit sh0 w) {σ : Mm} {M : Nat → Int32} {L r n : Nat} {l : List Int64} {T : Nat → Int32} (hK : KR M L r l T n σ) (hF : Wf M L) (hB : Bo M) {j sz : Nat} (hj : j < L) (hsz : M (1 + j) = nI sz) (hsz2 : sz ≤ 16) {S : List Nat × Int32} (hS0 : itr (flF M (nI j)) 0 sz ([], 0) = S) : Ct sh0 w 2 mX8_full [.ref 1, .int (nI j)] σ (fun r' σ' => r' = some (.int (nI S.1.length)) ∧ Off 1 67 σ σ' ∧ KR (M) (L) r (rowN S.1 ++ [S.2.toInt64]) (T) (n) σ') := by
  have hL := hF.2.2.1
  have hW := hK.1
  refine Ct_of hf (by decide) rfl (Nat.le_of_ble_eq_true rfl) (fun x o rt => ?_)
  have loop : ∀ m i (s : List Nat × Int32) (τ : Mm), i + m = sz → s.1.length ≤ i → Off 52 54 σ τ → RwC (rowN s.1) τ → itr (flF M (nI j)) i m s = S → V sh0 w x mX8_full (0, 0) 27 [(3, .int (nI i)), (2, .int s.2), (0, .ref 1), (1, .int (nI j))] [] τ := by
    intro m
    induction m with
    | zero =>
      intro i s τ hi hsl ho_0 hR_0 hR
      have hs : s = S := hR
      subst hs
      have hWt := (hW.off (lo := 52) (hi := 54) hL (fun _ _ _ => rfl) ho_0 (by omega))
      have hlen : (rowN s.1).length = s.1.length := by simp [rowN]
      refine V_iload_n o dX8_full_27 rfl rfl ?_
      refine V_aload_n o dX8_full_28 rfl rfl ?_
      refine V_getR (t := 2) o dX8_full_29 rfl fl_X8_10 rfl ?_
      refine V_getR (t := 3) o dX8_full_32 rfl fl_X8_62 rfl ?_
      refine V_iload_n o dX8_full_35 rfl rfl ?_
      refine V_cVi o rt dX8_full_36 ml_X8_253 (c4_sizeOf_3 hf hWt.2.1 hL (by omega)) rfl rfl rfl (Nat.le_of_ble_eq_true rfl) rfl ?_
      refine V_icmp_ge (tgt := 78) o dX8_full_39 (by decide) (fun c_39 => ?_) (fun c_39 => False.elim (c_39 (by rw [hsz]; exact nI_le (by omega) (by omega))))
      refine V_aload_n o dX8_full_78 rfl rfl ?_
      refine V_getR (t := 52) o dX8_full_79 rfl fl_X8_33 rfl ?_
      refine V_getIE (v := nI (s.1.length)) o dX8_full_82 rfl fl_X8_260 rfl (hR_0.1.trans (by rw [hlen])) ?_
      refine V_istore_n (ls' := [(3, _), (2, _), (0, _), (1, _)]) o dX8_full_85 rfl (by decide) rfl ?_
      refine V_aload_n o dX8_full_86 rfl rfl ?_
      refine V_getR (t := 52) o dX8_full_87 rfl fl_X8_33 rfl ?_
      refine V_iload_n o dX8_full_90 rfl rfl ?_
      refine V_i2l o dX8_full_91 ?_
      refine V_callV o rt dX8_full_92 ml_X8_210 (c3_put hf hR_0 (by omega)) rfl rfl rfl (Nat.le_of_ble_eq_true rfl) rfl (fun r_92 σ_92 q_92 => ?_)
      obtain ⟨rfl, hp_92, hR_92⟩ := q_92
      have ho_92 := ho_0.tr hp_92
      show V sh0 w x mX8_full (0, 0) _ _ [] _
      refine V_iload_n o dX8_full_95 rfl rfl ?_
      refine V_iret o rt dX8_full_96 rfl rfl ?_
      exact ⟨rfl, ho_92.wd (by omega) (by omega), hK.rw hL ho_92 hR_92⟩
    | succ m ih =>
      intro i s τ hi hsl ho_0 hR_0 hR
      have hWt := (hW.off (lo := 52) (hi := 54) hL (fun _ _ _ => rfl) ho_0 (by omega))
      have hlen : (rowN s.1).length = s.1.length := by simp [rowN]
      rw [itr_succ] at hR
      refine V_iload_n o dX8_full_27 rfl rfl ?_
      refine V_aload_n o dX8_full_28 rfl rfl ?_
      refine V_getR (t := 2) o dX8_full_29 rfl fl_X8_10 rfl ?_
      refine V_getR (t := 3) o dX8_full_32 rfl fl_X8_62 rfl ?_
      refine V_iload_n o dX8_full_35 rfl rfl ?_
      refine V_cVi o rt dX8_full_36 ml_X8_253 (c4_sizeOf_3 hf hWt.2.1 hL (by omega)) rfl rfl rfl (Nat.le_of_ble_eq_true rfl) rfl ?_
      refine V_icmp_ge (tgt := 78) o dX8_full_39 (by decide) (fun c_39 => False.elim (absurd c_39 (by rw [hsz]; exact nI_ge (by omega) (by omega)))) (fun c_39 => ?_)
      refine V_aload_n o dX8_full_42 rfl rfl ?_
      refine V_getR (t := 2) o dX8_full_43 rfl fl_X8_10 rfl ?_
      refine V_iload_n o dX8_full_46 rfl rfl ?_
      refine V_iload_n o dX8_full_47 rfl rfl ?_
      refine V_cVi o rt dX8_full_48 ml_X8_261 (c7_countIn hf hWt hB rfl) rfl rfl rfl (Nat.le_of_ble_eq_true rfl) rfl ?_
      refine V_istore (ls' := [(4, _), (3, _), (2, _), (0, _), (1, _)]) o dX8_full_51 (by decide) rfl ?_
      refine V_iload o dX8_full_53 rfl ?_
      refine V_if_le (tgt := 67) o dX8_full_55 (by decide) (fun c_55 => ?_) (fun c_55 => ?_)
      · refine V_iload_n o dX8_full_67 rfl rfl ?_
        refine V_iload o dX8_full_68 rfl ?_
        refine V_iadd o dX8_full_70 ?_
        refine V_istore_n (ls' := [(2, _), (4, _), (3, _), (0, _), (1, _)]) o dX8_full_71 rfl (by decide) rfl ?_
        refine V_iincV (v := nI (i + 1)) (ls' := [(3, _), (2, _), (4, _), (0, _), (1, _)]) o dX8_full_72 rfl (ninc 1 rfl) (by decide) rfl ?_
        refine V_goto (tgt := 27) o dX8_full_75 (by decide) ?_
        have e : flF M (nI j) i s = (s.1, s.2 + cntI M (nI j) (nI i)) := by rw [flF, if_neg (Int32.not_lt.mpr c_55)]
        rw [e] at hR
        exact V_sub (by simp) (ih (i + 1) (s.1, s.2 + cntI M (nI j) (nI i)) τ (by omega) (by show s.1.length ≤ i + 1; omega) ho_0 hR_0 hR)
      · refine V_aload_n o dX8_full_58 rfl rfl ?_
        refine V_getR (t := 52) o dX8_full_59 rfl fl_X8_33 rfl ?_
        refine V_iload_n o dX8_full_62 rfl rfl ?_
        refine V_i2l o dX8_full_63 ?_
        refine V_callV o rt dX8_full_64 ml_X8_210 (c3_put hf hR_0 (by omega)) rfl rfl rfl (Nat.le_of_ble_eq_true rfl) rfl (fun r_64 σ_64 q_64 => ?_)
        obtain ⟨rfl, hp_64, hR_64⟩ := q_64
        have ho_64 := ho_0.tr hp_64
        show V sh0 w x mX8_full (0, 0) _ _ [] _
        refine V_iload_n o dX8_full_67 rfl rfl ?_
        refine V_iload o dX8_full_68 rfl ?_
        refine V_iadd o dX8_full_70 ?_
        refine V_istore_n (ls' := [(2, _), (4, _), (3, _), (0, _), (1, _)]) o dX8_full_71 rfl (by decide) rfl ?_
        refine V_iincV (v := nI (i + 1)) (ls' := [(3, _), (2, _), (4, _), (0, _), (1, _)]) o dX8_full_72 rfl (ninc 1 rfl) (by decide) rfl ?_
        refine V_goto (tgt := 27) o dX8_full_75 (by decide) ?_
        have e : flF M (nI j) i s = (s.1 ++ [i], s.2 + cntI M (nI j) (nI i)) := by rw [flF, if_pos (Int32.not_le.mp c_55)]
        rw [e] at hR
        exact V_sub (by simp) (ih (i + 1) (s.1 ++ [i], s.2 + cntI M (nI j) (nI i)) σ_64 (by omega) (by show (s.1 ++ [i]).length ≤ i + 1; simp; omega) ho_64 (by show RwC (rowN (s.1 ++ [i])) _; rw [rowN, List.map_append]; exact hR_64) hR)
  refine V_aload_n o dX8_full_0 rfl rfl ?_
  refine V_getR (t := 2) o dX8_full_1 rfl fl_X8_10 rfl ?_
  refine V_getR (t := 3) o dX8_full_4 rfl fl_X8_62 rfl ?_
  refine V_iload_n o dX8_full_7 rfl rfl ?_
  refine V_cVi o rt dX8_full_8 ml_X8_250 (c4_hasLevel_3 hf hW.2.1) rfl rfl rfl (Nat.le_of_ble_eq_true rfl) rfl ?_
  refine V_if_ne (tgt := 16) o dX8_full_11 (by decide) (fun c_11 => ?_) (fun c_11 => False.elim (bz_0.mp c_11 (by obtain ⟨L1, rfl⟩ : ∃ L1, L = L1 + 1 := ⟨L - 1, by omega⟩; rw [nI_pred]; exact nI_rng (by omega) (by omega))))
  refine V_iconst (v := 0) o dX8_full_16 (by decide) ?_
  refine V_istore_n (ls' := [(2, _), (0, _), (1, _)]) o dX8_full_17 rfl (by decide) rfl ?_
  refine V_aload_n o dX8_full_18 rfl rfl ?_
  refine V_getR (t := 52) o dX8_full_19 rfl fl_X8_33 rfl ?_
  refine V_callV o rt dX8_full_22 ml_X8_209 (c3_empty hf) rfl rfl rfl (Nat.le_of_ble_eq_true rfl) rfl (fun r_22 σ_22 q_22 => ?_)
  obtain ⟨rfl, ho_22, hR_22⟩ := q_22
  show V sh0 w x mX8_full (0, 0) _ _ [] _
  refine V_iconst (v := 0) o dX8_full_25 (by decide) ?_
  refine V_istore_n (ls' := [(3, _), (2, _), (0, _), (1, _)]) o dX8_full_26 rfl (by decide) rfl ?_
  exact V_sub (by simp; rfl) (loop sz 0 ([], 0) σ_22 (by omega) (Nat.le_refl 0) ho_22 hR_22 hS0)
set_option maxRecDepth 20000 in
set_option maxHeartbeats 4000000 in
theorem c8_full_no {w : Wp} (hf : Fit sh0 w) {σ : Mm} {M : Nat → Int32} {L r n : Nat} {l : List Int64} {T : Nat → Int32} (hK : KR M L r l T n σ) (hF : Wf M L) (hB : Bo M) {lv : Int32} (hc : ¬ inR lv 0 (M 0 - 1)) : Ct sh0 w 2 mX8_full [.ref 1, .int lv] σ (fun r' σ' => r' = some (.int (-1)) ∧ Off 1 67 σ σ' ∧ KR (M) (L) r (l) (T) (n) σ') := by
  have hL := hF.2.2.1
  have hW := hK.1
  refine Ct_of hf (by decide) rfl (Nat.le_of_ble_eq_true rfl) (fun x o rt => ?_)
  refine V_aload_n o dX8_full_0 rfl rfl ?_
  refine V_getR (t := 2) o dX8_full_1 rfl fl_X8_10 rfl ?_
  refine V_getR (t := 3) o dX8_full_4 rfl fl_X8_62 rfl ?_
  refine V_iload_n o dX8_full_7 rfl rfl ?_
  refine V_cVi o rt dX8_full_8 ml_X8_250 (c4_hasLevel_3 hf hW.2.1) rfl rfl rfl (Nat.le_of_ble_eq_true rfl) rfl ?_
  refine V_if_ne (tgt := 16) o dX8_full_11 (by decide) (fun c_11 => False.elim (hc (by rw [hF.1]; exact bz_n0.mp c_11))) (fun c_11 => ?_)
  refine V_iconst (v := -1) o dX8_full_14 (by decide) ?_
  refine V_iret o rt dX8_full_15 rfl rfl ?_
  exact ⟨rfl, Off.rf, hK⟩
theorem c8_full {w : Wp} (hf : Fit sh0 w) {σ : Mm} {M : Nat → Int32} {L r n : Nat} {l : List Int64} {T : Nat → Int32} (hK : KR M L r l T n σ) (hF : Wf M L) (hB : Bo M) (hSl : SlA M L) {lv : Int32} (hc : inR lv 0 (M 0 - 1)) {S : Int32 × Int32} (hS : fuS M lv = S) {G : List Nat} (hG : fuL S.1 = G) : Ct sh0 w 2 mX8_full [.ref 1, .int lv] σ (fun r' σ' => r' = some (.int (nI G.length)) ∧ Off 1 67 σ σ' ∧ KR (M) (L) r (rowN G ++ [S.2.toInt64]) (T) (n) σ') := by
  have hL := hF.2.2.1
  rw [hF.1] at hc
  obtain ⟨L1, rfl⟩ : ∃ L1, L = L1 + 1 := ⟨L - 1, by have := hF.2.1; omega⟩
  rw [nI_pred] at hc
  have hx := inR_nI (N := L1) (by omega) hc
  generalize ix lv = j at hx
  obtain ⟨rfl, hj⟩ := hx
  obtain ⟨sz, hsz, h1, h2⟩ := hF.2.2.2 j (by omega)
  have := c8_full0 hf hK hF hB (by omega) hsz h2 (full_eq hB (by omega) h2 (fun t ht hb => by
    obtain ⟨s, z, e1, e2, e3, e4⟩ := hSl t ht (of_decide_eq_true hb).1 j (by omega) (of_decide_eq_true hb).2
    exact ⟨s, e2, by have := (nI_eq (by omega) (by omega)).mp (hsz.symm.trans e1); omega⟩))
  rw [hS, hG] at this
  exact this
