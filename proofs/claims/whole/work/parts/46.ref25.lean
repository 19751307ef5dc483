/-- ticks till so many rang: the desk, logged, rang, clock -/
def tiN (L : Nat) (m : Int32) (s : (Nat → Int32) × Nat × Int32 × Int32) : (Nat → Int32) × Nat × Int32 × Int32 :=
  (tickM s.1 L s.2.1, tkR s.1 L s.2.1, s.2.2.1 + nI (tkLn s.1 L).2, if s.2.2.1 + nI (tkLn s.1 L).2 < m then -2 else tickM s.1 L s.2.1 6)
def tiL (L : Nat) (m : Int32) : Nat → ((Nat → Int32) × Nat × Int32 × Int32) → ((Nat → Int32) × Nat × Int32 × Int32)
  | 0, s => s
  | n + 1, s => if s.2.2.1 < m then tiL L m n (tiN L m s) else s
set_option maxRecDepth 20000 in
set_option maxHeartbeats 4000000 in
theorem c9_till {w : Wp} (hf : Fit sh0 w) {σ : Mm} {M : Nat → Int32} (hd : σ.1 67 8 = nI 0) {L r c : Nat} (hI : Ck (trM M) L r c) {k : Int32} (hk : inR k 1 100) (hc : c + 100 ≤ 1000000000) (h6 : M 6 = nI c) {R : (Nat → Int32) × Nat × Int32 × Int32} (hR0 : tiL L k 100 (trM M, r, 0, -2) = R) : Ct sh0 w 8 mX9_till [.ref 67, .int k] (sM σ 0 M) (fun r' σ' => ∃ fl nl f1 f2 h, r' = some (.int R.2.2.2) ∧ if R.2.2.2 < 0 then σ' = sM (wI (sHd (sLn (wI σ 67 0 0) fl nl) f1 f2 h) 67 8 0) 0 (bkM M R.1) else ∃ fr, σ' = sM (sRw (wI (sHd (sLn (wI σ 67 0 0) fl nl) f1 f2 h) 67 8 0) fr 2) 0 (bkM M R.1) ∧ RwR fr [R.2.2.1.toInt64, (R.1 8 - M 8).toInt64]) := by
  have hdx : (wI (sM (wI σ 67 0 0) 0 M) 67 8 423).1 67 8 = nI 423 := rfl
  refine Ct_of hf (by decide) rfl (Nat.le_of_ble_eq_true rfl) (fun x o rt => ?_)
  have fin : ∀ (s : (Nat → Int32) × Nat × Int32 × Int32) i fl nl f1 f2 h, s = R → V sh0 w x mX9_till (0, 0) 100 [(5, .int (nI i)), (4, .int s.2.2.2), (3, .int s.2.2.1), (2, .int (M 8)), (0, .ref 67), (1, .int k)] [] (sM (sHd (sLn (wI (sM (wI σ 67 0 0) 0 M) 67 8 423) fl nl) f1 f2 h) 423 s.1) := by
    intro s i fl nl f1 f2 h hs
    subst hs
    refine V_aload_n o dX9_till_100 rfl rfl ?_
    refine V_bipush (v := 8) o dX9_till_101 (by decide) ?_
    refine V_cVi o rt dX9_till_103 ml_X9_85 (c9_of hf (by exact hdx) (show (8 : Int32) = nI 8 from rfl) (by omega)) rfl rfl rfl (Nat.le_of_ble_eq_true rfl) rfl ?_
    refine V_iload_n o dX9_till_106 rfl rfl ?_
    refine V_isub o dX9_till_107 ?_
    refine V_istore_n (ls' := [(2, _), (5, _), (4, _), (3, _), (0, _), (1, _)]) o dX9_till_108 rfl (by decide) rfl ?_
    rw [sLn_dk, sHd_dk]
    refine V_aload_n o dX9_till_109 rfl rfl ?_
    refine V_cVv o rt dX9_till_110 ml_X9_249 (c9_isBack hf) rfl rfl rfl (Nat.le_of_ble_eq_true rfl) rfl ?_
    refine V_iload o dX9_till_113 rfl ?_
    refine V_if_lt (tgt := 135) o dX9_till_115 (by decide) (fun c_115 => ?_) (fun c_115 => ?_)
    · refine V_iload o dX9_till_135 rfl ?_
      refine V_iret o rt dX9_till_137 rfl rfl ?_
      refine ⟨fl, nl, f1, f2, h, rfl, ?_⟩
      rw [if_pos c_115]
    · refine V_aload_n o dX9_till_118 rfl rfl ?_
      refine V_iconst (v := 0) o dX9_till_119 (by decide) ?_
      refine V_putI o dX9_till_120 rfl fl_X9_11 rfl rfl rfl ?_
      rw [wI_sM67]
      rw [wI_sRw0]
      refine V_aload_n o dX9_till_123 rfl rfl ?_
      refine V_iload_n o dX9_till_124 rfl rfl ?_
      refine V_i2l o dX9_till_125 ?_
      refine V_cVv o rt dX9_till_126 ml_X9_153 (c9_enters hf (by omega)) rfl rfl rfl (Nat.le_of_ble_eq_true rfl) rfl ?_
      refine V_aload_n o dX9_till_129 rfl rfl ?_
      refine V_iload_n o dX9_till_130 rfl rfl ?_
      refine V_i2l o dX9_till_131 ?_
      refine V_cVv o rt dX9_till_132 ml_X9_153 (c9_enters hf (by omega)) rfl rfl rfl (Nat.le_of_ble_eq_true rfl) rfl ?_
      refine V_iload o dX9_till_135 rfl ?_
      refine V_iret o rt dX9_till_137 rfl rfl ?_
      refine ⟨fl, nl, f1, f2, h, rfl, ?_⟩
      rw [if_neg c_115]
      exact ⟨_, rfl, RwR_push (l := [_]) rfl (RwR_push (l := []) rfl RwR_nil)⟩
  have loop : ∀ n i (s : (Nat → Int32) × Nat × Int32 × Int32) c fl nl f1 f2 h, i + n = 100 → Ck s.1 L s.2.1 c → c + n ≤ 1000000000 → tiL L k n s = R → V sh0 w x mX9_till (0, 0) 56 [(5, .int (nI i)), (4, .int s.2.2.2), (3, .int s.2.2.1), (2, .int (M 8)), (0, .ref 67), (1, .int k)] [] (sM (sHd (sLn (wI (sM (wI σ 67 0 0) 0 M) 67 8 423) fl nl) f1 f2 h) 423 s.1) := by
    intro n
    induction n with
    | zero =>
      intro i s c fl nl f1 f2 h him hCk hcn hR
      have hi : i = 100 := by omega
      refine V_iload o dX9_till_56 rfl ?_
      refine V_bipush (v := 100) o dX9_till_58 (by decide) ?_
      refine V_icmp_ge (tgt := 100) o dX9_till_60 (by decide) (fun c_60 => ?_) (fun c_60 => False.elim (c_60 (by rw [hi]; exact Int32.le_refl _)))
      exact fin s i fl nl f1 f2 h hR
    | succ n ih =>
      intro i s c fl nl f1 f2 h him hCk hcn hR
      rw [tiL] at hR
      have hle : (tkLn s.1 L).2 ≤ 16 := lineM_le
      have hk2 := Ck_tick hCk
      unfold tiN at hR
      generalize hLN : tkLn s.1 L = LN at hR hle
      generalize hM2 : tickM s.1 L s.2.1 = M2 at hR hk2
      generalize tkR s.1 L s.2.1 = r2 at hR hk2
      refine V_iload o dX9_till_56 rfl ?_
      refine V_bipush (v := 100) o dX9_till_58 (by decide) ?_
      refine V_icmp_ge (tgt := 100) o dX9_till_60 (by decide) (fun c_60 => False.elim (absurd c_60 (nI_ge (b := 100) (by omega) (by omega)))) (fun c_60 => ?_)
      refine V_iload_n o dX9_till_63 rfl rfl ?_
      refine V_iload_n o dX9_till_64 rfl rfl ?_
      refine V_icmp_ge (tgt := 100) o dX9_till_65 (by decide) (fun c_65 => ?_) (fun c_65 => ?_)
      · rw [if_neg (Int32.not_lt.mpr c_65)] at hR
        exact fin s i fl nl f1 f2 h hR
      · rw [if_pos (Int32.not_le.mp c_65)] at hR
        refine V_iload_n o dX9_till_68 rfl rfl ?_
        refine V_aload_n o dX9_till_69 rfl rfl ?_
        refine V_iconst (v := 1) o dX9_till_70 (by decide) ?_
        refine V_callV o rt dX9_till_71 ml_X9_185 (c9_tick1 hf (by exact hdx) (Nat.le_refl 423) hCk (by omega) hLN hM2) rfl rfl rfl (Nat.le_of_ble_eq_true rfl) rfl (fun r_71 σ_71 q_71 => ?_)
        obtain ⟨fl2, nl2, g1, g2, rfl, rfl, hg1⟩ := q_71
        rw [sLn_sHd, sLn_sLn, sHd_sHd]
        show V sh0 w x mX9_till (0, 0) _ _ (.int (nI LN.2) :: [.int s.2.2.1]) _
        refine V_iadd o dX9_till_74 ?_
        refine V_istore_n (ls' := [(3, _), (5, _), (4, _), (2, _), (0, _), (1, _)]) o dX9_till_75 rfl (by decide) rfl ?_
        refine V_iload_n o dX9_till_76 rfl rfl ?_
        refine V_iload_n o dX9_till_77 rfl rfl ?_
        refine V_icmp_lt (tgt := 90) o dX9_till_78 (by decide) (fun c_78 => ?_) (fun c_78 => ?_)
        · refine V_bipush (v := -2) o dX9_till_90 (by decide) ?_
          refine V_istore (ls' := [(4, _), (3, _), (5, _), (2, _), (0, _), (1, _)]) o dX9_till_92 (by decide) rfl ?_
          refine V_iincV (v := nI (i + 1)) (ls' := [(5, _), (4, _), (3, _), (2, _), (0, _), (1, _)]) o dX9_till_94 rfl (ninc 1 rfl) (by decide) rfl ?_
          refine V_goto (tgt := 56) o dX9_till_97 (by decide) ?_
          rw [if_pos c_78] at hR
          exact V_sub (by simp) (ih (i + 1) (M2, r2, s.2.2.1 + nI LN.2, (-2)) (c + 1) fl2 nl2 g1 g2 LN.2 (by omega) hk2 (by omega) hR)
        · refine V_aload_n o dX9_till_81 rfl rfl ?_
          refine V_bipush (v := 6) o dX9_till_82 (by decide) ?_
          refine V_cVi o rt dX9_till_84 ml_X9_85 (c9_of hf (by exact hdx) (show (6 : Int32) = nI 6 from rfl) (by omega)) rfl rfl rfl (Nat.le_of_ble_eq_true rfl) rfl ?_
          refine V_goto (tgt := 92) o dX9_till_87 (by decide) ?_
          refine V_istore (ls' := [(4, _), (3, _), (5, _), (2, _), (0, _), (1, _)]) o dX9_till_92 (by decide) rfl ?_
          refine V_iincV (v := nI (i + 1)) (ls' := [(5, _), (4, _), (3, _), (2, _), (0, _), (1, _)]) o dX9_till_94 rfl (ninc 1 rfl) (by decide) rfl ?_
          refine V_goto (tgt := 56) o dX9_till_97 (by decide) ?_
          rw [if_neg c_78] at hR
          exact V_sub (by simp) (ih (i + 1) (M2, r2, s.2.2.1 + nI LN.2, (M2 6)) (c + 1) fl2 nl2 g1 g2 LN.2 (by omega) hk2 (by omega) hR)
  refine V_aload_n o dX9_till_0 rfl rfl ?_
  refine V_iconst (v := 0) o dX9_till_1 (by decide) ?_
  refine V_putI o dX9_till_2 rfl fl_X9_1 rfl rfl rfl ?_
  rw [wI_sM67]
  refine V_iload_n o dX9_till_5 rfl rfl ?_
  refine V_i2l o dX9_till_6 ?_
  refine V_lconst (v := 1) o dX9_till_7 (by decide) ?_
  refine V_ldc2 o dX9_till_8 kc_X9_183 ?_
  refine V_cSi o rt dX9_till_11 ms_X9_21 (c9_in hf) rfl rfl (Nat.le_of_ble_eq_true rfl) rfl ?_
  refine V_if_ne (tgt := 19) o dX9_till_14 (by decide) (fun c_14 => ?_) (fun c_14 => False.elim (bz_n0.mpr ((in_lo (k := k) (lo := 1) (hi := 100) (l := 1) (h := 100) (by decide) (by decide)).mpr hk) c_14))
  refine V_aload_n o dX9_till_19 rfl rfl ?_
  refine V_bipush (v := 6) o dX9_till_20 (by decide) ?_
  refine V_cVi o rt dX9_till_22 ml_X9_85 (c9_of hf (by exact hd) (show (6 : Int32) = nI 6 from rfl) (by omega)) rfl rfl rfl (Nat.le_of_ble_eq_true rfl) rfl ?_
  refine V_bipush (v := 100) o dX9_till_25 (by decide) ?_
  refine V_iadd o dX9_till_27 ?_
  refine V_ldc o dX9_till_28 kc_X9_157 ?_
  refine V_icmp_le (tgt := 36) o dX9_till_30 (by decide) (fun c_30 => ?_) (fun c_30 => False.elim (c_30 (by rw [h6]; show nI c + nI 100 ≤ _; rw [nI_add]; exact nI_le (b := 1000000000) hc (by omega))))
  refine V_aload_n o dX9_till_36 rfl rfl ?_
  refine V_cVv o rt dX9_till_37 ml_X9_246 (c9_tries hf) rfl rfl rfl (Nat.le_of_ble_eq_true rfl) rfl ?_
  refine V_aload_n o dX9_till_40 rfl rfl ?_
  refine V_bipush (v := 8) o dX9_till_41 (by decide) ?_
  refine V_cVi o rt dX9_till_43 ml_X9_85 (c9_of hf (by exact hdx) (show (8 : Int32) = nI 8 from rfl) (by omega)) rfl rfl rfl (Nat.le_of_ble_eq_true rfl) rfl ?_
  refine V_topI (v' := M 8) rfl ?_
  refine V_istore_n (ls' := [(2, _), (0, _), (1, _)]) o dX9_till_46 rfl (by decide) rfl ?_
  refine V_iconst (v := 0) o dX9_till_47 (by decide) ?_
  refine V_istore_n (ls' := [(3, _), (2, _), (0, _), (1, _)]) o dX9_till_48 rfl (by decide) rfl ?_
  refine V_bipush (v := -2) o dX9_till_49 (by decide) ?_
  refine V_istore (ls' := [(4, _), (3, _), (2, _), (0, _), (1, _)]) o dX9_till_51 (by decide) rfl ?_
  refine V_iconst (v := 0) o dX9_till_53 (by decide) ?_
  refine V_istore (ls' := [(5, _), (4, _), (3, _), (2, _), (0, _), (1, _)]) o dX9_till_54 (by decide) rfl ?_
  obtain ⟨nl, hnl⟩ := ex_nI ((wI (sM (wI σ 67 0 0) 0 M) 67 8 423).1 67 10)
  obtain ⟨h, hh⟩ := ex_nI ((wI (sM (wI σ 67 0 0) 0 M) 67 8 423).1 67 13)
  have h0 := loop 100 0 (trM M, r, 0, -2) c ((wI (sM (wI σ 67 0 0) 0 M) 67 8 423).1 71) nl ((wI (sM (wI σ 67 0 0) 0 M) 67 8 423).1 72) ((wI (sM (wI σ 67 0 0) 0 M) 67 8 423).1 73) h (by omega) hI hc hR0
  rw [sLn_of hnl, sHd_of hh] at h0
  exact h0
set_option maxRecDepth 20000 in
set_option maxHeartbeats 4000000 in
theorem c9_till_no {w : Wp} (hf : Fit sh0 w) {σ : Mm} {M : Nat → Int32} (hd : σ.1 67 8 = nI 0) {k : Int32} (hk : ¬ inR k 1 100) : Cf sh0 w 8 mX9_till [.ref 67, .int k] (sM σ 0 M) (some (.int (-1))) (sM (wI σ 67 0 0) 0 M) := by
  refine Ct_of hf (by decide) rfl (Nat.le_of_ble_eq_true rfl) (fun x o rt => ?_)
  refine V_aload_n o dX9_till_0 rfl rfl ?_
  refine V_iconst (v := 0) o dX9_till_1 (by decide) ?_
  refine V_putI o dX9_till_2 rfl fl_X9_1 rfl rfl rfl ?_
  rw [wI_sM67]
  refine V_iload_n o dX9_till_5 rfl rfl ?_
  refine V_i2l o dX9_till_6 ?_
  refine V_lconst (v := 1) o dX9_till_7 (by decide) ?_
  refine V_ldc2 o dX9_till_8 kc_X9_183 ?_
  refine V_cSi o rt dX9_till_11 ms_X9_21 (c9_in hf) rfl rfl (Nat.le_of_ble_eq_true rfl) rfl ?_
  refine V_if_ne (tgt := 19) o dX9_till_14 (by decide) (fun c_14 => False.elim (hk ((in_lo (k := k) (lo := 1) (hi := 100) (l := 1) (h := 100) (by decide) (by decide)).mp (bz_n0.mp c_14)))) (fun c_14 => ?_)
  refine V_iconst (v := -1) o dX9_till_17 (by decide) ?_
  refine V_iret o rt dX9_till_18 rfl rfl ?_
  exact ⟨rfl, rfl⟩
set_option maxRecDepth 20000 in
set_option maxHeartbeats 4000000 in
theorem c9_till_end {w : Wp} (hf : Fit sh0 w) {σ : Mm} {M : Nat → Int32} (hd : σ.1 67 8 = nI 0) {k : Int32} (hk : inR k 1 100) (hc : M 6 + 100 > 1000000000) : Cf sh0 w 8 mX9_till [.ref 67, .int k] (sM σ 0 M) (some (.int (-4))) (sM (wI σ 67 0 0) 0 M) := by
  refine Ct_of hf (by decide) rfl (Nat.le_of_ble_eq_true rfl) (fun x o rt => ?_)
  refine V_aload_n o dX9_till_0 rfl rfl ?_
  refine V_iconst (v := 0) o dX9_till_1 (by decide) ?_
  refine V_putI o dX9_till_2 rfl fl_X9_1 rfl rfl rfl ?_
  rw [wI_sM67]
  refine V_iload_n o dX9_till_5 rfl rfl ?_
  refine V_i2l o dX9_till_6 ?_
  refine V_lconst (v := 1) o dX9_till_7 (by decide) ?_
  refine V_ldc2 o dX9_till_8 kc_X9_183 ?_
  refine V_cSi o rt dX9_till_11 ms_X9_21 (c9_in hf) rfl rfl (Nat.le_of_ble_eq_true rfl) rfl ?_
  refine V_if_ne (tgt := 19) o dX9_till_14 (by decide) (fun c_14 => ?_) (fun c_14 => False.elim (bz_n0.mpr ((in_lo (k := k) (lo := 1) (hi := 100) (l := 1) (h := 100) (by decide) (by decide)).mpr hk) c_14))
  refine V_aload_n o dX9_till_19 rfl rfl ?_
  refine V_bipush (v := 6) o dX9_till_20 (by decide) ?_
  refine V_cVi o rt dX9_till_22 ml_X9_85 (c9_of hf (by exact hd) (show (6 : Int32) = nI 6 from rfl) (by omega)) rfl rfl rfl (Nat.le_of_ble_eq_true rfl) rfl ?_
  refine V_bipush (v := 100) o dX9_till_25 (by decide) ?_
  refine V_iadd o dX9_till_27 ?_
  refine V_ldc o dX9_till_28 kc_X9_157 ?_
  refine V_icmp_le (tgt := 36) o dX9_till_30 (by decide) (fun c_30 => False.elim (absurd c_30 (Int32.not_le.mpr hc))) (fun c_30 => ?_)
  refine V_bipush (v := -4) o dX9_till_33 (by decide) ?_
  refine V_iret o rt dX9_till_35 rfl rfl ?_
  exact ⟨rfl, rfl⟩
theorem hcat_at {f v : Nat → Int32} {n i : Nat} (h : i < n) : hcat f 0 n v i = v i := by
  unfold hcat
  rw [if_pos (by omega), Nat.sub_zero]
def rowD (M : Nat → Int32) (g : Nat → Nat) (n : Nat) : List Int64 := (List.range n).flatMap (fun j => [(nI (g j)).toInt64, if isT M (g j) then (M (231 + g j)).toInt64 else -1])
theorem rowD_succ (M : Nat → Int32) (g : Nat → Nat) (n : Nat) : rowD M g (n + 1) = rowD M g n ++ [(nI (g n)).toInt64] ++ [if isT M (g n) then (M (231 + g n)).toInt64 else -1] := by simp [rowD, List.range_succ]
theorem rowD_len (M : Nat → Int32) (g : Nat → Nat) (n : Nat) : (rowD M g n).length = 2 * n := by
  induction n with
  | zero => rfl
  | succ n ih => rw [rowD_succ, List.length_append, List.length_append, ih]; simp; omega
theorem sRw_dk {σ : Mm} {M : Nat → Int32} {v : Int32} {f : Nat → Int64} {n : Nat} : sRw (wI (sM σ 0 M) 67 8 v) f n = wI (sM (sRw σ f n) 0 M) 67 8 v := by
  refine Prod.ext (funext fun a => funext fun j => ?_) rfl
  simp only [sRw, wI, sM, up2]
  by_cases h1 : a = 70
  · subst h1; simp
  · by_cases h3 : a = 67
    · subst h3
      by_cases h4 : j = 8
      · subst h4; simp
      · by_cases h5 : j = 1
        · subst h5; simp
        · simp [h4, h5]
    · simp [h1, h3]
set_option maxRecDepth 20000 in
set_option maxHeartbeats 4000000 in
theorem c9_would_no {w : Wp} (hf : Fit sh0 w) {σ : Mm} {M : Nat → Int32} (hd : σ.1 67 8 = nI 0) {k : Int32} (hk : ¬ (k ≠ 0 ∧ -1000000 ≤ k ∧ k ≤ 1000000)) : Cf sh0 w 8 mX9_would [.ref 67, .int k] (sM σ 0 M) (some (.int (-1))) (sM (wI σ 67 0 0) 0 M) := by
  refine Ct_of hf (by decide) rfl (Nat.le_of_ble_eq_true rfl) (fun x o rt => ?_)
  refine V_aload_n o dX9_would_0 rfl rfl ?_
  refine V_iconst (v := 0) o dX9_would_1 (by decide) ?_
  refine V_putI o dX9_would_2 rfl fl_X9_1 rfl rfl rfl ?_
  rw [wI_sM67]
  refine V_iload_n o dX9_would_5 rfl rfl ?_
  refine V_cSi o rt dX9_would_6 ms_X9_195 (c9_isLeap hf) rfl rfl (Nat.le_of_ble_eq_true rfl) rfl ?_
  refine V_if_ne (tgt := 14) o dX9_would_9 (by decide) (fun c_9 => False.elim (hk (bz_n0.mp c_9))) (fun c_9 => ?_)
  refine V_iconst (v := -1) o dX9_would_12 (by decide) ?_
  refine V_iret o rt dX9_would_13 rfl rfl ?_
  exact ⟨rfl, rfl⟩
set_option maxRecDepth 20000 in
set_option maxHeartbeats 4000000 in
theorem c9_would_end {w : Wp} (hf : Fit sh0 w) {σ : Mm} {M : Nat → Int32} (hd : σ.1 67 8 = nI 0) {k : Int32} (hk : (k ≠ 0 ∧ -1000000 ≤ k ∧ k ≤ 1000000)) (hc : ¬ ((0 : Int64) ≤ (M 6).toInt64 + k.toInt64 ∧ (M 6).toInt64 + k.toInt64 ≤ 1000000000)) : Cf sh0 w 8 mX9_would [.ref 67, .int k] (sM σ 0 M) (some (.int (-4))) (sM (wI (wI σ 67 0 0) 67 8 0) 0 (bkM M (trM M))) := by
  have hdx : (wI (sM (wI σ 67 0 0) 0 M) 67 8 423).1 67 8 = nI 423 := rfl
  refine Ct_of hf (by decide) rfl (Nat.le_of_ble_eq_true rfl) (fun x o rt => ?_)
  refine V_aload_n o dX9_would_0 rfl rfl ?_
  refine V_iconst (v := 0) o dX9_would_1 (by decide) ?_
  refine V_putI o dX9_would_2 rfl fl_X9_1 rfl rfl rfl ?_
  rw [wI_sM67]
  refine V_iload_n o dX9_would_5 rfl rfl ?_
  refine V_cSi o rt dX9_would_6 ms_X9_195 (c9_isLeap hf) rfl rfl (Nat.le_of_ble_eq_true rfl) rfl ?_
  refine V_if_ne (tgt := 14) o dX9_would_9 (by decide) (fun c_9 => ?_) (fun c_9 => False.elim (bz_n0.mpr hk c_9))
  refine V_aload_n o dX9_would_14 rfl rfl ?_
  refine V_cVv o rt dX9_would_15 ml_X9_246 (c9_tries hf) rfl rfl rfl (Nat.le_of_ble_eq_true rfl) rfl ?_
  refine V_aload_n o dX9_would_18 rfl rfl ?_
  refine V_iload_n o dX9_would_19 rfl rfl ?_
  refine V_cVi o rt dX9_would_20 ml_X9_198 (c9_leapsBy_no (M := trM M) hf (by exact hdx) (Nat.le_refl 423) hc) rfl rfl rfl (Nat.le_of_ble_eq_true rfl) rfl ?_
  refine V_istore_n (ls' := [(2, _), (0, _), (1, _)]) o dX9_would_23 rfl (by decide) rfl ?_
  refine V_iload_n o dX9_would_24 rfl rfl ?_
  refine V_if_lt (tgt := 94) o dX9_would_25 (by decide) (fun c_25 => ?_) (fun c_25 => False.elim (c_25 (by decide)))
  refine V_aload_n o dX9_would_94 rfl rfl ?_
  refine V_cVv o rt dX9_would_95 ml_X9_249 (c9_isBack hf) rfl rfl rfl (Nat.le_of_ble_eq_true rfl) rfl ?_
  refine V_iload_n o dX9_would_98 rfl rfl ?_
  refine V_iret o rt dX9_would_99 rfl rfl ?_
  exact ⟨rfl, rfl⟩
set_option maxRecDepth 20000 in
set_option maxHeartbeats 4000000 in
theorem c9_would {w : Wp} (hf : Fit sh0 w) {σ : Mm} {M : Nat → Int32} (hd : σ.1 67 8 = nI 0) {L r : Nat} (hI : Iv (trM M) L r) {k : Int32} (hk : (k ≠ 0 ∧ -1000000 ≤ k ∧ k ≤ 1000000)) (hc : ((0 : Int64) ≤ (M 6).toInt64 + k.toInt64 ∧ (M 6).toInt64 + k.toInt64 ≤ 1000000000)) {S : (Nat → Int32) × (Nat → Nat) × Nat} (hS : lpS (trM M) k = S) {ML : Nat → Int32} (hML : layAllM (ringM S.1 L r S.2.1 S.2.2) L = ML) : Ct sh0 w 8 mX9_would [.ref 67, .int k] (sM σ 0 M) (fun r' σ' => ∃ fl f1 f2 fr, r' = some (.int (nI S.2.2)) ∧ σ' = sM (wI (sRw (sHd (sLn (wI σ 67 0 0) fl S.2.2) f1 f2 (0 + S.2.2)) fr (2 * S.2.2)) 67 8 0) 0 (bkM M ML) ∧ RwR fr (rowD ML S.2.1 S.2.2)) := by
  have hA := lpS_all (M := trM M) (n := k)
  rw [hS] at hA
  have h16 := hA.1
  have hdx : (wI (sM (wI σ 67 0 0) 0 M) 67 8 423).1 67 8 = nI 423 := rfl
  refine Ct_of hf (by decide) rfl (Nat.le_of_ble_eq_true rfl) (fun x o rt => ?_)
  have loop : ∀ fl n i (fr : Nat → Int64), i + n = S.2.2 → RwR fr (rowD ML S.2.1 i) → V sh0 w x mX9_would (0, 0) 35 [(3, .int (nI i)), (2, .int (nI S.2.2)), (0, .ref 67), (1, .int k)] [] (sM (sRw (sHd (sLn (wI (sM (wI σ 67 0 0) 0 M) 67 8 423) fl S.2.2) (hcat ((wI (sM (wI σ 67 0 0) 0 M) 67 8 423).1 72) 0 S.2.2 (fun j => nI (S.2.1 j))) (hcat ((wI (sM (wI σ 67 0 0) 0 M) 67 8 423).1 73) 0 S.2.2 (fun j => S.1 (231 + S.2.1 j))) (0 + S.2.2)) fr (2 * i)) 423 ML) := by
    intro fl n
    induction n with
    | zero =>
      intro i fr hin hF
      have hi : i = S.2.2 := by omega
      subst hi
      refine V_iload_n o dX9_would_35 rfl rfl ?_
      refine V_aload_n o dX9_would_36 rfl rfl ?_
      refine V_getIE (v := nI (0 + S.2.2)) o dX9_would_37 rfl fl_X9_129 rfl rfl ?_
      refine V_icmp_ge (tgt := 94) o dX9_would_40 (by decide) (fun c_40 => ?_) (fun c_40 => False.elim (c_40 (nI_le (by omega) (by omega))))
      rw [sLn_dk, sHd_dk, sRw_dk]
      refine V_aload_n o dX9_would_94 rfl rfl ?_
      refine V_cVv o rt dX9_would_95 ml_X9_249 (c9_isBack hf) rfl rfl rfl (Nat.le_of_ble_eq_true rfl) rfl ?_
      refine V_iload_n o dX9_would_98 rfl rfl ?_
      refine V_iret o rt dX9_would_99 rfl rfl ?_
      exact ⟨fl, _, _, fr, rfl, rfl, hF⟩
    | succ n ih =>
      intro i fr hin hF
      have hgi := (hA.2.1 i (by omega)).1
      refine V_iload_n o dX9_would_35 rfl rfl ?_
      refine V_aload_n o dX9_would_36 rfl rfl ?_
      refine V_getIE (v := nI (0 + S.2.2)) o dX9_would_37 rfl fl_X9_129 rfl rfl ?_
      refine V_icmp_ge (tgt := 94) o dX9_would_40 (by decide) (fun c_40 => False.elim (absurd c_40 (nI_ge (by omega) (by omega)))) (fun c_40 => ?_)
      refine V_aload_n o dX9_would_43 rfl rfl ?_
      refine V_getR (t := 72) o dX9_would_44 rfl fl_X9_55 rfl ?_
      refine V_iload_n o dX9_would_47 rfl rfl ?_
      refine V_ialdE (v := nI (S.2.1 i)) 2000 o dX9_would_48 rfl rfl rfl (by omega) rfl (show hcat ((wI (sM (wI σ 67 0 0) 0 M) 67 8 423).1 72) 0 S.2.2 (fun j => nI (S.2.1 j)) i = nI (S.2.1 i) from hcat_at (v := fun j => nI (S.2.1 j)) (by omega)) ?_
      refine V_istore (ls' := [(4, _), (3, _), (2, _), (0, _), (1, _)]) o dX9_would_49 (by decide) rfl ?_
      refine V_aload_n o dX9_would_51 rfl rfl ?_
      refine V_iload o dX9_would_52 rfl ?_
      refine V_i2l o dX9_would_54 ?_
      refine V_cVv o rt dX9_would_55 ml_X9_153 (c9_enters hf (by omega)) rfl rfl rfl (Nat.le_of_ble_eq_true rfl) rfl ?_
      refine V_aload_n o dX9_would_58 rfl rfl ?_
      refine V_aload_n o dX9_would_59 rfl rfl ?_
      refine V_iload o dX9_would_60 rfl ?_
      refine V_cVi o rt dX9_would_62 ml_X9_89 (c9_isTimer hf (by exact hdx) (Nat.le_refl 423) rfl hgi) rfl rfl rfl (Nat.le_of_ble_eq_true rfl) rfl ?_
      refine V_if_eq (tgt := 82) o dX9_would_65 (by decide) (fun c_65 => ?_) (fun c_65 => ?_)
      · refine V_ldc2 o dX9_would_82 kc_X9_272 ?_
        refine V_cVv o rt dX9_would_85 ml_X9_153 (c9_enters hf (by omega)) rfl rfl rfl (Nat.le_of_ble_eq_true rfl) rfl ?_
        refine V_iincV (v := nI (i + 1)) (ls' := [(3, _), (4, _), (2, _), (0, _), (1, _)]) o dX9_would_88 rfl (ninc 1 rfl) (by decide) rfl ?_
        refine V_goto (tgt := 35) o dX9_would_91 (by decide) ?_
        have h1 := ih (i + 1) (updL (updL fr (2 * i) (nI (S.2.1 i)).toInt64) (2 * i + 1) (-1)) (by omega) (by
          rw [rowD_succ, if_neg (bz_0.mp c_65)]
          exact RwR_push (by rw [List.length_append, rowD_len]; rfl) (RwR_push (rowD_len _ _ _).symm hF))
        rw [show 2 * (i + 1) = 2 * i + 1 + 1 by omega] at h1
        exact V_sub (by simp) h1
      · refine V_aload_n o dX9_would_68 rfl rfl ?_
        refine V_sipush (v := 231) o dX9_would_69 (by decide) ?_
        refine V_iload o dX9_would_72 rfl ?_
        refine V_iadd o dX9_would_74 ?_
        refine V_cVi o rt dX9_would_75 ml_X9_85 (c9_of hf (by exact hdx) (nadd (show (231 : Int32) = nI 231 from rfl) rfl) (by omega)) rfl rfl rfl (Nat.le_of_ble_eq_true rfl) rfl ?_
        refine V_i2l o dX9_would_78 ?_
        refine V_goto (tgt := 85) o dX9_would_79 (by decide) ?_
        refine V_cVv o rt dX9_would_85 ml_X9_153 (c9_enters hf (by omega)) rfl rfl rfl (Nat.le_of_ble_eq_true rfl) rfl ?_
        refine V_iincV (v := nI (i + 1)) (ls' := [(3, _), (4, _), (2, _), (0, _), (1, _)]) o dX9_would_88 rfl (ninc 1 rfl) (by decide) rfl ?_
        refine V_goto (tgt := 35) o dX9_would_91 (by decide) ?_
        have h1 := ih (i + 1) (updL (updL fr (2 * i) (nI (S.2.1 i)).toInt64) (2 * i + 1) (ML (231 + S.2.1 i)).toInt64) (by omega) (by
          rw [rowD_succ, if_pos (bz_n0.mp c_65)]
          exact RwR_push (by rw [List.length_append, rowD_len]; rfl) (RwR_push (rowD_len _ _ _).symm hF))
        rw [show 2 * (i + 1) = 2 * i + 1 + 1 by omega] at h1
        exact V_sub (by simp) h1
  refine V_aload_n o dX9_would_0 rfl rfl ?_
  refine V_iconst (v := 0) o dX9_would_1 (by decide) ?_
  refine V_putI o dX9_would_2 rfl fl_X9_1 rfl rfl rfl ?_
  rw [wI_sM67]
  refine V_iload_n o dX9_would_5 rfl rfl ?_
  refine V_cSi o rt dX9_would_6 ms_X9_195 (c9_isLeap hf) rfl rfl (Nat.le_of_ble_eq_true rfl) rfl ?_
  refine V_if_ne (tgt := 14) o dX9_would_9 (by decide) (fun c_9 => ?_) (fun c_9 => False.elim (bz_n0.mpr hk c_9))
  refine V_aload_n o dX9_would_14 rfl rfl ?_
  refine V_cVv o rt dX9_would_15 ml_X9_246 (c9_tries hf) rfl rfl rfl (Nat.le_of_ble_eq_true rfl) rfl ?_
  refine V_aload_n o dX9_would_18 rfl rfl ?_
  refine V_iload_n o dX9_would_19 rfl rfl ?_
  refine V_callV o rt dX9_would_20 ml_X9_198 (c9_leapsBy (M := trM M) hf (by exact hdx) (Nat.le_refl 423) hI hc hS) rfl rfl rfl (Nat.le_of_ble_eq_true rfl) rfl (fun r_20 σ_20 q_20 => ?_)
  obtain ⟨rfl, fl, rfl⟩ := q_20
  rw [hML]
  show V sh0 w x mX9_would (0, 0) _ _ (.int (nI S.2.2) :: []) _
  refine V_istore_n (ls' := [(2, _), (0, _), (1, _)]) o dX9_would_23 rfl (by decide) rfl ?_
  refine V_iload_n o dX9_would_24 rfl rfl ?_
  refine V_if_lt (tgt := 94) o dX9_would_25 (by decide) (fun c_25 => False.elim (absurd c_25 (nI_pos (by omega)))) (fun c_25 => ?_)
  refine V_aload_n o dX9_would_28 rfl rfl ?_
  refine V_iconst (v := 0) o dX9_would_29 (by decide) ?_
  refine V_putI o dX9_would_30 rfl fl_X9_11 rfl rfl rfl ?_
  rw [wI_sM67]
  rw [wI_sRw0]
  refine V_iconst (v := 0) o dX9_would_33 (by decide) ?_
  refine V_istore_n (ls' := [(3, _), (2, _), (0, _), (1, _)]) o dX9_would_34 rfl (by decide) rfl ?_
  exact loop fl S.2.2 0 _ (by omega) RwR_nil
