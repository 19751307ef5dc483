/-- a question that lets so many ticks go by on the other desk -/
def askF {α : Type} (L : Nat) (F : ((Nat → Nat) × Nat) → (Nat → Int32) → α → α) (_ : Nat) (s : (Nat → Int32) × Nat × α) : (Nat → Int32) × Nat × α := (tickM s.1 L s.2.1, tkR s.1 L s.2.1, F (tkLn s.1 L) (tickM s.1 L s.2.1) s.2.2)
def askS {α : Type} (L : Nat) (F : ((Nat → Nat) × Nat) → (Nat → Int32) → α → α) (n : Nat) (s : (Nat → Int32) × Nat × α) : (Nat → Int32) × Nat × α := itr (askF L F) 0 n s
def quW (M2 : Nat → Int32) (v : Int32 × Int32 × Int32) (nw : Int32) : Int32 × Int32 × Int32 := (mxI v.1 nw, if nw > v.1 then M2 6 - nw + 1 else v.2.1, nw)
def quV (LN : (Nat → Nat) × Nat) (M2 : Nat → Int32) (v : Int32 × Int32 × Int32) : Int32 × Int32 × Int32 := quW M2 v (if LN.2 = 0 then v.2.2 + 1 else 0)
/-- clock, most, such -/
def buV (LN : (Nat → Nat) × Nat) (M2 : Nat → Int32) (v : Int32 × Int32 × Int32) : Int32 × Int32 × Int32 := (if nI LN.2 > v.2.1 then M2 6 else v.1, mxI v.2.1 (nI LN.2), if nI LN.2 > v.2.1 then 1 else if nI LN.2 = v.2.1 then v.2.2 + 1 else v.2.2)
/-- such, clock, one, other -/
def clV (LN : (Nat → Nat) × Nat) (M2 : Nat → Int32) (v : Int32 × Int32 × Int32 × Int32) : Int32 × Int32 × Int32 × Int32 :=
  if LN.2 > 1 then (if v.1 = 0 then (v.1 + 1, M2 6, nI (LN.1 0), nI (LN.1 1)) else (v.1 + 1, v.2)) else (v.1 + 0, v.2)
theorem nI_eq0 {n : Nat} (h : n < 2147483648) : nI n = 0 ↔ n = 0 := nI_eq (b := 0) h (by omega)
theorem nI_le1 {n : Nat} (h : n < 2147483648) : nI n ≤ 1 ↔ n ≤ 1 := nI_leI (b := 1) h (by omega)
set_option maxRecDepth 20000 in
set_option maxHeartbeats 4000000 in
theorem c9_quiet {w : Wp} (hf : Fit sh0 w) {σ : Mm} {M : Nat → Int32} (hd : σ.1 67 8 = nI 0) {L r c : Nat} (hI : Ck (trM M) L r c) {k : Int32} {m : Nat} (hm : k = nI m) (hm1 : 1 ≤ m) (hm2 : m ≤ 100) (hc : c + m ≤ 1000000000) (h6 : M 6 = nI c) {R : (Nat → Int32) × Nat × (Int32 × Int32 × Int32)} (hR0 : askS L quV m (trM M, r, ((0, 0, 0) : Int32 × Int32 × Int32)) = R) : Ct sh0 w 8 mX9_quiet [.ref 67, .int k] (sM σ 0 M) (fun r' σ' => ∃ fl nl f1 f2 h fr, r' = some (.int R.2.2.1) ∧ σ' = sM (sRw (wI (sHd (sLn (wI σ 67 0 0) fl nl) f1 f2 h) 67 8 0) fr 1) 0 (bkM M R.1) ∧ RwR fr [R.2.2.2.1.toInt64]) := by
  unfold askS at hR0
  subst hm
  have hdx : (wI (sM (wI σ 67 0 0) 0 M) 67 8 423).1 67 8 = nI 423 := rfl
  refine Ct_of hf (by decide) rfl (Nat.le_of_ble_eq_true rfl) (fun x o rt => ?_)
  have hk : inR (nI m) 1 100 := ⟨nI_le (a := 1) hm1 (by omega), nI_le (b := 100) hm2 (by omega)⟩
  have loop : ∀ n i (s : (Nat → Int32) × Nat × (Int32 × Int32 × Int32)) c fl nl f1 f2 h, i + n = m → Ck s.1 L s.2.1 c → c + n ≤ 1000000000 → itr (askF L quV) i n s = R → V sh0 w x mX9_quiet (0, 0) 49 [(5, .int (nI i)), (4, .int s.2.2.2.2), (3, .int s.2.2.2.1), (2, .int s.2.2.1), (0, .ref 67), (1, .int (nI m))] [] (sM (sHd (sLn (wI (sM (wI σ 67 0 0) 0 M) 67 8 423) fl nl) f1 f2 h) 423 s.1) := by
    intro n
    induction n with
    | zero =>
      intro i s c fl nl f1 f2 h him hCk hcn hR
      have hi : i = m := by omega
      have hs : s = R := hR
      subst hs
      refine V_iload o dX9_quiet_49 rfl ?_
      refine V_iload_n o dX9_quiet_51 rfl rfl ?_
      refine V_icmp_ge (tgt := 112) o dX9_quiet_52 (by decide) (fun c_52 => ?_) (fun c_52 => False.elim (c_52 (by rw [hi]; exact Int32.le_refl _)))
      rw [sLn_dk, sHd_dk]
      refine V_aload_n o dX9_quiet_112 rfl rfl ?_
      refine V_cVv o rt dX9_quiet_113 ml_X9_249 (c9_isBack hf) rfl rfl rfl (Nat.le_of_ble_eq_true rfl) rfl ?_
      refine V_aload_n o dX9_quiet_116 rfl rfl ?_
      refine V_iconst (v := 0) o dX9_quiet_117 (by decide) ?_
      refine V_putI o dX9_quiet_118 rfl fl_X9_11 rfl rfl rfl ?_
      rw [wI_sM67]
      rw [wI_sRw0]
      refine V_aload_n o dX9_quiet_121 rfl rfl ?_
      refine V_iload_n o dX9_quiet_122 rfl rfl ?_
      refine V_i2l o dX9_quiet_123 ?_
      refine V_cVv o rt dX9_quiet_124 ml_X9_153 (c9_enters hf (by omega)) rfl rfl rfl (Nat.le_of_ble_eq_true rfl) rfl ?_
      refine V_iload_n o dX9_quiet_127 rfl rfl ?_
      refine V_iret o rt dX9_quiet_128 rfl rfl ?_
      exact ⟨fl, nl, f1, f2, h, _, rfl, rfl, RwR_push (l := []) rfl RwR_nil⟩
    | succ n ih =>
      intro i s c fl nl f1 f2 h him hCk hcn hR
      rw [itr_succ, askF] at hR
      have hle : (tkLn s.1 L).2 ≤ 16 := lineM_le
      have hk2 := Ck_tick hCk
      generalize hLN : tkLn s.1 L = LN at hR hle
      generalize hM2 : tickM s.1 L s.2.1 = M2 at hR hk2
      generalize tkR s.1 L s.2.1 = r2 at hR hk2
      refine V_iload o dX9_quiet_49 rfl ?_
      refine V_iload_n o dX9_quiet_51 rfl rfl ?_
      refine V_icmp_ge (tgt := 112) o dX9_quiet_52 (by decide) (fun c_52 => False.elim (absurd c_52 (nI_ge (by omega) (by omega)))) (fun c_52 => ?_)
      refine V_aload_n o dX9_quiet_55 rfl rfl ?_
      refine V_iconst (v := 1) o dX9_quiet_56 (by decide) ?_
      refine V_callV o rt dX9_quiet_57 ml_X9_185 (c9_tick1 hf (by exact hdx) (Nat.le_refl 423) hCk (by omega) hLN hM2) rfl rfl rfl (Nat.le_of_ble_eq_true rfl) rfl (fun r_57 σ_57 q_57 => ?_)
      obtain ⟨fl2, nl2, g1, g2, rfl, rfl, hg1⟩ := q_57
      rw [sLn_sHd, sLn_sLn, sHd_sHd]
      show V sh0 w x mX9_quiet (0, 0) _ _ (.int (nI LN.2) :: []) _
      refine V_istore (ls' := [(6, _), (5, _), (4, _), (3, _), (2, _), (0, _), (1, _)]) o dX9_quiet_60 (by decide) rfl ?_
      refine V_iload o dX9_quiet_62 rfl ?_
      refine V_if_ne (tgt := 74) o dX9_quiet_64 (by decide) (fun c_64 => ?_) (fun c_64 => ?_)
      · refine V_iconst (v := 0) o dX9_quiet_74 (by decide) ?_
        refine V_istore (ls' := [(4, _), (6, _), (5, _), (3, _), (2, _), (0, _), (1, _)]) o dX9_quiet_75 (by decide) rfl ?_
        refine V_iload o dX9_quiet_77 rfl ?_
        refine V_iload_n o dX9_quiet_79 rfl rfl ?_
        refine V_icmp_le (tgt := 97) o dX9_quiet_80 (by decide) (fun c_80 => ?_) (fun c_80 => ?_)
        · refine V_iload_n o dX9_quiet_97 rfl rfl ?_
          refine V_istore_n (ls' := [(3, _), (4, _), (6, _), (5, _), (2, _), (0, _), (1, _)]) o dX9_quiet_98 rfl (by decide) rfl ?_
          refine V_iload_n o dX9_quiet_99 rfl rfl ?_
          refine V_iload o dX9_quiet_100 rfl ?_
          refine V_cSi o rt dX9_quiet_102 ms_X9_150 (cJ_max hf) rfl rfl (Nat.le_of_ble_eq_true rfl) rfl ?_
          refine V_istore_n (ls' := [(2, _), (3, _), (4, _), (6, _), (5, _), (0, _), (1, _)]) o dX9_quiet_105 rfl (by decide) rfl ?_
          refine V_iincV (v := nI (i + 1)) (ls' := [(5, _), (2, _), (3, _), (4, _), (6, _), (0, _), (1, _)]) o dX9_quiet_106 rfl (ninc 1 rfl) (by decide) rfl ?_
          refine V_goto (tgt := 49) o dX9_quiet_109 (by decide) ?_
          rw [quV, if_neg (fun q => c_64 ((nI_eq0 (by omega)).mpr q)), quW, if_neg (Int32.not_lt.mpr c_80)] at hR
          exact V_sub (by simp) (ih (i + 1) (M2, r2, mxI s.2.2.1 0, s.2.2.2.1, 0) (c + 1) fl2 nl2 g1 g2 LN.2 (by omega) hk2 (by omega) hR)
        · refine V_aload_n o dX9_quiet_83 rfl rfl ?_
          refine V_bipush (v := 6) o dX9_quiet_84 (by decide) ?_
          refine V_cVi o rt dX9_quiet_86 ml_X9_85 (c9_of hf (by exact hdx) (show (6 : Int32) = nI 6 from rfl) (by omega)) rfl rfl rfl (Nat.le_of_ble_eq_true rfl) rfl ?_
          refine V_iload o dX9_quiet_89 rfl ?_
          refine V_isub o dX9_quiet_91 ?_
          refine V_iconst (v := 1) o dX9_quiet_92 (by decide) ?_
          refine V_iadd o dX9_quiet_93 ?_
          refine V_goto (tgt := 98) o dX9_quiet_94 (by decide) ?_
          refine V_istore_n (ls' := [(3, _), (4, _), (6, _), (5, _), (2, _), (0, _), (1, _)]) o dX9_quiet_98 rfl (by decide) rfl ?_
          refine V_iload_n o dX9_quiet_99 rfl rfl ?_
          refine V_iload o dX9_quiet_100 rfl ?_
          refine V_cSi o rt dX9_quiet_102 ms_X9_150 (cJ_max hf) rfl rfl (Nat.le_of_ble_eq_true rfl) rfl ?_
          refine V_istore_n (ls' := [(2, _), (3, _), (4, _), (6, _), (5, _), (0, _), (1, _)]) o dX9_quiet_105 rfl (by decide) rfl ?_
          refine V_iincV (v := nI (i + 1)) (ls' := [(5, _), (2, _), (3, _), (4, _), (6, _), (0, _), (1, _)]) o dX9_quiet_106 rfl (ninc 1 rfl) (by decide) rfl ?_
          refine V_goto (tgt := 49) o dX9_quiet_109 (by decide) ?_
          rw [quV, if_neg (fun q => c_64 ((nI_eq0 (by omega)).mpr q)), quW, if_pos (Int32.not_le.mp c_80)] at hR
          exact V_sub (by simp) (ih (i + 1) (M2, r2, mxI s.2.2.1 0, (M2 6 - 0 + 1), 0) (c + 1) fl2 nl2 g1 g2 LN.2 (by omega) hk2 (by omega) hR)
      · refine V_iload o dX9_quiet_67 rfl ?_
        refine V_iconst (v := 1) o dX9_quiet_69 (by decide) ?_
        refine V_iadd o dX9_quiet_70 ?_
        refine V_goto (tgt := 75) o dX9_quiet_71 (by decide) ?_
        refine V_istore (ls' := [(4, _), (6, _), (5, _), (3, _), (2, _), (0, _), (1, _)]) o dX9_quiet_75 (by decide) rfl ?_
        refine V_iload o dX9_quiet_77 rfl ?_
        refine V_iload_n o dX9_quiet_79 rfl rfl ?_
        refine V_icmp_le (tgt := 97) o dX9_quiet_80 (by decide) (fun c_80 => ?_) (fun c_80 => ?_)
        · refine V_iload_n o dX9_quiet_97 rfl rfl ?_
          refine V_istore_n (ls' := [(3, _), (4, _), (6, _), (5, _), (2, _), (0, _), (1, _)]) o dX9_quiet_98 rfl (by decide) rfl ?_
          refine V_iload_n o dX9_quiet_99 rfl rfl ?_
          refine V_iload o dX9_quiet_100 rfl ?_
          refine V_cSi o rt dX9_quiet_102 ms_X9_150 (cJ_max hf) rfl rfl (Nat.le_of_ble_eq_true rfl) rfl ?_
          refine V_istore_n (ls' := [(2, _), (3, _), (4, _), (6, _), (5, _), (0, _), (1, _)]) o dX9_quiet_105 rfl (by decide) rfl ?_
          refine V_iincV (v := nI (i + 1)) (ls' := [(5, _), (2, _), (3, _), (4, _), (6, _), (0, _), (1, _)]) o dX9_quiet_106 rfl (ninc 1 rfl) (by decide) rfl ?_
          refine V_goto (tgt := 49) o dX9_quiet_109 (by decide) ?_
          rw [quV, if_pos ((nI_eq0 (by omega)).mp c_64), quW, if_neg (Int32.not_lt.mpr c_80)] at hR
          exact V_sub (by simp) (ih (i + 1) (M2, r2, mxI s.2.2.1 (s.2.2.2.2 + 1), s.2.2.2.1, (s.2.2.2.2 + 1)) (c + 1) fl2 nl2 g1 g2 LN.2 (by omega) hk2 (by omega) hR)
        · refine V_aload_n o dX9_quiet_83 rfl rfl ?_
          refine V_bipush (v := 6) o dX9_quiet_84 (by decide) ?_
          refine V_cVi o rt dX9_quiet_86 ml_X9_85 (c9_of hf (by exact hdx) (show (6 : Int32) = nI 6 from rfl) (by omega)) rfl rfl rfl (Nat.le_of_ble_eq_true rfl) rfl ?_
          refine V_iload o dX9_quiet_89 rfl ?_
          refine V_isub o dX9_quiet_91 ?_
          refine V_iconst (v := 1) o dX9_quiet_92 (by decide) ?_
          refine V_iadd o dX9_quiet_93 ?_
          refine V_goto (tgt := 98) o dX9_quiet_94 (by decide) ?_
          refine V_istore_n (ls' := [(3, _), (4, _), (6, _), (5, _), (2, _), (0, _), (1, _)]) o dX9_quiet_98 rfl (by decide) rfl ?_
          refine V_iload_n o dX9_quiet_99 rfl rfl ?_
          refine V_iload o dX9_quiet_100 rfl ?_
          refine V_cSi o rt dX9_quiet_102 ms_X9_150 (cJ_max hf) rfl rfl (Nat.le_of_ble_eq_true rfl) rfl ?_
          refine V_istore_n (ls' := [(2, _), (3, _), (4, _), (6, _), (5, _), (0, _), (1, _)]) o dX9_quiet_105 rfl (by decide) rfl ?_
          refine V_iincV (v := nI (i + 1)) (ls' := [(5, _), (2, _), (3, _), (4, _), (6, _), (0, _), (1, _)]) o dX9_quiet_106 rfl (ninc 1 rfl) (by decide) rfl ?_
          refine V_goto (tgt := 49) o dX9_quiet_109 (by decide) ?_
          rw [quV, if_pos ((nI_eq0 (by omega)).mp c_64), quW, if_pos (Int32.not_le.mp c_80)] at hR
          exact V_sub (by simp) (ih (i + 1) (M2, r2, mxI s.2.2.1 (s.2.2.2.2 + 1), (M2 6 - (s.2.2.2.2 + 1) + 1), (s.2.2.2.2 + 1)) (c + 1) fl2 nl2 g1 g2 LN.2 (by omega) hk2 (by omega) hR)
  refine V_aload_n o dX9_quiet_0 rfl rfl ?_
  refine V_iconst (v := 0) o dX9_quiet_1 (by decide) ?_
  refine V_putI o dX9_quiet_2 rfl fl_X9_1 rfl rfl rfl ?_
  rw [wI_sM67]
  refine V_iload_n o dX9_quiet_5 rfl rfl ?_
  refine V_i2l o dX9_quiet_6 ?_
  refine V_lconst (v := 1) o dX9_quiet_7 (by decide) ?_
  refine V_ldc2 o dX9_quiet_8 kc_X9_183 ?_
  refine V_cSi o rt dX9_quiet_11 ms_X9_21 (c9_in hf) rfl rfl (Nat.le_of_ble_eq_true rfl) rfl ?_
  refine V_if_ne (tgt := 19) o dX9_quiet_14 (by decide) (fun c_14 => ?_) (fun c_14 => False.elim (bz_n0.mpr ((in_lo (k := (nI m)) (lo := 1) (hi := 100) (l := 1) (h := 100) (by decide) (by decide)).mpr hk) c_14))
  refine V_aload_n o dX9_quiet_19 rfl rfl ?_
  refine V_bipush (v := 6) o dX9_quiet_20 (by decide) ?_
  refine V_cVi o rt dX9_quiet_22 ml_X9_85 (c9_of hf (by exact hd) (show (6 : Int32) = nI 6 from rfl) (by omega)) rfl rfl rfl (Nat.le_of_ble_eq_true rfl) rfl ?_
  refine V_iload_n o dX9_quiet_25 rfl rfl ?_
  refine V_iadd o dX9_quiet_26 ?_
  refine V_ldc o dX9_quiet_27 kc_X9_157 ?_
  refine V_icmp_le (tgt := 35) o dX9_quiet_29 (by decide) (fun c_29 => ?_) (fun c_29 => False.elim (c_29 (by rw [h6, nI_add]; exact nI_le (b := 1000000000) hc (by omega))))
  refine V_aload_n o dX9_quiet_35 rfl rfl ?_
  refine V_cVv o rt dX9_quiet_36 ml_X9_246 (c9_tries hf) rfl rfl rfl (Nat.le_of_ble_eq_true rfl) rfl ?_
  refine V_iconst (v := 0) o dX9_quiet_39 (by decide) ?_
  refine V_istore_n (ls' := [(2, _), (0, _), (1, _)]) o dX9_quiet_40 rfl (by decide) rfl ?_
  refine V_iconst (v := 0) o dX9_quiet_41 (by decide) ?_
  refine V_istore_n (ls' := [(3, _), (2, _), (0, _), (1, _)]) o dX9_quiet_42 rfl (by decide) rfl ?_
  refine V_iconst (v := 0) o dX9_quiet_43 (by decide) ?_
  refine V_istore (ls' := [(4, _), (3, _), (2, _), (0, _), (1, _)]) o dX9_quiet_44 (by decide) rfl ?_
  refine V_iconst (v := 0) o dX9_quiet_46 (by decide) ?_
  refine V_istore (ls' := [(5, _), (4, _), (3, _), (2, _), (0, _), (1, _)]) o dX9_quiet_47 (by decide) rfl ?_
  obtain ⟨nl, hnl⟩ := ex_nI ((wI (sM (wI σ 67 0 0) 0 M) 67 8 423).1 67 10)
  obtain ⟨h, hh⟩ := ex_nI ((wI (sM (wI σ 67 0 0) 0 M) 67 8 423).1 67 13)
  have h0 := loop m 0 (trM M, r, ((0, 0, 0) : Int32 × Int32 × Int32)) c ((wI (sM (wI σ 67 0 0) 0 M) 67 8 423).1 71) nl ((wI (sM (wI σ 67 0 0) 0 M) 67 8 423).1 72) ((wI (sM (wI σ 67 0 0) 0 M) 67 8 423).1 73) h (by omega) hI hc hR0
  rw [sLn_of hnl, sHd_of hh] at h0
  exact h0
set_option maxRecDepth 20000 in
set_option maxHeartbeats 4000000 in
theorem c9_quiet_no {w : Wp} (hf : Fit sh0 w) {σ : Mm} {M : Nat → Int32} (hd : σ.1 67 8 = nI 0) {k : Int32} (hk : ¬ inR k 1 100) : Cf sh0 w 8 mX9_quiet [.ref 67, .int k] (sM σ 0 M) (some (.int (-1))) (sM (wI σ 67 0 0) 0 M) := by
  refine Ct_of hf (by decide) rfl (Nat.le_of_ble_eq_true rfl) (fun x o rt => ?_)
  refine V_aload_n o dX9_quiet_0 rfl rfl ?_
  refine V_iconst (v := 0) o dX9_quiet_1 (by decide) ?_
  refine V_putI o dX9_quiet_2 rfl fl_X9_1 rfl rfl rfl ?_
  rw [wI_sM67]
  refine V_iload_n o dX9_quiet_5 rfl rfl ?_
  refine V_i2l o dX9_quiet_6 ?_
  refine V_lconst (v := 1) o dX9_quiet_7 (by decide) ?_
  refine V_ldc2 o dX9_quiet_8 kc_X9_183 ?_
  refine V_cSi o rt dX9_quiet_11 ms_X9_21 (c9_in hf) rfl rfl (Nat.le_of_ble_eq_true rfl) rfl ?_
  refine V_if_ne (tgt := 19) o dX9_quiet_14 (by decide) (fun c_14 => False.elim (hk ((in_lo (k := k) (lo := 1) (hi := 100) (l := 1) (h := 100) (by decide) (by decide)).mp (bz_n0.mp c_14)))) (fun c_14 => ?_)
  refine V_iconst (v := -1) o dX9_quiet_17 (by decide) ?_
  refine V_iret o rt dX9_quiet_18 rfl rfl ?_
  exact ⟨rfl, rfl⟩
set_option maxRecDepth 20000 in
set_option maxHeartbeats 4000000 in
theorem c9_quiet_end {w : Wp} (hf : Fit sh0 w) {σ : Mm} {M : Nat → Int32} (hd : σ.1 67 8 = nI 0) {k : Int32} (hk : inR k 1 100) (hc : M 6 + k > 1000000000) : Cf sh0 w 8 mX9_quiet [.ref 67, .int k] (sM σ 0 M) (some (.int (-4))) (sM (wI σ 67 0 0) 0 M) := by
  refine Ct_of hf (by decide) rfl (Nat.le_of_ble_eq_true rfl) (fun x o rt => ?_)
  refine V_aload_n o dX9_quiet_0 rfl rfl ?_
  refine V_iconst (v := 0) o dX9_quiet_1 (by decide) ?_
  refine V_putI o dX9_quiet_2 rfl fl_X9_1 rfl rfl rfl ?_
  rw [wI_sM67]
  refine V_iload_n o dX9_quiet_5 rfl rfl ?_
  refine V_i2l o dX9_quiet_6 ?_
  refine V_lconst (v := 1) o dX9_quiet_7 (by decide) ?_
  refine V_ldc2 o dX9_quiet_8 kc_X9_183 ?_
  refine V_cSi o rt dX9_quiet_11 ms_X9_21 (c9_in hf) rfl rfl (Nat.le_of_ble_eq_true rfl) rfl ?_
  refine V_if_ne (tgt := 19) o dX9_quiet_14 (by decide) (fun c_14 => ?_) (fun c_14 => False.elim (bz_n0.mpr ((in_lo (k := k) (lo := 1) (hi := 100) (l := 1) (h := 100) (by decide) (by decide)).mpr hk) c_14))
  refine V_aload_n o dX9_quiet_19 rfl rfl ?_
  refine V_bipush (v := 6) o dX9_quiet_20 (by decide) ?_
  refine V_cVi o rt dX9_quiet_22 ml_X9_85 (c9_of hf (by exact hd) (show (6 : Int32) = nI 6 from rfl) (by omega)) rfl rfl rfl (Nat.le_of_ble_eq_true rfl) rfl ?_
  refine V_iload_n o dX9_quiet_25 rfl rfl ?_
  refine V_iadd o dX9_quiet_26 ?_
  refine V_ldc o dX9_quiet_27 kc_X9_157 ?_
  refine V_icmp_le (tgt := 35) o dX9_quiet_29 (by decide) (fun c_29 => False.elim (absurd c_29 (Int32.not_le.mpr hc))) (fun c_29 => ?_)
  refine V_bipush (v := -4) o dX9_quiet_32 (by decide) ?_
  refine V_iret o rt dX9_quiet_34 rfl rfl ?_
  exact ⟨rfl, rfl⟩
set_option maxRecDepth 20000 in
set_option maxHeartbeats 4000000 in
theorem c9_busiest {w : Wp} (hf : Fit sh0 w) {σ : Mm} {M : Nat → Int32} (hd : σ.1 67 8 = nI 0) {L r c : Nat} (hI : Ck (trM M) L r c) {k : Int32} {m : Nat} (hm : k = nI m) (hm1 : 1 ≤ m) (hm2 : m ≤ 100) (hc : c + m ≤ 1000000000) (h6 : M 6 = nI c) {R : (Nat → Int32) × Nat × (Int32 × Int32 × Int32)} (hR0 : askS L buV m (trM M, r, ((M 6, 0, 0) : Int32 × Int32 × Int32)) = R) : Ct sh0 w 8 mX9_busiest [.ref 67, .int k] (sM σ 0 M) (fun r' σ' => ∃ fl nl f1 f2 h fr, r' = some (.int R.2.2.1) ∧ σ' = sM (sRw (wI (sHd (sLn (wI σ 67 0 0) fl nl) f1 f2 h) 67 8 0) fr 2) 0 (bkM M R.1) ∧ RwR fr [R.2.2.2.1.toInt64, (bz (R.2.2.2.1 > 0 ∧ R.2.2.2.2 > 1)).toInt64]) := by
  unfold askS at hR0
  subst hm
  have hdx : (wI (sM (wI σ 67 0 0) 0 M) 67 8 423).1 67 8 = nI 423 := rfl
  refine Ct_of hf (by decide) rfl (Nat.le_of_ble_eq_true rfl) (fun x o rt => ?_)
  have hk : inR (nI m) 1 100 := ⟨nI_le (a := 1) hm1 (by omega), nI_le (b := 100) hm2 (by omega)⟩
  have loop : ∀ n i (s : (Nat → Int32) × Nat × (Int32 × Int32 × Int32)) c fl nl f1 f2 h, i + n = m → Ck s.1 L s.2.1 c → c + n ≤ 1000000000 → itr (askF L buV) i n s = R → V sh0 w x mX9_busiest (0, 0) 54 [(5, .int (nI i)), (4, .int s.2.2.2.2), (3, .int s.2.2.2.1), (2, .int s.2.2.1), (0, .ref 67), (1, .int (nI m))] [] (sM (sHd (sLn (wI (sM (wI σ 67 0 0) 0 M) 67 8 423) fl nl) f1 f2 h) 423 s.1) := by
    intro n
    induction n with
    | zero =>
      intro i s c fl nl f1 f2 h him hCk hcn hR
      have hi : i = m := by omega
      have hs : s = R := hR
      subst hs
      refine V_iload o dX9_busiest_54 rfl ?_
      refine V_iload_n o dX9_busiest_56 rfl rfl ?_
      refine V_icmp_ge (tgt := 124) o dX9_busiest_57 (by decide) (fun c_57 => ?_) (fun c_57 => False.elim (c_57 (by rw [hi]; exact Int32.le_refl _)))
      rw [sLn_dk, sHd_dk]
      refine V_aload_n o dX9_busiest_124 rfl rfl ?_
      refine V_cVv o rt dX9_busiest_125 ml_X9_249 (c9_isBack hf) rfl rfl rfl (Nat.le_of_ble_eq_true rfl) rfl ?_
      refine V_aload_n o dX9_busiest_128 rfl rfl ?_
      refine V_iconst (v := 0) o dX9_busiest_129 (by decide) ?_
      refine V_putI o dX9_busiest_130 rfl fl_X9_11 rfl rfl rfl ?_
      rw [wI_sM67]
      rw [wI_sRw0]
      refine V_aload_n o dX9_busiest_133 rfl rfl ?_
      refine V_iload_n o dX9_busiest_134 rfl rfl ?_
      refine V_i2l o dX9_busiest_135 ?_
      refine V_cVv o rt dX9_busiest_136 ml_X9_153 (c9_enters hf (by omega)) rfl rfl rfl (Nat.le_of_ble_eq_true rfl) rfl ?_
      refine V_aload_n o dX9_busiest_139 rfl rfl ?_
      refine V_iload_n o dX9_busiest_140 rfl rfl ?_
      refine V_if_le (tgt := 154) o dX9_busiest_141 (by decide) (fun c_141 => ?_) (fun c_141 => ?_)
      · refine V_iconst (v := 0) o dX9_busiest_154 (by decide) ?_
        refine V_cSi o rt dX9_busiest_155 ms_X9_31 (c9_flag hf (by simp)) rfl rfl (Nat.le_of_ble_eq_true rfl) rfl ?_
        refine V_i2l o dX9_busiest_158 ?_
        refine V_cVv o rt dX9_busiest_159 ml_X9_153 (c9_enters hf (by omega)) rfl rfl rfl (Nat.le_of_ble_eq_true rfl) rfl ?_
        refine V_iload_n o dX9_busiest_162 rfl rfl ?_
        refine V_iret o rt dX9_busiest_163 rfl rfl ?_
        refine ⟨fl, nl, f1, f2, h, _, rfl, rfl, ?_⟩
        rw [bz_f (fun q => absurd q.1 (Int32.not_lt.mpr c_141))]
        exact RwR_push (l := [s.2.2.2.1.toInt64]) rfl (RwR_push (l := []) rfl RwR_nil)
      · refine V_iload o dX9_busiest_144 rfl ?_
        refine V_iconst (v := 1) o dX9_busiest_146 (by decide) ?_
        refine V_icmp_le (tgt := 154) o dX9_busiest_147 (by decide) (fun c_147 => ?_) (fun c_147 => ?_)
        · refine V_iconst (v := 0) o dX9_busiest_154 (by decide) ?_
          refine V_cSi o rt dX9_busiest_155 ms_X9_31 (c9_flag hf (by simp)) rfl rfl (Nat.le_of_ble_eq_true rfl) rfl ?_
          refine V_i2l o dX9_busiest_158 ?_
          refine V_cVv o rt dX9_busiest_159 ml_X9_153 (c9_enters hf (by omega)) rfl rfl rfl (Nat.le_of_ble_eq_true rfl) rfl ?_
          refine V_iload_n o dX9_busiest_162 rfl rfl ?_
          refine V_iret o rt dX9_busiest_163 rfl rfl ?_
          refine ⟨fl, nl, f1, f2, h, _, rfl, rfl, ?_⟩
          rw [bz_f (fun q => absurd q.2 (Int32.not_lt.mpr c_147))]
          exact RwR_push (l := [s.2.2.2.1.toInt64]) rfl (RwR_push (l := []) rfl RwR_nil)
        · refine V_iconst (v := 1) o dX9_busiest_150 (by decide) ?_
          refine V_goto (tgt := 155) o dX9_busiest_151 (by decide) ?_
          refine V_cSi o rt dX9_busiest_155 ms_X9_31 (c9_flag hf (by simp)) rfl rfl (Nat.le_of_ble_eq_true rfl) rfl ?_
          refine V_i2l o dX9_busiest_158 ?_
          refine V_cVv o rt dX9_busiest_159 ml_X9_153 (c9_enters hf (by omega)) rfl rfl rfl (Nat.le_of_ble_eq_true rfl) rfl ?_
          refine V_iload_n o dX9_busiest_162 rfl rfl ?_
          refine V_iret o rt dX9_busiest_163 rfl rfl ?_
          refine ⟨fl, nl, f1, f2, h, _, rfl, rfl, ?_⟩
          rw [bz_t ⟨Int32.not_le.mp c_141, Int32.not_le.mp c_147⟩]
          exact RwR_push (l := [s.2.2.2.1.toInt64]) rfl (RwR_push (l := []) rfl RwR_nil)
    | succ n ih =>
      intro i s c fl nl f1 f2 h him hCk hcn hR
      rw [itr_succ, askF] at hR
      have hle : (tkLn s.1 L).2 ≤ 16 := lineM_le
      have hk2 := Ck_tick hCk
      generalize hLN : tkLn s.1 L = LN at hR hle
      generalize hM2 : tickM s.1 L s.2.1 = M2 at hR hk2
      generalize tkR s.1 L s.2.1 = r2 at hR hk2
      refine V_iload o dX9_busiest_54 rfl ?_
      refine V_iload_n o dX9_busiest_56 rfl rfl ?_
      refine V_icmp_ge (tgt := 124) o dX9_busiest_57 (by decide) (fun c_57 => False.elim (absurd c_57 (nI_ge (by omega) (by omega)))) (fun c_57 => ?_)
      refine V_aload_n o dX9_busiest_60 rfl rfl ?_
      refine V_iconst (v := 1) o dX9_busiest_61 (by decide) ?_
      refine V_callV o rt dX9_busiest_62 ml_X9_185 (c9_tick1 hf (by exact hdx) (Nat.le_refl 423) hCk (by omega) hLN hM2) rfl rfl rfl (Nat.le_of_ble_eq_true rfl) rfl (fun r_62 σ_62 q_62 => ?_)
      obtain ⟨fl2, nl2, g1, g2, rfl, rfl, hg1⟩ := q_62
      rw [sLn_sHd, sLn_sLn, sHd_sHd]
      show V sh0 w x mX9_busiest (0, 0) _ _ (.int (nI LN.2) :: []) _
      refine V_istore (ls' := [(6, _), (5, _), (4, _), (3, _), (2, _), (0, _), (1, _)]) o dX9_busiest_65 (by decide) rfl ?_
      refine V_iload o dX9_busiest_67 rfl ?_
      refine V_iload_n o dX9_busiest_69 rfl rfl ?_
      refine V_icmp_le (tgt := 77) o dX9_busiest_70 (by decide) (fun c_70 => ?_) (fun c_70 => ?_)
      · refine V_iload o dX9_busiest_77 rfl ?_
        refine V_iload_n o dX9_busiest_79 rfl rfl ?_
        refine V_icmp_ne (tgt := 90) o dX9_busiest_80 (by decide) (fun c_80 => ?_) (fun c_80 => ?_)
        · refine V_iload o dX9_busiest_90 rfl ?_
          refine V_istore (ls' := [(4, _), (6, _), (5, _), (3, _), (2, _), (0, _), (1, _)]) o dX9_busiest_92 (by decide) rfl ?_
          refine V_iload o dX9_busiest_94 rfl ?_
          refine V_iload_n o dX9_busiest_96 rfl rfl ?_
          refine V_icmp_le (tgt := 109) o dX9_busiest_97 (by decide) (fun c_97 => ?_) (fun c_97 => ?_)
          · refine V_iload_n o dX9_busiest_109 rfl rfl ?_
            refine V_istore_n (ls' := [(2, _), (4, _), (6, _), (5, _), (3, _), (0, _), (1, _)]) o dX9_busiest_110 rfl (by decide) rfl ?_
            refine V_iload_n o dX9_busiest_111 rfl rfl ?_
            refine V_iload o dX9_busiest_112 rfl ?_
            refine V_cSi o rt dX9_busiest_114 ms_X9_150 (cJ_max hf) rfl rfl (Nat.le_of_ble_eq_true rfl) rfl ?_
            refine V_istore_n (ls' := [(3, _), (2, _), (4, _), (6, _), (5, _), (0, _), (1, _)]) o dX9_busiest_117 rfl (by decide) rfl ?_
            refine V_iincV (v := nI (i + 1)) (ls' := [(5, _), (3, _), (2, _), (4, _), (6, _), (0, _), (1, _)]) o dX9_busiest_118 rfl (ninc 1 rfl) (by decide) rfl ?_
            refine V_goto (tgt := 54) o dX9_busiest_121 (by decide) ?_
            rw [buV, if_neg (Int32.not_lt.mpr c_70), if_neg (Int32.not_lt.mpr c_70), if_neg c_80] at hR
            exact V_sub (by simp) (ih (i + 1) (M2, r2, s.2.2.1, mxI s.2.2.2.1 (nI LN.2), s.2.2.2.2) (c + 1) fl2 nl2 g1 g2 LN.2 (by omega) hk2 (by omega) hR)
          · refine V_aload_n o dX9_busiest_100 rfl rfl ?_
            refine V_bipush (v := 6) o dX9_busiest_101 (by decide) ?_
            refine V_cVi o rt dX9_busiest_103 ml_X9_85 (c9_of hf (by exact hdx) (show (6 : Int32) = nI 6 from rfl) (by omega)) rfl rfl rfl (Nat.le_of_ble_eq_true rfl) rfl ?_
            refine V_goto (tgt := 110) o dX9_busiest_106 (by decide) ?_
            refine V_istore_n (ls' := [(2, _), (4, _), (6, _), (5, _), (3, _), (0, _), (1, _)]) o dX9_busiest_110 rfl (by decide) rfl ?_
            refine V_iload_n o dX9_busiest_111 rfl rfl ?_
            refine V_iload o dX9_busiest_112 rfl ?_
            refine V_cSi o rt dX9_busiest_114 ms_X9_150 (cJ_max hf) rfl rfl (Nat.le_of_ble_eq_true rfl) rfl ?_
            refine V_istore_n (ls' := [(3, _), (2, _), (4, _), (6, _), (5, _), (0, _), (1, _)]) o dX9_busiest_117 rfl (by decide) rfl ?_
            refine V_iincV (v := nI (i + 1)) (ls' := [(5, _), (3, _), (2, _), (4, _), (6, _), (0, _), (1, _)]) o dX9_busiest_118 rfl (ninc 1 rfl) (by decide) rfl ?_
            refine V_goto (tgt := 54) o dX9_busiest_121 (by decide) ?_
            exact absurd c_70 c_97
        · refine V_iload o dX9_busiest_83 rfl ?_
          refine V_iconst (v := 1) o dX9_busiest_85 (by decide) ?_
          refine V_iadd o dX9_busiest_86 ?_
          refine V_goto (tgt := 92) o dX9_busiest_87 (by decide) ?_
          refine V_istore (ls' := [(4, _), (6, _), (5, _), (3, _), (2, _), (0, _), (1, _)]) o dX9_busiest_92 (by decide) rfl ?_
          refine V_iload o dX9_busiest_94 rfl ?_
          refine V_iload_n o dX9_busiest_96 rfl rfl ?_
          refine V_icmp_le (tgt := 109) o dX9_busiest_97 (by decide) (fun c_97 => ?_) (fun c_97 => ?_)
          · refine V_iload_n o dX9_busiest_109 rfl rfl ?_
            refine V_istore_n (ls' := [(2, _), (4, _), (6, _), (5, _), (3, _), (0, _), (1, _)]) o dX9_busiest_110 rfl (by decide) rfl ?_
            refine V_iload_n o dX9_busiest_111 rfl rfl ?_
            refine V_iload o dX9_busiest_112 rfl ?_
            refine V_cSi o rt dX9_busiest_114 ms_X9_150 (cJ_max hf) rfl rfl (Nat.le_of_ble_eq_true rfl) rfl ?_
            refine V_istore_n (ls' := [(3, _), (2, _), (4, _), (6, _), (5, _), (0, _), (1, _)]) o dX9_busiest_117 rfl (by decide) rfl ?_
            refine V_iincV (v := nI (i + 1)) (ls' := [(5, _), (3, _), (2, _), (4, _), (6, _), (0, _), (1, _)]) o dX9_busiest_118 rfl (ninc 1 rfl) (by decide) rfl ?_
            refine V_goto (tgt := 54) o dX9_busiest_121 (by decide) ?_
            rw [buV, if_neg (Int32.not_lt.mpr c_70), if_neg (Int32.not_lt.mpr c_70), if_pos c_80] at hR
            exact V_sub (by simp) (ih (i + 1) (M2, r2, s.2.2.1, mxI s.2.2.2.1 (nI LN.2), s.2.2.2.2 + 1) (c + 1) fl2 nl2 g1 g2 LN.2 (by omega) hk2 (by omega) hR)
          · refine V_aload_n o dX9_busiest_100 rfl rfl ?_
            refine V_bipush (v := 6) o dX9_busiest_101 (by decide) ?_
            refine V_cVi o rt dX9_busiest_103 ml_X9_85 (c9_of hf (by exact hdx) (show (6 : Int32) = nI 6 from rfl) (by omega)) rfl rfl rfl (Nat.le_of_ble_eq_true rfl) rfl ?_
            refine V_goto (tgt := 110) o dX9_busiest_106 (by decide) ?_
            refine V_istore_n (ls' := [(2, _), (4, _), (6, _), (5, _), (3, _), (0, _), (1, _)]) o dX9_busiest_110 rfl (by decide) rfl ?_
            refine V_iload_n o dX9_busiest_111 rfl rfl ?_
            refine V_iload o dX9_busiest_112 rfl ?_
            refine V_cSi o rt dX9_busiest_114 ms_X9_150 (cJ_max hf) rfl rfl (Nat.le_of_ble_eq_true rfl) rfl ?_
            refine V_istore_n (ls' := [(3, _), (2, _), (4, _), (6, _), (5, _), (0, _), (1, _)]) o dX9_busiest_117 rfl (by decide) rfl ?_
            refine V_iincV (v := nI (i + 1)) (ls' := [(5, _), (3, _), (2, _), (4, _), (6, _), (0, _), (1, _)]) o dX9_busiest_118 rfl (ninc 1 rfl) (by decide) rfl ?_
            refine V_goto (tgt := 54) o dX9_busiest_121 (by decide) ?_
            exact absurd c_70 c_97
      · refine V_iconst (v := 1) o dX9_busiest_73 (by decide) ?_
        refine V_goto (tgt := 92) o dX9_busiest_74 (by decide) ?_
        refine V_istore (ls' := [(4, _), (6, _), (5, _), (3, _), (2, _), (0, _), (1, _)]) o dX9_busiest_92 (by decide) rfl ?_
        refine V_iload o dX9_busiest_94 rfl ?_
        refine V_iload_n o dX9_busiest_96 rfl rfl ?_
        refine V_icmp_le (tgt := 109) o dX9_busiest_97 (by decide) (fun c_97 => ?_) (fun c_97 => ?_)
        · refine V_iload_n o dX9_busiest_109 rfl rfl ?_
          refine V_istore_n (ls' := [(2, _), (4, _), (6, _), (5, _), (3, _), (0, _), (1, _)]) o dX9_busiest_110 rfl (by decide) rfl ?_
          refine V_iload_n o dX9_busiest_111 rfl rfl ?_
          refine V_iload o dX9_busiest_112 rfl ?_
          refine V_cSi o rt dX9_busiest_114 ms_X9_150 (cJ_max hf) rfl rfl (Nat.le_of_ble_eq_true rfl) rfl ?_
          refine V_istore_n (ls' := [(3, _), (2, _), (4, _), (6, _), (5, _), (0, _), (1, _)]) o dX9_busiest_117 rfl (by decide) rfl ?_
          refine V_iincV (v := nI (i + 1)) (ls' := [(5, _), (3, _), (2, _), (4, _), (6, _), (0, _), (1, _)]) o dX9_busiest_118 rfl (ninc 1 rfl) (by decide) rfl ?_
          refine V_goto (tgt := 54) o dX9_busiest_121 (by decide) ?_
          exact absurd c_97 c_70
        · refine V_aload_n o dX9_busiest_100 rfl rfl ?_
          refine V_bipush (v := 6) o dX9_busiest_101 (by decide) ?_
          refine V_cVi o rt dX9_busiest_103 ml_X9_85 (c9_of hf (by exact hdx) (show (6 : Int32) = nI 6 from rfl) (by omega)) rfl rfl rfl (Nat.le_of_ble_eq_true rfl) rfl ?_
          refine V_goto (tgt := 110) o dX9_busiest_106 (by decide) ?_
          refine V_istore_n (ls' := [(2, _), (4, _), (6, _), (5, _), (3, _), (0, _), (1, _)]) o dX9_busiest_110 rfl (by decide) rfl ?_
          refine V_iload_n o dX9_busiest_111 rfl rfl ?_
          refine V_iload o dX9_busiest_112 rfl ?_
          refine V_cSi o rt dX9_busiest_114 ms_X9_150 (cJ_max hf) rfl rfl (Nat.le_of_ble_eq_true rfl) rfl ?_
          refine V_istore_n (ls' := [(3, _), (2, _), (4, _), (6, _), (5, _), (0, _), (1, _)]) o dX9_busiest_117 rfl (by decide) rfl ?_
          refine V_iincV (v := nI (i + 1)) (ls' := [(5, _), (3, _), (2, _), (4, _), (6, _), (0, _), (1, _)]) o dX9_busiest_118 rfl (ninc 1 rfl) (by decide) rfl ?_
          refine V_goto (tgt := 54) o dX9_busiest_121 (by decide) ?_
          rw [buV, if_pos (Int32.not_le.mp c_70), if_pos (Int32.not_le.mp c_70)] at hR
          exact V_sub (by simp) (ih (i + 1) (M2, r2, M2 6, mxI s.2.2.2.1 (nI LN.2), 1) (c + 1) fl2 nl2 g1 g2 LN.2 (by omega) hk2 (by omega) hR)
  refine V_aload_n o dX9_busiest_0 rfl rfl ?_
  refine V_iconst (v := 0) o dX9_busiest_1 (by decide) ?_
  refine V_putI o dX9_busiest_2 rfl fl_X9_1 rfl rfl rfl ?_
  rw [wI_sM67]
  refine V_iload_n o dX9_busiest_5 rfl rfl ?_
  refine V_i2l o dX9_busiest_6 ?_
  refine V_lconst (v := 1) o dX9_busiest_7 (by decide) ?_
  refine V_ldc2 o dX9_busiest_8 kc_X9_183 ?_
  refine V_cSi o rt dX9_busiest_11 ms_X9_21 (c9_in hf) rfl rfl (Nat.le_of_ble_eq_true rfl) rfl ?_
  refine V_if_ne (tgt := 19) o dX9_busiest_14 (by decide) (fun c_14 => ?_) (fun c_14 => False.elim (bz_n0.mpr ((in_lo (k := (nI m)) (lo := 1) (hi := 100) (l := 1) (h := 100) (by decide) (by decide)).mpr hk) c_14))
  refine V_aload_n o dX9_busiest_19 rfl rfl ?_
  refine V_bipush (v := 6) o dX9_busiest_20 (by decide) ?_
  refine V_cVi o rt dX9_busiest_22 ml_X9_85 (c9_of hf (by exact hd) (show (6 : Int32) = nI 6 from rfl) (by omega)) rfl rfl rfl (Nat.le_of_ble_eq_true rfl) rfl ?_
  refine V_iload_n o dX9_busiest_25 rfl rfl ?_
  refine V_iadd o dX9_busiest_26 ?_
  refine V_ldc o dX9_busiest_27 kc_X9_157 ?_
  refine V_icmp_le (tgt := 35) o dX9_busiest_29 (by decide) (fun c_29 => ?_) (fun c_29 => False.elim (c_29 (by rw [h6, nI_add]; exact nI_le (b := 1000000000) hc (by omega))))
  refine V_aload_n o dX9_busiest_35 rfl rfl ?_
  refine V_cVv o rt dX9_busiest_36 ml_X9_246 (c9_tries hf) rfl rfl rfl (Nat.le_of_ble_eq_true rfl) rfl ?_
  refine V_aload_n o dX9_busiest_39 rfl rfl ?_
  refine V_bipush (v := 6) o dX9_busiest_40 (by decide) ?_
  refine V_cVi o rt dX9_busiest_42 ml_X9_85 (c9_of hf (by exact hdx) (show (6 : Int32) = nI 6 from rfl) (by omega)) rfl rfl rfl (Nat.le_of_ble_eq_true rfl) rfl ?_
  refine V_topI (v' := M 6) rfl ?_
  refine V_istore_n (ls' := [(2, _), (0, _), (1, _)]) o dX9_busiest_45 rfl (by decide) rfl ?_
  refine V_iconst (v := 0) o dX9_busiest_46 (by decide) ?_
  refine V_istore_n (ls' := [(3, _), (2, _), (0, _), (1, _)]) o dX9_busiest_47 rfl (by decide) rfl ?_
  refine V_iconst (v := 0) o dX9_busiest_48 (by decide) ?_
  refine V_istore (ls' := [(4, _), (3, _), (2, _), (0, _), (1, _)]) o dX9_busiest_49 (by decide) rfl ?_
  refine V_iconst (v := 0) o dX9_busiest_51 (by decide) ?_
  refine V_istore (ls' := [(5, _), (4, _), (3, _), (2, _), (0, _), (1, _)]) o dX9_busiest_52 (by decide) rfl ?_
  obtain ⟨nl, hnl⟩ := ex_nI ((wI (sM (wI σ 67 0 0) 0 M) 67 8 423).1 67 10)
  obtain ⟨h, hh⟩ := ex_nI ((wI (sM (wI σ 67 0 0) 0 M) 67 8 423).1 67 13)
  have h0 := loop m 0 (trM M, r, ((M 6, 0, 0) : Int32 × Int32 × Int32)) c ((wI (sM (wI σ 67 0 0) 0 M) 67 8 423).1 71) nl ((wI (sM (wI σ 67 0 0) 0 M) 67 8 423).1 72) ((wI (sM (wI σ 67 0 0) 0 M) 67 8 423).1 73) h (by omega) hI hc hR0
  rw [sLn_of hnl, sHd_of hh] at h0
  exact h0
set_option maxRecDepth 20000 in
set_option maxHeartbeats 4000000 in
theorem c9_busiest_no {w : Wp} (hf : Fit sh0 w) {σ : Mm} {M : Nat → Int32} (hd : σ.1 67 8 = nI 0) {k : Int32} (hk : ¬ inR k 1 100) : Cf sh0 w 8 mX9_busiest [.ref 67, .int k] (sM σ 0 M) (some (.int (-1))) (sM (wI σ 67 0 0) 0 M) := by
  refine Ct_of hf (by decide) rfl (Nat.le_of_ble_eq_true rfl) (fun x o rt => ?_)
  refine V_aload_n o dX9_busiest_0 rfl rfl ?_
  refine V_iconst (v := 0) o dX9_busiest_1 (by decide) ?_
  refine V_putI o dX9_busiest_2 rfl fl_X9_1 rfl rfl rfl ?_
  rw [wI_sM67]
  refine V_iload_n o dX9_busiest_5 rfl rfl ?_
  refine V_i2l o dX9_busiest_6 ?_
  refine V_lconst (v := 1) o dX9_busiest_7 (by decide) ?_
  refine V_ldc2 o dX9_busiest_8 kc_X9_183 ?_
  refine V_cSi o rt dX9_busiest_11 ms_X9_21 (c9_in hf) rfl rfl (Nat.le_of_ble_eq_true rfl) rfl ?_
  refine V_if_ne (tgt := 19) o dX9_busiest_14 (by decide) (fun c_14 => False.elim (hk ((in_lo (k := k) (lo := 1) (hi := 100) (l := 1) (h := 100) (by decide) (by decide)).mp (bz_n0.mp c_14)))) (fun c_14 => ?_)
  refine V_iconst (v := -1) o dX9_busiest_17 (by decide) ?_
  refine V_iret o rt dX9_busiest_18 rfl rfl ?_
  exact ⟨rfl, rfl⟩
set_option maxRecDepth 20000 in
set_option maxHeartbeats 4000000 in
theorem c9_busiest_end {w : Wp} (hf : Fit sh0 w) {σ : Mm} {M : Nat → Int32} (hd : σ.1 67 8 = nI 0) {k : Int32} (hk : inR k 1 100) (hc : M 6 + k > 1000000000) : Cf sh0 w 8 mX9_busiest [.ref 67, .int k] (sM σ 0 M) (some (.int (-4))) (sM (wI σ 67 0 0) 0 M) := by
  refine Ct_of hf (by decide) rfl (Nat.le_of_ble_eq_true rfl) (fun x o rt => ?_)
  refine V_aload_n o dX9_busiest_0 rfl rfl ?_
  refine V_iconst (v := 0) o dX9_busiest_1 (by decide) ?_
  refine V_putI o dX9_busiest_2 rfl fl_X9_1 rfl rfl rfl ?_
  rw [wI_sM67]
  refine V_iload_n o dX9_busiest_5 rfl rfl ?_
  refine V_i2l o dX9_busiest_6 ?_
  refine V_lconst (v := 1) o dX9_busiest_7 (by decide) ?_
  refine V_ldc2 o dX9_busiest_8 kc_X9_183 ?_
  refine V_cSi o rt dX9_busiest_11 ms_X9_21 (c9_in hf) rfl rfl (Nat.le_of_ble_eq_true rfl) rfl ?_
  refine V_if_ne (tgt := 19) o dX9_busiest_14 (by decide) (fun c_14 => ?_) (fun c_14 => False.elim (bz_n0.mpr ((in_lo (k := k) (lo := 1) (hi := 100) (l := 1) (h := 100) (by decide) (by decide)).mpr hk) c_14))
  refine V_aload_n o dX9_busiest_19 rfl rfl ?_
  refine V_bipush (v := 6) o dX9_busiest_20 (by decide) ?_
  refine V_cVi o rt dX9_busiest_22 ml_X9_85 (c9_of hf (by exact hd) (show (6 : Int32) = nI 6 from rfl) (by omega)) rfl rfl rfl (Nat.le_of_ble_eq_true rfl) rfl ?_
  refine V_iload_n o dX9_busiest_25 rfl rfl ?_
  refine V_iadd o dX9_busiest_26 ?_
  refine V_ldc o dX9_busiest_27 kc_X9_157 ?_
  refine V_icmp_le (tgt := 35) o dX9_busiest_29 (by decide) (fun c_29 => False.elim (absurd c_29 (Int32.not_le.mpr hc))) (fun c_29 => ?_)
  refine V_bipush (v := -4) o dX9_busiest_32 (by decide) ?_
  refine V_iret o rt dX9_busiest_34 rfl rfl ?_
  exact ⟨rfl, rfl⟩
set_option maxRecDepth 20000 in
set_option maxHeartbeats 4000000 in
theorem c9_clashes {w : Wp} (hf : Fit sh0 w) {σ : Mm} {M : Nat → Int32} (hd : σ.1 67 8 = nI 0) {L r c : Nat} (hI : Ck (trM M) L r c) {k : Int32} {m : Nat} (hm : k = nI m) (hm1 : 1 ≤ m) (hm2 : m ≤ 100) (hc : c + m ≤ 1000000000) (h6 : M 6 = nI c) {R : (Nat → Int32) × Nat × (Int32 × Int32 × Int32 × Int32)} (hR0 : askS L clV m (trM M, r, ((0, -1, -1, -1) : Int32 × Int32 × Int32 × Int32)) = R) : Ct sh0 w 8 mX9_clashes [.ref 67, .int k] (sM σ 0 M) (fun r' σ' => ∃ fl nl f1 f2 h fr, r' = some (.int R.2.2.1) ∧ σ' = sM (sRw (wI (sHd (sLn (wI σ 67 0 0) fl nl) f1 f2 h) 67 8 0) fr 3) 0 (bkM M R.1) ∧ RwR fr [R.2.2.2.1.toInt64, R.2.2.2.2.1.toInt64, R.2.2.2.2.2.toInt64]) := by
  unfold askS at hR0
  subst hm
  have hdx : (wI (sM (wI σ 67 0 0) 0 M) 67 8 423).1 67 8 = nI 423 := rfl
  refine Ct_of hf (by decide) rfl (Nat.le_of_ble_eq_true rfl) (fun x o rt => ?_)
  have hk : inR (nI m) 1 100 := ⟨nI_le (a := 1) hm1 (by omega), nI_le (b := 100) hm2 (by omega)⟩
  have loop : ∀ n i (s : (Nat → Int32) × Nat × (Int32 × Int32 × Int32 × Int32)) c fl nl f1 f2 h, i + n = m → Ck s.1 L s.2.1 c → c + n ≤ 1000000000 → itr (askF L clV) i n s = R → V sh0 w x mX9_clashes (0, 0) 52 [(6, .int (nI i)), (5, .int s.2.2.2.2.2), (4, .int s.2.2.2.2.1), (3, .int s.2.2.2.1), (2, .int s.2.2.1), (0, .ref 67), (1, .int (nI m))] [] (sM (sHd (sLn (wI (sM (wI σ 67 0 0) 0 M) 67 8 423) fl nl) f1 f2 h) 423 s.1) := by
    intro n
    induction n with
    | zero =>
      intro i s c fl nl f1 f2 h him hCk hcn hR
      have hi : i = m := by omega
      have hs : s = R := hR
      subst hs
      refine V_iload o dX9_clashes_52 rfl ?_
      refine V_iload_n o dX9_clashes_54 rfl rfl ?_
      refine V_icmp_ge (tgt := 121) o dX9_clashes_55 (by decide) (fun c_55 => ?_) (fun c_55 => False.elim (c_55 (by rw [hi]; exact Int32.le_refl _)))
      rw [sLn_dk, sHd_dk]
      refine V_aload_n o dX9_clashes_121 rfl rfl ?_
      refine V_cVv o rt dX9_clashes_122 ml_X9_249 (c9_isBack hf) rfl rfl rfl (Nat.le_of_ble_eq_true rfl) rfl ?_
      refine V_aload_n o dX9_clashes_125 rfl rfl ?_
      refine V_iconst (v := 0) o dX9_clashes_126 (by decide) ?_
      refine V_putI o dX9_clashes_127 rfl fl_X9_11 rfl rfl rfl ?_
      rw [wI_sM67]
      rw [wI_sRw0]
      refine V_aload_n o dX9_clashes_130 rfl rfl ?_
      refine V_iload_n o dX9_clashes_131 rfl rfl ?_
      refine V_i2l o dX9_clashes_132 ?_
      refine V_cVv o rt dX9_clashes_133 ml_X9_153 (c9_enters hf (by omega)) rfl rfl rfl (Nat.le_of_ble_eq_true rfl) rfl ?_
      refine V_aload_n o dX9_clashes_136 rfl rfl ?_
      refine V_iload o dX9_clashes_137 rfl ?_
      refine V_i2l o dX9_clashes_139 ?_
      refine V_cVv o rt dX9_clashes_140 ml_X9_153 (c9_enters hf (by omega)) rfl rfl rfl (Nat.le_of_ble_eq_true rfl) rfl ?_
      refine V_aload_n o dX9_clashes_143 rfl rfl ?_
      refine V_iload o dX9_clashes_144 rfl ?_
      refine V_i2l o dX9_clashes_146 ?_
      refine V_cVv o rt dX9_clashes_147 ml_X9_153 (c9_enters hf (by omega)) rfl rfl rfl (Nat.le_of_ble_eq_true rfl) rfl ?_
      refine V_iload_n o dX9_clashes_150 rfl rfl ?_
      refine V_iret o rt dX9_clashes_151 rfl rfl ?_
      exact ⟨fl, nl, f1, f2, h, _, rfl, rfl, RwR_push (l := [_, _]) rfl (RwR_push (l := [_]) rfl (RwR_push (l := []) rfl RwR_nil))⟩
    | succ n ih =>
      intro i s c fl nl f1 f2 h him hCk hcn hR
      rw [itr_succ, askF] at hR
      have hle : (tkLn s.1 L).2 ≤ 16 := lineM_le
      have hk2 := Ck_tick hCk
      generalize hLN : tkLn s.1 L = LN at hR hle
      generalize hM2 : tickM s.1 L s.2.1 = M2 at hR hk2
      generalize tkR s.1 L s.2.1 = r2 at hR hk2
      refine V_iload o dX9_clashes_52 rfl ?_
      refine V_iload_n o dX9_clashes_54 rfl rfl ?_
      refine V_icmp_ge (tgt := 121) o dX9_clashes_55 (by decide) (fun c_55 => False.elim (absurd c_55 (nI_ge (by omega) (by omega)))) (fun c_55 => ?_)
      refine V_aload_n o dX9_clashes_58 rfl rfl ?_
      refine V_iconst (v := 1) o dX9_clashes_59 (by decide) ?_
      refine V_callV o rt dX9_clashes_60 ml_X9_185 (c9_tick1 hf (by exact hdx) (Nat.le_refl 423) hCk (by omega) hLN hM2) rfl rfl rfl (Nat.le_of_ble_eq_true rfl) rfl (fun r_60 σ_60 q_60 => ?_)
      obtain ⟨fl2, nl2, g1, g2, rfl, rfl, hg1⟩ := q_60
      rw [sLn_sHd, sLn_sLn, sHd_sHd]
      show V sh0 w x mX9_clashes (0, 0) _ _ (.int (nI LN.2) :: []) _
      refine V_istore (ls' := [(7, _), (6, _), (5, _), (4, _), (3, _), (2, _), (0, _), (1, _)]) o dX9_clashes_63 (by decide) rfl ?_
      refine V_iload o dX9_clashes_65 rfl ?_
      refine V_iconst (v := 1) o dX9_clashes_67 (by decide) ?_
      refine V_icmp_le (tgt := 98) o dX9_clashes_68 (by decide) (fun c_68 => ?_) (fun c_68 => ?_)
      · refine V_iload_n o dX9_clashes_98 rfl rfl ?_
        refine V_iload o dX9_clashes_99 rfl ?_
        refine V_iconst (v := 1) o dX9_clashes_101 (by decide) ?_
        refine V_icmp_le (tgt := 109) o dX9_clashes_102 (by decide) (fun c_102 => ?_) (fun c_102 => ?_)
        · refine V_iconst (v := 0) o dX9_clashes_109 (by decide) ?_
          refine V_cSi o rt dX9_clashes_110 ms_X9_31 (c9_flag hf (by simp)) rfl rfl (Nat.le_of_ble_eq_true rfl) rfl ?_
          refine V_iadd o dX9_clashes_113 ?_
          refine V_istore_n (ls' := [(2, _), (7, _), (6, _), (5, _), (4, _), (3, _), (0, _), (1, _)]) o dX9_clashes_114 rfl (by decide) rfl ?_
          refine V_iincV (v := nI (i + 1)) (ls' := [(6, _), (2, _), (7, _), (5, _), (4, _), (3, _), (0, _), (1, _)]) o dX9_clashes_115 rfl (ninc 1 rfl) (by decide) rfl ?_
          refine V_goto (tgt := 52) o dX9_clashes_118 (by decide) ?_
          rw [clV, if_neg (by have := ((nI_le1 (by omega)).mp c_68); omega)] at hR
          exact V_sub (by simp) (ih (i + 1) (M2, r2, s.2.2.1 + 0, s.2.2.2) (c + 1) fl2 nl2 g1 g2 LN.2 (by omega) hk2 (by omega) hR)
        · refine V_iconst (v := 1) o dX9_clashes_105 (by decide) ?_
          refine V_goto (tgt := 110) o dX9_clashes_106 (by decide) ?_
          refine V_cSi o rt dX9_clashes_110 ms_X9_31 (c9_flag hf (by simp)) rfl rfl (Nat.le_of_ble_eq_true rfl) rfl ?_
          refine V_iadd o dX9_clashes_113 ?_
          refine V_istore_n (ls' := [(2, _), (7, _), (6, _), (5, _), (4, _), (3, _), (0, _), (1, _)]) o dX9_clashes_114 rfl (by decide) rfl ?_
          refine V_iincV (v := nI (i + 1)) (ls' := [(6, _), (2, _), (7, _), (5, _), (4, _), (3, _), (0, _), (1, _)]) o dX9_clashes_115 rfl (ninc 1 rfl) (by decide) rfl ?_
          refine V_goto (tgt := 52) o dX9_clashes_118 (by decide) ?_
          exact absurd c_68 c_102
      · refine V_iload_n o dX9_clashes_71 rfl rfl ?_
        refine V_if_ne (tgt := 98) o dX9_clashes_72 (by decide) (fun c_72 => ?_) (fun c_72 => ?_)
        · refine V_iload_n o dX9_clashes_98 rfl rfl ?_
          refine V_iload o dX9_clashes_99 rfl ?_
          refine V_iconst (v := 1) o dX9_clashes_101 (by decide) ?_
          refine V_icmp_le (tgt := 109) o dX9_clashes_102 (by decide) (fun c_102 => ?_) (fun c_102 => ?_)
          · refine V_iconst (v := 0) o dX9_clashes_109 (by decide) ?_
            refine V_cSi o rt dX9_clashes_110 ms_X9_31 (c9_flag hf (by simp)) rfl rfl (Nat.le_of_ble_eq_true rfl) rfl ?_
            refine V_iadd o dX9_clashes_113 ?_
            refine V_istore_n (ls' := [(2, _), (7, _), (6, _), (5, _), (4, _), (3, _), (0, _), (1, _)]) o dX9_clashes_114 rfl (by decide) rfl ?_
            refine V_iincV (v := nI (i + 1)) (ls' := [(6, _), (2, _), (7, _), (5, _), (4, _), (3, _), (0, _), (1, _)]) o dX9_clashes_115 rfl (ninc 1 rfl) (by decide) rfl ?_
            refine V_goto (tgt := 52) o dX9_clashes_118 (by decide) ?_
            exact absurd c_102 c_68
          · refine V_iconst (v := 1) o dX9_clashes_105 (by decide) ?_
            refine V_goto (tgt := 110) o dX9_clashes_106 (by decide) ?_
            refine V_cSi o rt dX9_clashes_110 ms_X9_31 (c9_flag hf (by simp)) rfl rfl (Nat.le_of_ble_eq_true rfl) rfl ?_
            refine V_iadd o dX9_clashes_113 ?_
            refine V_istore_n (ls' := [(2, _), (7, _), (6, _), (5, _), (4, _), (3, _), (0, _), (1, _)]) o dX9_clashes_114 rfl (by decide) rfl ?_
            refine V_iincV (v := nI (i + 1)) (ls' := [(6, _), (2, _), (7, _), (5, _), (4, _), (3, _), (0, _), (1, _)]) o dX9_clashes_115 rfl (ninc 1 rfl) (by decide) rfl ?_
            refine V_goto (tgt := 52) o dX9_clashes_118 (by decide) ?_
            have hgt : LN.2 > 1 := by
              have : ¬ LN.2 ≤ 1 := fun q => c_68 ((nI_le1 (by omega)).mpr q)
              omega
            rw [clV, if_pos hgt, if_neg c_72] at hR
            exact V_sub (by simp) (ih (i + 1) (M2, r2, s.2.2.1 + 1, s.2.2.2) (c + 1) fl2 nl2 g1 g2 LN.2 (by omega) hk2 (by omega) hR)
        · have hgt : LN.2 > 1 := by
            have : ¬ LN.2 ≤ 1 := fun q => c_68 ((nI_le1 (by omega)).mpr q)
            omega
          refine V_aload_n o dX9_clashes_75 rfl rfl ?_
          refine V_bipush (v := 6) o dX9_clashes_76 (by decide) ?_
          refine V_cVi o rt dX9_clashes_78 ml_X9_85 (c9_of hf (by exact hdx) (show (6 : Int32) = nI 6 from rfl) (by omega)) rfl rfl rfl (Nat.le_of_ble_eq_true rfl) rfl ?_
          refine V_istore_n (ls' := [(3, _), (7, _), (6, _), (5, _), (4, _), (2, _), (0, _), (1, _)]) o dX9_clashes_81 rfl (by decide) rfl ?_
          refine V_aload_n o dX9_clashes_82 rfl rfl ?_
          refine V_getR (t := 72) o dX9_clashes_83 rfl fl_X9_55 rfl ?_
          refine V_iconst (v := 0) o dX9_clashes_86 (by decide) ?_
          refine V_ialdE (v := nI (LN.1 0)) 2000 o dX9_clashes_87 rfl rfl (show (0 : Int32) = nI 0 from rfl) (by omega) rfl (hg1 0 (by omega)) ?_
          refine V_istore (ls' := [(4, _), (3, _), (7, _), (6, _), (5, _), (2, _), (0, _), (1, _)]) o dX9_clashes_88 (by decide) rfl ?_
          refine V_aload_n o dX9_clashes_90 rfl rfl ?_
          refine V_getR (t := 72) o dX9_clashes_91 rfl fl_X9_55 rfl ?_
          refine V_iconst (v := 1) o dX9_clashes_94 (by decide) ?_
          refine V_ialdE (v := nI (LN.1 1)) 2000 o dX9_clashes_95 rfl rfl (show (1 : Int32) = nI 1 from rfl) (by omega) rfl (hg1 1 (by omega)) ?_
          refine V_istore (ls' := [(5, _), (4, _), (3, _), (7, _), (6, _), (2, _), (0, _), (1, _)]) o dX9_clashes_96 (by decide) rfl ?_
          refine V_iload_n o dX9_clashes_98 rfl rfl ?_
          refine V_iload o dX9_clashes_99 rfl ?_
          refine V_iconst (v := 1) o dX9_clashes_101 (by decide) ?_
          refine V_icmp_le (tgt := 109) o dX9_clashes_102 (by decide) (fun c_102 => ?_) (fun c_102 => ?_)
          · refine V_iconst (v := 0) o dX9_clashes_109 (by decide) ?_
            refine V_cSi o rt dX9_clashes_110 ms_X9_31 (c9_flag hf (by simp)) rfl rfl (Nat.le_of_ble_eq_true rfl) rfl ?_
            refine V_iadd o dX9_clashes_113 ?_
            refine V_istore_n (ls' := [(2, _), (5, _), (4, _), (3, _), (7, _), (6, _), (0, _), (1, _)]) o dX9_clashes_114 rfl (by decide) rfl ?_
            refine V_iincV (v := nI (i + 1)) (ls' := [(6, _), (2, _), (5, _), (4, _), (3, _), (7, _), (0, _), (1, _)]) o dX9_clashes_115 rfl (ninc 1 rfl) (by decide) rfl ?_
            refine V_goto (tgt := 52) o dX9_clashes_118 (by decide) ?_
            exact absurd c_102 c_68
          · refine V_iconst (v := 1) o dX9_clashes_105 (by decide) ?_
            refine V_goto (tgt := 110) o dX9_clashes_106 (by decide) ?_
            refine V_cSi o rt dX9_clashes_110 ms_X9_31 (c9_flag hf (by simp)) rfl rfl (Nat.le_of_ble_eq_true rfl) rfl ?_
            refine V_iadd o dX9_clashes_113 ?_
            refine V_istore_n (ls' := [(2, _), (5, _), (4, _), (3, _), (7, _), (6, _), (0, _), (1, _)]) o dX9_clashes_114 rfl (by decide) rfl ?_
            refine V_iincV (v := nI (i + 1)) (ls' := [(6, _), (2, _), (5, _), (4, _), (3, _), (7, _), (0, _), (1, _)]) o dX9_clashes_115 rfl (ninc 1 rfl) (by decide) rfl ?_
            refine V_goto (tgt := 52) o dX9_clashes_118 (by decide) ?_
            rw [clV, if_pos hgt, if_pos c_72] at hR
            exact V_sub (by simp) (ih (i + 1) (M2, r2, s.2.2.1 + 1, M2 6, nI (LN.1 0), nI (LN.1 1)) (c + 1) fl2 nl2 g1 g2 LN.2 (by omega) hk2 (by omega) hR)
  refine V_aload_n o dX9_clashes_0 rfl rfl ?_
  refine V_iconst (v := 0) o dX9_clashes_1 (by decide) ?_
  refine V_putI o dX9_clashes_2 rfl fl_X9_1 rfl rfl rfl ?_
  rw [wI_sM67]
  refine V_iload_n o dX9_clashes_5 rfl rfl ?_
  refine V_i2l o dX9_clashes_6 ?_
  refine V_lconst (v := 1) o dX9_clashes_7 (by decide) ?_
  refine V_ldc2 o dX9_clashes_8 kc_X9_183 ?_
  refine V_cSi o rt dX9_clashes_11 ms_X9_21 (c9_in hf) rfl rfl (Nat.le_of_ble_eq_true rfl) rfl ?_
  refine V_if_ne (tgt := 19) o dX9_clashes_14 (by decide) (fun c_14 => ?_) (fun c_14 => False.elim (bz_n0.mpr ((in_lo (k := (nI m)) (lo := 1) (hi := 100) (l := 1) (h := 100) (by decide) (by decide)).mpr hk) c_14))
  refine V_aload_n o dX9_clashes_19 rfl rfl ?_
  refine V_bipush (v := 6) o dX9_clashes_20 (by decide) ?_
  refine V_cVi o rt dX9_clashes_22 ml_X9_85 (c9_of hf (by exact hd) (show (6 : Int32) = nI 6 from rfl) (by omega)) rfl rfl rfl (Nat.le_of_ble_eq_true rfl) rfl ?_
  refine V_iload_n o dX9_clashes_25 rfl rfl ?_
  refine V_iadd o dX9_clashes_26 ?_
  refine V_ldc o dX9_clashes_27 kc_X9_157 ?_
  refine V_icmp_le (tgt := 35) o dX9_clashes_29 (by decide) (fun c_29 => ?_) (fun c_29 => False.elim (c_29 (by rw [h6, nI_add]; exact nI_le (b := 1000000000) hc (by omega))))
  refine V_aload_n o dX9_clashes_35 rfl rfl ?_
  refine V_cVv o rt dX9_clashes_36 ml_X9_246 (c9_tries hf) rfl rfl rfl (Nat.le_of_ble_eq_true rfl) rfl ?_
  refine V_iconst (v := 0) o dX9_clashes_39 (by decide) ?_
  refine V_istore_n (ls' := [(2, _), (0, _), (1, _)]) o dX9_clashes_40 rfl (by decide) rfl ?_
  refine V_iconst (v := -1) o dX9_clashes_41 (by decide) ?_
  refine V_istore_n (ls' := [(3, _), (2, _), (0, _), (1, _)]) o dX9_clashes_42 rfl (by decide) rfl ?_
  refine V_iconst (v := -1) o dX9_clashes_43 (by decide) ?_
  refine V_istore (ls' := [(4, _), (3, _), (2, _), (0, _), (1, _)]) o dX9_clashes_44 (by decide) rfl ?_
  refine V_iconst (v := -1) o dX9_clashes_46 (by decide) ?_
  refine V_istore (ls' := [(5, _), (4, _), (3, _), (2, _), (0, _), (1, _)]) o dX9_clashes_47 (by decide) rfl ?_
  refine V_iconst (v := 0) o dX9_clashes_49 (by decide) ?_
  refine V_istore (ls' := [(6, _), (5, _), (4, _), (3, _), (2, _), (0, _), (1, _)]) o dX9_clashes_50 (by decide) rfl ?_
  obtain ⟨nl, hnl⟩ := ex_nI ((wI (sM (wI σ 67 0 0) 0 M) 67 8 423).1 67 10)
  obtain ⟨h, hh⟩ := ex_nI ((wI (sM (wI σ 67 0 0) 0 M) 67 8 423).1 67 13)
  have h0 := loop m 0 (trM M, r, ((0, -1, -1, -1) : Int32 × Int32 × Int32 × Int32)) c ((wI (sM (wI σ 67 0 0) 0 M) 67 8 423).1 71) nl ((wI (sM (wI σ 67 0 0) 0 M) 67 8 423).1 72) ((wI (sM (wI σ 67 0 0) 0 M) 67 8 423).1 73) h (by omega) hI hc hR0
  rw [sLn_of hnl, sHd_of hh] at h0
  exact h0
set_option maxRecDepth 20000 in
set_option maxHeartbeats 4000000 in
theorem c9_clashes_no {w : Wp} (hf : Fit sh0 w) {σ : Mm} {M : Nat → Int32} (hd : σ.1 67 8 = nI 0) {k : Int32} (hk : ¬ inR k 1 100) : Cf sh0 w 8 mX9_clashes [.ref 67, .int k] (sM σ 0 M) (some (.int (-1))) (sM (wI σ 67 0 0) 0 M) := by
  refine Ct_of hf (by decide) rfl (Nat.le_of_ble_eq_true rfl) (fun x o rt => ?_)
  refine V_aload_n o dX9_clashes_0 rfl rfl ?_
  refine V_iconst (v := 0) o dX9_clashes_1 (by decide) ?_
  refine V_putI o dX9_clashes_2 rfl fl_X9_1 rfl rfl rfl ?_
  rw [wI_sM67]
  refine V_iload_n o dX9_clashes_5 rfl rfl ?_
  refine V_i2l o dX9_clashes_6 ?_
  refine V_lconst (v := 1) o dX9_clashes_7 (by decide) ?_
  refine V_ldc2 o dX9_clashes_8 kc_X9_183 ?_
  refine V_cSi o rt dX9_clashes_11 ms_X9_21 (c9_in hf) rfl rfl (Nat.le_of_ble_eq_true rfl) rfl ?_
  refine V_if_ne (tgt := 19) o dX9_clashes_14 (by decide) (fun c_14 => False.elim (hk ((in_lo (k := k) (lo := 1) (hi := 100) (l := 1) (h := 100) (by decide) (by decide)).mp (bz_n0.mp c_14)))) (fun c_14 => ?_)
  refine V_iconst (v := -1) o dX9_clashes_17 (by decide) ?_
  refine V_iret o rt dX9_clashes_18 rfl rfl ?_
  exact ⟨rfl, rfl⟩
set_option maxRecDepth 20000 in
set_option maxHeartbeats 4000000 in
theorem c9_clashes_end {w : Wp} (hf : Fit sh0 w) {σ : Mm} {M : Nat → Int32} (hd : σ.1 67 8 = nI 0) {k : Int32} (hk : inR k 1 100) (hc : M 6 + k > 1000000000) : Cf sh0 w 8 mX9_clashes [.ref 67, .int k] (sM σ 0 M) (some (.int (-4))) (sM (wI σ 67 0 0) 0 M) := by
  refine Ct_of hf (by decide) rfl (Nat.le_of_ble_eq_true rfl) (fun x o rt => ?_)
  refine V_aload_n o dX9_clashes_0 rfl rfl ?_
  refine V_iconst (v := 0) o dX9_clashes_1 (by decide) ?_
  refine V_putI o dX9_clashes_2 rfl fl_X9_1 rfl rfl rfl ?_
  rw [wI_sM67]
  refine V_iload_n o dX9_clashes_5 rfl rfl ?_
  refine V_i2l o dX9_clashes_6 ?_
  refine V_lconst (v := 1) o dX9_clashes_7 (by decide) ?_
  refine V_ldc2 o dX9_clashes_8 kc_X9_183 ?_
  refine V_cSi o rt dX9_clashes_11 ms_X9_21 (c9_in hf) rfl rfl (Nat.le_of_ble_eq_true rfl) rfl ?_
  refine V_if_ne (tgt := 19) o dX9_clashes_14 (by decide) (fun c_14 => ?_) (fun c_14 => False.elim (bz_n0.mpr ((in_lo (k := k) (lo := 1) (hi := 100) (l := 1) (h := 100) (by decide) (by decide)).mpr hk) c_14))
  refine V_aload_n o dX9_clashes_19 rfl rfl ?_
  refine V_bipush (v := 6) o dX9_clashes_20 (by decide) ?_
  refine V_cVi o rt dX9_clashes_22 ml_X9_85 (c9_of hf (by exact hd) (show (6 : Int32) = nI 6 from rfl) (by omega)) rfl rfl rfl (Nat.le_of_ble_eq_true rfl) rfl ?_
  refine V_iload_n o dX9_clashes_25 rfl rfl ?_
  refine V_iadd o dX9_clashes_26 ?_
  refine V_ldc o dX9_clashes_27 kc_X9_157 ?_
  refine V_icmp_le (tgt := 35) o dX9_clashes_29 (by decide) (fun c_29 => False.elim (absurd c_29 (Int32.not_le.mpr hc))) (fun c_29 => ?_)
  refine V_bipush (v := -4) o dX9_clashes_32 (by decide) ?_
  refine V_iret o rt dX9_clashes_34 rfl rfl ?_
  exact ⟨rfl, rfl⟩
