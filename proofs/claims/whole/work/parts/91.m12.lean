theorem c7_tickS_25 {w : Wp} (hf : Fit sh0 w) {σ : Mm} {M : Nat → Int32} {L r : Nat} (hW : WRel 25 M L σ) (hc : Cv M L r) {LN : (Nat → Nat) × Nat} (hLN : tkLn M L = LN) {M2 : Nat → Int32} (hM2 : tickM M L r = M2) : Ct sh0 w 3 mX7_tick [.ref 25] σ (fun r' σ' => r' = none ∧ Off 25 48 σ σ' ∧ LnR 25 LN.1 LN.2 σ' ∧ (∀ j, j < LN.2 → σ'.1 (25 + 7 + LN.1 j) 3 = M (231 + LN.1 j)) ∧ WRel 25 M2 L σ') := by
  subst hLN
  subst hM2
  exact c7_tick_25 hf hW hc
theorem Cv_cg {M M' : Nat → Int32} {L r : Nat} (h : Cv M L r) (e : ∀ j, j < 423 → M' j = M j) : Cv M' L r := by
  obtain ⟨⟨h1, h2, h3, h4⟩, hB, h5, hA⟩ := h
  refine ⟨⟨Wf_same h1 (fun j hj => e j (by omega)), (e 14 (by omega)).trans h2, h3, fun t ht hT => Pq_same (h4 t ht ((e _ (by omega)).symm.trans hT)) (e _ (by omega))⟩, Bo_same hB (fun j h1 h2 _ => e j (by omega)), by rw [e 5 (by omega)]; exact h5, fun a b ha hb h1 h2 hab => ?_⟩
  rw [e (247 + a) (by omega), e (247 + b) (by omega)]
  exact hA a b ha hb ((e _ (by omega)).symm.trans h1) ((e _ (by omega)).symm.trans h2) hab
theorem Cv_tr {M : Nat → Int32} {L r : Nat} (h : Cv M L r) : Cv (trM M) L r := Cv_cg h (fun j hj => trM_lo hj)
set_option maxRecDepth 20000 in
set_option maxHeartbeats 4000000 in
theorem c8_quiet {w : Wp} (hf : Fit sh0 w) {σ : Mm} {M : Nat → Int32} {L r n : Nat} {l : List Int64} {T : Nat → Int32} (hK : KR M L r l T n σ) (hF : Wf M L) (hB : Bo M) (hZ : Z0 M L) (hC : Cv M L r) {c m0 : Nat} (h6 : M 6 = nI c) (hm1 : 1 ≤ m0) (hm2 : m0 ≤ 100) (hc : c + m0 ≤ 1000000000) {R : (Nat → Int32) × Nat × (Int32 × Int32 × Int32)} (hR0 : askS L quV m0 (trM M, r, ((0, 0, 0) : (Int32 × Int32 × Int32))) = R) : Ct sh0 w 4 mX8_quiet [.ref 1, .int (nI m0)] σ (fun r' σ' => r' = some (.int R.2.2.1) ∧ Off 1 67 σ σ' ∧ KR (M) (L) r ([R.2.2.2.1.toInt64]) (T) (n) σ') := by
  have hL := hF.2.2.1
  have hW := hK.1
  unfold askS at hR0
  refine Ct_of hf (by decide) rfl (Nat.le_of_ble_eq_true rfl) (fun x o rt => ?_)
  have loop : ∀ m i (N : Nat → Int32) (rr : Nat) (v : (Int32 × Int32 × Int32)) (τ : Mm), i + m = m0 → Off 25 48 σ τ → Cv N L rr → WRel 25 N L τ → itr (askF L quV) i m (N, rr, v) = R → V sh0 w x mX8_quiet (0, 0) 34 [(6, .int (nI i)), (5, .int v.2.2), (4, .int v.2.1), (3, .int v.1), (2, .int 0), (0, .ref 1), (1, .int (nI m0))] [] τ := by
    intro m
    induction m with
    | zero =>
      intro i N rr v τ hi ho hCs hWt hR
      have him : i = m0 := by omega
      subst hR
      have hKt := hK.th hL (ho.wd (by omega) (by omega)) (fun u hu => (hWt.2.2 u hu).no)
      refine V_iload o dX8_quiet_34 rfl ?_
      refine V_iload_n o dX8_quiet_36 rfl rfl ?_
      refine V_icmp_ge (tgt := 99) o dX8_quiet_37 (by decide) (fun c_37 => ?_) (fun c_37 => False.elim (c_37 (by rw [him]; exact Int32.le_refl _)))
      refine V_aload_n o dX8_quiet_99 rfl rfl ?_
      refine V_getR (t := 52) o dX8_quiet_100 rfl fl_X8_33 rfl ?_
      refine V_callV o rt dX8_quiet_103 ml_X8_209 (c3_empty hf) rfl rfl rfl (Nat.le_of_ble_eq_true rfl) rfl (fun r_103 σ_103 q_103 => ?_)
      obtain ⟨rfl, ho_103, hR_103⟩ := q_103
      show V sh0 w x mX8_quiet (0, 0) _ _ [] _
      refine V_aload_n o dX8_quiet_106 rfl rfl ?_
      refine V_getR (t := 52) o dX8_quiet_107 rfl fl_X8_33 rfl ?_
      refine V_iload o dX8_quiet_110 rfl ?_
      refine V_i2l o dX8_quiet_112 ?_
      refine V_callV o rt dX8_quiet_113 ml_X8_210 (c3_put hf hR_103 (by simp)) rfl rfl rfl (Nat.le_of_ble_eq_true rfl) rfl (fun r_113 σ_113 q_113 => ?_)
      obtain ⟨rfl, hp_113, hR_113⟩ := q_113
      have ho_113 := ho_103.tr hp_113
      show V sh0 w x mX8_quiet (0, 0) _ _ [] _
      refine V_iload_n o dX8_quiet_116 rfl rfl ?_
      refine V_iret o rt dX8_quiet_117 rfl rfl ?_
      exact ⟨rfl, (ho.wd (by omega) (by omega)).tr (ho_113.wd (by omega) (by omega)), hKt.rw hL ho_113 hR_113⟩
    | succ m ih =>
      intro i N rr v τ hi ho hCs hWt hR
      have hCs' := hCs
      obtain ⟨LN, hLN⟩ : ∃ LN, tkLn N L = LN := ⟨_, rfl⟩
      obtain ⟨M2, hM2⟩ : ∃ M2, tickM N L rr = M2 := ⟨_, rfl⟩
      have hC2 : Cv M2 L (tkR N L rr) := by rw [← hM2]; exact Cv_tick hCs
      have hle : LN.2 ≤ 16 := by rw [← hLN]; exact lineM_le
      rw [itr_succ] at hR
      have e : askF L quV i (N, rr, v) = (M2, tkR N L rr, quV LN M2 v) := by unfold askF; rw [hM2, hLN]
      rw [e] at hR
      obtain ⟨nw, hnw⟩ : ∃ nw, (if LN.2 = 0 then v.2.2 + 1 else 0) = nw := ⟨_, rfl⟩
      refine V_iload o dX8_quiet_34 rfl ?_
      refine V_iload_n o dX8_quiet_36 rfl rfl ?_
      refine V_icmp_ge (tgt := 99) o dX8_quiet_37 (by decide) (fun c_37 => False.elim (absurd c_37 (nI_ge (by omega) (by omega)))) (fun c_37 => ?_)
      refine V_aload_n o dX8_quiet_40 rfl rfl ?_
      refine V_getR (t := 25) o dX8_quiet_41 rfl fl_X8_16 rfl ?_
      refine V_callV o rt dX8_quiet_44 ml_X8_90 (c7_tickS_25 hf hWt hCs hLN hM2) rfl rfl rfl (Nat.le_of_ble_eq_true rfl) rfl (fun r_44 σ_44 q_44 => ?_)
      obtain ⟨rfl, ho2, hln, -, hW2⟩ := q_44
      show V sh0 w x mX8_quiet (0, 0) _ _ [] _
      refine V_aload_n o dX8_quiet_47 rfl rfl ?_
      refine V_getR (t := 25) o dX8_quiet_48 rfl fl_X8_16 rfl ?_
      refine V_getR (t := 30) o dX8_quiet_51 rfl fl_X8_189 rfl ?_
      refine V_getIE (v := nI (LN.2)) o dX8_quiet_54 rfl fl_X8_202 rfl hln.1 ?_
      refine V_if_ne (tgt := 67) o dX8_quiet_57 (by decide) (fun c_57 => ?_) (fun c_57 => ?_)
      · refine V_iconst (v := 0) o dX8_quiet_67 (by decide) ?_
        refine V_topI (v' := nw) (by rw [← hnw, if_neg (fun q => c_57 (by rw [q]; rfl))]) ?_
        refine V_istore (ls' := [(5, _), (6, _), (4, _), (3, _), (2, _), (0, _), (1, _)]) o dX8_quiet_68 (by decide) rfl ?_
        refine V_iload o dX8_quiet_70 rfl ?_
        refine V_iload_n o dX8_quiet_72 rfl rfl ?_
        refine V_icmp_le (tgt := 93) o dX8_quiet_73 (by decide) (fun c_73 => ?_) (fun c_73 => ?_)
        · refine V_iincV (v := nI (i + 1)) (ls' := [(6, _), (5, _), (4, _), (3, _), (2, _), (0, _), (1, _)]) o dX8_quiet_93 rfl (ninc 1 rfl) (by decide) rfl ?_
          refine V_goto (tgt := 34) o dX8_quiet_96 (by decide) ?_
          have ev : quV LN M2 v = (v.1, v.2.1, nw) := by unfold quV; rw [hnw]; unfold quW; rw [mxI, if_neg (Int32.not_lt.mpr c_73), if_neg (Int32.not_lt.mpr c_73)]
          rw [ev] at hR
          exact V_sub (by simp) (ih (i + 1) M2 (tkR N L rr) (v.1, v.2.1, nw) σ_44 (by omega) (ho.tr ho2) hC2 hW2 hR)
        · refine V_iload o dX8_quiet_76 rfl ?_
          refine V_istore_n (ls' := [(3, _), (5, _), (6, _), (4, _), (2, _), (0, _), (1, _)]) o dX8_quiet_78 rfl (by decide) rfl ?_
          refine V_aload_n o dX8_quiet_79 rfl rfl ?_
          refine V_getR (t := 25) o dX8_quiet_80 rfl fl_X8_16 rfl ?_
          refine V_getI o dX8_quiet_83 rfl fl_X8_123 rfl ?_
          refine V_topI (v' := M2 6) hW2.1.1 ?_
          refine V_iload o dX8_quiet_86 rfl ?_
          refine V_isub o dX8_quiet_88 ?_
          refine V_iconst (v := 1) o dX8_quiet_89 (by decide) ?_
          refine V_iadd o dX8_quiet_90 ?_
          refine V_istore (ls' := [(4, _), (3, _), (5, _), (6, _), (2, _), (0, _), (1, _)]) o dX8_quiet_91 (by decide) rfl ?_
          refine V_iincV (v := nI (i + 1)) (ls' := [(6, _), (4, _), (3, _), (5, _), (2, _), (0, _), (1, _)]) o dX8_quiet_93 rfl (ninc 1 rfl) (by decide) rfl ?_
          refine V_goto (tgt := 34) o dX8_quiet_96 (by decide) ?_
          have ev : quV LN M2 v = (nw, M2 6 - nw + 1, nw) := by unfold quV; rw [hnw]; unfold quW; rw [mxI, if_pos (Int32.not_le.mp c_73), if_pos (Int32.not_le.mp c_73)]
          rw [ev] at hR
          exact V_sub (by simp) (ih (i + 1) M2 (tkR N L rr) (nw, M2 6 - nw + 1, nw) σ_44 (by omega) (ho.tr ho2) hC2 hW2 hR)
      · refine V_iload o dX8_quiet_60 rfl ?_
        refine V_iconst (v := 1) o dX8_quiet_62 (by decide) ?_
        refine V_iadd o dX8_quiet_63 ?_
        refine V_goto (tgt := 68) o dX8_quiet_64 (by decide) ?_
        refine V_topI (v' := nw) (by rw [← hnw, if_pos ((nI_eq0 (by omega)).mp c_57)]) ?_
        refine V_istore (ls' := [(5, _), (6, _), (4, _), (3, _), (2, _), (0, _), (1, _)]) o dX8_quiet_68 (by decide) rfl ?_
        refine V_iload o dX8_quiet_70 rfl ?_
        refine V_iload_n o dX8_quiet_72 rfl rfl ?_
        refine V_icmp_le (tgt := 93) o dX8_quiet_73 (by decide) (fun c_73 => ?_) (fun c_73 => ?_)
        · refine V_iincV (v := nI (i + 1)) (ls' := [(6, _), (5, _), (4, _), (3, _), (2, _), (0, _), (1, _)]) o dX8_quiet_93 rfl (ninc 1 rfl) (by decide) rfl ?_
          refine V_goto (tgt := 34) o dX8_quiet_96 (by decide) ?_
          have ev : quV LN M2 v = (v.1, v.2.1, nw) := by unfold quV; rw [hnw]; unfold quW; rw [mxI, if_neg (Int32.not_lt.mpr c_73), if_neg (Int32.not_lt.mpr c_73)]
          rw [ev] at hR
          exact V_sub (by simp) (ih (i + 1) M2 (tkR N L rr) (v.1, v.2.1, nw) σ_44 (by omega) (ho.tr ho2) hC2 hW2 hR)
        · refine V_iload o dX8_quiet_76 rfl ?_
          refine V_istore_n (ls' := [(3, _), (5, _), (6, _), (4, _), (2, _), (0, _), (1, _)]) o dX8_quiet_78 rfl (by decide) rfl ?_
          refine V_aload_n o dX8_quiet_79 rfl rfl ?_
          refine V_getR (t := 25) o dX8_quiet_80 rfl fl_X8_16 rfl ?_
          refine V_getI o dX8_quiet_83 rfl fl_X8_123 rfl ?_
          refine V_topI (v' := M2 6) hW2.1.1 ?_
          refine V_iload o dX8_quiet_86 rfl ?_
          refine V_isub o dX8_quiet_88 ?_
          refine V_iconst (v := 1) o dX8_quiet_89 (by decide) ?_
          refine V_iadd o dX8_quiet_90 ?_
          refine V_istore (ls' := [(4, _), (3, _), (5, _), (6, _), (2, _), (0, _), (1, _)]) o dX8_quiet_91 (by decide) rfl ?_
          refine V_iincV (v := nI (i + 1)) (ls' := [(6, _), (4, _), (3, _), (5, _), (2, _), (0, _), (1, _)]) o dX8_quiet_93 rfl (ninc 1 rfl) (by decide) rfl ?_
          refine V_goto (tgt := 34) o dX8_quiet_96 (by decide) ?_
          have ev : quV LN M2 v = (nw, M2 6 - nw + 1, nw) := by unfold quV; rw [hnw]; unfold quW; rw [mxI, if_pos (Int32.not_le.mp c_73), if_pos (Int32.not_le.mp c_73)]
          rw [ev] at hR
          exact V_sub (by simp) (ih (i + 1) M2 (tkR N L rr) (nw, M2 6 - nw + 1, nw) σ_44 (by omega) (ho.tr ho2) hC2 hW2 hR)
  refine V_aload_n o dX8_quiet_0 rfl rfl ?_
  refine V_iload_n o dX8_quiet_1 rfl rfl ?_
  refine V_cVi o rt dX8_quiet_2 ml_X8_86 (c8_refT hf hW h6 hm1 hm2 hc) rfl rfl rfl (Nat.le_of_ble_eq_true rfl) rfl ?_
  refine V_istore_n (ls' := [(2, _), (0, _), (1, _)]) o dX8_quiet_5 rfl (by decide) rfl ?_
  refine V_iload_n o dX8_quiet_6 rfl rfl ?_
  refine V_if_ge (tgt := 12) o dX8_quiet_7 (by decide) (fun c_7 => ?_) (fun c_7 => False.elim (absurd (Int32.le_refl 0) c_7))
  refine V_aload_n o dX8_quiet_12 rfl rfl ?_
  refine V_getR (t := 25) o dX8_quiet_13 rfl fl_X8_16 rfl ?_
  refine V_aload_n o dX8_quiet_16 rfl rfl ?_
  refine V_getR (t := 2) o dX8_quiet_17 rfl fl_X8_10 rfl ?_
  refine V_callV o rt dX8_quiet_20 ml_X8_268 (c7_copy hf hW hF hZ hB hK.2.2.2.2.2) rfl rfl rfl (Nat.le_of_ble_eq_true rfl) rfl (fun r_20 σ_20 q_20 => ?_)
  obtain ⟨rfl, hoc, hWc0⟩ := q_20
  have hWc : WRel 25 (trM M) L σ_20 := hWc0.cg hL (fun j hj _ => trM_lo hj)
  show V sh0 w x mX8_quiet (0, 0) _ _ [] _
  refine V_iconst (v := 0) o dX8_quiet_23 (by decide) ?_
  refine V_istore_n (ls' := [(3, _), (2, _), (0, _), (1, _)]) o dX8_quiet_24 rfl (by decide) rfl ?_
  refine V_iconst (v := 0) o dX8_quiet_25 (by decide) ?_
  refine V_istore (ls' := [(4, _), (3, _), (2, _), (0, _), (1, _)]) o dX8_quiet_26 (by decide) rfl ?_
  refine V_iconst (v := 0) o dX8_quiet_28 (by decide) ?_
  refine V_istore (ls' := [(5, _), (4, _), (3, _), (2, _), (0, _), (1, _)]) o dX8_quiet_29 (by decide) rfl ?_
  refine V_iconst (v := 0) o dX8_quiet_31 (by decide) ?_
  refine V_istore (ls' := [(6, _), (5, _), (4, _), (3, _), (2, _), (0, _), (1, _)]) o dX8_quiet_32 (by decide) rfl ?_
  exact V_sub (by simp; rfl) (loop m0 0 (trM M) r (0, 0, 0) σ_20 (by omega) hoc (Cv_tr hC) hWc hR0)
set_option maxRecDepth 20000 in
set_option maxHeartbeats 4000000 in
theorem c8_quiet_no {w : Wp} (hf : Fit sh0 w) {σ : Mm} {M : Nat → Int32} {L r n : Nat} {l : List Int64} {T : Nat → Int32} (hK : KR M L r l T n σ) (hF : Wf M L) (hB : Bo M) {k : Int32} (hk : ¬ inR k 1 100) : Ct sh0 w 4 mX8_quiet [.ref 1, .int k] σ (fun r' σ' => r' = some (.int (-1)) ∧ Off 1 67 σ σ' ∧ KR (M) (L) r (l) (T) (n) σ') := by
  have hL := hF.2.2.1
  have hW := hK.1
  refine Ct_of hf (by decide) rfl (Nat.le_of_ble_eq_true rfl) (fun x o rt => ?_)
  refine V_aload_n o dX8_quiet_0 rfl rfl ?_
  refine V_iload_n o dX8_quiet_1 rfl rfl ?_
  refine V_cVi o rt dX8_quiet_2 ml_X8_86 (c8_refT_no hf hk) rfl rfl rfl (Nat.le_of_ble_eq_true rfl) rfl ?_
  refine V_istore_n (ls' := [(2, _), (0, _), (1, _)]) o dX8_quiet_5 rfl (by decide) rfl ?_
  refine V_iload_n o dX8_quiet_6 rfl rfl ?_
  refine V_if_ge (tgt := 12) o dX8_quiet_7 (by decide) (fun c_7 => False.elim (absurd c_7 (by decide))) (fun c_7 => ?_)
  refine V_iload_n o dX8_quiet_10 rfl rfl ?_
  refine V_iret o rt dX8_quiet_11 rfl rfl ?_
  exact ⟨rfl, Off.rf, hK⟩
set_option maxRecDepth 20000 in
set_option maxHeartbeats 4000000 in
theorem c8_busiest {w : Wp} (hf : Fit sh0 w) {σ : Mm} {M : Nat → Int32} {L r n : Nat} {l : List Int64} {T : Nat → Int32} (hK : KR M L r l T n σ) (hF : Wf M L) (hB : Bo M) (hZ : Z0 M L) (hC : Cv M L r) {c m0 : Nat} (h6 : M 6 = nI c) (hm1 : 1 ≤ m0) (hm2 : m0 ≤ 100) (hc : c + m0 ≤ 1000000000) {R : (Nat → Int32) × Nat × (Int32 × Int32 × Int32)} (hR0 : askS L buV m0 (trM M, r, ((M 6, 0, 0) : (Int32 × Int32 × Int32))) = R) : Ct sh0 w 4 mX8_busiest [.ref 1, .int (nI m0)] σ (fun r' σ' => r' = some (.int R.2.2.1) ∧ Off 1 67 σ σ' ∧ KR (M) (L) r ([R.2.2.2.1.toInt64, (bz (R.2.2.2.1 > 0 ∧ R.2.2.2.2 > 1)).toInt64]) (T) (n) σ') := by
  have hL := hF.2.2.1
  have hW := hK.1
  unfold askS at hR0
  refine Ct_of hf (by decide) rfl (Nat.le_of_ble_eq_true rfl) (fun x o rt => ?_)
  have loop : ∀ m i (N : Nat → Int32) (rr : Nat) (v : (Int32 × Int32 × Int32)) (τ : Mm), i + m = m0 → Off 25 48 σ τ → Cv N L rr → WRel 25 N L τ → (∃ q, v.2.1 = nI q ∧ q ≤ 16) → (∃ q, v.2.2 = nI q ∧ q ≤ i ∧ (v.2.1 > 0 → 1 ≤ q)) → itr (askF L buV) i m (N, rr, v) = R → V sh0 w x mX8_busiest (0, 0) 40 [(6, .int (nI i)), (5, .int (bz (v.2.1 > 0 ∧ v.2.2 > 1))), (4, .int v.2.1), (3, .int v.1), (2, .int 0), (0, .ref 1), (1, .int (nI m0))] [] τ := by
    intro m
    induction m with
    | zero =>
      intro i N rr v τ hi ho hCs hWt hmo hqc hR
      have him : i = m0 := by omega
      subst hR
      have hKt := hK.th hL (ho.wd (by omega) (by omega)) (fun u hu => (hWt.2.2 u hu).no)
      refine V_iload o dX8_busiest_40 rfl ?_
      refine V_iload_n o dX8_busiest_42 rfl rfl ?_
      refine V_icmp_ge (tgt := 111) o dX8_busiest_43 (by decide) (fun c_43 => ?_) (fun c_43 => False.elim (c_43 (by rw [him]; exact Int32.le_refl _)))
      refine V_aload_n o dX8_busiest_111 rfl rfl ?_
      refine V_getR (t := 52) o dX8_busiest_112 rfl fl_X8_33 rfl ?_
      refine V_callV o rt dX8_busiest_115 ml_X8_209 (c3_empty hf) rfl rfl rfl (Nat.le_of_ble_eq_true rfl) rfl (fun r_115 σ_115 q_115 => ?_)
      obtain ⟨rfl, ho_115, hR_115⟩ := q_115
      show V sh0 w x mX8_busiest (0, 0) _ _ [] _
      refine V_aload_n o dX8_busiest_118 rfl rfl ?_
      refine V_getR (t := 52) o dX8_busiest_119 rfl fl_X8_33 rfl ?_
      refine V_iload o dX8_busiest_122 rfl ?_
      refine V_i2l o dX8_busiest_124 ?_
      refine V_callV o rt dX8_busiest_125 ml_X8_210 (c3_put hf hR_115 (by simp)) rfl rfl rfl (Nat.le_of_ble_eq_true rfl) rfl (fun r_125 σ_125 q_125 => ?_)
      obtain ⟨rfl, hp_125, hR_125⟩ := q_125
      have ho_125 := ho_115.tr hp_125
      show V sh0 w x mX8_busiest (0, 0) _ _ [] _
      refine V_aload_n o dX8_busiest_128 rfl rfl ?_
      refine V_getR (t := 52) o dX8_busiest_129 rfl fl_X8_33 rfl ?_
      refine V_iload o dX8_busiest_132 rfl ?_
      refine V_i2l o dX8_busiest_134 ?_
      refine V_callV o rt dX8_busiest_135 ml_X8_210 (c3_put hf hR_125 (by simp)) rfl rfl rfl (Nat.le_of_ble_eq_true rfl) rfl (fun r_135 σ_135 q_135 => ?_)
      obtain ⟨rfl, hp_135, hR_135⟩ := q_135
      have ho_135 := ho_125.tr hp_135
      show V sh0 w x mX8_busiest (0, 0) _ _ [] _
      refine V_iload_n o dX8_busiest_138 rfl rfl ?_
      refine V_iret o rt dX8_busiest_139 rfl rfl ?_
      exact ⟨rfl, (ho.wd (by omega) (by omega)).tr (ho_135.wd (by omega) (by omega)), hKt.rw hL ho_135 hR_135⟩
    | succ m ih =>
      intro i N rr v τ hi ho hCs hWt hmo hqc hR
      obtain ⟨qc, hqc1, hqc2, hqc3⟩ := hqc
      have hCs' := hCs
      obtain ⟨LN, hLN⟩ : ∃ LN, tkLn N L = LN := ⟨_, rfl⟩
      obtain ⟨M2, hM2⟩ : ∃ M2, tickM N L rr = M2 := ⟨_, rfl⟩
      have hC2 : Cv M2 L (tkR N L rr) := by rw [← hM2]; exact Cv_tick hCs
      have hle : LN.2 ≤ 16 := by rw [← hLN]; exact lineM_le
      rw [itr_succ] at hR
      have e : askF L buV i (N, rr, v) = (M2, tkR N L rr, buV LN M2 v) := by unfold askF; rw [hM2, hLN]
      rw [e] at hR
      refine V_iload o dX8_busiest_40 rfl ?_
      refine V_iload_n o dX8_busiest_42 rfl rfl ?_
      refine V_icmp_ge (tgt := 111) o dX8_busiest_43 (by decide) (fun c_43 => False.elim (absurd c_43 (nI_ge (by omega) (by omega)))) (fun c_43 => ?_)
      refine V_aload_n o dX8_busiest_46 rfl rfl ?_
      refine V_getR (t := 25) o dX8_busiest_47 rfl fl_X8_16 rfl ?_
      refine V_callV o rt dX8_busiest_50 ml_X8_90 (c7_tickS_25 hf hWt hCs hLN hM2) rfl rfl rfl (Nat.le_of_ble_eq_true rfl) rfl (fun r_50 σ_50 q_50 => ?_)
      obtain ⟨rfl, ho2, hln, -, hW2⟩ := q_50
      show V sh0 w x mX8_busiest (0, 0) _ _ [] _
      refine V_aload_n o dX8_busiest_53 rfl rfl ?_
      refine V_getR (t := 25) o dX8_busiest_54 rfl fl_X8_16 rfl ?_
      refine V_getR (t := 30) o dX8_busiest_57 rfl fl_X8_189 rfl ?_
      refine V_getIE (v := nI (LN.2)) o dX8_busiest_60 rfl fl_X8_202 rfl hln.1 ?_
      refine V_istore (ls' := [(7, _), (6, _), (5, _), (4, _), (3, _), (2, _), (0, _), (1, _)]) o dX8_busiest_63 (by decide) rfl ?_
      refine V_iload o dX8_busiest_65 rfl ?_
      refine V_iload o dX8_busiest_67 rfl ?_
      refine V_icmp_le (tgt := 90) o dX8_busiest_69 (by decide) (fun c_69 => ?_) (fun c_69 => ?_)
      · refine V_iload o dX8_busiest_90 rfl ?_
        refine V_iload o dX8_busiest_92 rfl ?_
        refine V_icmp_ne (tgt := 105) o dX8_busiest_94 (by decide) (fun c_94 => ?_) (fun c_94 => ?_)
        · refine V_iincV (v := nI (i + 1)) (ls' := [(6, _), (7, _), (5, _), (4, _), (3, _), (2, _), (0, _), (1, _)]) o dX8_busiest_105 rfl (ninc 1 rfl) (by decide) rfl ?_
          refine V_goto (tgt := 40) o dX8_busiest_108 (by decide) ?_
          have hng : ¬ (nI LN.2 > v.2.1) := Int32.not_lt.mpr c_69
          have ev : buV LN M2 v = (v.1, v.2.1, v.2.2) := by unfold buV; rw [if_neg hng, if_neg hng, mxI, if_neg hng, if_neg c_94]
          rw [ev] at hR
          exact V_sub (by simp) (ih (i + 1) M2 (tkR N L rr) (v.1, v.2.1, v.2.2) σ_50 (by omega) (ho.tr ho2) hC2 hW2 hmo ⟨qc, hqc1, by omega, hqc3⟩ hR)
        · refine V_iload o dX8_busiest_97 rfl ?_
          refine V_if_le (tgt := 105) o dX8_busiest_99 (by decide) (fun c_99 => ?_) (fun c_99 => ?_)
          · refine V_iincV (v := nI (i + 1)) (ls' := [(6, _), (7, _), (5, _), (4, _), (3, _), (2, _), (0, _), (1, _)]) o dX8_busiest_105 rfl (ninc 1 rfl) (by decide) rfl ?_
            refine V_goto (tgt := 40) o dX8_busiest_108 (by decide) ?_
            have hng : ¬ (nI LN.2 > v.2.1) := Int32.not_lt.mpr c_69
            have ev : buV LN M2 v = (v.1, v.2.1, v.2.2 + 1) := by unfold buV; rw [if_neg hng, if_neg hng, mxI, if_neg hng, if_pos c_94]
            rw [ev] at hR
            have hb : bz (v.2.1 > 0 ∧ v.2.2 + 1 > 1) = bz (v.2.1 > 0 ∧ v.2.2 > 1) := bz_congr ⟨fun q => absurd q.1 (Int32.not_lt.mpr c_99), fun q => absurd q.1 (Int32.not_lt.mpr c_99)⟩
            refine V_sub ?_ (ih (i + 1) M2 (tkR N L rr) (v.1, v.2.1, v.2.2 + 1) σ_50 (by omega) (ho.tr ho2) hC2 hW2 hmo ⟨qc + 1, by show v.2.2 + 1 = _; rw [hqc1, nI_1], by omega, fun _ => by omega⟩ hR)
            show ∀ q ∈ [(6, Value.int (nI (i + 1))), (5, .int (bz (v.2.1 > 0 ∧ v.2.2 + 1 > 1))), _, _, _, _, _], _
            rw [hb]
            simp
          · refine V_iconst (v := 1) o dX8_busiest_102 (by decide) ?_
            refine V_istore (ls' := [(5, _), (7, _), (6, _), (4, _), (3, _), (2, _), (0, _), (1, _)]) o dX8_busiest_103 (by decide) rfl ?_
            refine V_iincV (v := nI (i + 1)) (ls' := [(6, _), (5, _), (7, _), (4, _), (3, _), (2, _), (0, _), (1, _)]) o dX8_busiest_105 rfl (ninc 1 rfl) (by decide) rfl ?_
            refine V_goto (tgt := 40) o dX8_busiest_108 (by decide) ?_
            have hng : ¬ (nI LN.2 > v.2.1) := Int32.not_lt.mpr c_69
            have ev : buV LN M2 v = (v.1, v.2.1, v.2.2 + 1) := by unfold buV; rw [if_neg hng, if_neg hng, mxI, if_neg hng, if_pos c_94]
            rw [ev] at hR
            have hp := Int32.not_le.mp c_99
            have hb : bz (v.2.1 > 0 ∧ v.2.2 + 1 > 1) = 1 := bz_t ⟨hp, by have := hqc3 hp; rw [hqc1, nI_1]; exact nI_lt (a := 1) (by omega) (by omega)⟩
            refine V_sub ?_ (ih (i + 1) M2 (tkR N L rr) (v.1, v.2.1, v.2.2 + 1) σ_50 (by omega) (ho.tr ho2) hC2 hW2 hmo ⟨qc + 1, by show v.2.2 + 1 = _; rw [hqc1, nI_1], by omega, fun _ => by omega⟩ hR)
            show ∀ q ∈ [(6, Value.int (nI (i + 1))), (5, .int (bz (v.2.1 > 0 ∧ v.2.2 + 1 > 1))), _, _, _, _, _], _
            rw [hb]
            simp
      · refine V_aload_n o dX8_busiest_72 rfl rfl ?_
        refine V_getR (t := 25) o dX8_busiest_73 rfl fl_X8_16 rfl ?_
        refine V_getI o dX8_busiest_76 rfl fl_X8_123 rfl ?_
        refine V_topI (v' := M2 6) hW2.1.1 ?_
        refine V_istore_n (ls' := [(3, _), (7, _), (6, _), (5, _), (4, _), (2, _), (0, _), (1, _)]) o dX8_busiest_79 rfl (by decide) rfl ?_
        refine V_iload o dX8_busiest_80 rfl ?_
        refine V_istore (ls' := [(4, _), (3, _), (7, _), (6, _), (5, _), (2, _), (0, _), (1, _)]) o dX8_busiest_82 (by decide) rfl ?_
        refine V_iconst (v := 0) o dX8_busiest_84 (by decide) ?_
        refine V_istore (ls' := [(5, _), (4, _), (3, _), (7, _), (6, _), (2, _), (0, _), (1, _)]) o dX8_busiest_85 (by decide) rfl ?_
        refine V_goto (tgt := 105) o dX8_busiest_87 (by decide) ?_
        refine V_iincV (v := nI (i + 1)) (ls' := [(6, _), (5, _), (4, _), (3, _), (7, _), (2, _), (0, _), (1, _)]) o dX8_busiest_105 rfl (ninc 1 rfl) (by decide) rfl ?_
        refine V_goto (tgt := 40) o dX8_busiest_108 (by decide) ?_
        have hgt := Int32.not_le.mp c_69
        have ev : buV LN M2 v = (M2 6, nI LN.2, 1) := by unfold buV; rw [if_pos hgt, if_pos hgt, mxI, if_pos hgt]
        rw [ev] at hR
        have hb : bz ((nI LN.2 : Int32) > 0 ∧ (1 : Int32) > 1) = 0 := bz_f (fun q => absurd q.2 (by decide))
        refine V_sub ?_ (ih (i + 1) M2 (tkR N L rr) (M2 6, nI LN.2, 1) σ_50 (by omega) (ho.tr ho2) hC2 hW2 ⟨LN.2, rfl, by omega⟩ ⟨1, rfl, by omega, fun _ => Nat.le_refl 1⟩ hR)
        show ∀ q ∈ [(6, Value.int (nI (i + 1))), (5, .int (bz ((nI LN.2 : Int32) > 0 ∧ (1 : Int32) > 1))), _, _, _, _, _], _
        rw [hb]
        simp
  refine V_aload_n o dX8_busiest_0 rfl rfl ?_
  refine V_iload_n o dX8_busiest_1 rfl rfl ?_
  refine V_cVi o rt dX8_busiest_2 ml_X8_86 (c8_refT hf hW h6 hm1 hm2 hc) rfl rfl rfl (Nat.le_of_ble_eq_true rfl) rfl ?_
  refine V_istore_n (ls' := [(2, _), (0, _), (1, _)]) o dX8_busiest_5 rfl (by decide) rfl ?_
  refine V_iload_n o dX8_busiest_6 rfl rfl ?_
  refine V_if_ge (tgt := 12) o dX8_busiest_7 (by decide) (fun c_7 => ?_) (fun c_7 => False.elim (absurd (Int32.le_refl 0) c_7))
  refine V_aload_n o dX8_busiest_12 rfl rfl ?_
  refine V_getR (t := 25) o dX8_busiest_13 rfl fl_X8_16 rfl ?_
  refine V_aload_n o dX8_busiest_16 rfl rfl ?_
  refine V_getR (t := 2) o dX8_busiest_17 rfl fl_X8_10 rfl ?_
  refine V_callV o rt dX8_busiest_20 ml_X8_268 (c7_copy hf hW hF hZ hB hK.2.2.2.2.2) rfl rfl rfl (Nat.le_of_ble_eq_true rfl) rfl (fun r_20 σ_20 q_20 => ?_)
  obtain ⟨rfl, hoc, hWc0⟩ := q_20
  have hWc : WRel 25 (trM M) L σ_20 := hWc0.cg hL (fun j hj _ => trM_lo hj)
  show V sh0 w x mX8_busiest (0, 0) _ _ [] _
  refine V_aload_n o dX8_busiest_23 rfl rfl ?_
  refine V_getR (t := 2) o dX8_busiest_24 rfl fl_X8_10 rfl ?_
  refine V_getI o dX8_busiest_27 rfl fl_X8_123 rfl ?_
  refine V_topI (v' := M 6) ((congrFun (hoc 2 (by omega)).1 3).trans hW.1.1) ?_
  refine V_istore_n (ls' := [(3, _), (2, _), (0, _), (1, _)]) o dX8_busiest_30 rfl (by decide) rfl ?_
  refine V_iconst (v := 0) o dX8_busiest_31 (by decide) ?_
  refine V_istore (ls' := [(4, _), (3, _), (2, _), (0, _), (1, _)]) o dX8_busiest_32 (by decide) rfl ?_
  refine V_iconst (v := 0) o dX8_busiest_34 (by decide) ?_
  refine V_istore (ls' := [(5, _), (4, _), (3, _), (2, _), (0, _), (1, _)]) o dX8_busiest_35 (by decide) rfl ?_
  refine V_iconst (v := 0) o dX8_busiest_37 (by decide) ?_
  refine V_istore (ls' := [(6, _), (5, _), (4, _), (3, _), (2, _), (0, _), (1, _)]) o dX8_busiest_38 (by decide) rfl ?_
  have hb : bz ((0 : Int32) > 0 ∧ (0 : Int32) > 1) = 0 := bz_f (fun q => absurd q.1 (by decide))
  refine V_sub ?_ (loop m0 0 (trM M) r (M 6, 0, 0) σ_20 (by omega) hoc (Cv_tr hC) hWc ⟨0, rfl, by omega⟩ ⟨0, rfl, by omega, fun q => absurd (show (0 : Int32) > 0 from q) (by decide)⟩ hR0)
  show ∀ q ∈ [(6, Value.int (nI 0)), (5, .int (bz ((0 : Int32) > 0 ∧ (0 : Int32) > 1))), _, _, _, _, _], _
  rw [hb]
  simp
  rfl
set_option maxRecDepth 20000 in
set_option maxHeartbeats 4000000 in
theorem c8_busiest_no {w : Wp} (hf : Fit sh0 w) {σ : Mm} {M : Nat → Int32} {L r n : Nat} {l : List Int64} {T : Nat → Int32} (hK : KR M L r l T n σ) (hF : Wf M L) (hB : Bo M) {k : Int32} (hk : ¬ inR k 1 100) : Ct sh0 w 4 mX8_busiest [.ref 1, .int k] σ (fun r' σ' => r' = some (.int (-1)) ∧ Off 1 67 σ σ' ∧ KR (M) (L) r (l) (T) (n) σ') := by
  have hL := hF.2.2.1
  have hW := hK.1
  refine Ct_of hf (by decide) rfl (Nat.le_of_ble_eq_true rfl) (fun x o rt => ?_)
  refine V_aload_n o dX8_busiest_0 rfl rfl ?_
  refine V_iload_n o dX8_busiest_1 rfl rfl ?_
  refine V_cVi o rt dX8_busiest_2 ml_X8_86 (c8_refT_no hf hk) rfl rfl rfl (Nat.le_of_ble_eq_true rfl) rfl ?_
  refine V_istore_n (ls' := [(2, _), (0, _), (1, _)]) o dX8_busiest_5 rfl (by decide) rfl ?_
  refine V_iload_n o dX8_busiest_6 rfl rfl ?_
  refine V_if_ge (tgt := 12) o dX8_busiest_7 (by decide) (fun c_7 => False.elim (absurd c_7 (by decide))) (fun c_7 => ?_)
  refine V_iload_n o dX8_busiest_10 rfl rfl ?_
  refine V_iret o rt dX8_busiest_11 rfl rfl ?_
  exact ⟨rfl, Off.rf, hK⟩
