set_option maxRecDepth 20000 in
set_option maxHeartbeats 4000000 in
theorem c8_till {w : Wp} (hf : Fit sh0 w) {σ : Mm} {M : Nat → Int32} {L r n : Nat} {l : List Int64} {T : Nat → Int32} (hK : KR M L r l T n σ) (hF : Wf M L) (hB : Bo M) (hZ : Z0 M L) (hC : Cv M L r) {c : Nat} (h6 : M 6 = nI c) (hc : c + 100 ≤ 1000000000) {k : Int32} (hk : inR k 1 100) {R : ((Nat → Int32) × Nat × Int32 × Int32)} (hR0 : tiL L k 100 (trM M, r, 0, -2) = R) : Ct sh0 w 4 mX8_till [.ref 1, .int k] σ (fun r' σ' => Off 1 67 σ σ' ∧ if R.2.2.2 < 0 then r' = some (.int (-2)) ∧ KR M L r l T n σ' else r' = some (.int R.2.2.2) ∧ KR M L r [R.2.2.1.toInt64, (R.1 8 - M 8).toInt64] T n σ') := by
  have hL := hF.2.2.1
  have hW := hK.1
  refine Ct_of hf (by decide) rfl (Nat.le_of_ble_eq_true rfl) (fun x o rt => ?_)
  have fin : ∀ (s : ((Nat → Int32) × Nat × Int32 × Int32)) (cs : Nat) (τ : Mm), s = R → Off 25 48 σ τ → WRel 25 s.1 L τ → s.1 6 = nI cs → cs ≤ 1000000000 → ((s.2.2.1 < k → s.2.2.2 = -2) ∧ (¬ s.2.2.1 < k → s.2.2.2 = s.1 6)) → V sh0 w x mX8_till (0, 0) 79 [(3, .int s.2.2.1), (0, .ref 1), (1, .int k)] [] τ := by
    intro s cs τ hs ho hWt hcs hcs2 hx
    subst hs
    have hKt := hK.th hL (ho.wd (by omega) (by omega)) (fun u hu => (hWt.2.2 u hu).no)
    refine V_iload_n o dX8_till_79 rfl rfl ?_
    refine V_iload_n o dX8_till_80 rfl rfl ?_
    refine V_icmp_ge (tgt := 87) o dX8_till_81 (by decide) (fun c_81 => ?_) (fun c_81 => ?_)
    · refine V_aload_n o dX8_till_87 rfl rfl ?_
      refine V_getR (t := 52) o dX8_till_88 rfl fl_X8_33 rfl ?_
      refine V_callV o rt dX8_till_91 ml_X8_209 (c3_empty hf) rfl rfl rfl (Nat.le_of_ble_eq_true rfl) rfl (fun r_91 σ_91 q_91 => ?_)
      obtain ⟨rfl, ho_91, hR_91⟩ := q_91
      show V sh0 w x mX8_till (0, 0) _ _ [] _
      refine V_aload_n o dX8_till_94 rfl rfl ?_
      refine V_getR (t := 52) o dX8_till_95 rfl fl_X8_33 rfl ?_
      refine V_iload_n o dX8_till_98 rfl rfl ?_
      refine V_i2l o dX8_till_99 ?_
      refine V_callV o rt dX8_till_100 ml_X8_210 (c3_put hf hR_91 (by simp)) rfl rfl rfl (Nat.le_of_ble_eq_true rfl) rfl (fun r_100 σ_100 q_100 => ?_)
      obtain ⟨rfl, hp_100, hR_100⟩ := q_100
      have ho_100 := ho_91.tr hp_100
      show V sh0 w x mX8_till (0, 0) _ _ [] _
      refine V_aload_n o dX8_till_103 rfl rfl ?_
      refine V_getR (t := 52) o dX8_till_104 rfl fl_X8_33 rfl ?_
      refine V_aload_n o dX8_till_107 rfl rfl ?_
      refine V_getR (t := 25) o dX8_till_108 rfl fl_X8_16 rfl ?_
      refine V_getI o dX8_till_111 rfl fl_X8_302 rfl ?_
      refine V_topI (v' := s.1 8) ((congrFun (ho_100 25 (by omega)).1 5).trans hWt.1.2.2.1) ?_
      refine V_aload_n o dX8_till_114 rfl rfl ?_
      refine V_getR (t := 2) o dX8_till_115 rfl fl_X8_10 rfl ?_
      refine V_getI o dX8_till_118 rfl fl_X8_302 rfl ?_
      refine V_topI (v' := M 8) ((congrFun (ho_100 2 (by omega)).1 5).trans hKt.1.1.2.2.1) ?_
      refine V_isub o dX8_till_121 ?_
      refine V_i2l o dX8_till_122 ?_
      refine V_callV o rt dX8_till_123 ml_X8_210 (c3_put hf hR_100 (by simp)) rfl rfl rfl (Nat.le_of_ble_eq_true rfl) rfl (fun r_123 σ_123 q_123 => ?_)
      obtain ⟨rfl, hp_123, hR_123⟩ := q_123
      have ho_123 := ho_100.tr hp_123
      show V sh0 w x mX8_till (0, 0) _ _ [] _
      refine V_aload_n o dX8_till_126 rfl rfl ?_
      refine V_getR (t := 25) o dX8_till_127 rfl fl_X8_16 rfl ?_
      refine V_getI o dX8_till_130 rfl fl_X8_123 rfl ?_
      refine V_topI (v' := s.1 6) ((congrFun (ho_123 25 (by omega)).1 3).trans hWt.1.1) ?_
      refine V_iret o rt dX8_till_133 rfl rfl ?_
      have hnn : ¬ s.2.2.2 < 0 := by rw [hx.2 (Int32.not_lt.mpr c_81), hcs]; exact nI_nn (by omega)
      refine ⟨(ho.wd (by omega) (by omega)).tr (ho_123.wd (by omega) (by omega)), ?_⟩
      rw [if_neg hnn, hx.2 (Int32.not_lt.mpr c_81)]
      exact ⟨rfl, hKt.rw hL ho_123 hR_123⟩
    · refine V_bipush (v := -2) o dX8_till_84 (by decide) ?_
      refine V_iret o rt dX8_till_86 rfl rfl ?_
      have hneg : s.2.2.2 < 0 := by rw [hx.1 (Int32.not_le.mp c_81)]; decide
      exact ⟨ho.wd (by omega) (by omega), by rw [if_pos hneg]; exact ⟨rfl, hKt⟩⟩
  have loop : ∀ m i (s : ((Nat → Int32) × Nat × Int32 × Int32)) (cs : Nat) (τ : Mm), i + m = 100 → Off 25 48 σ τ → Cv s.1 L s.2.1 → WRel 25 s.1 L τ → s.1 6 = nI cs → cs = c + i → ((s.2.2.1 < k → s.2.2.2 = -2) ∧ (¬ s.2.2.1 < k → s.2.2.2 = s.1 6)) → tiL L k m s = R → V sh0 w x mX8_till (0, 0) 41 [(4, .int (nI i)), (3, .int s.2.2.1), (2, .int 0), (0, .ref 1), (1, .int k)] [] τ := by
    intro m
    induction m with
    | zero =>
      intro i s cs τ hi ho hCs hWt hcs hcs2 hx hR
      have him : i = 100 := by omega
      rw [tiL] at hR
      refine V_iload o dX8_till_41 rfl ?_
      refine V_bipush (v := 100) o dX8_till_43 (by decide) ?_
      refine V_icmp_ge (tgt := 79) o dX8_till_45 (by decide) (fun c_45 => ?_) (fun c_45 => False.elim (c_45 (by rw [him]; decide)))
      exact V_sub (by simp) (fin s cs τ hR ho hWt hcs (by omega) hx)
    | succ m ih =>
      intro i s cs τ hi ho hCs hWt hcs hcs2 hx hR
      obtain ⟨N, rr, v1, v2⟩ := s
      have hCs' : Cv N L rr := hCs
      obtain ⟨LN, hLN⟩ : ∃ LN, tkLn N L = LN := ⟨_, rfl⟩
      obtain ⟨M2, hM2⟩ : ∃ M2, tickM N L rr = M2 := ⟨_, rfl⟩
      have hC2 : Cv M2 L (tkR N L rr) := by rw [← hM2]; exact Cv_tick hCs'
      have hle : LN.2 ≤ 16 := by rw [← hLN]; exact lineM_le
      have hc2 : M2 6 = nI (cs + 1) := by rw [← hM2, tick_6 hCs'.1]; show N 6 + 1 = _; rw [show N 6 = nI cs from hcs]; exact nI_1 cs
      rw [tiL] at hR
      refine V_iload o dX8_till_41 rfl ?_
      refine V_bipush (v := 100) o dX8_till_43 (by decide) ?_
      refine V_icmp_ge (tgt := 79) o dX8_till_45 (by decide) (fun c_45 => False.elim (absurd c_45 (nI_ge (b := 100) (by omega) (by omega)))) (fun c_45 => ?_)
      refine V_iload_n o dX8_till_48 rfl rfl ?_
      refine V_iload_n o dX8_till_49 rfl rfl ?_
      refine V_icmp_ge (tgt := 79) o dX8_till_50 (by decide) (fun c_50 => ?_) (fun c_50 => ?_)
      · rw [if_neg (Int32.not_lt.mpr c_50)] at hR
        exact V_sub (by simp) (fin (N, rr, v1, v2) cs τ hR ho hWt hcs (by omega) hx)
      · refine V_aload_n o dX8_till_53 rfl rfl ?_
        refine V_getR (t := 25) o dX8_till_54 rfl fl_X8_16 rfl ?_
        refine V_callV o rt dX8_till_57 ml_X8_90 (c7_tickS_25 hf hWt hCs' hLN hM2) rfl rfl rfl (Nat.le_of_ble_eq_true rfl) rfl (fun r_57 σ_57 q_57 => ?_)
        obtain ⟨rfl, ho2, hln, -, hW2⟩ := q_57
        show V sh0 w x mX8_till (0, 0) _ _ [] _
        refine V_iload_n o dX8_till_60 rfl rfl ?_
        refine V_aload_n o dX8_till_61 rfl rfl ?_
        refine V_getR (t := 25) o dX8_till_62 rfl fl_X8_16 rfl ?_
        refine V_getR (t := 30) o dX8_till_65 rfl fl_X8_189 rfl ?_
        refine V_getIE (v := nI (LN.2)) o dX8_till_68 rfl fl_X8_202 rfl hln.1 ?_
        refine V_iadd o dX8_till_71 ?_
        refine V_istore_n (ls' := [(3, _), (4, _), (2, _), (0, _), (1, _)]) o dX8_till_72 rfl (by decide) rfl ?_
        refine V_iincV (v := nI (i + 1)) (ls' := [(4, _), (3, _), (2, _), (0, _), (1, _)]) o dX8_till_73 rfl (ninc 1 rfl) (by decide) rfl ?_
        refine V_goto (tgt := 41) o dX8_till_76 (by decide) ?_
        have hlt : v1 < k := Int32.not_le.mp c_50
        rw [if_pos hlt] at hR
        have e : tiN L k (N, rr, v1, v2) = (M2, tkR N L rr, v1 + nI LN.2, if v1 + nI LN.2 < k then -2 else M2 6) := by
          unfold tiN
          rw [hM2, hLN]
        rw [e] at hR
        exact V_sub (by simp) (ih (i + 1) (M2, tkR N L rr, v1 + nI LN.2, if v1 + nI LN.2 < k then -2 else M2 6) (cs + 1) σ_57 (by omega) (ho.tr ho2) hC2 hW2 hc2 (by omega) ⟨fun q => if_pos q, fun q => if_neg q⟩ hR)
  refine V_iload_n o dX8_till_0 rfl rfl ?_
  refine V_iconst (v := 1) o dX8_till_1 (by decide) ?_
  refine V_bipush (v := 100) o dX8_till_2 (by decide) ?_
  refine V_cSi o rt dX8_till_4 ms_X8_79 (c8_isWithin hf) rfl rfl (Nat.le_of_ble_eq_true rfl) rfl ?_
  refine V_if_ne (tgt := 12) o dX8_till_7 (by decide) (fun c_7 => ?_) (fun c_7 => False.elim (bz_0.mp c_7 hk))
  refine V_aload_n o dX8_till_12 rfl rfl ?_
  refine V_bipush (v := 100) o dX8_till_13 (by decide) ?_
  refine V_cVi o rt dX8_till_15 ml_X8_86 (c8_refT hf hW h6 (m := 100) (by omega) (by omega) hc) rfl rfl rfl (Nat.le_of_ble_eq_true rfl) rfl ?_
  refine V_istore_n (ls' := [(2, _), (0, _), (1, _)]) o dX8_till_18 rfl (by decide) rfl ?_
  refine V_iload_n o dX8_till_19 rfl rfl ?_
  refine V_if_ge (tgt := 25) o dX8_till_20 (by decide) (fun c_20 => ?_) (fun c_20 => False.elim (absurd (Int32.le_refl 0) c_20))
  refine V_aload_n o dX8_till_25 rfl rfl ?_
  refine V_getR (t := 25) o dX8_till_26 rfl fl_X8_16 rfl ?_
  refine V_aload_n o dX8_till_29 rfl rfl ?_
  refine V_getR (t := 2) o dX8_till_30 rfl fl_X8_10 rfl ?_
  refine V_callV o rt dX8_till_33 ml_X8_268 (c7_copy hf hW hF hZ hB hK.2.2.2.2.2) rfl rfl rfl (Nat.le_of_ble_eq_true rfl) rfl (fun r_33 σ_33 q_33 => ?_)
  obtain ⟨rfl, hoc, hWc0⟩ := q_33
  have hWc : WRel 25 (trM M) L σ_33 := hWc0.cg hL (fun j hj _ => trM_lo hj)
  show V sh0 w x mX8_till (0, 0) _ _ [] _
  refine V_iconst (v := 0) o dX8_till_36 (by decide) ?_
  refine V_istore_n (ls' := [(3, _), (2, _), (0, _), (1, _)]) o dX8_till_37 rfl (by decide) rfl ?_
  refine V_iconst (v := 0) o dX8_till_38 (by decide) ?_
  refine V_istore (ls' := [(4, _), (3, _), (2, _), (0, _), (1, _)]) o dX8_till_39 (by decide) rfl ?_
  exact V_sub (by simp; rfl) (loop 100 0 (trM M, r, 0, -2) c σ_33 (by omega) hoc (Cv_tr hC) hWc ((trM_lo (by omega)).trans h6) (by omega) ⟨fun _ => rfl, fun q => absurd (show (0 : Int32) < k from Int32.lt_of_lt_of_le (by decide) hk.1) q⟩ hR0)
set_option maxRecDepth 20000 in
set_option maxHeartbeats 4000000 in
theorem c8_till_no {w : Wp} (hf : Fit sh0 w) {σ : Mm} {M : Nat → Int32} {L r n : Nat} {l : List Int64} {T : Nat → Int32} (hK : KR M L r l T n σ) (hF : Wf M L) (hB : Bo M) {k : Int32} (hk : ¬ inR k 1 100) : Ct sh0 w 4 mX8_till [.ref 1, .int k] σ (fun r' σ' => r' = some (.int (-1)) ∧ Off 1 67 σ σ' ∧ KR (M) (L) r (l) (T) (n) σ') := by
  have hL := hF.2.2.1
  have hW := hK.1
  refine Ct_of hf (by decide) rfl (Nat.le_of_ble_eq_true rfl) (fun x o rt => ?_)
  refine V_iload_n o dX8_till_0 rfl rfl ?_
  refine V_iconst (v := 1) o dX8_till_1 (by decide) ?_
  refine V_bipush (v := 100) o dX8_till_2 (by decide) ?_
  refine V_cSi o rt dX8_till_4 ms_X8_79 (c8_isWithin hf) rfl rfl (Nat.le_of_ble_eq_true rfl) rfl ?_
  refine V_if_ne (tgt := 12) o dX8_till_7 (by decide) (fun c_7 => False.elim (hk (bz_n0.mp c_7))) (fun c_7 => ?_)
  refine V_iconst (v := -1) o dX8_till_10 (by decide) ?_
  refine V_iret o rt dX8_till_11 rfl rfl ?_
  exact ⟨rfl, Off.rf, hK⟩
set_option maxRecDepth 20000 in
set_option maxHeartbeats 4000000 in
theorem c8_clashes {w : Wp} (hf : Fit sh0 w) {σ : Mm} {M : Nat → Int32} {L r n : Nat} {l : List Int64} {T : Nat → Int32} (hK : KR M L r l T n σ) (hF : Wf M L) (hB : Bo M) (hZ : Z0 M L) (hC : Cv M L r) {c m0 : Nat} (h6 : M 6 = nI c) (hm1 : 1 ≤ m0) (hm2 : m0 ≤ 100) (hc : c + m0 ≤ 1000000000) {R : (Nat → Int32) × Nat × (Int32 × Int32 × Int32 × Int32)} (hR0 : askS L clV m0 (trM M, r, ((0, -1, -1, -1) : (Int32 × Int32 × Int32 × Int32))) = R) : Ct sh0 w 4 mX8_clashes [.ref 1, .int (nI m0)] σ (fun r' σ' => r' = some (.int R.2.2.1) ∧ Off 1 67 σ σ' ∧ KR (M) (L) r ([R.2.2.2.1.toInt64, R.2.2.2.2.1.toInt64, R.2.2.2.2.2.toInt64]) (T) (n) σ') := by
  have hL := hF.2.2.1
  have hW := hK.1
  unfold askS at hR0
  refine Ct_of hf (by decide) rfl (Nat.le_of_ble_eq_true rfl) (fun x o rt => ?_)
  have fin : ∀ m i (qc : Nat) (l3 : List Int64) (τ : Mm), i + m = 3 → qc ≤ 100 → R.2.2.1 = nI qc → Off 25 54 σ τ → Nm τ → RwC l3 τ → (qc = 0 → l3.length = i ∧ l3 ++ List.replicate m (-1) = [R.2.2.2.1.toInt64, R.2.2.2.2.1.toInt64, R.2.2.2.2.2.toInt64]) → (¬ qc = 0 → l3 = [R.2.2.2.1.toInt64, R.2.2.2.2.1.toInt64, R.2.2.2.2.2.toInt64]) → V sh0 w x mX8_clashes (0, 0) 152 [(4, .int (nI i)), (3, .int (nI qc)), (2, .int 0), (0, .ref 1), (1, .int (nI m0))] [] τ := by
    intro m
    induction m with
    | zero =>
      intro i qc l3 τ hi hqc hRq ho hN hR_0 hz hnz
      have hl3 : l3 = [R.2.2.2.1.toInt64, R.2.2.2.2.1.toInt64, R.2.2.2.2.2.toInt64] := by
        by_cases q : qc = 0
        · have := (hz q).2
          rw [List.replicate_zero, List.append_nil] at this
          exact this
        · exact hnz q
      have hKt : KR M L r [R.2.2.2.1.toInt64, R.2.2.2.2.1.toInt64, R.2.2.2.2.2.toInt64] T n τ := ⟨hW.off hL (fun _ _ _ => rfl) ho (by omega), hK.2.1.off ho (by omega), hK.2.2.1.off ho (by omega), by rw [← hl3]; exact hR_0, hK.2.2.2.2.1.off ho (by omega), hN⟩
      refine V_iload o dX8_clashes_152 rfl ?_
      refine V_iconst (v := 3) o dX8_clashes_154 (by decide) ?_
      refine V_icmp_ge (tgt := 178) o dX8_clashes_155 (by decide) (fun c_155 => ?_) (fun c_155 => False.elim (c_155 (nI_le (a := 3) (by omega) (by omega))))
      refine V_iload_n o dX8_clashes_178 rfl rfl ?_
      refine V_iret o rt dX8_clashes_179 rfl rfl ?_
      exact ⟨by rw [hRq], ho.wd (by omega) (by omega), hKt⟩
    | succ m ih =>
      intro i qc l3 τ hi hqc hRq ho hN hR_0 hz hnz
      have ho_0 : Off 52 54 τ τ := Off.rf
      by_cases q : qc = 0
      · have hll := (hz q).1
        refine V_iload o dX8_clashes_152 rfl ?_
        refine V_iconst (v := 3) o dX8_clashes_154 (by decide) ?_
        refine V_icmp_ge (tgt := 178) o dX8_clashes_155 (by decide) (fun c_155 => False.elim (absurd c_155 (nI_ge (b := 3) (by omega) (by omega)))) (fun c_155 => ?_)
        refine V_iload_n o dX8_clashes_158 rfl rfl ?_
        refine V_if_ne (tgt := 178) o dX8_clashes_159 (by decide) (fun c_159 => False.elim (c_159 (by rw [q]; rfl))) (fun c_159 => ?_)
        refine V_aload_n o dX8_clashes_162 rfl rfl ?_
        refine V_getR (t := 52) o dX8_clashes_163 rfl fl_X8_33 rfl ?_
        refine V_ldc2 o dX8_clashes_166 kc_X8_300 ?_
        refine V_callV o rt dX8_clashes_169 ml_X8_210 (c3_put hf hR_0 (by omega)) rfl rfl rfl (Nat.le_of_ble_eq_true rfl) rfl (fun r_169 σ_169 q_169 => ?_)
        obtain ⟨rfl, hp_169, hR_169⟩ := q_169
        have ho_169 := ho_0.tr hp_169
        show V sh0 w x mX8_clashes (0, 0) _ _ [] _
        refine V_iincV (v := nI (i + 1)) (ls' := [(4, _), (3, _), (2, _), (0, _), (1, _)]) o dX8_clashes_172 rfl (ninc 1 rfl) (by decide) rfl ?_
        refine V_goto (tgt := 152) o dX8_clashes_175 (by decide) ?_
        refine V_sub (by simp) (ih (i + 1) qc (l3 ++ [-1]) σ_169 (by omega) hqc hRq (ho.tr (hp_169.wd (by omega) (by omega))) (hN.off hp_169 (by omega)) hR_169 (fun _ => ⟨by rw [List.length_append]; simp; omega, ?_⟩) (fun q2 => absurd q q2))
        rw [List.append_assoc]
        exact (hz q).2
      · have hKt : KR M L r [R.2.2.2.1.toInt64, R.2.2.2.2.1.toInt64, R.2.2.2.2.2.toInt64] T n τ := ⟨hW.off hL (fun _ _ _ => rfl) ho (by omega), hK.2.1.off ho (by omega), hK.2.2.1.off ho (by omega), by rw [← hnz q]; exact hR_0, hK.2.2.2.2.1.off ho (by omega), hN⟩
        refine V_iload o dX8_clashes_152 rfl ?_
        refine V_iconst (v := 3) o dX8_clashes_154 (by decide) ?_
        refine V_icmp_ge (tgt := 178) o dX8_clashes_155 (by decide) (fun c_155 => False.elim (absurd c_155 (nI_ge (b := 3) (by omega) (by omega)))) (fun c_155 => ?_)
        refine V_iload_n o dX8_clashes_158 rfl rfl ?_
        refine V_if_ne (tgt := 178) o dX8_clashes_159 (by decide) (fun c_159 => ?_) (fun c_159 => False.elim (absurd c_159 (nI_ne0 (by omega) (by omega))))
        refine V_iload_n o dX8_clashes_178 rfl rfl ?_
        refine V_iret o rt dX8_clashes_179 rfl rfl ?_
        exact ⟨by rw [hRq], ho.wd (by omega) (by omega), hKt⟩
  have loop : ∀ m i (qc : Nat) (N : Nat → Int32) (rr : Nat) (v : (Int32 × Int32 × Int32 × Int32)) (τ : Mm), i + m = m0 → qc ≤ i → Off 25 54 σ τ → Cv N L rr → WRel 25 N L τ → v.1 = nI qc → (v.1 = 0 → v.2 = (-1, -1, -1)) → RwC (if v.1 = 0 then [] else [v.2.1.toInt64, v.2.2.1.toInt64, v.2.2.2.toInt64]) τ → itr (askF L clV) i m (N, rr, v) = R → V sh0 w x mX8_clashes (0, 0) 35 [(4, .int (nI i)), (3, .int (nI qc)), (2, .int 0), (0, .ref 1), (1, .int (nI m0))] [] τ := by
    intro m
    induction m with
    | zero =>
      intro i qc N rr v τ hi hqi ho hCs hWt hq hv0 hRw hR
      have him : i = m0 := by omega
      subst hR
      refine V_iload o dX8_clashes_35 rfl ?_
      refine V_iload_n o dX8_clashes_37 rfl rfl ?_
      refine V_icmp_ge (tgt := 149) o dX8_clashes_38 (by decide) (fun c_38 => ?_) (fun c_38 => False.elim (c_38 (by rw [him]; exact Int32.le_refl _)))
      refine V_iconst (v := 0) o dX8_clashes_149 (by decide) ?_
      refine V_istore (ls' := [(4, _), (3, _), (2, _), (0, _), (1, _)]) o dX8_clashes_150 (by decide) rfl ?_
      refine V_sub (by simp; rfl) (fin 3 0 qc (if v.1 = 0 then [] else [v.2.1.toInt64, v.2.2.1.toInt64, v.2.2.2.toInt64]) τ rfl (by omega) hq ho (fun u hu => (hWt.2.2 u hu).no) hRw (fun q => ?_) (fun q => ?_))
      · have hv1 : v.1 = 0 := by rw [hq, q]; rfl
        rw [if_pos hv1]
        refine ⟨rfl, ?_⟩
        show _ = [v.2.1.toInt64, v.2.2.1.toInt64, v.2.2.2.toInt64]
        rw [hv0 hv1]
        decide
      · have hv1 : ¬ v.1 = 0 := by rw [hq]; exact nI_ne0 (by omega) (by omega)
        rw [if_neg hv1]
        rfl
    | succ m ih =>
      intro i qc N rr v τ hi hqi ho hCs hWt hq hv0 hRw hR
      have hCs' := hCs
      obtain ⟨LN, hLN⟩ : ∃ LN, tkLn N L = LN := ⟨_, rfl⟩
      obtain ⟨M2, hM2⟩ : ∃ M2, tickM N L rr = M2 := ⟨_, rfl⟩
      have hC2 : Cv M2 L (tkR N L rr) := by rw [← hM2]; exact Cv_tick hCs
      have hle : LN.2 ≤ 16 := by rw [← hLN]; exact lineM_le
      rw [itr_succ] at hR
      have e : askF L clV i (N, rr, v) = (M2, tkR N L rr, clV LN M2 v) := by unfold askF; rw [hM2, hLN]
      rw [e] at hR
      refine V_iload o dX8_clashes_35 rfl ?_
      refine V_iload_n o dX8_clashes_37 rfl rfl ?_
      refine V_icmp_ge (tgt := 149) o dX8_clashes_38 (by decide) (fun c_38 => False.elim (absurd c_38 (nI_ge (by omega) (by omega)))) (fun c_38 => ?_)
      refine V_aload_n o dX8_clashes_41 rfl rfl ?_
      refine V_getR (t := 25) o dX8_clashes_42 rfl fl_X8_16 rfl ?_
      refine V_callV o rt dX8_clashes_45 ml_X8_90 (c7_tickS_25 hf hWt hCs hLN hM2) rfl rfl rfl (Nat.le_of_ble_eq_true rfl) rfl (fun r_45 σ_45 q_45 => ?_)
      obtain ⟨rfl, ho2, hln, -, hW2⟩ := q_45
      show V sh0 w x mX8_clashes (0, 0) _ _ [] _
      refine V_aload_n o dX8_clashes_48 rfl rfl ?_
      refine V_getR (t := 25) o dX8_clashes_49 rfl fl_X8_16 rfl ?_
      refine V_getR (t := 30) o dX8_clashes_52 rfl fl_X8_189 rfl ?_
      refine V_getIE (v := nI (LN.2)) o dX8_clashes_55 rfl fl_X8_202 rfl hln.1 ?_
      refine V_iconst (v := 1) o dX8_clashes_58 (by decide) ?_
      refine V_icmp_le (tgt := 65) o dX8_clashes_59 (by decide) (fun c_59 => ?_) (fun c_59 => ?_)
      · refine V_aload_n o dX8_clashes_65 rfl rfl ?_
        refine V_getR (t := 25) o dX8_clashes_66 rfl fl_X8_16 rfl ?_
        refine V_getR (t := 30) o dX8_clashes_69 rfl fl_X8_189 rfl ?_
        refine V_getIE (v := nI (LN.2)) o dX8_clashes_72 rfl fl_X8_202 rfl hln.1 ?_
        refine V_iconst (v := 1) o dX8_clashes_75 (by decide) ?_
        refine V_icmp_le (tgt := 143) o dX8_clashes_76 (by decide) (fun c_76 => ?_) (fun c_76 => False.elim (c_76 c_59))
        refine V_iincV (v := nI (i + 1)) (ls' := [(4, _), (3, _), (2, _), (0, _), (1, _)]) o dX8_clashes_143 rfl (ninc 1 rfl) (by decide) rfl ?_
        refine V_goto (tgt := 35) o dX8_clashes_146 (by decide) ?_
        have h1 : ¬ LN.2 > 1 := fun q => absurd ((nI_le1 (by omega)).mp c_59) (by omega)
        have ev : clV LN M2 v = v := by unfold clV; rw [if_neg h1, Int32.add_zero]
        rw [ev] at hR
        exact V_sub (by simp) (ih (i + 1) qc M2 (tkR N L rr) v σ_45 (by omega) (by omega) ((ho.tr (ho2.wd (by omega) (by omega)))) hC2 hW2 hq hv0 (hRw.off ho2 (by omega)) hR)
      · refine V_iincV (v := nI (qc + 1)) (ls' := [(3, _), (4, _), (2, _), (0, _), (1, _)]) o dX8_clashes_62 rfl (ninc 1 rfl) (by decide) rfl ?_
        refine V_aload_n o dX8_clashes_65 rfl rfl ?_
        refine V_getR (t := 25) o dX8_clashes_66 rfl fl_X8_16 rfl ?_
        refine V_getR (t := 30) o dX8_clashes_69 rfl fl_X8_189 rfl ?_
        refine V_getIE (v := nI (LN.2)) o dX8_clashes_72 rfl fl_X8_202 rfl hln.1 ?_
        refine V_iconst (v := 1) o dX8_clashes_75 (by decide) ?_
        refine V_icmp_le (tgt := 143) o dX8_clashes_76 (by decide) (fun c_76 => False.elim (c_59 c_76)) (fun c_76 => ?_)
        refine V_iload_n o dX8_clashes_79 rfl rfl ?_
        refine V_iconst (v := 1) o dX8_clashes_80 (by decide) ?_
        refine V_icmp_ne (tgt := 143) o dX8_clashes_81 (by decide) (fun c_81 => ?_) (fun c_81 => ?_)
        · refine V_iincV (v := nI (i + 1)) (ls' := [(4, _), (3, _), (2, _), (0, _), (1, _)]) o dX8_clashes_143 rfl (ninc 1 rfl) (by decide) rfl ?_
          refine V_goto (tgt := 35) o dX8_clashes_146 (by decide) ?_
          have h1 : LN.2 > 1 := Nat.not_le.mp (fun q => c_59 ((nI_le1 (by omega)).mpr q))
          have hq0 : qc ≠ 0 := fun q => c_81 (by rw [q]; rfl)
          have hv1 : ¬ v.1 = 0 := by rw [hq]; exact nI_ne0 (by omega) (by omega)
          have ev : clV LN M2 v = (v.1 + 1, v.2) := by unfold clV; rw [if_pos h1, if_neg hv1]
          rw [ev] at hR
          have hv2 : ¬ v.1 + 1 = 0 := by rw [hq, nI_1]; exact nI_ne0 (by omega) (by omega)
          refine V_sub (by simp) (ih (i + 1) (qc + 1) M2 (tkR N L rr) (v.1 + 1, v.2) σ_45 (by omega) (by omega) ((ho.tr (ho2.wd (by omega) (by omega)))) hC2 hW2 (by show v.1 + 1 = _; rw [hq, nI_1]) (fun q => absurd q hv2) ?_ hR)
          rw [if_neg hv1] at hRw
          show RwC (if v.1 + 1 = 0 then [] else _) _
          rw [if_neg hv2]
          exact hRw.off ho2 (by omega)
        · have hqz : v.1 = 0 := by rw [hq, show qc = 0 from by have := (nI_eq (b := 1) (by omega) (by omega)).mp c_81; omega]; rfl
          have hR_45 : RwC [] σ_45 := by rw [if_pos hqz] at hRw; exact hRw.off ho2 (by omega)
          have h1 : LN.2 > 1 := Nat.not_le.mp (fun q => c_59 ((nI_le1 (by omega)).mpr q))
          have hg0 := (hln.2.2 0 (by omega)).2
          have hg1 := (hln.2.2 1 (by omega)).2
          refine V_aload_n o dX8_clashes_84 rfl rfl ?_
          refine V_getR (t := 52) o dX8_clashes_85 rfl fl_X8_33 rfl ?_
          refine V_aload_n o dX8_clashes_88 rfl rfl ?_
          refine V_getR (t := 25) o dX8_clashes_89 rfl fl_X8_16 rfl ?_
          refine V_getI o dX8_clashes_92 rfl fl_X8_123 rfl ?_
          refine V_topI (v' := M2 6) hW2.1.1 ?_
          refine V_i2l o dX8_clashes_95 ?_
          refine V_callV o rt dX8_clashes_96 ml_X8_210 (c3_put hf hR_45 (by simp)) rfl rfl rfl (Nat.le_of_ble_eq_true rfl) rfl (fun r_96 σ_96 q_96 => ?_)
          obtain ⟨rfl, ho_96, hR_96⟩ := q_96
          show V sh0 w x mX8_clashes (0, 0) _ _ [] _
          refine V_aload_n o dX8_clashes_99 rfl rfl ?_
          refine V_getR (t := 52) o dX8_clashes_100 rfl fl_X8_33 rfl ?_
          refine V_aload_n o dX8_clashes_103 rfl rfl ?_
          refine V_getR (t := 25) o dX8_clashes_104 rfl fl_X8_16 rfl ?_
          refine V_getR (t := 30) o dX8_clashes_107 rfl fl_X8_189 rfl ?_
          refine V_iconst (v := 0) o dX8_clashes_110 (by decide) ?_
          refine V_cVr o rt dX8_clashes_111 ml_X8_297 (c1_at_25 hf (hln.off ho_96 (by omega)) (j := 0) (by omega)) rfl rfl rfl (Nat.le_of_ble_eq_true rfl) rfl ?_
          refine V_cSi o rt dX8_clashes_114 ms_X8_315 (c8_numberOf_32 hf hg0 ((congrFun (ho_96 (32 + LN.1 0) (by omega)).1 0).trans (hW2.2.2 (LN.1 0) hg0).no)) rfl rfl (Nat.le_of_ble_eq_true rfl) rfl ?_
          refine V_i2l o dX8_clashes_117 ?_
          refine V_callV o rt dX8_clashes_118 ml_X8_210 (c3_put hf hR_96 (by simp)) rfl rfl rfl (Nat.le_of_ble_eq_true rfl) rfl (fun r_118 σ_118 q_118 => ?_)
          obtain ⟨rfl, hp_118, hR_118⟩ := q_118
          have ho_118 := ho_96.tr hp_118
          show V sh0 w x mX8_clashes (0, 0) _ _ [] _
          refine V_aload_n o dX8_clashes_121 rfl rfl ?_
          refine V_getR (t := 52) o dX8_clashes_122 rfl fl_X8_33 rfl ?_
          refine V_aload_n o dX8_clashes_125 rfl rfl ?_
          refine V_getR (t := 25) o dX8_clashes_126 rfl fl_X8_16 rfl ?_
          refine V_getR (t := 30) o dX8_clashes_129 rfl fl_X8_189 rfl ?_
          refine V_iconst (v := 1) o dX8_clashes_132 (by decide) ?_
          refine V_cVr o rt dX8_clashes_133 ml_X8_297 (c1_at_25 hf (hln.off ho_118 (by omega)) (j := 1) (by omega)) rfl rfl rfl (Nat.le_of_ble_eq_true rfl) rfl ?_
          refine V_cSi o rt dX8_clashes_136 ms_X8_315 (c8_numberOf_32 hf hg1 ((congrFun (ho_118 (32 + LN.1 1) (by omega)).1 0).trans (hW2.2.2 (LN.1 1) hg1).no)) rfl rfl (Nat.le_of_ble_eq_true rfl) rfl ?_
          refine V_i2l o dX8_clashes_139 ?_
          refine V_callV o rt dX8_clashes_140 ml_X8_210 (c3_put hf hR_118 (by simp)) rfl rfl rfl (Nat.le_of_ble_eq_true rfl) rfl (fun r_140 σ_140 q_140 => ?_)
          obtain ⟨rfl, hp_140, hR_140⟩ := q_140
          have ho_140 := ho_118.tr hp_140
          show V sh0 w x mX8_clashes (0, 0) _ _ [] _
          refine V_iincV (v := nI (i + 1)) (ls' := [(4, _), (3, _), (2, _), (0, _), (1, _)]) o dX8_clashes_143 rfl (ninc 1 rfl) (by decide) rfl ?_
          refine V_goto (tgt := 35) o dX8_clashes_146 (by decide) ?_
          have h1 : LN.2 > 1 := Nat.not_le.mp (fun q => c_59 ((nI_le1 (by omega)).mpr q))
          have hq0 : qc = 0 := by have := (nI_eq (b := 1) (by omega) (by omega)).mp c_81; omega
          have hv1 : v.1 = 0 := by rw [hq, hq0]; rfl
          have ev : clV LN M2 v = (v.1 + 1, M2 6, nI (LN.1 0), nI (LN.1 1)) := by unfold clV; rw [if_pos h1, if_pos hv1]
          rw [ev] at hR
          have hv2 : ¬ v.1 + 1 = 0 := by rw [hv1]; decide
          refine V_sub (by simp) (ih (i + 1) (qc + 1) M2 (tkR N L rr) (v.1 + 1, M2 6, nI (LN.1 0), nI (LN.1 1)) σ_140 (by omega) (by omega) ((ho.tr (ho2.wd (by omega) (by omega))).tr (ho_140.wd (by omega) (by omega))) hC2 (hW2.off hL (fun _ _ _ => rfl) ho_140 (by omega)) (by show v.1 + 1 = _; rw [hq, nI_1]) (fun q => absurd q hv2) ?_ hR)
          show RwC (if v.1 + 1 = 0 then [] else _) _
          rw [if_neg hv2]
          exact hR_140
  refine V_aload_n o dX8_clashes_0 rfl rfl ?_
  refine V_iload_n o dX8_clashes_1 rfl rfl ?_
  refine V_cVi o rt dX8_clashes_2 ml_X8_86 (c8_refT hf hW h6 hm1 hm2 hc) rfl rfl rfl (Nat.le_of_ble_eq_true rfl) rfl ?_
  refine V_istore_n (ls' := [(2, _), (0, _), (1, _)]) o dX8_clashes_5 rfl (by decide) rfl ?_
  refine V_iload_n o dX8_clashes_6 rfl rfl ?_
  refine V_if_ge (tgt := 12) o dX8_clashes_7 (by decide) (fun c_7 => ?_) (fun c_7 => False.elim (absurd (Int32.le_refl 0) c_7))
  refine V_aload_n o dX8_clashes_12 rfl rfl ?_
  refine V_getR (t := 25) o dX8_clashes_13 rfl fl_X8_16 rfl ?_
  refine V_aload_n o dX8_clashes_16 rfl rfl ?_
  refine V_getR (t := 2) o dX8_clashes_17 rfl fl_X8_10 rfl ?_
  refine V_callV o rt dX8_clashes_20 ml_X8_268 (c7_copy hf hW hF hZ hB hK.2.2.2.2.2) rfl rfl rfl (Nat.le_of_ble_eq_true rfl) rfl (fun r_20 σ_20 q_20 => ?_)
  obtain ⟨rfl, hoc, hWc0⟩ := q_20
  have hWc : WRel 25 (trM M) L σ_20 := hWc0.cg hL (fun j hj _ => trM_lo hj)
  show V sh0 w x mX8_clashes (0, 0) _ _ [] _
  refine V_aload_n o dX8_clashes_23 rfl rfl ?_
  refine V_getR (t := 52) o dX8_clashes_24 rfl fl_X8_33 rfl ?_
  refine V_callV o rt dX8_clashes_27 ml_X8_209 (c3_empty hf) rfl rfl rfl (Nat.le_of_ble_eq_true rfl) rfl (fun r_27 σ_27 q_27 => ?_)
  obtain ⟨rfl, ho_27, hR_27⟩ := q_27
  show V sh0 w x mX8_clashes (0, 0) _ _ [] _
  refine V_iconst (v := 0) o dX8_clashes_30 (by decide) ?_
  refine V_istore_n (ls' := [(3, _), (2, _), (0, _), (1, _)]) o dX8_clashes_31 rfl (by decide) rfl ?_
  refine V_iconst (v := 0) o dX8_clashes_32 (by decide) ?_
  refine V_istore (ls' := [(4, _), (3, _), (2, _), (0, _), (1, _)]) o dX8_clashes_33 (by decide) rfl ?_
  exact V_sub (by simp; rfl) (loop m0 0 0 (trM M) r (0, -1, -1, -1) σ_27 (by omega) (by omega) ((hoc.wd (by omega) (by omega)).tr (ho_27.wd (by omega) (by omega))) (Cv_tr hC) (hWc.off hL (fun _ _ _ => rfl) ho_27 (by omega)) rfl (fun _ => rfl) hR_27 hR0)
set_option maxRecDepth 20000 in
set_option maxHeartbeats 4000000 in
theorem c8_clashes_no {w : Wp} (hf : Fit sh0 w) {σ : Mm} {M : Nat → Int32} {L r n : Nat} {l : List Int64} {T : Nat → Int32} (hK : KR M L r l T n σ) (hF : Wf M L) (hB : Bo M) {k : Int32} (hk : ¬ inR k 1 100) : Ct sh0 w 4 mX8_clashes [.ref 1, .int k] σ (fun r' σ' => r' = some (.int (-1)) ∧ Off 1 67 σ σ' ∧ KR (M) (L) r (l) (T) (n) σ') := by
  have hL := hF.2.2.1
  have hW := hK.1
  refine Ct_of hf (by decide) rfl (Nat.le_of_ble_eq_true rfl) (fun x o rt => ?_)
  refine V_aload_n o dX8_clashes_0 rfl rfl ?_
  refine V_iload_n o dX8_clashes_1 rfl rfl ?_
  refine V_cVi o rt dX8_clashes_2 ml_X8_86 (c8_refT_no hf hk) rfl rfl rfl (Nat.le_of_ble_eq_true rfl) rfl ?_
  refine V_istore_n (ls' := [(2, _), (0, _), (1, _)]) o dX8_clashes_5 rfl (by decide) rfl ?_
  refine V_iload_n o dX8_clashes_6 rfl rfl ?_
  refine V_if_ge (tgt := 12) o dX8_clashes_7 (by decide) (fun c_7 => False.elim (absurd c_7 (by decide))) (fun c_7 => ?_)
  refine V_iload_n o dX8_clashes_10 rfl rfl ?_
  refine V_iret o rt dX8_clashes_11 rfl rfl ?_
  exact ⟨rfl, Off.rf, hK⟩
