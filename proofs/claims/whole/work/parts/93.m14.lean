theorem sub20 {h i : Nat} (hh : h ≤ 2000) (hi : i ≤ 100) : (20 : Int32) - nI h ≤ nI i ↔ 20 ≤ h + i := by
  have e : ((20 : Int32) - nI h).toInt = 20 - (h : Int) := by
    rw [Int32.toInt_sub, nI_toInt (by omega), show (20 : Int32).toInt = 20 from by decide]
    apply Int.bmod_eq_of_le <;> omega
  rw [Int32.le_iff_toInt_le, e, nI_toInt (by omega)]
  omega
theorem hl1_pre (g : Nat → Nat) (v : Nat → Int32) (i : Nat) : ∀ d, ∃ rest, hl1 g v (i + d) = hl1 g v i ++ rest
  | 0 => ⟨[], by rw [List.append_nil]; rfl⟩
  | d + 1 => by
    obtain ⟨rest, e⟩ := hl1_pre g v i d
    exact ⟨rest ++ [(g (i + d), v (i + d))], by rw [← Nat.add_assoc, hl1_succ, e, List.append_assoc]⟩
theorem tk20_full {hl : List (Nat × Int32)} {g : Nat → Nat} {v : Nat → Int32} {i n : Nat} (hi : i ≤ n) (h : 20 ≤ hl.length + i) : (hl ++ hl1 g v n).take 20 = (hl ++ hl1 g v i).take 20 := by
  obtain ⟨rest, e⟩ := hl1_pre g v i (n - i)
  rw [show i + (n - i) = n by omega] at e
  rw [e, ← List.append_assoc, List.take_append_of_le_length (by rw [List.length_append, hl1_len]; exact h)]
theorem tk20_step {hl : List (Nat × Int32)} {g : Nat → Nat} {v : Nat → Int32} {i : Nat} (h : hl.length + i < 20) : (hl ++ hl1 g v (i + 1)).take 20 = (hl ++ hl1 g v i).take 20 ++ [(g i, v i)] := by
  rw [hl1_succ, ← List.append_assoc, List.take_of_length_le (by simp [hl1_len]; omega), List.take_of_length_le (by simp [hl1_len]; omega)]
set_option maxRecDepth 20000 in
set_option maxHeartbeats 4000000 in
theorem c8_tellWhat {w : Wp} (hf : Fit sh0 w) {σ : Mm} {M2 : Nat → Int32} {L : Nat} (hL : L ≤ 4) (hW : WRel 25 M2 L σ) {g : Nat → Nat} {n : Nat} (hln : LnR 25 g n σ) {clk : Int32} (hclk : M2 6 = clk) {hl : List (Nat × Int32)} (hh : hl.length ≤ 2000) (hR0 : RwC (rowH (hl.take 20)) σ) {mv : Int32} (hmv : mv = 20 - nI hl.length) : Ct sh0 w 1 mX8_tellWhatRings [.ref 1, .int mv] σ (fun r' σ' => r' = none ∧ Off 52 54 σ σ' ∧ RwC (rowH ((hl ++ hl1 g (fun _ => clk) n).take 20)) σ') := by
  subst hmv
  have hn16 := hln.2.1
  refine Ct_of hf (by decide) rfl (Nat.le_of_ble_eq_true rfl) (fun x o rt => ?_)
  have loop : ∀ m i (τ : Mm), i + m = n → Off 52 54 σ τ → RwC (rowH ((hl ++ hl1 g (fun _ => clk) i).take 20)) τ → V sh0 w x mX8_tellWhatRings (0, 0) 2 [(2, .int (nI i)), (0, .ref 1), (1, .int (20 - nI hl.length))] [] τ := by
    intro m
    induction m with
    | zero =>
      intro i τ hi ho_0 hR_0
      have him : i = n := by omega
      subst him
      have hl2 : LnR 25 g i τ := hln.off ho_0 (by omega)
      refine V_iload_n o dX8_tellWhatRings_2 rfl rfl ?_
      refine V_aload_n o dX8_tellWhatRings_3 rfl rfl ?_
      refine V_getR (t := 25) o dX8_tellWhatRings_4 rfl fl_X8_16 rfl ?_
      refine V_getR (t := 30) o dX8_tellWhatRings_7 rfl fl_X8_189 rfl ?_
      refine V_getIE (v := nI (i)) o dX8_tellWhatRings_10 rfl fl_X8_202 rfl hl2.1 ?_
      refine V_icmp_ge (tgt := 64) o dX8_tellWhatRings_13 (by decide) (fun c_13 => ?_) (fun c_13 => False.elim (c_13 (Int32.le_refl _)))
      refine V_ret o rt dX8_tellWhatRings_64 rfl ?_
      exact ⟨rfl, ho_0, hR_0⟩
    | succ m ih =>
      intro i τ hi ho_0 hR_0
      have hin : i < n := by omega
      have hl2 : LnR 25 g n τ := hln.off ho_0 (by omega)
      have hgi := (hln.2.2 i hin).2
      have hlen : (rowH ((hl ++ hl1 g (fun _ => clk) i).take 20)).length ≤ 2 * (hl.length + i) := by rw [rowH_len, List.length_take, List.length_append, hl1_len]; omega
      by_cases h20 : 20 ≤ hl.length + i
      · refine V_iload_n o dX8_tellWhatRings_2 rfl rfl ?_
        refine V_aload_n o dX8_tellWhatRings_3 rfl rfl ?_
        refine V_getR (t := 25) o dX8_tellWhatRings_4 rfl fl_X8_16 rfl ?_
        refine V_getR (t := 30) o dX8_tellWhatRings_7 rfl fl_X8_189 rfl ?_
        refine V_getIE (v := nI (n)) o dX8_tellWhatRings_10 rfl fl_X8_202 rfl hl2.1 ?_
        refine V_icmp_ge (tgt := 64) o dX8_tellWhatRings_13 (by decide) (fun c_13 => False.elim (absurd c_13 (nI_ge hin (by omega)))) (fun c_13 => ?_)
        refine V_iload_n o dX8_tellWhatRings_16 rfl rfl ?_
        refine V_iload_n o dX8_tellWhatRings_17 rfl rfl ?_
        refine V_icmp_ge (tgt := 64) o dX8_tellWhatRings_18 (by decide) (fun c_18 => ?_) (fun c_18 => False.elim (c_18 ((sub20 hh (by omega)).mpr h20)))
        refine V_ret o rt dX8_tellWhatRings_64 rfl ?_
        exact ⟨rfl, ho_0, by rw [tk20_full (i := i) (by omega) h20]; exact hR_0⟩
      · refine V_iload_n o dX8_tellWhatRings_2 rfl rfl ?_
        refine V_aload_n o dX8_tellWhatRings_3 rfl rfl ?_
        refine V_getR (t := 25) o dX8_tellWhatRings_4 rfl fl_X8_16 rfl ?_
        refine V_getR (t := 30) o dX8_tellWhatRings_7 rfl fl_X8_189 rfl ?_
        refine V_getIE (v := nI (n)) o dX8_tellWhatRings_10 rfl fl_X8_202 rfl hl2.1 ?_
        refine V_icmp_ge (tgt := 64) o dX8_tellWhatRings_13 (by decide) (fun c_13 => False.elim (absurd c_13 (nI_ge hin (by omega)))) (fun c_13 => ?_)
        refine V_iload_n o dX8_tellWhatRings_16 rfl rfl ?_
        refine V_iload_n o dX8_tellWhatRings_17 rfl rfl ?_
        refine V_icmp_ge (tgt := 64) o dX8_tellWhatRings_18 (by decide) (fun c_18 => False.elim (h20 ((sub20 hh (by omega)).mp c_18))) (fun c_18 => ?_)
        refine V_aload_n o dX8_tellWhatRings_21 rfl rfl ?_
        refine V_getR (t := 52) o dX8_tellWhatRings_22 rfl fl_X8_33 rfl ?_
        refine V_aload_n o dX8_tellWhatRings_25 rfl rfl ?_
        refine V_getR (t := 25) o dX8_tellWhatRings_26 rfl fl_X8_16 rfl ?_
        refine V_getR (t := 30) o dX8_tellWhatRings_29 rfl fl_X8_189 rfl ?_
        refine V_iload_n o dX8_tellWhatRings_32 rfl rfl ?_
        refine V_cVr o rt dX8_tellWhatRings_33 ml_X8_297 (c1_at_25 hf hl2 hin) rfl rfl rfl (Nat.le_of_ble_eq_true rfl) rfl ?_
        refine V_cSi o rt dX8_tellWhatRings_36 ms_X8_315 (c8_numberOf_32 hf hgi ((congrFun (ho_0 (32 + g i) (by omega)).1 0).trans (hW.2.2 (g i) hgi).no)) rfl rfl (Nat.le_of_ble_eq_true rfl) rfl ?_
        refine V_i2l o dX8_tellWhatRings_39 ?_
        refine V_callV o rt dX8_tellWhatRings_40 ml_X8_210 (c3_put hf hR_0 (by omega)) rfl rfl rfl (Nat.le_of_ble_eq_true rfl) rfl (fun r_40 σ_40 q_40 => ?_)
        obtain ⟨rfl, hp_40, hR_40⟩ := q_40
        have ho_40 := ho_0.tr hp_40
        show V sh0 w x mX8_tellWhatRings (0, 0) _ _ [] _
        refine V_aload_n o dX8_tellWhatRings_43 rfl rfl ?_
        refine V_getR (t := 52) o dX8_tellWhatRings_44 rfl fl_X8_33 rfl ?_
        refine V_aload_n o dX8_tellWhatRings_47 rfl rfl ?_
        refine V_getR (t := 25) o dX8_tellWhatRings_48 rfl fl_X8_16 rfl ?_
        refine V_getI o dX8_tellWhatRings_51 rfl fl_X8_123 rfl ?_
        refine V_topI (v' := clk) ((congrFun (ho_40 25 (by omega)).1 3).trans (hW.1.1.trans hclk)) ?_
        refine V_i2l o dX8_tellWhatRings_54 ?_
        refine V_callV o rt dX8_tellWhatRings_55 ml_X8_210 (c3_put hf hR_40 (by rw [List.length_append]; simp; omega)) rfl rfl rfl (Nat.le_of_ble_eq_true rfl) rfl (fun r_55 σ_55 q_55 => ?_)
        obtain ⟨rfl, hp_55, hR_55⟩ := q_55
        have ho_55 := ho_40.tr hp_55
        show V sh0 w x mX8_tellWhatRings (0, 0) _ _ [] _
        refine V_iincV (v := nI (i + 1)) (ls' := [(2, _), (0, _), (1, _)]) o dX8_tellWhatRings_58 rfl (ninc 1 rfl) (by decide) rfl ?_
        refine V_goto (tgt := 2) o dX8_tellWhatRings_61 (by decide) ?_
        exact V_sub (by simp) (ih (i + 1) σ_55 (by omega) ho_55 (by rw [tk20_step (by omega), rowH_app]; exact hR_55))
  refine V_iconst (v := 0) o dX8_tellWhatRings_0 (by decide) ?_
  refine V_istore_n (ls' := [(2, _), (0, _), (1, _)]) o dX8_tellWhatRings_1 rfl (by decide) rfl ?_
  exact V_sub (by simp; rfl) (loop n 0 σ (by omega) Off.rf (by show RwC (rowH ((hl ++ []).take 20)) σ; rw [List.append_nil]; exact hR0))
set_option maxRecDepth 20000 in
set_option maxHeartbeats 4000000 in
theorem c8_rings {w : Wp} (hf : Fit sh0 w) {σ : Mm} {M : Nat → Int32} {L r n : Nat} {l : List Int64} {T : Nat → Int32} (hK : KR M L r l T n σ) (hF : Wf M L) (hB : Bo M) (hZ : Z0 M L) (hC : Cv M L r) {c m0 : Nat} (h6 : M 6 = nI c) (hm1 : 1 ≤ m0) (hm2 : m0 ≤ 100) (hc : c + m0 ≤ 1000000000) {S : ((Nat → Int32) × Nat × List (Nat × Int32))} (hS : tks L m0 (trM M, r, ([] : List (Nat × Int32))) = S) : Ct sh0 w 4 mX8_rings [.ref 1, .int (nI m0)] σ (fun r' σ' => r' = some (.int (nI S.2.2.length)) ∧ Off 1 67 σ σ' ∧ KR (M) (L) r (rowH (S.2.2.take 20)) (T) (n) σ') := by
  have hL := hF.2.2.1
  have hW := hK.1
  unfold tks at hS
  refine Ct_of hf (by decide) rfl (Nat.le_of_ble_eq_true rfl) (fun x o rt => ?_)
  have loop : ∀ m i (N : Nat → Int32) (rr : Nat) (hl : List (Nat × Int32)) (τ : Mm), i + m = m0 → hl.length ≤ 16 * i → Off 25 54 σ τ → Cv N L rr → WRel 25 N L τ → RwC (rowH (hl.take 20)) τ → itr (fun _ s => tk1 L s) i m (N, rr, hl) = S → V sh0 w x mX8_rings (0, 0) 35 [(4, .int (nI i)), (3, .int (nI hl.length)), (2, .int 0), (0, .ref 1), (1, .int (nI m0))] [] τ := by
    intro m
    induction m with
    | zero =>
      intro i N rr hl τ hi hlen ho hCs hWt hRw hR
      have him : i = m0 := by omega
      subst hR
      have hKt : KR M L r (rowH (hl.take 20)) T n τ := ⟨hW.off hL (fun _ _ _ => rfl) ho (by omega), hK.2.1.off ho (by omega), hK.2.2.1.off ho (by omega), hRw, hK.2.2.2.2.1.off ho (by omega), fun u hu => (hWt.2.2 u hu).no⟩
      refine V_iload o dX8_rings_35 rfl ?_
      refine V_iload_n o dX8_rings_37 rfl rfl ?_
      refine V_icmp_ge (tgt := 75) o dX8_rings_38 (by decide) (fun c_38 => ?_) (fun c_38 => False.elim (c_38 (by rw [him]; exact Int32.le_refl _)))
      refine V_iload_n o dX8_rings_75 rfl rfl ?_
      refine V_iret o rt dX8_rings_76 rfl rfl ?_
      exact ⟨rfl, ho.wd (by omega) (by omega), hKt⟩
    | succ m ih =>
      intro i N rr hl τ hi hlen ho hCs hWt hRw hR
      obtain ⟨LN, hLN⟩ : ∃ LN, tkLn N L = LN := ⟨_, rfl⟩
      obtain ⟨M2, hM2⟩ : ∃ M2, tickM N L rr = M2 := ⟨_, rfl⟩
      have hC2 : Cv M2 L (tkR N L rr) := by rw [← hM2]; exact Cv_tick hCs
      have hle : LN.2 ≤ 16 := by rw [← hLN]; exact lineM_le
      have h62 : M2 6 = N 6 + 1 := by rw [← hM2]; exact tick_6 hCs.1
      rw [itr_succ] at hR
      have e : tk1 L (N, rr, hl) = (M2, tkR N L rr, hl ++ hl1 LN.1 (fun _ => N 6 + 1) LN.2) := by unfold tk1; rw [hM2, hLN]
      rw [e] at hR
      have hlen2 : (hl ++ hl1 LN.1 (fun _ => N 6 + 1) LN.2).length = hl.length + LN.2 := by rw [List.length_append, hl1_len]
      refine V_iload o dX8_rings_35 rfl ?_
      refine V_iload_n o dX8_rings_37 rfl rfl ?_
      refine V_icmp_ge (tgt := 75) o dX8_rings_38 (by decide) (fun c_38 => False.elim (absurd c_38 (nI_ge (by omega) (by omega)))) (fun c_38 => ?_)
      refine V_aload_n o dX8_rings_41 rfl rfl ?_
      refine V_getR (t := 25) o dX8_rings_42 rfl fl_X8_16 rfl ?_
      refine V_callV o rt dX8_rings_45 ml_X8_90 (c7_tickS_25 hf hWt hCs hLN hM2) rfl rfl rfl (Nat.le_of_ble_eq_true rfl) rfl (fun r_45 σ_45 q_45 => ?_)
      obtain ⟨rfl, ho2, hln, -, hW2⟩ := q_45
      show V sh0 w x mX8_rings (0, 0) _ _ [] _
      refine V_aload_n o dX8_rings_48 rfl rfl ?_
      refine V_bipush (v := 20) o dX8_rings_49 (by decide) ?_
      refine V_iload_n o dX8_rings_51 rfl rfl ?_
      refine V_isub o dX8_rings_52 ?_
      refine V_callV o rt dX8_rings_53 ml_X8_272 (c8_tellWhat hf hL hW2 hln h62 (hl := hl) (by omega) (hRw.off ho2 (by omega)) rfl) rfl rfl rfl (Nat.le_of_ble_eq_true rfl) rfl (fun r_53 σ_53 q_53 => ?_)
      obtain ⟨rfl, ho3, hR3⟩ := q_53
      show V sh0 w x mX8_rings (0, 0) _ _ [] _
      refine V_iload_n o dX8_rings_56 rfl rfl ?_
      refine V_aload_n o dX8_rings_57 rfl rfl ?_
      refine V_getR (t := 25) o dX8_rings_58 rfl fl_X8_16 rfl ?_
      refine V_getR (t := 30) o dX8_rings_61 rfl fl_X8_189 rfl ?_
      refine V_getIE (v := nI (LN.2)) o dX8_rings_64 rfl fl_X8_202 rfl ((congrFun (ho3 30 (by omega)).1 1).trans hln.1) ?_
      refine V_iadd o dX8_rings_67 ?_
      refine V_istore_n (ls' := [(3, _), (4, _), (2, _), (0, _), (1, _)]) o dX8_rings_68 rfl (by decide) rfl ?_
      refine V_iincV (v := nI (i + 1)) (ls' := [(4, _), (3, _), (2, _), (0, _), (1, _)]) o dX8_rings_69 rfl (ninc 1 rfl) (by decide) rfl ?_
      refine V_goto (tgt := 35) o dX8_rings_72 (by decide) ?_
      refine V_sub ?_ (ih (i + 1) M2 (tkR N L rr) (hl ++ hl1 LN.1 (fun _ => N 6 + 1) LN.2) σ_53 (by omega) (by rw [hlen2]; omega) (ho.tr ((ho2.wd (by omega) (by omega)).tr (ho3.wd (by omega) (by omega)))) hC2 (hW2.off hL (fun _ _ _ => rfl) ho3 (by omega)) hR3 hR)
      rw [hlen2]
      simp
      exact (nI_add _ _).symm
  refine V_aload_n o dX8_rings_0 rfl rfl ?_
  refine V_iload_n o dX8_rings_1 rfl rfl ?_
  refine V_cVi o rt dX8_rings_2 ml_X8_86 (c8_refT hf hW h6 hm1 hm2 hc) rfl rfl rfl (Nat.le_of_ble_eq_true rfl) rfl ?_
  refine V_istore_n (ls' := [(2, _), (0, _), (1, _)]) o dX8_rings_5 rfl (by decide) rfl ?_
  refine V_iload_n o dX8_rings_6 rfl rfl ?_
  refine V_if_ge (tgt := 12) o dX8_rings_7 (by decide) (fun c_7 => ?_) (fun c_7 => False.elim (absurd (Int32.le_refl 0) c_7))
  refine V_aload_n o dX8_rings_12 rfl rfl ?_
  refine V_getR (t := 25) o dX8_rings_13 rfl fl_X8_16 rfl ?_
  refine V_aload_n o dX8_rings_16 rfl rfl ?_
  refine V_getR (t := 2) o dX8_rings_17 rfl fl_X8_10 rfl ?_
  refine V_callV o rt dX8_rings_20 ml_X8_268 (c7_copy hf hW hF hZ hB hK.2.2.2.2.2) rfl rfl rfl (Nat.le_of_ble_eq_true rfl) rfl (fun r_20 σ_20 q_20 => ?_)
  obtain ⟨rfl, hoc, hWc0⟩ := q_20
  have hWc : WRel 25 (trM M) L σ_20 := hWc0.cg hL (fun j hj _ => trM_lo hj)
  show V sh0 w x mX8_rings (0, 0) _ _ [] _
  refine V_aload_n o dX8_rings_23 rfl rfl ?_
  refine V_getR (t := 52) o dX8_rings_24 rfl fl_X8_33 rfl ?_
  refine V_callV o rt dX8_rings_27 ml_X8_209 (c3_empty hf) rfl rfl rfl (Nat.le_of_ble_eq_true rfl) rfl (fun r_27 σ_27 q_27 => ?_)
  obtain ⟨rfl, ho_27, hR_27⟩ := q_27
  show V sh0 w x mX8_rings (0, 0) _ _ [] _
  refine V_iconst (v := 0) o dX8_rings_30 (by decide) ?_
  refine V_istore_n (ls' := [(3, _), (2, _), (0, _), (1, _)]) o dX8_rings_31 rfl (by decide) rfl ?_
  refine V_iconst (v := 0) o dX8_rings_32 (by decide) ?_
  refine V_istore (ls' := [(4, _), (3, _), (2, _), (0, _), (1, _)]) o dX8_rings_33 (by decide) rfl ?_
  exact V_sub (by simp; rfl) (loop m0 0 (trM M) r [] σ_27 (by omega) (Nat.zero_le _) ((hoc.wd (by omega) (by omega)).tr (ho_27.wd (by omega) (by omega))) (Cv_tr hC) (hWc.off hL (fun _ _ _ => rfl) ho_27 (by omega)) hR_27 hS)
set_option maxRecDepth 20000 in
set_option maxHeartbeats 4000000 in
theorem c8_rings_no {w : Wp} (hf : Fit sh0 w) {σ : Mm} {M : Nat → Int32} {L r n : Nat} {l : List Int64} {T : Nat → Int32} (hK : KR M L r l T n σ) (hF : Wf M L) (hB : Bo M) {k : Int32} (hk : ¬ inR k 1 100) : Ct sh0 w 4 mX8_rings [.ref 1, .int k] σ (fun r' σ' => r' = some (.int (-1)) ∧ Off 1 67 σ σ' ∧ KR (M) (L) r (l) (T) (n) σ') := by
  have hL := hF.2.2.1
  have hW := hK.1
  refine Ct_of hf (by decide) rfl (Nat.le_of_ble_eq_true rfl) (fun x o rt => ?_)
  refine V_aload_n o dX8_rings_0 rfl rfl ?_
  refine V_iload_n o dX8_rings_1 rfl rfl ?_
  refine V_cVi o rt dX8_rings_2 ml_X8_86 (c8_refT_no hf hk) rfl rfl rfl (Nat.le_of_ble_eq_true rfl) rfl ?_
  refine V_istore_n (ls' := [(2, _), (0, _), (1, _)]) o dX8_rings_5 rfl (by decide) rfl ?_
  refine V_iload_n o dX8_rings_6 rfl rfl ?_
  refine V_if_ge (tgt := 12) o dX8_rings_7 (by decide) (fun c_7 => False.elim (absurd c_7 (by decide))) (fun c_7 => ?_)
  refine V_iload_n o dX8_rings_10 rfl rfl ?_
  refine V_iret o rt dX8_rings_11 rfl rfl ?_
  exact ⟨rfl, Off.rf, hK⟩
theorem c7_leapS_25 {w : Wp} (hf : Fit sh0 w) {σ : Mm} {M : Nat → Int32} {L r : Nat} (hW : WRel 25 M L σ) (hc : Cv M L r) {v : Int32} {S : (Nat → Int32) × (Nat → Nat) × Nat} (hS : lpS M v = S) {ML : Nat → Int32} (hML : leapM M L r v = ML) : Ct sh0 w 3 mX7_leap [.ref 25, .int v] σ (fun r' σ' => r' = none ∧ Off 25 48 σ σ' ∧ LnR 25 S.2.1 S.2.2 σ' ∧ (∀ j, j < S.2.2 → σ'.1 (25 + 7 + S.2.1 j) 3 = S.1 (231 + S.2.1 j)) ∧ WRel 25 ML L σ') := by
  subst hS
  subst hML
  exact c7_leap_25 hf hW hc
set_option maxRecDepth 20000 in
set_option maxHeartbeats 4000000 in
theorem c8_would {w : Wp} (hf : Fit sh0 w) {σ : Mm} {M : Nat → Int32} {L r n : Nat} {l : List Int64} {T : Nat → Int32} (hK : KR M L r l T n σ) (hF : Wf M L) (hB : Bo M) (hZ : Z0 M L) (hC : Cv M L r) {c : Nat} (h6 : M 6 = nI c) (hc : c ≤ 1000000000) {k : Int32} (hk : k ≠ 0 ∧ -1000000 ≤ k ∧ k ≤ 1000000) (h64 : C64 M k) {S : (Nat → Int32) × (Nat → Nat) × Nat} (hS : lpS (trM M) k = S) {ML : Nat → Int32} (hML : leapM (trM M) L r k = ML) : Ct sh0 w 4 mX8_would [.ref 1, .int k] σ (fun r' σ' => r' = some (.int (nI S.2.2)) ∧ Off 1 67 σ σ' ∧ KR (M) (L) r (rowD ML S.2.1 S.2.2) (T) (n) σ') := by
  have hL := hF.2.2.1
  have hW := hK.1
  have hBM : Bo ML := by rw [← hML]; exact (Cv_leap (Cv_tr hC)).2.1
  refine Ct_of hf (by decide) rfl (Nat.le_of_ble_eq_true rfl) (fun x o rt => ?_)
  have loop : ∀ (ρ : Mm), Off 25 48 σ ρ → LnR 25 S.2.1 S.2.2 ρ → WRel 25 ML L ρ → ∀ m j (τ : Mm), j + m = S.2.2 → Off 52 54 ρ τ → RwC (rowD ML S.2.1 j) τ → V sh0 w x mX8_would (0, 0) 40 [(3, .int (nI j)), (2, .int 0), (0, .ref 1), (1, .int k)] [] τ := by
    intro ρ hor hln hWr m
    have hn16 := hln.2.1
    induction m with
    | zero =>
      intro j τ hj ho_0 hR_0
      have hjs : j = S.2.2 := by omega
      subst hjs
      have hl2 : LnR 25 S.2.1 S.2.2 τ := hln.off ho_0 (by omega)
      have hKr : KR M L r l T n ρ := hK.th hL (hor.wd (by omega) (by omega)) (fun u hu => (hWr.2.2 u hu).no)
      refine V_iload_n o dX8_would_40 rfl rfl ?_
      refine V_aload_n o dX8_would_41 rfl rfl ?_
      refine V_getR (t := 25) o dX8_would_42 rfl fl_X8_16 rfl ?_
      refine V_getR (t := 30) o dX8_would_45 rfl fl_X8_189 rfl ?_
      refine V_getIE (v := nI (S.2.2)) o dX8_would_48 rfl fl_X8_202 rfl hl2.1 ?_
      refine V_icmp_ge (tgt := 124) o dX8_would_51 (by decide) (fun c_51 => ?_) (fun c_51 => False.elim (c_51 (Int32.le_refl _)))
      refine V_aload_n o dX8_would_124 rfl rfl ?_
      refine V_getR (t := 25) o dX8_would_125 rfl fl_X8_16 rfl ?_
      refine V_getR (t := 30) o dX8_would_128 rfl fl_X8_189 rfl ?_
      refine V_getIE (v := nI (S.2.2)) o dX8_would_131 rfl fl_X8_202 rfl hl2.1 ?_
      refine V_iret o rt dX8_would_134 rfl rfl ?_
      exact ⟨rfl, (hor.wd (by omega) (by omega)).tr (ho_0.wd (by omega) (by omega)), hKr.rw hL ho_0 hR_0⟩
    | succ m ih =>
      intro j τ hj ho_0 hR_0
      have hjn : j < S.2.2 := by omega
      have hl2 : LnR 25 S.2.1 S.2.2 τ := hln.off ho_0 (by omega)
      have hgj := (hln.2.2 j hjn).2
      have ht := hWr.2.2 (S.2.1 j) hgj
      refine V_iload_n o dX8_would_40 rfl rfl ?_
      refine V_aload_n o dX8_would_41 rfl rfl ?_
      refine V_getR (t := 25) o dX8_would_42 rfl fl_X8_16 rfl ?_
      refine V_getR (t := 30) o dX8_would_45 rfl fl_X8_189 rfl ?_
      refine V_getIE (v := nI (S.2.2)) o dX8_would_48 rfl fl_X8_202 rfl hl2.1 ?_
      refine V_icmp_ge (tgt := 124) o dX8_would_51 (by decide) (fun c_51 => False.elim (absurd c_51 (nI_ge hjn (by omega)))) (fun c_51 => ?_)
      refine V_iload_n o dX8_would_54 rfl rfl ?_
      refine V_bipush (v := 20) o dX8_would_55 (by decide) ?_
      refine V_icmp_ge (tgt := 124) o dX8_would_57 (by decide) (fun c_57 => False.elim (absurd c_57 (nI_ge (b := 20) (by omega) (by omega)))) (fun c_57 => ?_)
      refine V_aload_n o dX8_would_60 rfl rfl ?_
      refine V_getR (t := 25) o dX8_would_61 rfl fl_X8_16 rfl ?_
      refine V_getR (t := 30) o dX8_would_64 rfl fl_X8_189 rfl ?_
      refine V_iload_n o dX8_would_67 rfl rfl ?_
      refine V_cVr o rt dX8_would_68 ml_X8_297 (c1_at_25 hf hl2 hjn) rfl rfl rfl (Nat.le_of_ble_eq_true rfl) rfl ?_
      refine V_astore (ls' := [(4, _), (3, _), (2, _), (0, _), (1, _)]) o dX8_would_71 (by decide) rfl ?_
      refine V_aload o dX8_would_73 rfl ?_
      refine V_ifnull_r o dX8_would_75 ?_
      refine V_aload_n o dX8_would_78 rfl rfl ?_
      refine V_getR (t := 52) o dX8_would_79 rfl fl_X8_33 rfl ?_
      refine V_aload o dX8_would_82 rfl ?_
      refine V_getI o dX8_would_84 (kT32 (S.2.1 j) hgj) fl_X8_151 (rT32 hgj) ?_
      refine V_topI (v' := nI (S.2.1 j)) ((congrFun (ho_0 (32 + S.2.1 j) (by omega)).1 0).trans ht.no) ?_
      refine V_i2l o dX8_would_87 ?_
      refine V_callV o rt dX8_would_88 ml_X8_210 (c3_put hf hR_0 (by rw [rowD_len]; omega)) rfl rfl rfl (Nat.le_of_ble_eq_true rfl) rfl (fun r_88 σ_88 q_88 => ?_)
      obtain ⟨rfl, hp_88, hR_88⟩ := q_88
      have ho_88 := ho_0.tr hp_88
      show V sh0 w x mX8_would (0, 0) _ _ [] _
      refine V_aload_n o dX8_would_91 rfl rfl ?_
      refine V_getR (t := 52) o dX8_would_92 rfl fl_X8_33 rfl ?_
      refine V_aload o dX8_would_95 rfl ?_
      refine V_getI o dX8_would_97 (kT32 (S.2.1 j) hgj) fl_X8_158 (rT32 hgj) ?_
      refine V_topI (v' := ML (215 + S.2.1 j)) ((congrFun (ho_88 (32 + S.2.1 j) (by omega)).1 1).trans ht.live) ?_
      refine V_if_eq (tgt := 112) o dX8_would_100 (by decide) (fun c_100 => ?_) (fun c_100 => ?_)
      · refine V_ldc2 o dX8_would_112 kc_X8_300 ?_
        refine V_callV o rt dX8_would_115 ml_X8_210 (c3_put hf hR_88 (by rw [List.length_append, rowD_len]; simp; omega)) rfl rfl rfl (Nat.le_of_ble_eq_true rfl) rfl (fun r_115 σ_115 q_115 => ?_)
        obtain ⟨rfl, hp_115, hR_115⟩ := q_115
        have ho_115 := ho_88.tr hp_115
        show V sh0 w x mX8_would (0, 0) _ _ [] _
        refine V_iincV (v := nI (j + 1)) (ls' := [(3, _), (4, _), (2, _), (0, _), (1, _)]) o dX8_would_118 rfl (ninc 1 rfl) (by decide) rfl ?_
        refine V_goto (tgt := 40) o dX8_would_121 (by decide) ?_
        refine V_sub (by simp) (ih (j + 1) σ_115 (by omega) ho_115 ?_)
        rw [rowD_succ, if_neg (fun q => absurd (c_100.symm.trans q) (by decide))]
        exact hR_115
      · refine V_aload o dX8_would_103 rfl ?_
        refine V_getI o dX8_would_105 (kT32 (S.2.1 j) hgj) fl_X8_183 (rT32 hgj) ?_
        refine V_topI (v' := ML (231 + S.2.1 j)) ((congrFun (ho_88 (32 + S.2.1 j) (by omega)).1 2).trans ht.due) ?_
        refine V_i2l o dX8_would_108 ?_
        refine V_goto (tgt := 115) o dX8_would_109 (by decide) ?_
        refine V_callV o rt dX8_would_115 ml_X8_210 (c3_put hf hR_88 (by rw [List.length_append, rowD_len]; simp; omega)) rfl rfl rfl (Nat.le_of_ble_eq_true rfl) rfl (fun r_115 σ_115 q_115 => ?_)
        obtain ⟨rfl, hp_115, hR_115⟩ := q_115
        have ho_115 := ho_88.tr hp_115
        show V sh0 w x mX8_would (0, 0) _ _ [] _
        refine V_iincV (v := nI (j + 1)) (ls' := [(3, _), (4, _), (2, _), (0, _), (1, _)]) o dX8_would_118 rfl (ninc 1 rfl) (by decide) rfl ?_
        refine V_goto (tgt := 40) o dX8_would_121 (by decide) ?_
        refine V_sub (by simp) (ih (j + 1) σ_115 (by omega) ho_115 ?_)
        rw [rowD_succ, if_pos ((hBM _ hgj).1.resolve_left c_100)]
        exact hR_115
  refine V_aload_n o dX8_would_0 rfl rfl ?_
  refine V_iload_n o dX8_would_1 rfl rfl ?_
  refine V_cVi o rt dX8_would_2 ml_X8_101 (c8_refL hf hW h6 hc hk) rfl rfl rfl (Nat.le_of_ble_eq_true rfl) rfl ?_
  refine V_topI (v' := 0) (if_pos h64) ?_
  refine V_istore_n (ls' := [(2, _), (0, _), (1, _)]) o dX8_would_5 rfl (by decide) rfl ?_
  refine V_iload_n o dX8_would_6 rfl rfl ?_
  refine V_if_ge (tgt := 12) o dX8_would_7 (by decide) (fun c_7 => ?_) (fun c_7 => False.elim (absurd (Int32.le_refl 0) c_7))
  refine V_aload_n o dX8_would_12 rfl rfl ?_
  refine V_getR (t := 25) o dX8_would_13 rfl fl_X8_16 rfl ?_
  refine V_aload_n o dX8_would_16 rfl rfl ?_
  refine V_getR (t := 2) o dX8_would_17 rfl fl_X8_10 rfl ?_
  refine V_callV o rt dX8_would_20 ml_X8_268 (c7_copy hf hW hF hZ hB hK.2.2.2.2.2) rfl rfl rfl (Nat.le_of_ble_eq_true rfl) rfl (fun r_20 σ_20 q_20 => ?_)
  obtain ⟨rfl, hoc, hWc0⟩ := q_20
  have hWc : WRel 25 (trM M) L σ_20 := hWc0.cg hL (fun j hj _ => trM_lo hj)
  show V sh0 w x mX8_would (0, 0) _ _ [] _
  refine V_aload_n o dX8_would_23 rfl rfl ?_
  refine V_getR (t := 25) o dX8_would_24 rfl fl_X8_16 rfl ?_
  refine V_iload_n o dX8_would_27 rfl rfl ?_
  refine V_callV o rt dX8_would_28 ml_X8_104 (c7_leapS_25 hf hWc (Cv_tr hC) hS hML) rfl rfl rfl (Nat.le_of_ble_eq_true rfl) rfl (fun r_28 σ_28 q_28 => ?_)
  obtain ⟨rfl, ho2, hln, -, hW2⟩ := q_28
  show V sh0 w x mX8_would (0, 0) _ _ [] _
  refine V_aload_n o dX8_would_31 rfl rfl ?_
  refine V_getR (t := 52) o dX8_would_32 rfl fl_X8_33 rfl ?_
  refine V_callV o rt dX8_would_35 ml_X8_209 (c3_empty hf) rfl rfl rfl (Nat.le_of_ble_eq_true rfl) rfl (fun r_35 σ_35 q_35 => ?_)
  obtain ⟨rfl, ho_35, hR_35⟩ := q_35
  show V sh0 w x mX8_would (0, 0) _ _ [] _
  refine V_iconst (v := 0) o dX8_would_38 (by decide) ?_
  refine V_istore_n (ls' := [(3, _), (2, _), (0, _), (1, _)]) o dX8_would_39 rfl (by decide) rfl ?_
  exact V_sub (by simp; rfl) (loop σ_28 (hoc.tr ho2) hln hW2 S.2.2 0 σ_35 (by omega) ho_35 hR_35)
set_option maxRecDepth 20000 in
set_option maxHeartbeats 4000000 in
theorem c8_would_end {w : Wp} (hf : Fit sh0 w) {σ : Mm} {M : Nat → Int32} {L r n : Nat} {l : List Int64} {T : Nat → Int32} (hK : KR M L r l T n σ) (hF : Wf M L) (hB : Bo M) {c : Nat} (h6 : M 6 = nI c) (hc : c ≤ 1000000000) {k : Int32} (hk : k ≠ 0 ∧ -1000000 ≤ k ∧ k ≤ 1000000) (h64 : ¬ C64 M k) : Ct sh0 w 4 mX8_would [.ref 1, .int k] σ (fun r' σ' => r' = some (.int (-4)) ∧ Off 1 67 σ σ' ∧ KR (M) (L) r (l) (T) (n) σ') := by
  have hL := hF.2.2.1
  have hW := hK.1
  refine Ct_of hf (by decide) rfl (Nat.le_of_ble_eq_true rfl) (fun x o rt => ?_)
  refine V_aload_n o dX8_would_0 rfl rfl ?_
  refine V_iload_n o dX8_would_1 rfl rfl ?_
  refine V_cVi o rt dX8_would_2 ml_X8_101 (c8_refL hf hW h6 hc hk) rfl rfl rfl (Nat.le_of_ble_eq_true rfl) rfl ?_
  refine V_topI (v' := -4) (if_neg h64) ?_
  refine V_istore_n (ls' := [(2, _), (0, _), (1, _)]) o dX8_would_5 rfl (by decide) rfl ?_
  refine V_iload_n o dX8_would_6 rfl rfl ?_
  refine V_if_ge (tgt := 12) o dX8_would_7 (by decide) (fun c_7 => False.elim (absurd c_7 (by decide))) (fun c_7 => ?_)
  refine V_iload_n o dX8_would_10 rfl rfl ?_
  refine V_iret o rt dX8_would_11 rfl rfl ?_
  exact ⟨rfl, Off.rf, hK⟩
set_option maxRecDepth 20000 in
set_option maxHeartbeats 4000000 in
theorem c8_would_no {w : Wp} (hf : Fit sh0 w) {σ : Mm} {M : Nat → Int32} {L r n : Nat} {l : List Int64} {T : Nat → Int32} (hK : KR M L r l T n σ) (hF : Wf M L) (hB : Bo M) {k : Int32} (hk : ¬ (k ≠ 0 ∧ -1000000 ≤ k ∧ k ≤ 1000000)) : Ct sh0 w 4 mX8_would [.ref 1, .int k] σ (fun r' σ' => r' = some (.int (-1)) ∧ Off 1 67 σ σ' ∧ KR (M) (L) r (l) (T) (n) σ') := by
  have hL := hF.2.2.1
  have hW := hK.1
  refine Ct_of hf (by decide) rfl (Nat.le_of_ble_eq_true rfl) (fun x o rt => ?_)
  refine V_aload_n o dX8_would_0 rfl rfl ?_
  refine V_iload_n o dX8_would_1 rfl rfl ?_
  refine V_cVi o rt dX8_would_2 ml_X8_101 (c8_refL_no hf hk) rfl rfl rfl (Nat.le_of_ble_eq_true rfl) rfl ?_
  refine V_istore_n (ls' := [(2, _), (0, _), (1, _)]) o dX8_would_5 rfl (by decide) rfl ?_
  refine V_iload_n o dX8_would_6 rfl rfl ?_
  refine V_if_ge (tgt := 12) o dX8_would_7 (by decide) (fun c_7 => False.elim (absurd c_7 (by decide))) (fun c_7 => ?_)
  refine V_iload_n o dX8_would_10 rfl rfl ?_
  refine V_iret o rt dX8_would_11 rfl rfl ?_
  exact ⟨rfl, Off.rf, hK⟩
set_option maxRecDepth 20000 in
set_option maxHeartbeats 4000000 in
theorem c8_countGroups {w : Wp} (hf : Fit sh0 w) {σ : Mm} {M2 : Nat → Int32} {L : Nat} (hW : WRel 25 M2 L σ) (hG : Gr M2) {g : Nat → Nat} {n : Nat} (hln : LnR 25 g n σ) {v : Nat → Int32} (hv : ∀ j, j < 8 → σ.1 51 j = v j) {R : Nat → Int32} (hR0 : itr (loF M2 g) 0 n v = R) : Ct sh0 w 1 mX8_countGroups [.ref 30, .ref 51] σ (fun r' σ' => r' = none ∧ Off 51 52 σ σ' ∧ ∀ j, j < 8 → σ'.1 51 j = R j) := by
  have hn16 := hln.2.1
  refine Ct_of hf (by decide) rfl (Nat.le_of_ble_eq_true rfl) (fun x o rt => ?_)
  have loop : ∀ m k (v : Nat → Int32) (τ : Mm), k + m = n → Off 51 52 σ τ → (∀ j, j < 8 → τ.1 51 j = v j) → itr (loF M2 g) k m v = R → V sh0 w x mX8_countGroups (0, 0) 2 [(2, .int (nI k)), (0, .ref 30), (1, .ref 51)] [] τ := by
    intro m
    induction m with
    | zero =>
      intro k v τ hk ho hv hR
      have hkn : k = n := by omega
      subst hkn
      subst hR
      have hl2 : LnR 25 g k τ := hln.off ho (by omega)
      refine V_iload_n o dX8_countGroups_2 rfl rfl ?_
      refine V_aload_n o dX8_countGroups_3 rfl rfl ?_
      refine V_getIE (v := nI (k)) o dX8_countGroups_4 rfl fl_X8_202 rfl hl2.1 ?_
      refine V_icmp_ge (tgt := 52) o dX8_countGroups_7 (by decide) (fun c_7 => ?_) (fun c_7 => False.elim (c_7 (Int32.le_refl _)))
      refine V_ret o rt dX8_countGroups_52 rfl ?_
      exact ⟨rfl, ho, hv⟩
    | succ m ih =>
      intro k v τ hkm ho hv hR
      have hk : k < n := by omega
      have hl2 : LnR 25 g n τ := hln.off ho (by omega)
      have hgk := (hln.2.2 k hk).2
      obtain ⟨q, hq, hq8⟩ := hG (g k) hgk
      rw [itr_succ] at hR
      refine V_iload_n o dX8_countGroups_2 rfl rfl ?_
      refine V_aload_n o dX8_countGroups_3 rfl rfl ?_
      refine V_getIE (v := nI (n)) o dX8_countGroups_4 rfl fl_X8_202 rfl hl2.1 ?_
      refine V_icmp_ge (tgt := 52) o dX8_countGroups_7 (by decide) (fun c_7 => False.elim (absurd c_7 (nI_ge hk (by omega)))) (fun c_7 => ?_)
      refine V_aload_n o dX8_countGroups_10 rfl rfl ?_
      refine V_iload_n o dX8_countGroups_11 rfl rfl ?_
      refine V_cVr o rt dX8_countGroups_12 ml_X8_297 (c1_at_25 hf hl2 hk) rfl rfl rfl (Nat.le_of_ble_eq_true rfl) rfl ?_
      refine V_astore_n (ls' := [(3, _), (2, _), (0, _), (1, _)]) o dX8_countGroups_15 rfl (by decide) rfl ?_
      refine V_aload_n o dX8_countGroups_16 rfl rfl ?_
      refine V_ifnull_r o dX8_countGroups_17 ?_
      refine V_aload_n o dX8_countGroups_20 rfl rfl ?_
      refine V_getI o dX8_countGroups_21 (kT32 (g k) hgk) fl_X8_135 (rT32 hgk) ?_
      refine V_topI (v' := nI q) ((congrFun (ho (32 + g k) (by omega)).1 5).trans ((hW.2.2 (g k) hgk).grp.trans hq)) ?_
      refine V_if_lt (tgt := 46) o dX8_countGroups_24 (by decide) (fun c_24 => False.elim (absurd c_24 (nI_nn (by omega)))) (fun c_24 => ?_)
      refine V_aload_n o dX8_countGroups_27 rfl rfl ?_
      refine V_getI o dX8_countGroups_28 (kT32 (g k) hgk) fl_X8_135 (rT32 hgk) ?_
      refine V_topI (v' := nI q) ((congrFun (ho (32 + g k) (by omega)).1 5).trans ((hW.2.2 (g k) hgk).grp.trans hq)) ?_
      refine V_aload_n o dX8_countGroups_31 rfl rfl ?_
      refine V_alen (v := 8) o dX8_countGroups_32 (by decide) (by decide) ?_
      refine V_icmp_ge (tgt := 46) o dX8_countGroups_33 (by decide) (fun c_33 => False.elim (absurd c_33 (nI_ge (b := 8) hq8 (by omega)))) (fun c_33 => ?_)
      refine V_aload_n o dX8_countGroups_36 rfl rfl ?_
      refine V_aload_n o dX8_countGroups_37 rfl rfl ?_
      refine V_getI o dX8_countGroups_38 (kT32 (g k) hgk) fl_X8_135 (rT32 hgk) ?_
      refine V_topI (v' := nI q) ((congrFun (ho (32 + g k) (by omega)).1 5).trans ((hW.2.2 (g k) hgk).grp.trans hq)) ?_
      refine V_dup2 o dX8_countGroups_41 rfl rfl ?_
      refine V_ialdN 8 o dX8_countGroups_42 rfl rfl rfl (by omega) rfl ?_
      refine V_topI (v' := v q) (hv q hq8) ?_
      refine V_iconst (v := 1) o dX8_countGroups_43 (by decide) ?_
      refine V_iadd o dX8_countGroups_44 ?_
      refine V_iastN 8 o dX8_countGroups_45 rfl rfl rfl (by omega) rfl ?_
      refine V_iincV (v := nI (k + 1)) (ls' := [(2, _), (3, _), (0, _), (1, _)]) o dX8_countGroups_46 rfl (ninc 1 rfl) (by decide) rfl ?_
      refine V_goto (tgt := 2) o dX8_countGroups_49 (by decide) ?_
      have e : loF M2 g k v = upd v q (v q + 1) := by unfold loF; rw [hq, ix_nI (by omega)]
      rw [e] at hR
      refine V_sub (by simp) (ih (k + 1) (upd v q (v q + 1)) (wI τ 51 q (v q + 1)) (by omega) (ho.wI (by omega) (by omega)) (fun j hj => ?_) hR)
      unfold upd
      by_cases ej : j = q
      · rw [if_pos ej, ej]; exact wI_at
      · rw [if_neg ej, wI_nj ej]; exact hv j hj
  refine V_iconst (v := 0) o dX8_countGroups_0 (by decide) ?_
  refine V_istore_n (ls' := [(2, _), (0, _), (1, _)]) o dX8_countGroups_1 rfl (by decide) rfl ?_
  exact V_sub (by simp; rfl) (loop n 0 v σ (by omega) Off.rf hv hR0)
theorem Gr_cg {M M' : Nat → Int32} (h : Gr M) (e : ∀ j, 263 ≤ j → j < 279 → M' j = M j) : Gr M' := fun t ht => by
  rw [e _ (by omega) (by omega)]
  exact h t ht
set_option maxRecDepth 20000 in
set_option maxHeartbeats 4000000 in
theorem c8_loudest {w : Wp} (hf : Fit sh0 w) {σ : Mm} {M : Nat → Int32} {L r n : Nat} {l : List Int64} {T : Nat → Int32} (hK : KR M L r l T n σ) (hF : Wf M L) (hB : Bo M) (hZ : Z0 M L) (hC : Cv M L r) {c m0 : Nat} (h6 : M 6 = nI c) (hm1 : 1 ≤ m0) (hm2 : m0 ≤ 100) (hc : c + m0 ≤ 1000000000) (hG : Gr M) {R : (Nat → Int32) × Nat × (Nat → Int32)} (hR0 : askS L loV m0 (trM M, r, fun _ => 0) = R) : Ct sh0 w 4 mX8_loudest [.ref 1, .int (nI m0)] σ (fun r' σ' => Off 1 67 σ σ' ∧ if R.2.2 (loB R.2.2) = 0 then r' = some (.int (-2)) ∧ KR M L r l T n σ' else r' = some (.int (nI (loB R.2.2))) ∧ KR M L r (loL R.2.2 8) T n σ') := by
  have hL := hF.2.2.1
  have hW := hK.1
  unfold askS at hR0
  refine Ct_of hf (by decide) rfl (Nat.le_of_ble_eq_true rfl) (fun x o rt => ?_)
  have rows : ∀ (b : Nat) (τ0 : Mm), b < 8 → loB R.2.2 = b → ¬ R.2.2 b = 0 → KR M L r l T n τ0 → Off 1 67 σ τ0 → (∀ j, j < 8 → τ0.1 51 j = R.2.2 j) → ∀ m g (τ : Mm), g + m = 8 → Off 52 54 τ0 τ → RwC (loL R.2.2 g) τ → V sh0 w x mX8_loudest (0, 0) 120 [(5, .int (nI g)), (4, .int (nI b)), (3, .ref 51), (0, .ref 1), (1, .int (nI m0)), (2, .int 0)] [] τ := by
    intro b τ0 hb hB0 hnz hK0 hoo hv m
    induction m with
    | zero =>
      intro g τ hg ho_0 hR_0
      have hg8 : g = 8 := by omega
      subst hg8
      refine V_iload o dX8_loudest_120 rfl ?_
      refine V_bipush (v := 8) o dX8_loudest_122 (by decide) ?_
      refine V_icmp_ge (tgt := 145) o dX8_loudest_124 (by decide) (fun c_124 => ?_) (fun c_124 => False.elim (c_124 (by decide)))
      refine V_iload o dX8_loudest_145 rfl ?_
      refine V_iret o rt dX8_loudest_147 rfl rfl ?_
      exact ⟨hoo.tr (ho_0.wd (by omega) (by omega)), by rw [hB0, if_neg hnz]; exact ⟨rfl, hK0.rw hL ho_0 hR_0⟩⟩
    | succ m ih =>
      intro g τ hg ho_0 hR_0
      have hlen : (loL R.2.2 g).length = g := by simp [loL]
      refine V_iload o dX8_loudest_120 rfl ?_
      refine V_bipush (v := 8) o dX8_loudest_122 (by decide) ?_
      refine V_icmp_ge (tgt := 145) o dX8_loudest_124 (by decide) (fun c_124 => False.elim (absurd c_124 (nI_ge (b := 8) (by omega) (by omega)))) (fun c_124 => ?_)
      refine V_aload_n o dX8_loudest_127 rfl rfl ?_
      refine V_getR (t := 52) o dX8_loudest_128 rfl fl_X8_33 rfl ?_
      refine V_aload_n o dX8_loudest_131 rfl rfl ?_
      refine V_iload o dX8_loudest_132 rfl ?_
      refine V_ialdN 8 o dX8_loudest_134 rfl rfl rfl (by omega) rfl ?_
      refine V_topI (v' := R.2.2 g) ((congrFun (ho_0 51 (by omega)).1 g).trans (hv g (by omega))) ?_
      refine V_i2l o dX8_loudest_135 ?_
      refine V_callV o rt dX8_loudest_136 ml_X8_210 (c3_put hf hR_0 (by omega)) rfl rfl rfl (Nat.le_of_ble_eq_true rfl) rfl (fun r_136 σ_136 q_136 => ?_)
      obtain ⟨rfl, hp_136, hR_136⟩ := q_136
      have ho_136 := ho_0.tr hp_136
      show V sh0 w x mX8_loudest (0, 0) _ _ [] _
      refine V_iincV (v := nI (g + 1)) (ls' := [(5, _), (4, _), (3, _), (0, _), (1, _), (2, _)]) o dX8_loudest_139 rfl (ninc 1 rfl) (by decide) rfl ?_
      refine V_goto (tgt := 120) o dX8_loudest_142 (by decide) ?_
      exact V_sub (by simp) (ih (g + 1) σ_136 (by omega) ho_136 (by rw [loL, List.range_succ, List.map_append, List.map_singleton]; exact hR_136))
  have best : ∀ (τ : Mm), KR M L r l T n τ → Off 1 67 σ τ → (∀ j, j < 8 → τ.1 51 j = R.2.2 j) → ∀ m g b, g + m = 8 → b < 8 → itr (fun g b => if R.2.2 g > R.2.2 b then g else b) g m b = loB R.2.2 → V sh0 w x mX8_loudest (0, 0) 72 [(5, .int (nI g)), (4, .int (nI b)), (3, .ref 51), (0, .ref 1), (1, .int (nI m0)), (2, .int 0)] [] τ := by
    intro τ hK0 hoo hv m
    induction m with
    | zero =>
      intro g b hg hb hR
      have hg8 : g = 8 := by omega
      have hs : b = loB R.2.2 := hR
      refine V_iload o dX8_loudest_72 rfl ?_
      refine V_bipush (v := 8) o dX8_loudest_74 (by decide) ?_
      refine V_icmp_ge (tgt := 100) o dX8_loudest_76 (by decide) (fun c_76 => ?_) (fun c_76 => False.elim (c_76 (by rw [hg8]; decide)))
      refine V_aload_n o dX8_loudest_100 rfl rfl ?_
      refine V_iload o dX8_loudest_101 rfl ?_
      refine V_ialdN 8 o dX8_loudest_103 rfl rfl rfl (by omega) rfl ?_
      refine V_topI (v' := R.2.2 b) (hv b hb) ?_
      refine V_if_ne (tgt := 110) o dX8_loudest_104 (by decide) (fun c_104 => ?_) (fun c_104 => ?_)
      · refine V_aload_n o dX8_loudest_110 rfl rfl ?_
        refine V_getR (t := 52) o dX8_loudest_111 rfl fl_X8_33 rfl ?_
        refine V_callV o rt dX8_loudest_114 ml_X8_209 (c3_empty hf) rfl rfl rfl (Nat.le_of_ble_eq_true rfl) rfl (fun r_114 σ_114 q_114 => ?_)
        obtain ⟨rfl, ho_114, hR_114⟩ := q_114
        show V sh0 w x mX8_loudest (0, 0) _ _ [] _
        refine V_iconst (v := 0) o dX8_loudest_117 (by decide) ?_
        refine V_istore (ls' := [(5, _), (4, _), (3, _), (0, _), (1, _), (2, _)]) o dX8_loudest_118 (by decide) rfl ?_
        exact V_sub (by simp; rfl) (rows b τ hb hs.symm c_104 hK0 hoo hv 8 0 σ_114 (by omega) ho_114 hR_114)
      · refine V_bipush (v := -2) o dX8_loudest_107 (by decide) ?_
        refine V_iret o rt dX8_loudest_109 rfl rfl ?_
        exact ⟨hoo, by rw [← hs, if_pos c_104]; exact ⟨rfl, hK0⟩⟩
    | succ m ih =>
      intro g b hg hb hR
      rw [itr_succ] at hR
      refine V_iload o dX8_loudest_72 rfl ?_
      refine V_bipush (v := 8) o dX8_loudest_74 (by decide) ?_
      refine V_icmp_ge (tgt := 100) o dX8_loudest_76 (by decide) (fun c_76 => False.elim (absurd c_76 (nI_ge (b := 8) (by omega) (by omega)))) (fun c_76 => ?_)
      refine V_aload_n o dX8_loudest_79 rfl rfl ?_
      refine V_iload o dX8_loudest_80 rfl ?_
      refine V_ialdN 8 o dX8_loudest_82 rfl rfl rfl (by omega) rfl ?_
      refine V_topI (v' := R.2.2 g) (hv g (by omega)) ?_
      refine V_aload_n o dX8_loudest_83 rfl rfl ?_
      refine V_iload o dX8_loudest_84 rfl ?_
      refine V_ialdN 8 o dX8_loudest_86 rfl rfl rfl (by omega) rfl ?_
      refine V_topI (v' := R.2.2 b) (hv b hb) ?_
      refine V_icmp_le (tgt := 94) o dX8_loudest_87 (by decide) (fun c_87 => ?_) (fun c_87 => ?_)
      · refine V_iincV (v := nI (g + 1)) (ls' := [(5, _), (4, _), (3, _), (0, _), (1, _), (2, _)]) o dX8_loudest_94 rfl (ninc 1 rfl) (by decide) rfl ?_
        refine V_goto (tgt := 72) o dX8_loudest_97 (by decide) ?_
        rw [if_neg (Int32.not_lt.mpr c_87)] at hR
        exact V_sub (by simp) (ih (g + 1) b (by omega) hb hR)
      · refine V_iload o dX8_loudest_90 rfl ?_
        refine V_istore (ls' := [(4, _), (5, _), (3, _), (0, _), (1, _), (2, _)]) o dX8_loudest_92 (by decide) rfl ?_
        refine V_iincV (v := nI (g + 1)) (ls' := [(5, _), (4, _), (3, _), (0, _), (1, _), (2, _)]) o dX8_loudest_94 rfl (ninc 1 rfl) (by decide) rfl ?_
        refine V_goto (tgt := 72) o dX8_loudest_97 (by decide) ?_
        rw [if_pos (Int32.not_le.mp c_87)] at hR
        exact V_sub (by simp) (ih (g + 1) g (by omega) (by omega) hR)
  have loop : ∀ m i (N : Nat → Int32) (rr : Nat) (v : (Nat → Int32)) (τ : Mm), i + m = m0 → Off 25 52 σ τ → Cv N L rr → Gr N → WRel 25 N L τ → (∀ j, j < 8 → τ.1 51 j = v j) → itr (askF L loV) i m (N, rr, v) = R → V sh0 w x mX8_loudest (0, 0) 36 [(4, .int (nI i)), (3, .ref 51), (2, .int 0), (0, .ref 1), (1, .int (nI m0))] [] τ := by
    intro m
    induction m with
    | zero =>
      intro i N rr v τ hi ho hCs hGs hWt hv hR
      have him : i = m0 := by omega
      subst hR
      have hKt : KR M L r l T n τ := hK.th hL ho (fun u hu => (hWt.2.2 u hu).no)
      refine V_iload o dX8_loudest_36 rfl ?_
      refine V_iload_n o dX8_loudest_38 rfl rfl ?_
      refine V_icmp_ge (tgt := 66) o dX8_loudest_39 (by decide) (fun c_39 => ?_) (fun c_39 => False.elim (c_39 (by rw [him]; exact Int32.le_refl _)))
      refine V_iconst (v := 0) o dX8_loudest_66 (by decide) ?_
      refine V_istore (ls' := [(4, _), (3, _), (2, _), (0, _), (1, _)]) o dX8_loudest_67 (by decide) rfl ?_
      refine V_iconst (v := 1) o dX8_loudest_69 (by decide) ?_
      refine V_istore (ls' := [(5, _), (4, _), (3, _), (2, _), (0, _), (1, _)]) o dX8_loudest_70 (by decide) rfl ?_
      exact V_sub (by simp; exact ⟨rfl, rfl⟩) (best τ hKt (ho.wd (by omega) (by omega)) hv 7 1 0 (by omega) (by omega) rfl)
    | succ m ih =>
      intro i N rr v τ hi ho hCs hGs hWt hv hR
      have hCs' := hCs
      obtain ⟨LN, hLN⟩ : ∃ LN, tkLn N L = LN := ⟨_, rfl⟩
      obtain ⟨M2, hM2⟩ : ∃ M2, tickM N L rr = M2 := ⟨_, rfl⟩
      have hC2 : Cv M2 L (tkR N L rr) := by rw [← hM2]; exact Cv_tick hCs
      have hle : LN.2 ≤ 16 := by rw [← hLN]; exact lineM_le
      rw [itr_succ] at hR
      have e : askF L loV i (N, rr, v) = (M2, tkR N L rr, loV LN M2 v) := by unfold askF; rw [hM2, hLN]
      rw [e] at hR
      have hG2 : Gr M2 := by rw [← hM2]; exact Gr_tick hCs.1 hGs
      refine V_iload o dX8_loudest_36 rfl ?_
      refine V_iload_n o dX8_loudest_38 rfl rfl ?_
      refine V_icmp_ge (tgt := 66) o dX8_loudest_39 (by decide) (fun c_39 => False.elim (absurd c_39 (nI_ge (by omega) (by omega)))) (fun c_39 => ?_)
      refine V_aload_n o dX8_loudest_42 rfl rfl ?_
      refine V_getR (t := 25) o dX8_loudest_43 rfl fl_X8_16 rfl ?_
      refine V_callV o rt dX8_loudest_46 ml_X8_90 (c7_tickS_25 hf hWt hCs hLN hM2) rfl rfl rfl (Nat.le_of_ble_eq_true rfl) rfl (fun r_46 σ_46 q_46 => ?_)
      obtain ⟨rfl, ho2, hln, -, hW2⟩ := q_46
      show V sh0 w x mX8_loudest (0, 0) _ _ [] _
      refine V_aload_n o dX8_loudest_49 rfl rfl ?_
      refine V_getR (t := 25) o dX8_loudest_50 rfl fl_X8_16 rfl ?_
      refine V_getR (t := 30) o dX8_loudest_53 rfl fl_X8_189 rfl ?_
      refine V_aload_n o dX8_loudest_56 rfl rfl ?_
      refine V_callS o rt dX8_loudest_57 ms_X8_311 (c8_countGroups hf hW2 hG2 hln (v := v) (fun j hj => (congrFun (ho2 51 (by omega)).1 j).trans (hv j hj)) rfl) rfl rfl (Nat.le_of_ble_eq_true rfl) rfl (fun r_57 σ_57 q_57 => ?_)
      obtain ⟨rfl, ho3, hv3⟩ := q_57
      show V sh0 w x mX8_loudest (0, 0) _ _ [] _
      refine V_iincV (v := nI (i + 1)) (ls' := [(4, _), (3, _), (2, _), (0, _), (1, _)]) o dX8_loudest_60 rfl (ninc 1 rfl) (by decide) rfl ?_
      refine V_goto (tgt := 36) o dX8_loudest_63 (by decide) ?_
      exact V_sub (by simp) (ih (i + 1) M2 (tkR N L rr) (loV LN M2 v) σ_57 (by omega) (ho.tr ((ho2.wd (by omega) (by omega)).tr (ho3.wd (by omega) (by omega)))) hC2 hG2 (hW2.off hL (fun _ _ _ => rfl) ho3 (by omega)) hv3 hR)
  refine V_aload_n o dX8_loudest_0 rfl rfl ?_
  refine V_iload_n o dX8_loudest_1 rfl rfl ?_
  refine V_cVi o rt dX8_loudest_2 ml_X8_86 (c8_refT hf hW h6 hm1 hm2 hc) rfl rfl rfl (Nat.le_of_ble_eq_true rfl) rfl ?_
  refine V_istore_n (ls' := [(2, _), (0, _), (1, _)]) o dX8_loudest_5 rfl (by decide) rfl ?_
  refine V_iload_n o dX8_loudest_6 rfl rfl ?_
  refine V_if_ge (tgt := 12) o dX8_loudest_7 (by decide) (fun c_7 => ?_) (fun c_7 => False.elim (absurd (Int32.le_refl 0) c_7))
  refine V_aload_n o dX8_loudest_12 rfl rfl ?_
  refine V_getR (t := 51) o dX8_loudest_13 rfl fl_X8_26 rfl ?_
  refine V_astore_n (ls' := [(3, _), (2, _), (0, _), (1, _)]) o dX8_loudest_16 rfl (by decide) rfl ?_
  refine V_aload_n o dX8_loudest_17 rfl rfl ?_
  refine V_iconst (v := 0) o dX8_loudest_18 (by decide) ?_
  refine V_callS o rt dX8_loudest_19 ms_X8_305 (cJ_fill hf) rfl rfl (Nat.le_of_ble_eq_true rfl) rfl (fun r_19 σ_19 q_19 => ?_)
  obtain ⟨rfl, hof, hvf⟩ := q_19
  have hWf2 : WRel 2 M L σ_19 := hW.off hL (fun _ _ _ => rfl) hof (by omega)
  show V sh0 w x mX8_loudest (0, 0) _ _ [] _
  refine V_aload_n o dX8_loudest_22 rfl rfl ?_
  refine V_getR (t := 25) o dX8_loudest_23 rfl fl_X8_16 rfl ?_
  refine V_aload_n o dX8_loudest_26 rfl rfl ?_
  refine V_getR (t := 2) o dX8_loudest_27 rfl fl_X8_10 rfl ?_
  refine V_callV o rt dX8_loudest_30 ml_X8_268 (c7_copy hf hWf2 hF hZ hB (hK.2.2.2.2.2.off hof (by omega))) rfl rfl rfl (Nat.le_of_ble_eq_true rfl) rfl (fun r_30 σ_30 q_30 => ?_)
  obtain ⟨rfl, hoc, hWc0⟩ := q_30
  have hWc : WRel 25 (trM M) L σ_30 := hWc0.cg hL (fun j hj _ => trM_lo hj)
  show V sh0 w x mX8_loudest (0, 0) _ _ [] _
  refine V_iconst (v := 0) o dX8_loudest_33 (by decide) ?_
  refine V_istore (ls' := [(4, _), (3, _), (2, _), (0, _), (1, _)]) o dX8_loudest_34 (by decide) rfl ?_
  exact V_sub (by simp; rfl) (loop m0 0 (trM M) r (fun _ => 0) σ_30 (by omega) ((hof.wd (by omega) (by omega)).tr (hoc.wd (by omega) (by omega))) (Cv_tr hC) (Gr_cg hG (fun j _ h2 => trM_lo (by omega))) hWc (fun j hj => (congrFun (hoc 51 (by omega)).1 j).trans (hvf j hj)) hR0)
set_option maxRecDepth 20000 in
set_option maxHeartbeats 4000000 in
theorem c8_loudest_no {w : Wp} (hf : Fit sh0 w) {σ : Mm} {M : Nat → Int32} {L r n : Nat} {l : List Int64} {T : Nat → Int32} (hK : KR M L r l T n σ) (hF : Wf M L) (hB : Bo M) {k : Int32} (hk : ¬ inR k 1 100) : Ct sh0 w 4 mX8_loudest [.ref 1, .int k] σ (fun r' σ' => r' = some (.int (-1)) ∧ Off 1 67 σ σ' ∧ KR (M) (L) r (l) (T) (n) σ') := by
  have hL := hF.2.2.1
  have hW := hK.1
  refine Ct_of hf (by decide) rfl (Nat.le_of_ble_eq_true rfl) (fun x o rt => ?_)
  refine V_aload_n o dX8_loudest_0 rfl rfl ?_
  refine V_iload_n o dX8_loudest_1 rfl rfl ?_
  refine V_cVi o rt dX8_loudest_2 ml_X8_86 (c8_refT_no hf hk) rfl rfl rfl (Nat.le_of_ble_eq_true rfl) rfl ?_
  refine V_istore_n (ls' := [(2, _), (0, _), (1, _)]) o dX8_loudest_5 rfl (by decide) rfl ?_
  refine V_iload_n o dX8_loudest_6 rfl rfl ?_
  refine V_if_ge (tgt := 12) o dX8_loudest_7 (by decide) (fun c_7 => False.elim (absurd c_7 (by decide))) (fun c_7 => ?_)
  refine V_iload_n o dX8_loudest_10 rfl rfl ?_
  refine V_iret o rt dX8_loudest_11 rfl rfl ?_
  exact ⟨rfl, Off.rf, hK⟩
