theorem tIo7 {a : Int32} (h0 : ¬ a = 0) (h1 : ¬ a = 1) (h2 : ¬ a = 2) (h3 : ¬ a = 3) (h4 : ¬ a = 4) (h5 : ¬ a = 5) (h6 : ¬ a = 6) : a.toInt < 0 ∨ (6 : Int) < a.toInt := by
  by_cases g1 : a.toInt < 0
  · exact Or.inl g1
  · by_cases g2 : (6 : Int) < a.toInt
    · exact Or.inr g2
    · exfalso
      have e : a = nI a.toInt.toNat := Int32.toInt_inj.mp (by rw [nI_toInt (by omega)]; omega)
      have : a.toInt.toNat = 0 ∨ a.toInt.toNat = 1 ∨ a.toInt.toNat = 2 ∨ a.toInt.toNat = 3 ∨ a.toInt.toNat = 4 ∨ a.toInt.toNat = 5 ∨ a.toInt.toNat = 6 := by omega
      rcases this with q | q | q | q | q | q | q
      · exact h0 (by rw [e, q]; rfl)
      · exact h1 (by rw [e, q]; rfl)
      · exact h2 (by rw [e, q]; rfl)
      · exact h3 (by rw [e, q]; rfl)
      · exact h4 (by rw [e, q]; rfl)
      · exact h5 (by rw [e, q]; rfl)
      · exact h6 (by rw [e, q]; rfl)
theorem tIo10 {a : Int32} (h0 : ¬ a = 0) (h1 : ¬ a = 1) (h2 : ¬ a = 2) (h3 : ¬ a = 3) (h4 : ¬ a = 4) (h5 : ¬ a = 5) (h6 : ¬ a = 6) (h7 : ¬ a = 7) (h8 : ¬ a = 8) (h9 : ¬ a = 9) : a.toInt < 0 ∨ (9 : Int) < a.toInt := by
  by_cases g1 : a.toInt < 0
  · exact Or.inl g1
  · by_cases g2 : (9 : Int) < a.toInt
    · exact Or.inr g2
    · exfalso
      have e : a = nI a.toInt.toNat := Int32.toInt_inj.mp (by rw [nI_toInt (by omega)]; omega)
      have : a.toInt.toNat = 0 ∨ a.toInt.toNat = 1 ∨ a.toInt.toNat = 2 ∨ a.toInt.toNat = 3 ∨ a.toInt.toNat = 4 ∨ a.toInt.toNat = 5 ∨ a.toInt.toNat = 6 ∨ a.toInt.toNat = 7 ∨ a.toInt.toNat = 8 ∨ a.toInt.toNat = 9 := by omega
      rcases this with q | q | q | q | q | q | q | q | q | q
      · exact h0 (by rw [e, q]; rfl)
      · exact h1 (by rw [e, q]; rfl)
      · exact h2 (by rw [e, q]; rfl)
      · exact h3 (by rw [e, q]; rfl)
      · exact h4 (by rw [e, q]; rfl)
      · exact h5 (by rw [e, q]; rfl)
      · exact h6 (by rw [e, q]; rfl)
      · exact h7 (by rw [e, q]; rfl)
      · exact h8 (by rw [e, q]; rfl)
      · exact h9 (by rw [e, q]; rfl)
set_option maxRecDepth 20000 in
set_option maxHeartbeats 4000000 in
theorem c8_sign {w : Wp} (hf : Fit sh0 w) {σ : Mm} {M : Nat → Int32} {L r n : Nat} {l : List Int64} {T : Nat → Int32} (hK : KR M L r l T n σ) (hF : Wf M L) (hB : Bo M) (hn : n ≤ 96) {v : Int32} {T2 : Nat → Int32} (hT2 : itr (sgF v n) 0 4 T = T2) : Ct sh0 w 1 mX8_sign [.ref 1, .int v] σ (fun r' σ' => r' = some (.int (nI (n + 4))) ∧ Off 1 67 σ σ' ∧ KR (M) (L) r (l) (T2) (n + 4) σ') := by
  have hL := hF.2.2.1
  have hW := hK.1
  refine Ct_of hf (by decide) rfl (Nat.le_of_ble_eq_true rfl) (fun x o rt => ?_)
  refine V_aload_n o dX8_sign_0 rfl rfl ?_
  refine V_getR (t := 60) o dX8_sign_1 rfl fl_X8_47 rfl ?_
  refine V_iload_n o dX8_sign_4 rfl rfl ?_
  refine V_callV o rt dX8_sign_5 ml_X8_231 (c5_append hf hK.2.2.2.2.1 hn hT2) rfl rfl rfl (Nat.le_of_ble_eq_true rfl) rfl (fun r_5 σ_5 q_5 => ?_)
  obtain ⟨rfl, ho, hX⟩ := q_5
  show V sh0 w x mX8_sign (0, 0) _ _ (.int 1 :: []) _
  refine V_if_eq (tgt := 21) o dX8_sign_8 (by decide) (fun c_8 => False.elim (absurd c_8 (by decide))) (fun c_8 => ?_)
  refine V_aload_n o dX8_sign_11 rfl rfl ?_
  refine V_getR (t := 60) o dX8_sign_12 rfl fl_X8_47 rfl ?_
  refine V_getIE (v := nI (n + 4)) o dX8_sign_15 rfl fl_X8_234 rfl hX.1 ?_
  refine V_goto (tgt := 22) o dX8_sign_18 (by decide) ?_
  refine V_iret o rt dX8_sign_22 rfl rfl ?_
  exact ⟨rfl, ho.wd (by omega) (by omega), hK.tx hL ho hX⟩
set_option maxRecDepth 20000 in
set_option maxHeartbeats 4000000 in
theorem c8_sign_no {w : Wp} (hf : Fit sh0 w) {σ : Mm} {M : Nat → Int32} {L r n : Nat} {l : List Int64} {T : Nat → Int32} (hK : KR M L r l T n σ) (hF : Wf M L) (hB : Bo M) (hn : 96 < n) {v : Int32} : Ct sh0 w 1 mX8_sign [.ref 1, .int v] σ (fun r' σ' => r' = some (.int (-1)) ∧ Off 1 67 σ σ' ∧ KR (M) (L) r (l) (T) (n) σ') := by
  have hL := hF.2.2.1
  have hW := hK.1
  refine Ct_of hf (by decide) rfl (Nat.le_of_ble_eq_true rfl) (fun x o rt => ?_)
  refine V_aload_n o dX8_sign_0 rfl rfl ?_
  refine V_getR (t := 60) o dX8_sign_1 rfl fl_X8_47 rfl ?_
  refine V_iload_n o dX8_sign_4 rfl rfl ?_
  refine V_cVi o rt dX8_sign_5 ml_X8_231 (c5_append_no hf hK.2.2.2.2.1 hn) rfl rfl rfl (Nat.le_of_ble_eq_true rfl) rfl ?_
  refine V_if_eq (tgt := 21) o dX8_sign_8 (by decide) (fun c_8 => ?_) (fun c_8 => False.elim (absurd (by decide) c_8))
  refine V_iconst (v := -1) o dX8_sign_21 (by decide) ?_
  refine V_iret o rt dX8_sign_22 rfl rfl ?_
  exact ⟨rfl, Off.rf, hK⟩
set_option maxRecDepth 20000 in
set_option maxHeartbeats 4000000 in
theorem c8_end {w : Wp} (hf : Fit sh0 w) {σ : Mm} {M : Nat → Int32} {L r n : Nat} {l : List Int64} {T : Nat → Int32} (hK : KR M L r l T n σ) (hF : Wf M L) (hB : Bo M) {k : Int32} {m : Nat} (hk : k = nI m) (hm : m ≤ n) : Ct sh0 w 1 mX8_end [.ref 1, .int k] σ (fun r' σ' => r' = some (.int 1) ∧ Off 1 67 σ σ' ∧ KR (M) (L) r (l) (T) (m) σ') := by
  have hL := hF.2.2.1
  have hW := hK.1
  have hX := hK.2.2.2.2.1
  have hn := hX.2.1
  refine Ct_of hf (by decide) rfl (Nat.le_of_ble_eq_true rfl) (fun x o rt => ?_)
  refine V_iload_n o dX8_end_0 rfl rfl ?_
  refine V_iconst (v := 0) o dX8_end_1 (by decide) ?_
  refine V_aload_n o dX8_end_2 rfl rfl ?_
  refine V_getR (t := 60) o dX8_end_3 rfl fl_X8_47 rfl ?_
  refine V_getIE (v := nI (n)) o dX8_end_6 rfl fl_X8_234 rfl hX.1 ?_
  refine V_cSi o rt dX8_end_9 ms_X8_79 (c8_isWithin hf) rfl rfl (Nat.le_of_ble_eq_true rfl) rfl ?_
  refine V_if_ne (tgt := 17) o dX8_end_12 (by decide) (fun c_12 => ?_) (fun c_12 => False.elim (bz_0.mp c_12 (by rw [hk]; exact nI_rng hm (by omega))))
  refine V_aload_n o dX8_end_17 rfl rfl ?_
  refine V_getR (t := 60) o dX8_end_18 rfl fl_X8_47 rfl ?_
  refine V_iload_n o dX8_end_21 rfl rfl ?_
  refine V_cVv o rt dX8_end_22 ml_X8_218 (c5_shorten hf) rfl rfl rfl (Nat.le_of_ble_eq_true rfl) rfl ?_
  refine V_iconst (v := 1) o dX8_end_25 (by decide) ?_
  refine V_iret o rt dX8_end_26 rfl (by first | rfl | exact bz_z) ?_
  refine ⟨rfl, Off.rf.wI (by omega) (by omega), hK.tx hL (Off.rf.wI (by omega) (by omega)) ⟨wI_at.trans hk, by omega, fun j hj => ?_⟩⟩
  rw [wI_ne (by omega)]
  exact hX.2.2 j (by omega)
set_option maxRecDepth 20000 in
set_option maxHeartbeats 4000000 in
theorem c8_end_no {w : Wp} (hf : Fit sh0 w) {σ : Mm} {M : Nat → Int32} {L r n : Nat} {l : List Int64} {T : Nat → Int32} (hK : KR M L r l T n σ) (hF : Wf M L) (hB : Bo M) {k : Int32} (hk : ¬ inR k 0 (nI n)) : Ct sh0 w 1 mX8_end [.ref 1, .int k] σ (fun r' σ' => r' = some (.int 0) ∧ Off 1 67 σ σ' ∧ KR (M) (L) r (l) (T) (n) σ') := by
  have hL := hF.2.2.1
  have hW := hK.1
  have hX := hK.2.2.2.2.1
  refine Ct_of hf (by decide) rfl (Nat.le_of_ble_eq_true rfl) (fun x o rt => ?_)
  refine V_iload_n o dX8_end_0 rfl rfl ?_
  refine V_iconst (v := 0) o dX8_end_1 (by decide) ?_
  refine V_aload_n o dX8_end_2 rfl rfl ?_
  refine V_getR (t := 60) o dX8_end_3 rfl fl_X8_47 rfl ?_
  refine V_getIE (v := nI (n)) o dX8_end_6 rfl fl_X8_234 rfl hX.1 ?_
  refine V_cSi o rt dX8_end_9 ms_X8_79 (c8_isWithin hf) rfl rfl (Nat.le_of_ble_eq_true rfl) rfl ?_
  refine V_if_ne (tgt := 17) o dX8_end_12 (by decide) (fun c_12 => False.elim (hk (bz_n0.mp c_12))) (fun c_12 => ?_)
  refine V_iconst (v := 0) o dX8_end_15 (by decide) ?_
  refine V_iret o rt dX8_end_16 rfl (by first | rfl | exact bz_z) ?_
  exact ⟨rfl, Off.rf, hK⟩
set_option maxRecDepth 20000 in
set_option maxHeartbeats 4000000 in
theorem c8_told {w : Wp} (hf : Fit sh0 w) {σ : Mm} {M : Nat → Int32} {L r n : Nat} {l : List Int64} {T : Nat → Int32} (hK : KR M L r l T n σ) (hF : Wf M L) (hB : Bo M) {k : Int32} : Ct sh0 w 1 mX8_told [.ref 1, .int k] σ (fun r' σ' => r' = some (.int (toldR M k)) ∧ Off 1 67 σ σ' ∧ KR (M) (L) r (l) (T) (n) σ') := by
  have hL := hF.2.2.1
  have hW := hK.1
  refine Ct_of hf (by decide) rfl (Nat.le_of_ble_eq_true rfl) (fun x o rt => ?_)
  refine V_iload_n o dX8_told_0 rfl rfl ?_
  by_cases h0 : k = 0
  · refine V_tableIn (off := 43) (tgt := 44) o dX8_told_1 (by rw [h0]; decide) (by rw [h0]; decide) (by rw [h0]; decide) (by decide) ?_
    refine V_aload_n o dX8_told_44 rfl rfl ?_
    refine V_getR (t := 54) o dX8_told_45 rfl fl_X8_40 rfl ?_
    refine V_getI o dX8_told_48 rfl fl_X8_224 rfl ?_
    refine V_iret o rt dX8_told_51 rfl rfl ?_
    have e : toldR M k = M 7 := by rw [h0]; rfl
    exact ⟨by rw [e]; exact congrArg _ (congrArg _ (hK.2.2.1.2.1)), Off.rf, hK⟩
  by_cases h1 : k = 1
  · refine V_tableIn (off := 51) (tgt := 52) o dX8_told_1 (by rw [h1]; decide) (by rw [h1]; decide) (by rw [h1]; decide) (by decide) ?_
    refine V_aload_n o dX8_told_52 rfl rfl ?_
    refine V_getR (t := 2) o dX8_told_53 rfl fl_X8_10 rfl ?_
    refine V_getI o dX8_told_56 rfl fl_X8_302 rfl ?_
    refine V_iret o rt dX8_told_59 rfl rfl ?_
    have e : toldR M k = M 8 := by rw [h1]; rfl
    exact ⟨by rw [e]; exact congrArg _ (congrArg _ (hW.1.2.2.1)), Off.rf, hK⟩
  by_cases h2 : k = 2
  · refine V_tableIn (off := 59) (tgt := 60) o dX8_told_1 (by rw [h2]; decide) (by rw [h2]; decide) (by rw [h2]; decide) (by decide) ?_
    refine V_aload_n o dX8_told_60 rfl rfl ?_
    refine V_getR (t := 2) o dX8_told_61 rfl fl_X8_10 rfl ?_
    refine V_getI o dX8_told_64 rfl fl_X8_337 rfl ?_
    refine V_iret o rt dX8_told_67 rfl rfl ?_
    have e : toldR M k = M 9 := by rw [h2]; rfl
    exact ⟨by rw [e]; exact congrArg _ (congrArg _ (hW.1.2.2.2)), Off.rf, hK⟩
  by_cases h3 : k = 3
  · refine V_tableIn (off := 67) (tgt := 68) o dX8_told_1 (by rw [h3]; decide) (by rw [h3]; decide) (by rw [h3]; decide) (by decide) ?_
    refine V_aload_n o dX8_told_68 rfl rfl ?_
    refine V_getI o dX8_told_69 rfl fl_X8_162 rfl ?_
    refine V_iret o rt dX8_told_72 rfl rfl ?_
    have e : toldR M k = M 10 := by rw [h3]; rfl
    exact ⟨by rw [e]; exact congrArg _ (congrArg _ (hK.2.1.2.1)), Off.rf, hK⟩
  by_cases h4 : k = 4
  · refine V_tableIn (off := 72) (tgt := 73) o dX8_told_1 (by rw [h4]; decide) (by rw [h4]; decide) (by rw [h4]; decide) (by decide) ?_
    refine V_aload_n o dX8_told_73 rfl rfl ?_
    refine V_getI o dX8_told_74 rfl fl_X8_108 rfl ?_
    refine V_iret o rt dX8_told_77 rfl rfl ?_
    have e : toldR M k = M 11 := by rw [h4]; rfl
    exact ⟨by rw [e]; exact congrArg _ (congrArg _ (hK.2.1.2.2.1)), Off.rf, hK⟩
  by_cases h5 : k = 5
  · refine V_tableIn (off := 77) (tgt := 78) o dX8_told_1 (by rw [h5]; decide) (by rw [h5]; decide) (by rw [h5]; decide) (by decide) ?_
    refine V_aload_n o dX8_told_78 rfl rfl ?_
    refine V_getI o dX8_told_79 rfl fl_X8_111 rfl ?_
    refine V_iret o rt dX8_told_82 rfl rfl ?_
    have e : toldR M k = M 12 := by rw [h5]; rfl
    exact ⟨by rw [e]; exact congrArg _ (congrArg _ (hK.2.1.2.2.2)), Off.rf, hK⟩
  by_cases h6 : k = 6
  · refine V_tableIn (off := 82) (tgt := 83) o dX8_told_1 (by rw [h6]; decide) (by rw [h6]; decide) (by rw [h6]; decide) (by decide) ?_
    refine V_aload_n o dX8_told_83 rfl rfl ?_
    refine V_getI o dX8_told_84 rfl fl_X8_126 rfl ?_
    refine V_iret o rt dX8_told_87 rfl rfl ?_
    have e : toldR M k = M 13 := by rw [h6]; rfl
    exact ⟨by rw [e]; exact congrArg _ (congrArg _ (hK.2.1.1)), Off.rf, hK⟩
  refine V_tableOut (tgt := 88) o dX8_told_1 (tIo7 h0 h1 h2 h3 h4 h5 h6) (by decide) ?_
  refine V_iconst (v := -1) o dX8_told_88 (by decide) ?_
  refine V_iret o rt dX8_told_89 rfl rfl ?_
  refine ⟨?_, Off.rf, hK⟩
  rw [toldR, if_neg (fun q => ?_)]
  have hx := inR_nI (N := 6) (by omega) q
  have : ix k = 0 ∨ ix k = 1 ∨ ix k = 2 ∨ ix k = 3 ∨ ix k = 4 ∨ ix k = 5 ∨ ix k = 6 := by omega
  rcases this with e | e | e | e | e | e | e
  · exact h0 (by rw [hx.1, e]; rfl)
  · exact h1 (by rw [hx.1, e]; rfl)
  · exact h2 (by rw [hx.1, e]; rfl)
  · exact h3 (by rw [hx.1, e]; rfl)
  · exact h4 (by rw [hx.1, e]; rfl)
  · exact h5 (by rw [hx.1, e]; rfl)
  · exact h6 (by rw [hx.1, e]; rfl)
theorem cntO_pm {M : Nat → Int32} (hB : Bo M) {L : Nat} (hL : L ≤ 4) (hLv : LvA M L) : cntO M (-2) = pmM M := by
  unfold cntO pmM
  refine itr_congr _ _ _ (fun t n h1 h2 => ?_)
  unfold pmF
  congr 1
  refine bz_congr ⟨fun q => ⟨q.1, ?_⟩, fun q => ⟨q.1, by unfold cLv; rw [if_pos q.2]⟩⟩
  refine (hB t (by omega)).2.2.resolve_left (fun e => ?_)
  have h3 := (cLv_0 e).symm.trans q.2
  rcases hLv t (by omega) ⟨q.1, e⟩ with h | ⟨j, hj, h⟩
  · rw [h] at h3; exact absurd h3 (by decide)
  · rw [h] at h3
    exact nI_ne_m2 (k := j) (by omega) h3
theorem cntO_fm {M : Nat → Int32} (hB : Bo M) : cntO M (-1) = fmM M := by
  unfold cntO fmM
  refine itr_congr _ _ _ (fun t n h1 h2 => ?_)
  unfold fmF
  congr 1
  refine bz_congr ⟨fun q => ?_, fun q => ⟨q.1.1, (cLv_0 q.1.2).trans q.2⟩⟩
  have := cLv_at (hB t (by omega)).2.2 q.2 (by decide)
  exact ⟨⟨q.1, this.1⟩, this.2⟩
theorem cnt_size {M : Nat → Int32} {L m : Nat} (hF : Wf M L) (hZ : Z0 M L) (hm : m < 4) : countR M L 0 0 (nI (10 + m)) = M (1 + m) := by
  have h1 : inR (nI (10 + m)) 10 13 := ⟨nI_le (a := 10) (by omega) (by omega), nI_le (b := 13) (by omega) (by omega)⟩
  unfold countR
  rw [if_pos h1, ix_nI (by omega), show 10 + m - 10 = m by omega, hF.1]
  have e : nI (10 + m) - 10 = nI m := by rw [Nat.add_comm, ← nI_add]; exact Int32.add_sub_cancel _ _
  rw [e]
  have hL := hF.2.2.1
  by_cases q : m < L
  · rw [if_pos (nI_lt q (by omega))]
  · rw [if_neg (fun h => q ((nI_ltI (by omega) (by omega)).mp h)), hZ m (by omega) hm]
theorem countR_10 {M : Nat → Int32} {L : Nat} {a b c d k : Int32} (h : inR k 10 13) : countR M L a b k = countR M L c d k := by
  unfold countR
  rw [if_pos h, if_pos h]
theorem countR_lo {M : Nat → Int32} {L : Nat} {a b : Int32} : countR M L a b 0 = M 6 ∧ countR M L a b 1 = M 0 ∧ countR M L a b 2 = spanM M L ∧ countR M L a b 3 = manyM M ∧ countR M L a b 4 = pmM M ∧ countR M L a b 5 = fmM M ∧ countR M L a b 6 = M 5 ∧ countR M L a b 7 = M 14 ∧ countR M L a b 8 = a ∧ countR M L a b 9 = b := by
  refine ⟨?_, ?_, ?_, ?_, ?_, ?_, ?_, ?_, ?_, ?_⟩ <;> rfl
set_option maxRecDepth 20000 in
set_option maxHeartbeats 4000000 in
theorem c8_count {w : Wp} (hf : Fit sh0 w) {σ : Mm} {M : Nat → Int32} {L r n : Nat} {l : List Int64} {T : Nat → Int32} (hK : KR M L r l T n σ) (hF : Wf M L) (hB : Bo M) (hZ : Z0 M L) (hLv : LvA M L) (hr : M 14 = nI r) {k : Int32} : Ct sh0 w 2 mX8_count [.ref 1, .int k] σ (fun r' σ' => r' = some (.int (countR M L (nI l.length) (nI n) k)) ∧ Off 1 67 σ σ' ∧ KR (M) (L) r (l) (T) (n) σ') := by
  have hL := hF.2.2.1
  have hW := hK.1
  refine Ct_of hf (by decide) rfl (Nat.le_of_ble_eq_true rfl) (fun x o rt => ?_)
  refine V_iload_n o dX8_count_0 rfl rfl ?_
  by_cases h0 : k = 0
  · refine V_tableIn (off := 55) (tgt := 56) o dX8_count_1 (by rw [h0]; decide) (by rw [h0]; decide) (by rw [h0]; decide) (by decide) ?_
    refine V_aload_n o dX8_count_56 rfl rfl ?_
    refine V_getR (t := 2) o dX8_count_57 rfl fl_X8_10 rfl ?_
    refine V_getI o dX8_count_60 rfl fl_X8_123 rfl ?_
    refine V_iret o rt dX8_count_63 rfl rfl ?_
    have e := (countR_lo (M := M) (L := L) (a := nI l.length) (b := nI n)).1
    exact ⟨by rw [h0, e]; exact congrArg _ (congrArg _ hW.1.1), Off.rf, hK⟩
  by_cases h1 : k = 1
  · refine V_tableIn (off := 63) (tgt := 64) o dX8_count_1 (by rw [h1]; decide) (by rw [h1]; decide) (by rw [h1]; decide) (by decide) ?_
    refine V_aload_n o dX8_count_64 rfl rfl ?_
    refine V_getR (t := 2) o dX8_count_65 rfl fl_X8_10 rfl ?_
    refine V_getR (t := 3) o dX8_count_68 rfl fl_X8_62 rfl ?_
    refine V_getI o dX8_count_71 rfl fl_X8_75 rfl ?_
    refine V_iret o rt dX8_count_74 rfl rfl ?_
    have e := (countR_lo (M := M) (L := L) (a := nI l.length) (b := nI n)).2.1
    exact ⟨by rw [h1, e]; exact congrArg _ (congrArg _ (hW.2.1.1.trans hF.1.symm)), Off.rf, hK⟩
  by_cases h2 : k = 2
  · refine V_tableIn (off := 74) (tgt := 75) o dX8_count_1 (by rw [h2]; decide) (by rw [h2]; decide) (by rw [h2]; decide) (by decide) ?_
    refine V_aload_n o dX8_count_75 rfl rfl ?_
    refine V_getR (t := 2) o dX8_count_76 rfl fl_X8_10 rfl ?_
    refine V_getR (t := 3) o dX8_count_79 rfl fl_X8_62 rfl ?_
    refine V_getI o dX8_count_82 rfl fl_X8_340 rfl ?_
    refine V_iret o rt dX8_count_85 rfl rfl ?_
    have e := (countR_lo (M := M) (L := L) (a := nI l.length) (b := nI n)).2.2.1
    exact ⟨by rw [h2, e]; exact congrArg _ (congrArg _ hW.2.1.2.1), Off.rf, hK⟩
  by_cases h3 : k = 3
  · refine V_tableIn (off := 85) (tgt := 86) o dX8_count_1 (by rw [h3]; decide) (by rw [h3]; decide) (by rw [h3]; decide) (by decide) ?_
    refine V_aload_n o dX8_count_86 rfl rfl ?_
    refine V_getR (t := 2) o dX8_count_87 rfl fl_X8_10 rfl ?_
    refine V_cVi o rt dX8_count_90 ml_X8_165 (c7_countSet hf hW hB rfl) rfl rfl rfl (Nat.le_of_ble_eq_true rfl) rfl ?_
    refine V_iret o rt dX8_count_93 rfl rfl ?_
    have e := (countR_lo (M := M) (L := L) (a := nI l.length) (b := nI n)).2.2.2.1
    exact ⟨by rw [h3, e], Off.rf, hK⟩
  by_cases h4 : k = 4
  · refine V_tableIn (off := 93) (tgt := 94) o dX8_count_1 (by rw [h4]; decide) (by rw [h4]; decide) (by rw [h4]; decide) (by decide) ?_
    refine V_aload_n o dX8_count_94 rfl rfl ?_
    refine V_getR (t := 2) o dX8_count_95 rfl fl_X8_10 rfl ?_
    refine V_bipush (v := -2) o dX8_count_98 (by decide) ?_
    refine V_cVi o rt dX8_count_100 ml_X8_343 (c7_countOn hf hW hB rfl) rfl rfl rfl (Nat.le_of_ble_eq_true rfl) rfl ?_
    refine V_iret o rt dX8_count_103 rfl rfl ?_
    have e := (countR_lo (M := M) (L := L) (a := nI l.length) (b := nI n)).2.2.2.2.1
    exact ⟨by rw [h4, e]; exact congrArg _ (congrArg _ (cntO_pm hB hL hLv)), Off.rf, hK⟩
  by_cases h5 : k = 5
  · refine V_tableIn (off := 103) (tgt := 104) o dX8_count_1 (by rw [h5]; decide) (by rw [h5]; decide) (by rw [h5]; decide) (by decide) ?_
    refine V_aload_n o dX8_count_104 rfl rfl ?_
    refine V_getR (t := 2) o dX8_count_105 rfl fl_X8_10 rfl ?_
    refine V_iconst (v := -1) o dX8_count_108 (by decide) ?_
    refine V_cVi o rt dX8_count_109 ml_X8_343 (c7_countOn hf hW hB rfl) rfl rfl rfl (Nat.le_of_ble_eq_true rfl) rfl ?_
    refine V_iret o rt dX8_count_112 rfl rfl ?_
    have e := (countR_lo (M := M) (L := L) (a := nI l.length) (b := nI n)).2.2.2.2.2.1
    exact ⟨by rw [h5, e]; exact congrArg _ (congrArg _ (cntO_fm hB)), Off.rf, hK⟩
  by_cases h6 : k = 6
  · refine V_tableIn (off := 112) (tgt := 113) o dX8_count_1 (by rw [h6]; decide) (by rw [h6]; decide) (by rw [h6]; decide) (by decide) ?_
    refine V_aload_n o dX8_count_113 rfl rfl ?_
    refine V_getR (t := 2) o dX8_count_114 rfl fl_X8_10 rfl ?_
    refine V_getI o dX8_count_117 rfl fl_X8_83 rfl ?_
    refine V_iret o rt dX8_count_120 rfl rfl ?_
    have e := (countR_lo (M := M) (L := L) (a := nI l.length) (b := nI n)).2.2.2.2.2.2.1
    exact ⟨by rw [h6, e]; exact congrArg _ (congrArg _ hW.1.2.1), Off.rf, hK⟩
  by_cases h7 : k = 7
  · refine V_tableIn (off := 120) (tgt := 121) o dX8_count_1 (by rw [h7]; decide) (by rw [h7]; decide) (by rw [h7]; decide) (by decide) ?_
    refine V_aload_n o dX8_count_121 rfl rfl ?_
    refine V_getR (t := 54) o dX8_count_122 rfl fl_X8_40 rfl ?_
    refine V_getI o dX8_count_125 rfl fl_X8_346 rfl ?_
    refine V_iret o rt dX8_count_128 rfl rfl ?_
    have e := (countR_lo (M := M) (L := L) (a := nI l.length) (b := nI n)).2.2.2.2.2.2.2.1
    exact ⟨by rw [h7, e]; exact congrArg _ (congrArg _ (hK.2.2.1.1.trans hr.symm)), Off.rf, hK⟩
  by_cases h8 : k = 8
  · refine V_tableIn (off := 128) (tgt := 129) o dX8_count_1 (by rw [h8]; decide) (by rw [h8]; decide) (by rw [h8]; decide) (by decide) ?_
    refine V_aload_n o dX8_count_129 rfl rfl ?_
    refine V_getR (t := 52) o dX8_count_130 rfl fl_X8_33 rfl ?_
    refine V_getI o dX8_count_133 rfl fl_X8_260 rfl ?_
    refine V_iret o rt dX8_count_136 rfl rfl ?_
    have e := (countR_lo (M := M) (L := L) (a := nI l.length) (b := nI n)).2.2.2.2.2.2.2.2.1
    exact ⟨by rw [h8, e]; exact congrArg _ (congrArg _ hK.2.2.2.1.1), Off.rf, hK⟩
  by_cases h9 : k = 9
  · refine V_tableIn (off := 136) (tgt := 137) o dX8_count_1 (by rw [h9]; decide) (by rw [h9]; decide) (by rw [h9]; decide) (by decide) ?_
    refine V_aload_n o dX8_count_137 rfl rfl ?_
    refine V_getR (t := 60) o dX8_count_138 rfl fl_X8_47 rfl ?_
    refine V_getI o dX8_count_141 rfl fl_X8_234 rfl ?_
    refine V_iret o rt dX8_count_144 rfl rfl ?_
    have e := (countR_lo (M := M) (L := L) (a := nI l.length) (b := nI n)).2.2.2.2.2.2.2.2.2
    exact ⟨by rw [h9, e]; exact congrArg _ (congrArg _ hK.2.2.2.2.1.1), Off.rf, hK⟩
  refine V_tableOut (tgt := 145) o dX8_count_1 (tIo10 h0 h1 h2 h3 h4 h5 h6 h7 h8 h9) (by decide) ?_
  refine V_iload_n o dX8_count_145 rfl rfl ?_
  refine V_bipush (v := 10) o dX8_count_146 (by decide) ?_
  refine V_bipush (v := 13) o dX8_count_148 (by decide) ?_
  refine V_cSi o rt dX8_count_150 ms_X8_79 (c8_isWithin hf) rfl rfl (Nat.le_of_ble_eq_true rfl) rfl ?_
  refine V_if_eq (tgt := 173) o dX8_count_153 (by decide) (fun c_153 => ?_) (fun c_153 => ?_)
  · refine V_iconst (v := -1) o dX8_count_173 (by decide) ?_
    refine V_iret o rt dX8_count_174 rfl rfl ?_
    have hn := bz_0.mp c_153
    exact ⟨by rw [countR, if_neg hn, if_neg h0, if_neg h1, if_neg h2, if_neg h3, if_neg h4, if_neg h5, if_neg h6, if_neg h7, if_neg h8, if_neg h9], Off.rf, hK⟩
  · obtain ⟨m, hm, hm2⟩ : ∃ m, m < 4 ∧ k = nI (10 + m) := by
      obtain ⟨s, e, g1, g2⟩ := i32_rng (lo := 10) (hi := 13) (by omega) (bz_n0.mp c_153).1 (bz_n0.mp c_153).2 (by omega)
      exact ⟨s - 10, by omega, by rw [show 10 + (s - 10) = s by omega]; exact e⟩
    refine V_aload_n o dX8_count_156 rfl rfl ?_
    refine V_getR (t := 2) o dX8_count_157 rfl fl_X8_10 rfl ?_
    refine V_getR (t := 3) o dX8_count_160 rfl fl_X8_62 rfl ?_
    refine V_iload_n o dX8_count_163 rfl rfl ?_
    refine V_bipush (v := 10) o dX8_count_164 (by decide) ?_
    refine V_isub o dX8_count_166 ?_
    refine V_topI (v' := nI m) (by rw [hm2, Nat.add_comm, ← nI_add]; exact Int32.add_sub_cancel _ _) ?_
    refine V_cVi o rt dX8_count_167 ml_X8_253 (c4_sizeOf_3 hf hW.2.1 hL hm) rfl rfl rfl (Nat.le_of_ble_eq_true rfl) rfl ?_
    refine V_goto (tgt := 174) o dX8_count_170 (by decide) ?_
    refine V_iret o rt dX8_count_174 rfl rfl ?_
    exact ⟨by rw [countR_10 (c := 0) (d := 0) (bz_n0.mp c_153), hm2, cnt_size hF hZ hm], Off.rf, hK⟩
set_option maxRecDepth 20000 in
set_option maxHeartbeats 4000000 in
theorem c8_moves_no {w : Wp} (hf : Fit sh0 w) {σ : Mm} {M : Nat → Int32} {L r n : Nat} {l : List Int64} {T : Nat → Int32} (hK : KR M L r l T n σ) (hF : Wf M L) (hB : Bo M) {k : Int32} (hT : ¬ isTm M k) : Ct sh0 w 3 mX8_moves [.ref 1, .int k] σ (fun r' σ' => r' = some (.int (-1)) ∧ Off 1 67 σ σ' ∧ KR (M) (L) r (l) (T) (n) σ') := by
  rcases fnd3 hB k with hk | ⟨t, ht, rfl, hT0⟩ | ⟨t, ht, rfl, hT0⟩
  · refine Ct_of hf (by decide) rfl (Nat.le_of_ble_eq_true rfl) (fun x o rt => ?_)
    refine V_aload_n o dX8_moves_0 rfl rfl ?_
    refine V_getR (t := 2) o dX8_moves_1 rfl fl_X8_10 rfl ?_
    refine V_iload_n o dX8_moves_4 rfl rfl ?_
    refine V_cVn o rt dX8_moves_5 ml_X8_154 (c7_find_out_2 hf hk) rfl rfl rfl (Nat.le_of_ble_eq_true rfl) rfl ?_
    refine V_astore_nN (ls' := [(2, _), (0, _), (1, _)]) o dX8_moves_8 rfl (by decide) rfl ?_
    refine V_aload_nN o dX8_moves_9 rfl rfl ?_
    refine V_ifnonnull_n o dX8_moves_10 ?_
    refine V_iconst (v := -1) o dX8_moves_13 (by decide) ?_
    refine V_iret o rt dX8_moves_14 rfl rfl ?_
    exact ⟨rfl, Off.rf, hK⟩
  · refine Ct_of hf (by decide) rfl (Nat.le_of_ble_eq_true rfl) (fun x o rt => ?_)
    refine V_aload_n o dX8_moves_0 rfl rfl ?_
    refine V_getR (t := 2) o dX8_moves_1 rfl fl_X8_10 rfl ?_
    refine V_iload_n o dX8_moves_4 rfl rfl ?_
    refine V_cVn o rt dX8_moves_5 ml_X8_154 (c7_find_n_2 hf hK.1 ht hT0) rfl rfl rfl (Nat.le_of_ble_eq_true rfl) rfl ?_
    refine V_astore_nN (ls' := [(2, _), (0, _), (1, _)]) o dX8_moves_8 rfl (by decide) rfl ?_
    refine V_aload_nN o dX8_moves_9 rfl rfl ?_
    refine V_ifnonnull_n o dX8_moves_10 ?_
    refine V_iconst (v := -1) o dX8_moves_13 (by decide) ?_
    refine V_iret o rt dX8_moves_14 rfl rfl ?_
    exact ⟨rfl, Off.rf, hK⟩
  · exact absurd (isTm_t ht hT0) hT
set_option maxRecDepth 20000 in
set_option maxHeartbeats 4000000 in
theorem c8_moves_pa {w : Wp} (hf : Fit sh0 w) {σ : Mm} {M : Nat → Int32} {L r n : Nat} {l : List Int64} {T : Nat → Int32} (hK : KR M L r l T n σ) (hF : Wf M L) (hB : Bo M) {t : Nat} (ht : t < 16) (hT : isT M t) (hp : M (343 + t) = 1) : Ct sh0 w 3 mX8_moves [.ref 1, .int (nI t)] σ (fun r' σ' => r' = some (.int (-2)) ∧ Off 1 67 σ σ' ∧ KR (M) (L) r (l) (T) (n) σ') := by
  have hL := hF.2.2.1
  have hW := hK.1
  refine Ct_of hf (by decide) rfl (Nat.le_of_ble_eq_true rfl) (fun x o rt => ?_)
  refine V_aload_n o dX8_moves_0 rfl rfl ?_
  refine V_getR (t := 2) o dX8_moves_1 rfl fl_X8_10 rfl ?_
  refine V_iload_n o dX8_moves_4 rfl rfl ?_
  refine V_cVr o rt dX8_moves_5 ml_X8_154 (c7_find_2 hf hW ht hT) rfl rfl rfl (Nat.le_of_ble_eq_true rfl) rfl ?_
  refine V_astore_n (ls' := [(2, _), (0, _), (1, _)]) o dX8_moves_8 rfl (by decide) rfl ?_
  refine V_aload_n o dX8_moves_9 rfl rfl ?_
  refine V_ifnonnull_r (tgt := 15) o dX8_moves_10 (by decide) ?_
  refine V_aload_n o dX8_moves_15 rfl rfl ?_
  refine V_getI o dX8_moves_16 (kT9 t ht) fl_X8_171 (rT9 ht) ?_
  refine V_topI (v' := M (343 + t)) (hW.2.2 t ht).pau ?_
  refine V_if_eq (tgt := 27) o dX8_moves_19 (by decide) (fun c_19 => False.elim (absurd (hp.symm.trans c_19) (by decide))) (fun c_19 => ?_)
  refine V_bipush (v := -2) o dX8_moves_22 (by decide) ?_
  refine V_goto (tgt := 45) o dX8_moves_24 (by decide) ?_
  refine V_iret o rt dX8_moves_45 rfl rfl ?_
  exact ⟨rfl, Off.rf, hK⟩
set_option maxRecDepth 20000 in
set_option maxHeartbeats 4000000 in
theorem c8_moves {w : Wp} (hf : Fit sh0 w) {σ : Mm} {M : Nat → Int32} {L r n : Nat} {l : List Int64} {T : Nat → Int32} (hK : KR M L r l T n σ) (hF : Wf M L) (hB : Bo M) {t : Nat} (ht : t < 16) (hT : isT M t) (hp : M (343 + t) = 0) (hlv : LvOk L (M (391 + t))) {WL : List (Int32 × Int32)} (hWL : wyL M L (M (231 + t)) 5 (M (391 + t)) = WL) : Ct sh0 w 3 mX8_moves [.ref 1, .int (nI t)] σ (fun r' σ' => r' = some (.int (nI WL.length)) ∧ Off 1 67 σ σ' ∧ KR (M) (L) r (l) (T) (n) σ') := by
  have hL := hF.2.2.1
  have hW := hK.1
  refine Ct_of hf (by decide) rfl (Nat.le_of_ble_eq_true rfl) (fun x o rt => ?_)
  refine V_aload_n o dX8_moves_0 rfl rfl ?_
  refine V_getR (t := 2) o dX8_moves_1 rfl fl_X8_10 rfl ?_
  refine V_iload_n o dX8_moves_4 rfl rfl ?_
  refine V_cVr o rt dX8_moves_5 ml_X8_154 (c7_find_2 hf hW ht hT) rfl rfl rfl (Nat.le_of_ble_eq_true rfl) rfl ?_
  refine V_astore_n (ls' := [(2, _), (0, _), (1, _)]) o dX8_moves_8 rfl (by decide) rfl ?_
  refine V_aload_n o dX8_moves_9 rfl rfl ?_
  refine V_ifnonnull_r (tgt := 15) o dX8_moves_10 (by decide) ?_
  refine V_aload_n o dX8_moves_15 rfl rfl ?_
  refine V_getI o dX8_moves_16 (kT9 t ht) fl_X8_171 (rT9 ht) ?_
  refine V_topI (v' := M (343 + t)) (hW.2.2 t ht).pau ?_
  refine V_if_eq (tgt := 27) o dX8_moves_19 (by decide) (fun c_19 => ?_) (fun c_19 => False.elim (c_19 hp))
  refine V_aload_n o dX8_moves_27 rfl rfl ?_
  refine V_getR (t := 2) o dX8_moves_28 rfl fl_X8_10 rfl ?_
  refine V_getR (t := 3) o dX8_moves_31 rfl fl_X8_62 rfl ?_
  refine V_aload_n o dX8_moves_34 rfl rfl ?_
  refine V_getI o dX8_moves_35 (kT9 t ht) fl_X8_238 (rT9 ht) ?_
  refine V_topI (v' := M (391 + t)) (((hW.2.2 t ht).2.2 c_19).1) ?_
  refine V_aload_n o dX8_moves_38 rfl rfl ?_
  refine V_getI o dX8_moves_39 (kT9 t ht) fl_X8_183 (rT9 ht) ?_
  refine V_topI (v' := M (231 + t)) (hW.2.2 t ht).due ?_
  refine V_cVi o rt dX8_moves_42 ml_X8_275 (c4_movesFrom_3 hf hW.2.1 hF hlv hWL) rfl rfl rfl (Nat.le_of_ble_eq_true rfl) rfl ?_
  refine V_iret o rt dX8_moves_45 rfl rfl ?_
  exact ⟨rfl, Off.rf, hK⟩
set_option maxRecDepth 20000 in
set_option maxHeartbeats 4000000 in
theorem c8_group {w : Wp} (hf : Fit sh0 w) {σ : Mm} {M : Nat → Int32} {L r n : Nat} {l : List Int64} {T : Nat → Int32} (hK : KR M L r l T n σ) (hF : Wf M L) (hB : Bo M) {k : Int32} (hk : inR k 0 7) {G : List Nat} (hG0 : gpL M k = G) : Ct sh0 w 2 mX8_group [.ref 1, .int k] σ (fun r' σ' => r' = some (.int (nI G.length)) ∧ Off 1 67 σ σ' ∧ KR (M) (L) r (rowN G) (T) (n) σ') := by
  have hL := hF.2.2.1
  have hW := hK.1
  unfold gpL at hG0
  refine Ct_of hf (by decide) rfl (Nat.le_of_ble_eq_true rfl) (fun x o rt => ?_)
  have loop : ∀ m t (τ : Mm) (g : List Nat), t + m = 16 → g.length ≤ t → Off 52 54 σ τ → RwC (rowN g) τ → itr (gpF M k) t m g = G → V sh0 w x mX8_group (0, 0) 18 [(2, .int (nI t)), (0, .ref 1), (1, .int k)] [] τ := by
    intro m
    induction m with
    | zero =>
      intro t τ g htn hgt ho hR1 hR
      have h16 : t = 16 := by omega
      have hs : g = G := hR
      subst hs
      have hlen : (rowN g).length = g.length := by simp [rowN]
      refine V_iload_n o dX8_group_18 rfl rfl ?_
      refine V_bipush (v := 16) o dX8_group_19 (by decide) ?_
      refine V_icmp_ge (tgt := 60) o dX8_group_21 (by decide) (fun c_21 => ?_) (fun c_21 => False.elim (c_21 (by rw [h16]; decide)))
      refine V_aload_n o dX8_group_60 rfl rfl ?_
      refine V_getR (t := 52) o dX8_group_61 rfl fl_X8_33 rfl ?_
      refine V_getIE (v := nI (g.length)) o dX8_group_64 rfl fl_X8_260 rfl (hR1.1.trans (by rw [hlen])) ?_
      refine V_iret o rt dX8_group_67 rfl rfl ?_
      exact ⟨rfl, ho.wd (by omega) (by omega), hK.rw hL ho hR1⟩
    | succ m ih =>
      intro t τ g htn hgt ho hR1 hR
      have ht : t < 16 := by omega
      have hWt := (hW.off (lo := 52) (hi := 54) hL (fun _ _ _ => rfl) ho (by omega))
      have hlen : (rowN g).length = g.length := by simp [rowN]
      rw [itr_succ, gpF] at hR
      refine V_iload_n o dX8_group_18 rfl rfl ?_
      refine V_bipush (v := 16) o dX8_group_19 (by decide) ?_
      refine V_icmp_ge (tgt := 60) o dX8_group_21 (by decide) (fun c_21 => False.elim (absurd c_21 (nI_ge (b := 16) (by omega) (by omega)))) (fun c_21 => ?_)
      refine V_aload_n o dX8_group_24 rfl rfl ?_
      refine V_getR (t := 2) o dX8_group_25 rfl fl_X8_10 rfl ?_
      refine V_iload_n o dX8_group_28 rfl rfl ?_
      rcases (hB t ht).1 with hG0 | hG
      · refine V_cVn o rt dX8_group_29 ml_X8_154 (c7_find_n_2 hf hWt ht hG0) rfl rfl rfl (Nat.le_of_ble_eq_true rfl) rfl ?_
        refine V_astore_nN (ls' := [(3, _), (2, _), (0, _), (1, _)]) o dX8_group_32 rfl (by decide) rfl ?_
        refine V_aload_nN o dX8_group_33 rfl rfl ?_
        refine V_ifnull_n (tgt := 54) o dX8_group_34 (by decide) ?_
        refine V_iincV (v := nI (t + 1)) (ls' := [(2, _), (3, _), (0, _), (1, _)]) o dX8_group_54 rfl (ninc 1 rfl) (by decide) rfl ?_
        refine V_goto (tgt := 18) o dX8_group_57 (by decide) ?_
        rw [if_neg (fun q => absurd (hG0.symm.trans q.1) (by decide))] at hR
        exact V_sub (by simp) (ih (t + 1) τ g (by omega) (by omega) ho hR1 hR)
      · refine V_cVr o rt dX8_group_29 ml_X8_154 (c7_find_2 hf hWt ht hG) rfl rfl rfl (Nat.le_of_ble_eq_true rfl) rfl ?_
        refine V_astore_n (ls' := [(3, _), (2, _), (0, _), (1, _)]) o dX8_group_32 rfl (by decide) rfl ?_
        refine V_aload_n o dX8_group_33 rfl rfl ?_
        refine V_ifnull_r o dX8_group_34 ?_
        refine V_aload_n o dX8_group_37 rfl rfl ?_
        refine V_getI o dX8_group_38 (kT9 t ht) fl_X8_135 (rT9 ht) ?_
        refine V_topI (v' := M (263 + t)) (hWt.2.2 t ht).grp ?_
        refine V_iload_n o dX8_group_41 rfl rfl ?_
        refine V_icmp_ne (tgt := 54) o dX8_group_42 (by decide) (fun c_42 => ?_) (fun c_42 => ?_)
        · refine V_iincV (v := nI (t + 1)) (ls' := [(2, _), (3, _), (0, _), (1, _)]) o dX8_group_54 rfl (ninc 1 rfl) (by decide) rfl ?_
          refine V_goto (tgt := 18) o dX8_group_57 (by decide) ?_
          rw [if_neg (fun q => c_42 q.2)] at hR
          exact V_sub (by simp) (ih (t + 1) τ g (by omega) (by omega) ho hR1 hR)
        · refine V_aload_n o dX8_group_45 rfl rfl ?_
          refine V_getR (t := 52) o dX8_group_46 rfl fl_X8_33 rfl ?_
          refine V_iload_n o dX8_group_49 rfl rfl ?_
          refine V_i2l o dX8_group_50 ?_
          refine V_callV o rt dX8_group_51 ml_X8_210 (c3_put hf hR1 (by omega)) rfl rfl rfl (Nat.le_of_ble_eq_true rfl) rfl (fun r_51 σ_51 q_51 => ?_)
          obtain ⟨rfl, hp_51, hR_51⟩ := q_51
          show V sh0 w x mX8_group (0, 0) _ _ [] _
          refine V_iincV (v := nI (t + 1)) (ls' := [(2, _), (3, _), (0, _), (1, _)]) o dX8_group_54 rfl (ninc 1 rfl) (by decide) rfl ?_
          refine V_goto (tgt := 18) o dX8_group_57 (by decide) ?_
          rw [if_pos ⟨hG, c_42⟩] at hR
          exact V_sub (by simp) (ih (t + 1) σ_51 (g ++ [t]) (by omega) (by rw [List.length_append]; simp; omega) (ho.tr hp_51) (by rw [rowN, List.map_append]; exact hR_51) hR)
  refine V_iload_n o dX8_group_0 rfl rfl ?_
  refine V_cSi o rt dX8_group_1 ms_X8_115 (c8_isGroup hf) rfl rfl (Nat.le_of_ble_eq_true rfl) rfl ?_
  refine V_if_ne (tgt := 9) o dX8_group_4 (by decide) (fun c_4 => ?_) (fun c_4 => False.elim (bz_0.mp c_4 hk))
  refine V_aload_n o dX8_group_9 rfl rfl ?_
  refine V_getR (t := 52) o dX8_group_10 rfl fl_X8_33 rfl ?_
  refine V_callV o rt dX8_group_13 ml_X8_209 (c3_empty hf) rfl rfl rfl (Nat.le_of_ble_eq_true rfl) rfl (fun r_13 σ_13 q_13 => ?_)
  obtain ⟨rfl, ho_13, hR_13⟩ := q_13
  show V sh0 w x mX8_group (0, 0) _ _ [] _
  refine V_iconst (v := 0) o dX8_group_16 (by decide) ?_
  refine V_istore_n (ls' := [(2, _), (0, _), (1, _)]) o dX8_group_17 rfl (by decide) rfl ?_
  exact V_sub (by simp; rfl) (loop 16 0 σ_13 [] (by omega) (by simp) ho_13 hR_13 hG0)
set_option maxRecDepth 20000 in
set_option maxHeartbeats 4000000 in
theorem c8_group_no {w : Wp} (hf : Fit sh0 w) {σ : Mm} {M : Nat → Int32} {L r n : Nat} {l : List Int64} {T : Nat → Int32} (hK : KR M L r l T n σ) (hF : Wf M L) (hB : Bo M) {k : Int32} (hk : ¬ inR k 0 7) : Ct sh0 w 2 mX8_group [.ref 1, .int k] σ (fun r' σ' => r' = some (.int (-1)) ∧ Off 1 67 σ σ' ∧ KR (M) (L) r (l) (T) (n) σ') := by
  refine Ct_of hf (by decide) rfl (Nat.le_of_ble_eq_true rfl) (fun x o rt => ?_)
  refine V_iload_n o dX8_group_0 rfl rfl ?_
  refine V_cSi o rt dX8_group_1 ms_X8_115 (c8_isGroup hf) rfl rfl (Nat.le_of_ble_eq_true rfl) rfl ?_
  refine V_if_ne (tgt := 9) o dX8_group_4 (by decide) (fun c_4 => False.elim (hk (bz_n0.mp c_4))) (fun c_4 => ?_)
  refine V_iconst (v := -1) o dX8_group_7 (by decide) ?_
  refine V_iret o rt dX8_group_8 rfl rfl ?_
  exact ⟨rfl, Off.rf, hK⟩
