section
set_option maxRecDepth 20000 in
set_option maxHeartbeats 4000000 in
theorem p_sign {w : Wp} (hf : Fit sh0 w) {k : Nat} {σ : Mm} (hS : St k σ) (hk : k < 512) {v : Int32} : Pr w k 1 0 mX8_sign mX9_sign [.int v] σ := by
  obtain ⟨M, L, r, n, l, hJ, hK, hX⟩ := hS
  have hC := hJ.cv
  have hF := hC.1.1
  have hB := hC.2.1
  have hn : n ≤ 100 := hK.2.2.2.2.1.2.1
  by_cases h96 : n ≤ 96
  · obtain ⟨T2, hT2⟩ : ∃ T2, itr (sgF v n) 0 4 (σ.1 69) = T2 := ⟨_, rfl⟩
    exact Pr_of hX (hJ.st hk) (c8_sign hf hK hF hB h96 hT2) (fun σ1 a e => ⟨_, c9_sign (σ := σ1) (d := 0) (M := M) (F := T2) hf a.2.2.2.2 h96 (by rw [e]; exact hT2), fun r2 σ2 q => by
    obtain ⟨rfl, rfl⟩ := q
    exact ⟨rfl, _, _, rfl, fun _ _ => rfl, by repeat first | exact Off.rf | refine o_I ?_ | refine o_Rw ?_ | refine o_Ln ?_ | refine o_Hd ?_ | refine o_Wy ?_ | refine o_Wi ?_ | refine o_Co ?_ | refine o_Bg ?_ | refine o_Ps ?_ | refine o_Tp ?_, (by first | exact a.2.1 | rfl), a.2.2.1, a.2.2.2.1, rfl, fun j _ => rfl⟩⟩)
  · exact Pr_of hX (hJ.st hk) (c8_sign_no hf hK hF hB (by omega)) (fun σ1 a e => ⟨_, c9_sign_no (σ := σ1) (d := 0) (M := M) hf a.2.2.2.2 (by omega) hn, fun r2 σ2 q => by
    obtain ⟨rfl, rfl⟩ := q
    exact ⟨rfl, _, _, rfl, fun _ _ => rfl, by repeat first | exact Off.rf | refine o_I ?_ | refine o_Rw ?_ | refine o_Ln ?_ | refine o_Hd ?_ | refine o_Wy ?_ | refine o_Wi ?_ | refine o_Co ?_ | refine o_Bg ?_ | refine o_Ps ?_ | refine o_Tp ?_, (by first | exact a.2.1 | rfl), a.2.2.1, a.2.2.2.1, a.2.2.2.2, fun j _ => congrFun e j⟩⟩)
set_option maxRecDepth 20000 in
set_option maxHeartbeats 4000000 in
theorem p_end {w : Wp} (hf : Fit sh0 w) {k : Nat} {σ : Mm} (hS : St k σ) (hk : k < 512) {v : Int32} : Pr w k 1 1 mX8_end mX9_end [.int v] σ := by
  obtain ⟨M, L, r, n, l, hJ, hK, hX⟩ := hS
  have hC := hJ.cv
  have hF := hC.1.1
  have hB := hC.2.1
  have hn : n ≤ 100 := hK.2.2.2.2.1.2.1
  by_cases hv : inR v 0 (nI n)
  · obtain ⟨m, rfl, -, hm⟩ := inR_ex (lo := 0) hv (by omega) (Nat.zero_le _)
    refine Pr_of hX (hJ.st hk) (c8_end hf hK hF hB rfl hm) (fun σ1 a e => ?_)
    have c := c9_end (σ := σ1) (d := 0) (M := M) hf (k := nI m)
    rw [a.2.2.2.2, bz_t hv, if_pos hv] at c
    refine ⟨_, c, fun r2 σ2 q => ?_⟩
    obtain ⟨rfl, rfl⟩ := q
    exact ⟨rfl, _, _, rfl, fun _ _ => rfl, by repeat first | exact Off.rf | refine o_I ?_ | refine o_Rw ?_ | refine o_Ln ?_ | refine o_Hd ?_ | refine o_Wy ?_ | refine o_Wi ?_ | refine o_Co ?_ | refine o_Bg ?_ | refine o_Ps ?_ | refine o_Tp ?_, (by first | exact a.2.1 | rfl), a.2.2.1, a.2.2.2.1, rfl, fun j _ => congrFun e j⟩
  · refine Pr_of hX (hJ.st hk) (c8_end_no hf hK hF hB hv) (fun σ1 a e => ?_)
    have c := c9_end (σ := σ1) (d := 0) (M := M) hf (k := v)
    rw [a.2.2.2.2, bz_f hv, if_neg hv] at c
    refine ⟨_, c, fun r2 σ2 q => ?_⟩
    obtain ⟨rfl, rfl⟩ := q
    exact ⟨rfl, _, _, rfl, fun _ _ => rfl, by repeat first | exact Off.rf | refine o_I ?_ | refine o_Rw ?_ | refine o_Ln ?_ | refine o_Hd ?_ | refine o_Wy ?_ | refine o_Wi ?_ | refine o_Co ?_ | refine o_Bg ?_ | refine o_Ps ?_ | refine o_Tp ?_, (by first | exact a.2.1 | rfl), a.2.2.1, a.2.2.2.1, a.2.2.2.2, fun j _ => congrFun e j⟩
set_option maxRecDepth 20000 in
set_option maxHeartbeats 4000000 in
theorem p_slot {w : Wp} (hf : Fit sh0 w) {k : Nat} {σ : Mm} (hS : St k σ) (hk : k < 512) {lv sl : Int32} : Pr w k 2 4 mX8_slot mX9_slot [.int lv, .int sl] σ := by
  obtain ⟨M, L, r, n, l, hJ, hK, hX⟩ := hS
  have hC := hJ.cv
  have hF := hC.1.1
  have hB := hC.2.1
  by_cases hc : slC M lv sl
  · obtain ⟨LN, hLN⟩ : ∃ LN, lineM M false (slSel M lv sl) = LN := ⟨_, rfl⟩
    exact Pr_of hX (hJ.st hk) (c8_slot hf hK hF hB hC.2.2.1 hC.2.2.2 hc hLN) (fun σ1 a e => ⟨_, c9_slot (σ := σ1) (M := M) hf a.2.1 hF hc hLN, fun r2 σ2 q => by
    obtain ⟨fl, fr, rfl, rfl, hrw⟩ := q
    exact ⟨rfl, _, _, rfl, fun _ _ => rfl, by repeat first | exact Off.rf | refine o_I ?_ | refine o_Rw ?_ | refine o_Ln ?_ | refine o_Hd ?_ | refine o_Wy ?_ | refine o_Wi ?_ | refine o_Co ?_ | refine o_Bg ?_ | refine o_Ps ?_ | refine o_Tp ?_, (by first | exact a.2.1 | rfl), (congrArg nI (rowG_len _ _)).symm, hrw, a.2.2.2.2, fun j _ => congrFun e j⟩⟩)
  · exact Pr_of hX (hJ.st hk) (c8_slot_no hf hK hF hB hc) (fun σ1 a e => ⟨_, c9_slot_no (σ := σ1) (M := M) hf a.2.1 hF hc, fun r2 σ2 q => by
    obtain ⟨rfl, rfl⟩ := q
    exact ⟨rfl, _, _, rfl, fun _ _ => rfl, by repeat first | exact Off.rf | refine o_I ?_ | refine o_Rw ?_ | refine o_Ln ?_ | refine o_Hd ?_ | refine o_Wy ?_ | refine o_Wi ?_ | refine o_Co ?_ | refine o_Bg ?_ | refine o_Ps ?_ | refine o_Tp ?_, (by first | exact a.2.1 | rfl), a.2.2.1, a.2.2.2.1, a.2.2.2.2, fun j _ => congrFun e j⟩⟩)
set_option maxRecDepth 20000 in
set_option maxHeartbeats 4000000 in
theorem p_far {w : Wp} (hf : Fit sh0 w) {k : Nat} {σ : Mm} (hS : St k σ) (hk : k < 512)  : Pr w k 2 4 mX8_far mX9_far [] σ := by
  obtain ⟨M, L, r, n, l, hJ, hK, hX⟩ := hS
  have hC := hJ.cv
  have hF := hC.1.1
  have hB := hC.2.1
  obtain ⟨M1, hM1⟩ : ∃ M1, faM M = M1 := ⟨_, rfl⟩
  obtain ⟨LN, hLN⟩ : ∃ LN, lineM M1 true (faSel M1) = LN := ⟨_, rfl⟩
  exact Pr_of hX (hJ.st hk) (c8_far hf hK hF hB hC.2.2.2 hM1 hLN) (fun σ1 a e => ⟨_, c9_far (σ := σ1) (M := M) hf hM1 hLN, fun r2 σ2 q => by
    obtain ⟨fl, fr, rfl, rfl, hrw⟩ := q
    exact ⟨rfl, _, _, rfl, bk_lo, by repeat first | exact Off.rf | refine o_I ?_ | refine o_Rw ?_ | refine o_Ln ?_ | refine o_Hd ?_ | refine o_Wy ?_ | refine o_Wi ?_ | refine o_Co ?_ | refine o_Bg ?_ | refine o_Ps ?_ | refine o_Tp ?_, (by first | exact a.2.1 | rfl), (congrArg nI (rowG_len _ _)).symm, hrw, a.2.2.2.2, fun j _ => congrFun e j⟩⟩)
set_option maxRecDepth 20000 in
set_option maxHeartbeats 4000000 in
theorem p_group {w : Wp} (hf : Fit sh0 w) {k : Nat} {σ : Mm} (hS : St k σ) (hk : k < 512) {v : Int32} : Pr w k 2 2 mX8_group mX9_group [.int v] σ := by
  obtain ⟨M, L, r, n, l, hJ, hK, hX⟩ := hS
  have hC := hJ.cv
  have hF := hC.1.1
  have hB := hC.2.1
  by_cases hv : inR v 0 7
  · obtain ⟨G, hG⟩ : ∃ G, gpL M v = G := ⟨_, rfl⟩
    exact Pr_of hX (hJ.st hk) (c8_group hf hK hF hB hv hG) (fun σ1 a e => ⟨_, c9_group (σ := σ1) (M := M) hf a.2.1 hv hG, fun r2 σ2 q => by
    obtain ⟨fr, rfl, rfl, hrw⟩ := q
    exact ⟨rfl, _, _, rfl, fun _ _ => rfl, by repeat first | exact Off.rf | refine o_I ?_ | refine o_Rw ?_ | refine o_Ln ?_ | refine o_Hd ?_ | refine o_Wy ?_ | refine o_Wi ?_ | refine o_Co ?_ | refine o_Bg ?_ | refine o_Ps ?_ | refine o_Tp ?_, (by first | exact a.2.1 | rfl), (congrArg nI (show G.length = (rowN G).length by simp [rowN])), hrw, a.2.2.2.2, fun j _ => congrFun e j⟩⟩)
  · exact Pr_of hX (hJ.st hk) (c8_group_no hf hK hF hB hv) (fun σ1 a e => ⟨_, c9_group_no (σ := σ1) (M := M) hf a.2.1 hv, fun r2 σ2 q => by
    obtain ⟨rfl, rfl⟩ := q
    exact ⟨rfl, _, _, rfl, fun _ _ => rfl, by repeat first | exact Off.rf | refine o_I ?_ | refine o_Rw ?_ | refine o_Ln ?_ | refine o_Hd ?_ | refine o_Wy ?_ | refine o_Wi ?_ | refine o_Co ?_ | refine o_Bg ?_ | refine o_Ps ?_ | refine o_Tp ?_, (by first | exact a.2.1 | rfl), a.2.2.1, a.2.2.2.1, a.2.2.2.2, fun j _ => congrFun e j⟩⟩)
set_option maxRecDepth 20000 in
set_option maxHeartbeats 4000000 in
theorem p_full {w : Wp} (hf : Fit sh0 w) {k : Nat} {σ : Mm} (hS : St k σ) (hk : k < 512) {lv : Int32} : Pr w k 2 3 mX8_full mX9_full [.int lv] σ := by
  obtain ⟨M, L, r, n, l, hJ, hK, hX⟩ := hS
  have hC := hJ.cv
  have hF := hC.1.1
  have hB := hC.2.1
  by_cases hv : inR lv 0 (M 0 - 1)
  · obtain ⟨S, hS⟩ : ∃ S, fuS M lv = S := ⟨_, rfl⟩
    obtain ⟨G, hG⟩ : ∃ G, fuL S.1 = G := ⟨_, rfl⟩
    exact Pr_of hX (hJ.st hk) (c8_full hf hK hF hB hJ.sl hv hS hG) (fun σ1 a e => ⟨_, c9_full (σ := σ1) (M := M) hf a.2.1 hF hv hS hG, fun r2 σ2 q => by
    obtain ⟨fr, rfl, rfl, hrw⟩ := q
    exact ⟨rfl, _, _, rfl, fun _ _ => rfl, by repeat first | exact Off.rf | refine o_I ?_ | refine o_Rw ?_ | refine o_Ln ?_ | refine o_Hd ?_ | refine o_Wy ?_ | refine o_Wi ?_ | refine o_Co ?_ | refine o_Bg ?_ | refine o_Ps ?_ | refine o_Tp ?_, (by first | exact a.2.1 | rfl), (congrArg nI (show G.length + 1 = (rowN G ++ [S.2.toInt64]).length by simp [rowN])), hrw, a.2.2.2.2, fun j _ => congrFun e j⟩⟩)
  · exact Pr_of hX (hJ.st hk) (c8_full_no hf hK hF hB hv) (fun σ1 a e => ⟨_, c9_full_no (σ := σ1) (M := M) hf a.2.1 hv, fun r2 σ2 q => by
    obtain ⟨rfl, rfl⟩ := q
    exact ⟨rfl, _, _, rfl, fun _ _ => rfl, by repeat first | exact Off.rf | refine o_I ?_ | refine o_Rw ?_ | refine o_Ln ?_ | refine o_Hd ?_ | refine o_Wy ?_ | refine o_Wi ?_ | refine o_Co ?_ | refine o_Bg ?_ | refine o_Ps ?_ | refine o_Tp ?_, (by first | exact a.2.1 | rfl), a.2.2.1, a.2.2.2.1, a.2.2.2.2, fun j _ => congrFun e j⟩⟩)
set_option maxRecDepth 20000 in
set_option maxHeartbeats 4000000 in
theorem p_next {w : Wp} (hf : Fit sh0 w) {k : Nat} {σ : Mm} (hS : St k σ) (hk : k < 512)  : Pr w k 3 4 mX8_next mX9_next [] σ := by
  obtain ⟨M, L, r, n, l, hJ, hK, hX⟩ := hS
  have hC := hJ.cv
  have hF := hC.1.1
  have hB := hC.2.1
  obtain ⟨v, hv⟩ : ∃ v, nxM M = v := ⟨_, rfl⟩
  obtain ⟨LN, hLN⟩ : ∃ LN, lineM M false (nxSel M v) = LN := ⟨_, rfl⟩
  have c9 := fun (σ1 : Mm) (a : Rf M l n σ1) => c9_next (σ := σ1) (M := M) hf a.2.1 hv hLN
  by_cases h0 : v < 0
  · refine Pr_of hX (hJ.st hk) (c8_next_no hf hK hF hB hJ.du (by rw [hv]; exact h0)) (fun σ1 a e => ⟨_, c9 σ1 a, fun r2 σ2 q => ?_⟩)
    rw [if_pos h0] at q
    obtain ⟨rfl, fl, rfl⟩ := q
    exact ⟨rfl, _, _, rfl, fun _ _ => rfl, by repeat first | exact Off.rf | refine o_I ?_ | refine o_Rw ?_ | refine o_Ln ?_ | refine o_Hd ?_ | refine o_Wy ?_ | refine o_Wi ?_ | refine o_Co ?_ | refine o_Bg ?_ | refine o_Ps ?_ | refine o_Tp ?_, (by first | exact a.2.1 | rfl), a.2.2.1, a.2.2.2.1, a.2.2.2.2, fun j _ => congrFun e j⟩
  · refine Pr_of hX (hJ.st hk) (c8_next hf hK hF hB hC.2.2.1 hC.2.2.2 hJ.du hv hLN h0) (fun σ1 a e => ⟨_, c9 σ1 a, fun r2 σ2 q => ?_⟩)
    rw [if_neg h0] at q
    obtain ⟨fl, fr, rfl, rfl, hrw⟩ := q
    exact ⟨rfl, _, _, rfl, fun _ _ => rfl, by repeat first | exact Off.rf | refine o_I ?_ | refine o_Rw ?_ | refine o_Ln ?_ | refine o_Hd ?_ | refine o_Wy ?_ | refine o_Wi ?_ | refine o_Co ?_ | refine o_Bg ?_ | refine o_Ps ?_ | refine o_Tp ?_, (by first | exact a.2.1 | rfl), (congrArg nI (rowG_len _ _)).symm, hrw, a.2.2.2.2, fun j _ => congrFun e j⟩
set_option maxRecDepth 20000 in
set_option maxHeartbeats 4000000 in
theorem p_rings {w : Wp} (hf : Fit sh0 w) {k : Nat} {σ : Mm} (hS : St k σ) (hk : k < 512) {v : Int32} : Pr w k 4 8 mX8_rings mX9_rings [.int v] σ := by
  obtain ⟨M, L, r, n, l, hJ, hK, hX⟩ := hS
  have hC := hJ.cv
  have hF := hC.1.1
  have hB := hC.2.1
  obtain ⟨c, h6, hc6⟩ := hJ.ck
  have hCt := Cv_tr hC
  have hI : Ck (trM M) L r c := ⟨hCt.1, (trM_lo (by omega)).trans h6⟩
  by_cases hv : inR v 1 100
  · obtain ⟨m, rfl, m1, m2⟩ := inR_ex (lo := 1) (hi := 100) hv (by omega) (by omega)
    obtain ⟨S, hS⟩ : ∃ S, tks L m (trM M, r, ([] : List (Nat × Int32))) = S := ⟨_, rfl⟩
    exact Pr_of hX (hJ.st hk) (c8_rings hf hK hF hB hJ.z hC h6 m1 m2 (by omega) hS) (fun σ1 a e => ⟨_, c9_rings (σ := σ1) (M := M) hf a.2.1 hCt.1 rfl m1 m2 (by rw [h6, nI_add]; exact nI_ngt (by omega)) hS, fun r2 σ2 q => by
    obtain ⟨fl, nl, f1, f2, f, rfl, rfl, hrw⟩ := q
    exact ⟨rfl, _, _, rfl, bk_lo, by repeat first | exact Off.rf | refine o_I ?_ | refine o_Rw ?_ | refine o_Ln ?_ | refine o_Hd ?_ | refine o_Wy ?_ | refine o_Wi ?_ | refine o_Co ?_ | refine o_Bg ?_ | refine o_Ps ?_ | refine o_Tp ?_, (by first | exact a.2.1 | rfl), (congrArg nI (rowH_len _)).symm, hrw, a.2.2.2.2, fun j _ => congrFun e j⟩⟩)
  · exact Pr_of hX (hJ.st hk) (c8_rings_no hf hK hF hB hv) (fun σ1 a e => ⟨_, c9_rings_no (σ := σ1) (M := M) hf a.2.1 hv, fun r2 σ2 q => by
    obtain ⟨rfl, rfl⟩ := q
    exact ⟨rfl, _, _, rfl, fun _ _ => rfl, by repeat first | exact Off.rf | refine o_I ?_ | refine o_Rw ?_ | refine o_Ln ?_ | refine o_Hd ?_ | refine o_Wy ?_ | refine o_Wi ?_ | refine o_Co ?_ | refine o_Bg ?_ | refine o_Ps ?_ | refine o_Tp ?_, (by first | exact a.2.1 | rfl), a.2.2.1, a.2.2.2.1, a.2.2.2.2, fun j _ => congrFun e j⟩⟩)
set_option maxRecDepth 20000 in
set_option maxHeartbeats 4000000 in
theorem p_quiet {w : Wp} (hf : Fit sh0 w) {k : Nat} {σ : Mm} (hS : St k σ) (hk : k < 512) {v : Int32} : Pr w k 4 8 mX8_quiet mX9_quiet [.int v] σ := by
  obtain ⟨M, L, r, n, l, hJ, hK, hX⟩ := hS
  have hC := hJ.cv
  have hF := hC.1.1
  have hB := hC.2.1
  obtain ⟨c, h6, hc6⟩ := hJ.ck
  have hCt := Cv_tr hC
  have hI : Ck (trM M) L r c := ⟨hCt.1, (trM_lo (by omega)).trans h6⟩
  by_cases hv : inR v 1 100
  · obtain ⟨m, rfl, m1, m2⟩ := inR_ex (lo := 1) (hi := 100) hv (by omega) (by omega)
    obtain ⟨R, hR⟩ : ∃ R, askS L quV m (trM M, r, ((0, 0, 0) : Int32 × Int32 × Int32)) = R := ⟨_, rfl⟩
    exact Pr_of hX (hJ.st hk) (c8_quiet hf hK hF hB hJ.z hC h6 m1 m2 (by omega) hR) (fun σ1 a e => ⟨_, c9_quiet (σ := σ1) (M := M) hf a.2.1 hI rfl m1 m2 (by omega) h6 hR, fun r2 σ2 q => by
    obtain ⟨fl, nl, f1, f2, h, fr, rfl, rfl, hrw⟩ := q
    exact ⟨rfl, _, _, rfl, bk_lo, by repeat first | exact Off.rf | refine o_I ?_ | refine o_Rw ?_ | refine o_Ln ?_ | refine o_Hd ?_ | refine o_Wy ?_ | refine o_Wi ?_ | refine o_Co ?_ | refine o_Bg ?_ | refine o_Ps ?_ | refine o_Tp ?_, (by first | exact a.2.1 | rfl), rfl, hrw, a.2.2.2.2, fun j _ => congrFun e j⟩⟩)
  · exact Pr_of hX (hJ.st hk) (c8_quiet_no hf hK hF hB hv) (fun σ1 a e => ⟨_, c9_quiet_no (σ := σ1) (M := M) hf a.2.1 hv, fun r2 σ2 q => by
    obtain ⟨rfl, rfl⟩ := q
    exact ⟨rfl, _, _, rfl, fun _ _ => rfl, by repeat first | exact Off.rf | refine o_I ?_ | refine o_Rw ?_ | refine o_Ln ?_ | refine o_Hd ?_ | refine o_Wy ?_ | refine o_Wi ?_ | refine o_Co ?_ | refine o_Bg ?_ | refine o_Ps ?_ | refine o_Tp ?_, (by first | exact a.2.1 | rfl), a.2.2.1, a.2.2.2.1, a.2.2.2.2, fun j _ => congrFun e j⟩⟩)
set_option maxRecDepth 20000 in
set_option maxHeartbeats 4000000 in
theorem p_busiest {w : Wp} (hf : Fit sh0 w) {k : Nat} {σ : Mm} (hS : St k σ) (hk : k < 512) {v : Int32} : Pr w k 4 8 mX8_busiest mX9_busiest [.int v] σ := by
  obtain ⟨M, L, r, n, l, hJ, hK, hX⟩ := hS
  have hC := hJ.cv
  have hF := hC.1.1
  have hB := hC.2.1
  obtain ⟨c, h6, hc6⟩ := hJ.ck
  have hCt := Cv_tr hC
  have hI : Ck (trM M) L r c := ⟨hCt.1, (trM_lo (by omega)).trans h6⟩
  by_cases hv : inR v 1 100
  · obtain ⟨m, rfl, m1, m2⟩ := inR_ex (lo := 1) (hi := 100) hv (by omega) (by omega)
    obtain ⟨R, hR⟩ : ∃ R, askS L buV m (trM M, r, ((M 6, 0, 0) : Int32 × Int32 × Int32)) = R := ⟨_, rfl⟩
    exact Pr_of hX (hJ.st hk) (c8_busiest hf hK hF hB hJ.z hC h6 m1 m2 (by omega) hR) (fun σ1 a e => ⟨_, c9_busiest (σ := σ1) (M := M) hf a.2.1 hI rfl m1 m2 (by omega) h6 hR, fun r2 σ2 q => by
    obtain ⟨fl, nl, f1, f2, h, fr, rfl, rfl, hrw⟩ := q
    exact ⟨rfl, _, _, rfl, bk_lo, by repeat first | exact Off.rf | refine o_I ?_ | refine o_Rw ?_ | refine o_Ln ?_ | refine o_Hd ?_ | refine o_Wy ?_ | refine o_Wi ?_ | refine o_Co ?_ | refine o_Bg ?_ | refine o_Ps ?_ | refine o_Tp ?_, (by first | exact a.2.1 | rfl), rfl, hrw, a.2.2.2.2, fun j _ => congrFun e j⟩⟩)
  · exact Pr_of hX (hJ.st hk) (c8_busiest_no hf hK hF hB hv) (fun σ1 a e => ⟨_, c9_busiest_no (σ := σ1) (M := M) hf a.2.1 hv, fun r2 σ2 q => by
    obtain ⟨rfl, rfl⟩ := q
    exact ⟨rfl, _, _, rfl, fun _ _ => rfl, by repeat first | exact Off.rf | refine o_I ?_ | refine o_Rw ?_ | refine o_Ln ?_ | refine o_Hd ?_ | refine o_Wy ?_ | refine o_Wi ?_ | refine o_Co ?_ | refine o_Bg ?_ | refine o_Ps ?_ | refine o_Tp ?_, (by first | exact a.2.1 | rfl), a.2.2.1, a.2.2.2.1, a.2.2.2.2, fun j _ => congrFun e j⟩⟩)
set_option maxRecDepth 20000 in
set_option maxHeartbeats 4000000 in
theorem p_clashes {w : Wp} (hf : Fit sh0 w) {k : Nat} {σ : Mm} (hS : St k σ) (hk : k < 512) {v : Int32} : Pr w k 4 8 mX8_clashes mX9_clashes [.int v] σ := by
  obtain ⟨M, L, r, n, l, hJ, hK, hX⟩ := hS
  have hC := hJ.cv
  have hF := hC.1.1
  have hB := hC.2.1
  obtain ⟨c, h6, hc6⟩ := hJ.ck
  have hCt := Cv_tr hC
  have hI : Ck (trM M) L r c := ⟨hCt.1, (trM_lo (by omega)).trans h6⟩
  by_cases hv : inR v 1 100
  · obtain ⟨m, rfl, m1, m2⟩ := inR_ex (lo := 1) (hi := 100) hv (by omega) (by omega)
    obtain ⟨R, hR⟩ : ∃ R, askS L clV m (trM M, r, ((0, -1, -1, -1) : Int32 × Int32 × Int32 × Int32)) = R := ⟨_, rfl⟩
    exact Pr_of hX (hJ.st hk) (c8_clashes hf hK hF hB hJ.z hC h6 m1 m2 (by omega) hR) (fun σ1 a e => ⟨_, c9_clashes (σ := σ1) (M := M) hf a.2.1 hI rfl m1 m2 (by omega) h6 hR, fun r2 σ2 q => by
    obtain ⟨fl, nl, f1, f2, h, fr, rfl, rfl, hrw⟩ := q
    exact ⟨rfl, _, _, rfl, bk_lo, by repeat first | exact Off.rf | refine o_I ?_ | refine o_Rw ?_ | refine o_Ln ?_ | refine o_Hd ?_ | refine o_Wy ?_ | refine o_Wi ?_ | refine o_Co ?_ | refine o_Bg ?_ | refine o_Ps ?_ | refine o_Tp ?_, (by first | exact a.2.1 | rfl), rfl, hrw, a.2.2.2.2, fun j _ => congrFun e j⟩⟩)
  · exact Pr_of hX (hJ.st hk) (c8_clashes_no hf hK hF hB hv) (fun σ1 a e => ⟨_, c9_clashes_no (σ := σ1) (M := M) hf a.2.1 hv, fun r2 σ2 q => by
    obtain ⟨rfl, rfl⟩ := q
    exact ⟨rfl, _, _, rfl, fun _ _ => rfl, by repeat first | exact Off.rf | refine o_I ?_ | refine o_Rw ?_ | refine o_Ln ?_ | refine o_Hd ?_ | refine o_Wy ?_ | refine o_Wi ?_ | refine o_Co ?_ | refine o_Bg ?_ | refine o_Ps ?_ | refine o_Tp ?_, (by first | exact a.2.1 | rfl), a.2.2.1, a.2.2.2.1, a.2.2.2.2, fun j _ => congrFun e j⟩⟩)
set_option maxRecDepth 20000 in
set_option maxHeartbeats 4000000 in
theorem p_moves {w : Wp} (hf : Fit sh0 w) {k : Nat} {σ : Mm} (hS : St k σ) (hk : k < 512) {v : Int32} : Pr w k 3 5 mX8_moves mX9_moves [.int v] σ := by
  obtain ⟨M, L, r, n, l, hJ, hK, hX⟩ := hS
  have hC := hJ.cv
  have hF := hC.1.1
  have hB := hC.2.1
  by_cases hv : isTm M v
  · obtain ⟨ev, ht⟩ := isTm_ix hv.1
    obtain ⟨t, et⟩ : ∃ t, ix v = t := ⟨_, rfl⟩
    have hT := hv.2
    have hlv := hJ.lv (ix v) ht
    by_cases hp : M (343 + ix v) = 1
    · have c9 := fun (σ1 : Mm) (a : Rf M l n σ1) => c9_moves_pa (σ := σ1) (M := M) hf a.2.1 hv hp
      rw [et] at ev ht hT hp
      rw [ev] at c9 ⊢
      exact Pr_of hX (hJ.st hk) (c8_moves_pa hf hK hF hB ht hT hp) (fun σ1 a e => ⟨_, c9 σ1 a, fun r2 σ2 q => by
    obtain ⟨rfl, rfl⟩ := q
    exact ⟨rfl, _, _, rfl, fun _ _ => rfl, by repeat first | exact Off.rf | refine o_I ?_ | refine o_Rw ?_ | refine o_Ln ?_ | refine o_Hd ?_ | refine o_Wy ?_ | refine o_Wi ?_ | refine o_Co ?_ | refine o_Bg ?_ | refine o_Ps ?_ | refine o_Tp ?_, (by first | exact a.2.1 | rfl), a.2.2.1, a.2.2.2.1, a.2.2.2.2, fun j _ => congrFun e j⟩⟩)
    · have hp0 : M (343 + ix v) = 0 := ((hB _ ht).2.2).elim id (fun z => absurd z hp)
      have hlv := hlv ⟨hT, hp0⟩
      obtain ⟨WL, hWL⟩ : ∃ WL, wyL M L (M (231 + ix v)) 5 (M (391 + ix v)) = WL := ⟨_, rfl⟩
      have c9 := fun (σ1 : Mm) (a : Rf M l n σ1) => c9_moves (σ := σ1) (M := M) hf a.2.1 hF hv hp hlv hWL
      rw [et] at ev ht hT hp0 hlv hWL
      rw [ev] at c9 ⊢
      exact Pr_of hX (hJ.st hk) (c8_moves hf hK hF hB ht hT hp0 hlv hWL) (fun σ1 a e => ⟨_, c9 σ1 a, fun r2 σ2 q => by
    obtain ⟨fc, fl, rfl, rfl⟩ := q
    exact ⟨rfl, _, _, rfl, fun _ _ => rfl, by repeat first | exact Off.rf | refine o_I ?_ | refine o_Rw ?_ | refine o_Ln ?_ | refine o_Hd ?_ | refine o_Wy ?_ | refine o_Wi ?_ | refine o_Co ?_ | refine o_Bg ?_ | refine o_Ps ?_ | refine o_Tp ?_, (by first | exact a.2.1 | rfl), a.2.2.1, a.2.2.2.1, a.2.2.2.2, fun j _ => congrFun e j⟩⟩)
  · exact Pr_of hX (hJ.st hk) (c8_moves_no hf hK hF hB hv) (fun σ1 a e => ⟨_, c9_moves_no (σ := σ1) (M := M) hf a.2.1 hv, fun r2 σ2 q => by
    obtain ⟨rfl, rfl⟩ := q
    exact ⟨rfl, _, _, rfl, fun _ _ => rfl, by repeat first | exact Off.rf | refine o_I ?_ | refine o_Rw ?_ | refine o_Ln ?_ | refine o_Hd ?_ | refine o_Wy ?_ | refine o_Wi ?_ | refine o_Co ?_ | refine o_Bg ?_ | refine o_Ps ?_ | refine o_Tp ?_, (by first | exact a.2.1 | rfl), a.2.2.1, a.2.2.2.1, a.2.2.2.2, fun j _ => congrFun e j⟩⟩)
set_option maxRecDepth 20000 in
set_option maxHeartbeats 4000000 in
theorem p_way {w : Wp} (hf : Fit sh0 w) {k : Nat} {σ : Mm} (hS : St k σ) (hk : k < 512) {v : Int32} : Pr w k 3 5 mX8_way mX9_way [.int v] σ := by
  obtain ⟨M, L, r, n, l, hJ, hK, hX⟩ := hS
  have hC := hJ.cv
  have hF := hC.1.1
  have hB := hC.2.1
  by_cases hv : isTm M v
  · obtain ⟨ev, ht⟩ := isTm_ix hv.1
    obtain ⟨t, et⟩ : ∃ t, ix v = t := ⟨_, rfl⟩
    have hT := hv.2
    have hlv := hJ.lv (ix v) ht
    by_cases hp : M (343 + ix v) = 1
    · have c9 := fun (σ1 : Mm) (a : Rf M l n σ1) => c9_way_pa (σ := σ1) (M := M) hf a.2.1 hv hp
      rw [et] at ev ht hT hp
      rw [ev] at c9 ⊢
      exact Pr_of hX (hJ.st hk) (c8_way_pa hf hK hF hB ht hT hp) (fun σ1 a e => ⟨_, c9 σ1 a, fun r2 σ2 q => by
    obtain ⟨rfl, rfl⟩ := q
    exact ⟨rfl, _, _, rfl, fun _ _ => rfl, by repeat first | exact Off.rf | refine o_I ?_ | refine o_Rw ?_ | refine o_Ln ?_ | refine o_Hd ?_ | refine o_Wy ?_ | refine o_Wi ?_ | refine o_Co ?_ | refine o_Bg ?_ | refine o_Ps ?_ | refine o_Tp ?_, (by first | exact a.2.1 | rfl), a.2.2.1, a.2.2.2.1, a.2.2.2.2, fun j _ => congrFun e j⟩⟩)
    · have hp0 : M (343 + ix v) = 0 := ((hB _ ht).2.2).elim id (fun z => absurd z hp)
      have hlv := hlv ⟨hT, hp0⟩
      obtain ⟨WL, hWL⟩ : ∃ WL, wyL M L (M (231 + ix v)) 5 (M (391 + ix v)) = WL := ⟨_, rfl⟩
      have c9 := fun (σ1 : Mm) (a : Rf M l n σ1) => c9_way (σ := σ1) (M := M) hf a.2.1 hF hv hp hlv hWL
      rw [et] at ev ht hT hp0 hlv hWL c9
      rw [ev] at c9 ⊢
      exact Pr_of hX (hJ.st hk) (c8_way hf hK hF hB ht hT hp0 hlv hWL) (fun σ1 a e => ⟨_, c9 σ1 a, fun r2 σ2 q => by
    obtain ⟨fc, fl, fr, rfl, rfl, hrw⟩ := q
    exact ⟨rfl, _, _, rfl, fun _ _ => rfl, by repeat first | exact Off.rf | refine o_I ?_ | refine o_Rw ?_ | refine o_Ln ?_ | refine o_Hd ?_ | refine o_Wy ?_ | refine o_Wi ?_ | refine o_Co ?_ | refine o_Bg ?_ | refine o_Ps ?_ | refine o_Tp ?_, (by first | exact a.2.1 | rfl), (congrArg nI (show 2 + 2 * WL.length = (rowW (M (391 + t)) WL ++ [(M (231 + t)).toInt64]).length by rw [List.length_append, rowW_len, List.length_singleton]; omega)), hrw, a.2.2.2.2, fun j _ => congrFun e j⟩⟩)
  · exact Pr_of hX (hJ.st hk) (c8_way_no hf hK hF hB hv) (fun σ1 a e => ⟨_, c9_way_no (σ := σ1) (M := M) hf a.2.1 hv, fun r2 σ2 q => by
    obtain ⟨rfl, rfl⟩ := q
    exact ⟨rfl, _, _, rfl, fun _ _ => rfl, by repeat first | exact Off.rf | refine o_I ?_ | refine o_Rw ?_ | refine o_Ln ?_ | refine o_Hd ?_ | refine o_Wy ?_ | refine o_Wi ?_ | refine o_Co ?_ | refine o_Bg ?_ | refine o_Ps ?_ | refine o_Tp ?_, (by first | exact a.2.1 | rfl), a.2.2.1, a.2.2.2.1, a.2.2.2.2, fun j _ => congrFun e j⟩⟩)
set_option maxRecDepth 20000 in
set_option maxHeartbeats 4000000 in
theorem p_cost {w : Wp} (hf : Fit sh0 w) {k : Nat} {σ : Mm} (hS : St k σ) (hk : k < 512) {x y z u : Int32} : Pr w k 4 7 mX8_cost mX9_cost [.int x, .int y, .int z, .int u] σ := by
  obtain ⟨M, L, r, n, l, hJ, hK, hX⟩ := hS
  have hC := hJ.cv
  have hF := hC.1.1
  have hB := hC.2.1
  have hcg : ∀ f : Nat → Int32, wiOk (wiW f x y z u) = wiOk (w4 x y z u) ∧ wiN (wiW f x y z u) 4 0 = wiN (w4 x y z u) 4 0 ∧ wiM (trM M) (wiW f x y z u) (wiN (w4 x y z u) 4 0) = wiM (trM M) (w4 x y z u) (wiN (w4 x y z u) 4 0) := fun f => ⟨wiOk_congr wiW4, wiN_congr wiW4 4 0 (by omega), wiM_congr wiW4⟩
  by_cases hok : wiOk (w4 x y z u) = true
  · have hN4 : wiN (w4 x y z u) 4 0 ≤ 4 := by have := wiN_le (w4 x y z u) 4 0; omega
    have c9 := fun (σ1 : Mm) (a : Rf M l n σ1) => c9_cost (σ := σ1) (M := M) hf a.2.1 (a := x) (b := y) (c := z) (e := u) rfl ((hcg (σ1.1 74)).1.trans hok) rfl rfl
    have c9 := fun (σ1 : Mm) (a : Rf M l n σ1) => by
      have c := c9 σ1 a
      rw [(hcg (σ1.1 74)).2.1, (hcg (σ1.1 74)).2.2] at c
      exact c
    obtain ⟨N, hN⟩ : ∃ N, wiN (w4 x y z u) 4 0 = N := ⟨_, rfl⟩
    rw [hN] at c9 hN4
    obtain ⟨M0, hM0⟩ : ∃ M0, wiM (trM M) (w4 x y z u) N = M0 := ⟨_, rfl⟩
    rw [hM0] at c9
    have hco := co_eq (M := M) (M' := M) (M0 := M0) hN4 (fun j h1 h2 => by rw [← hM0, wiM_hi h1]; exact trM_lo h2)
    rw [hco.1, hco.2] at c9
    obtain ⟨R, hR⟩ : ∃ R, mbS M M0 N = R := ⟨_, rfl⟩
    obtain ⟨S, hS⟩ : ∃ S, faS M M0 N = S := ⟨_, rfl⟩
    rw [hR, hS] at c9
    exact Pr_of hX (hJ.st hk) (c8_cost hf hK hF hB hok hN hM0 hR hS) (fun σ1 a e => ⟨_, c9 σ1 a, fun r2 σ2 q => by
    obtain ⟨fc, fl, fr, rfl, rfl, hrw⟩ := q
    exact ⟨rfl, _, _, rfl, bk_lo, by repeat first | exact Off.rf | refine o_I ?_ | refine o_Rw ?_ | refine o_Ln ?_ | refine o_Hd ?_ | refine o_Wy ?_ | refine o_Wi ?_ | refine o_Co ?_ | refine o_Bg ?_ | refine o_Ps ?_ | refine o_Tp ?_, (by first | exact a.2.1 | rfl), rfl, hrw, a.2.2.2.2, fun j _ => congrFun e j⟩⟩)
  · exact Pr_of hX (hJ.st hk) (c8_cost_no hf hK hF hB hok) (fun σ1 a e => ⟨_, c9_cost_no (σ := σ1) (M := M) hf a.2.1 (a := x) (b := y) (c := z) (e := u) rfl (fun q => hok ((hcg (σ1.1 74)).1.symm.trans q)), fun r2 σ2 q => by
    obtain ⟨rfl, rfl⟩ := q
    exact ⟨rfl, _, _, rfl, fun _ _ => rfl, by repeat first | exact Off.rf | refine o_I ?_ | refine o_Rw ?_ | refine o_Ln ?_ | refine o_Hd ?_ | refine o_Wy ?_ | refine o_Wi ?_ | refine o_Co ?_ | refine o_Bg ?_ | refine o_Ps ?_ | refine o_Tp ?_, (by first | exact a.2.1 | rfl), a.2.2.1, a.2.2.2.1, a.2.2.2.2, fun j _ => congrFun e j⟩⟩)
set_option maxRecDepth 20000 in
set_option maxHeartbeats 4000000 in
theorem p_best {w : Wp} (hf : Fit sh0 w) {k : Nat} {σ : Mm} (hS : St k σ) (hk : k < 512) {v : Int32} : Pr w k 4 7 mX8_best mX9_best [.int v] σ := by
  obtain ⟨M, L, r, n, l, hJ, hK, hX⟩ := hS
  have hC := hJ.cv
  have hF := hC.1.1
  have hB := hC.2.1
  by_cases hv : inR v 1 4
  · obtain ⟨m, rfl, m1, m2⟩ := inR_ex (lo := 1) (hi := 4) hv (by omega) (by omega)
    have hbe := be_eq (M := M) m2
    have c9 := fun (σ1 : Mm) (a : Rf M l n σ1) => c9_best (σ := σ1) (M := M) hf a.2.1 (k := nI m) rfl m1 m2 rfl
    rw [hbe.2] at c9
    obtain ⟨D, hD⟩ : ∃ D, (beS m M).1 = D := ⟨_, rfl⟩
    obtain ⟨R, hR⟩ : ∃ R, bcS M m = R := ⟨_, rfl⟩
    rw [hD] at c9
    rw [hR] at c9
    have hb1 := hbe.1
    rw [hD] at hb1
    exact Pr_of hX (hJ.st hk) (c8_best hf hK hF hB m1 m2 hR) (fun σ1 a e => ⟨_, c9 σ1 a, fun r2 σ2 q => by
    obtain ⟨W, fc, fl, x, y, fr, rfl, rfl, hrw⟩ := q
    exact ⟨rfl, _, _, rfl, hb1, by repeat first | exact Off.rf | refine o_I ?_ | refine o_Rw ?_ | refine o_Ln ?_ | refine o_Hd ?_ | refine o_Wy ?_ | refine o_Wi ?_ | refine o_Co ?_ | refine o_Bg ?_ | refine o_Ps ?_ | refine o_Tp ?_, (by first | exact a.2.1 | rfl), rfl, hrw, a.2.2.2.2, fun j _ => congrFun e j⟩⟩)
  · exact Pr_of hX (hJ.st hk) (c8_best_no hf hK hF hB hv) (fun σ1 a e => ⟨_, c9_best_no (σ := σ1) (M := M) hf a.2.1 hv, fun r2 σ2 q => by
    obtain ⟨rfl, rfl⟩ := q
    exact ⟨rfl, _, _, rfl, fun _ _ => rfl, by repeat first | exact Off.rf | refine o_I ?_ | refine o_Rw ?_ | refine o_Ln ?_ | refine o_Hd ?_ | refine o_Wy ?_ | refine o_Wi ?_ | refine o_Co ?_ | refine o_Bg ?_ | refine o_Ps ?_ | refine o_Tp ?_, (by first | exact a.2.1 | rfl), a.2.2.1, a.2.2.2.1, a.2.2.2.2, fun j _ => congrFun e j⟩⟩)
set_option maxRecDepth 20000 in
set_option maxHeartbeats 4000000 in
theorem p_ahead {w : Wp} (hf : Fit sh0 w) {k : Nat} {σ : Mm} (hS : St k σ) (hk : k < 512) {x y : Int32} : Pr w k 1 3 mX8_ahead mX9_ahead [.int x, .int y] σ := by
  obtain ⟨M, L, r, n, l, hJ, hK, hX⟩ := hS
  have hC := hJ.cv
  have hF := hC.1.1
  have hB := hC.2.1
  have c8 := c8_ahead hf hK hF hB hC.2.2.1 hC.2.2.2 (a := x) (b := y)
  unfold ahR ahL at c8
  by_cases hc : ahC M x y
  · by_cases hg : ahG M x y
    · rw [if_pos hc, if_pos hg, if_pos ⟨hc, hg⟩] at c8
      exact Pr_of hX (hJ.st hk) c8 (fun σ1 a e => ⟨_, c9_ahead (σ := σ1) (M := M) hf a.2.1 hc hg, fun r2 σ2 q => by
    obtain ⟨fr, rfl, rfl, hrw⟩ := q
    exact ⟨rfl, _, _, rfl, fun _ _ => rfl, by repeat first | exact Off.rf | refine o_I ?_ | refine o_Rw ?_ | refine o_Ln ?_ | refine o_Hd ?_ | refine o_Wy ?_ | refine o_Wi ?_ | refine o_Co ?_ | refine o_Bg ?_ | refine o_Ps ?_ | refine o_Tp ?_, (by first | exact a.2.1 | rfl), rfl, hrw, a.2.2.2.2, fun j _ => congrFun e j⟩⟩)
    · rw [if_pos hc, if_neg hg, if_neg (fun z => hg z.2)] at c8
      exact Pr_of hX (hJ.st hk) c8 (fun σ1 a e => ⟨_, c9_ahead_pa (σ := σ1) (M := M) hf a.2.1 hc hg, fun r2 σ2 q => by
    obtain ⟨rfl, rfl⟩ := q
    exact ⟨rfl, _, _, rfl, fun _ _ => rfl, by repeat first | exact Off.rf | refine o_I ?_ | refine o_Rw ?_ | refine o_Ln ?_ | refine o_Hd ?_ | refine o_Wy ?_ | refine o_Wi ?_ | refine o_Co ?_ | refine o_Bg ?_ | refine o_Ps ?_ | refine o_Tp ?_, (by first | exact a.2.1 | rfl), a.2.2.1, a.2.2.2.1, a.2.2.2.2, fun j _ => congrFun e j⟩⟩)
  · rw [if_neg hc, if_neg (fun z => hc z.1)] at c8
    exact Pr_of hX (hJ.st hk) c8 (fun σ1 a e => ⟨_, c9_ahead_no (σ := σ1) (M := M) hf a.2.1 hc, fun r2 σ2 q => by
    obtain ⟨rfl, rfl⟩ := q
    exact ⟨rfl, _, _, rfl, fun _ _ => rfl, by repeat first | exact Off.rf | refine o_I ?_ | refine o_Rw ?_ | refine o_Ln ?_ | refine o_Hd ?_ | refine o_Wy ?_ | refine o_Wi ?_ | refine o_Co ?_ | refine o_Bg ?_ | refine o_Ps ?_ | refine o_Tp ?_, (by first | exact a.2.1 | rfl), a.2.2.1, a.2.2.2.1, a.2.2.2.2, fun j _ => congrFun e j⟩⟩)
set_option maxRecDepth 20000 in
set_option maxHeartbeats 4000000 in
theorem p_would {w : Wp} (hf : Fit sh0 w) {k : Nat} {σ : Mm} (hS : St k σ) (hk : k < 512) {v : Int32} : Pr w k 4 8 mX8_would mX9_would [.int v] σ := by
  obtain ⟨M, L, r, n, l, hJ, hK, hX⟩ := hS
  have hC := hJ.cv
  have hF := hC.1.1
  have hB := hC.2.1
  obtain ⟨c, h6, hc6⟩ := hJ.ck
  have hCt := Cv_tr hC
  have hI : Ck (trM M) L r c := ⟨hCt.1, (trM_lo (by omega)).trans h6⟩
  by_cases hv : v ≠ 0 ∧ -1000000 ≤ v ∧ v ≤ 1000000
  · by_cases h64 : C64 M v
    · obtain ⟨S, hS⟩ : ∃ S, lpS (trM M) v = S := ⟨_, rfl⟩
      have hR : leapM (trM M) L r v = layAllM (ringM S.1 L r S.2.1 S.2.2) L := by unfold leapM; rw [hS]
      obtain ⟨ML, hML⟩ : ∃ ML, layAllM (ringM S.1 L r S.2.1 S.2.2) L = ML := ⟨_, rfl⟩
      exact Pr_of hX (hJ.st hk) (c8_would hf hK hF hB hJ.z hC h6 (by omega) hv h64 hS (hR.trans hML)) (fun σ1 a e => ⟨_, c9_would (σ := σ1) (M := M) hf a.2.1 hCt.1 hv h64 hS hML, fun r2 σ2 q => by
    obtain ⟨fl, f1, f2, fr, rfl, rfl, hrw⟩ := q
    exact ⟨rfl, _, _, rfl, bk_lo, by repeat first | exact Off.rf | refine o_I ?_ | refine o_Rw ?_ | refine o_Ln ?_ | refine o_Hd ?_ | refine o_Wy ?_ | refine o_Wi ?_ | refine o_Co ?_ | refine o_Bg ?_ | refine o_Ps ?_ | refine o_Tp ?_, (by first | exact a.2.1 | rfl), (congrArg nI (rowD_len _ _ _).symm), hrw, a.2.2.2.2, fun j _ => congrFun e j⟩⟩)
    · exact Pr_of hX (hJ.st hk) (c8_would_end hf hK hF hB h6 (by omega) hv h64) (fun σ1 a e => ⟨_, c9_would_end (σ := σ1) (M := M) hf a.2.1 hv h64, fun r2 σ2 q => by
    obtain ⟨rfl, rfl⟩ := q
    exact ⟨rfl, _, _, rfl, bk_lo, by repeat first | exact Off.rf | refine o_I ?_ | refine o_Rw ?_ | refine o_Ln ?_ | refine o_Hd ?_ | refine o_Wy ?_ | refine o_Wi ?_ | refine o_Co ?_ | refine o_Bg ?_ | refine o_Ps ?_ | refine o_Tp ?_, (by first | exact a.2.1 | rfl), a.2.2.1, a.2.2.2.1, a.2.2.2.2, fun j _ => congrFun e j⟩⟩)
  · exact Pr_of hX (hJ.st hk) (c8_would_no hf hK hF hB hv) (fun σ1 a e => ⟨_, c9_would_no (σ := σ1) (M := M) hf a.2.1 hv, fun r2 σ2 q => by
    obtain ⟨rfl, rfl⟩ := q
    exact ⟨rfl, _, _, rfl, fun _ _ => rfl, by repeat first | exact Off.rf | refine o_I ?_ | refine o_Rw ?_ | refine o_Ln ?_ | refine o_Hd ?_ | refine o_Wy ?_ | refine o_Wi ?_ | refine o_Co ?_ | refine o_Bg ?_ | refine o_Ps ?_ | refine o_Tp ?_, (by first | exact a.2.1 | rfl), a.2.2.1, a.2.2.2.1, a.2.2.2.2, fun j _ => congrFun e j⟩⟩)
theorem tiL_ge {X Y L : Nat} {m : Int32} (hX : X ≤ 1000000000) (hX1 : 1000 ≤ X) : ∀ (n c : Nat) (s : (Nat → Int32) × Nat × Int32 × Int32), Jc X Y c s.1 L s.2.1 → c + n ≤ 1000000000 → (s.2.2.2 = -2 ∨ 0 ≤ s.2.2.2) → ((tiL L m n s).2.2.2 = -2 ∨ 0 ≤ (tiL L m n s).2.2.2)
  | 0, _, _, _, _, h => h
  | n + 1, c, s, hJ, hc, h => by
    unfold tiL
    by_cases q : s.2.2.1 < m
    · rw [if_pos q]
      have hJ1 := Jc_tick hJ hX hX1 (by omega)
      refine tiL_ge hX hX1 n (c + 1) (tiN L m s) hJ1 (by omega) ?_
      show (if s.2.2.1 + nI (tkLn s.1 L).2 < m then (-2 : Int32) else tickM s.1 L s.2.1 6) = -2 ∨ 0 ≤ (if s.2.2.1 + nI (tkLn s.1 L).2 < m then (-2 : Int32) else tickM s.1 L s.2.1 6)
      by_cases q2 : s.2.2.1 + nI (tkLn s.1 L).2 < m
      · rw [if_pos q2]; exact Or.inl rfl
      · rw [if_neg q2, hJ1.2.2.2.1]
        exact Or.inr (nI_pos' (by omega))
    · rw [if_neg q]
      exact h
set_option maxRecDepth 20000 in
set_option maxHeartbeats 4000000 in
theorem p_till {w : Wp} (hf : Fit sh0 w) {k : Nat} {σ : Mm} (hS : St k σ) (hk : k < 512) {v : Int32} : Pr w k 4 8 mX8_till mX9_till [.int v] σ := by
  obtain ⟨M, L, r, n, l, hJ, hK, hX⟩ := hS
  have hC := hJ.cv
  have hF := hC.1.1
  have hB := hC.2.1
  obtain ⟨c, h6, hc6⟩ := hJ.ck
  have hCt := Cv_tr hC
  have hI : Ck (trM M) L r c := ⟨hCt.1, (trM_lo (by omega)).trans h6⟩
  by_cases hv : inR v 1 100
  · obtain ⟨R, hR⟩ : ∃ R, tiL L v 100 (trM M, r, 0, -2) = R := ⟨_, rfl⟩
    have hge : R.2.2.2 = -2 ∨ 0 ≤ R.2.2.2 := by
      obtain ⟨h0, c', hc', hj⟩ := hJ
      rw [← hR]
      exact tiL_ge (by omega) (by omega) 100 c' (trM M, r, 0, -2) (hj.cg (fun j hj => trM_lo hj)) (by omega) (Or.inl rfl)
    have c8 := c8_till hf hK hF hB hJ.z hC h6 (by omega) hv hR
    have c9 := fun (σ1 : Mm) (a : Rf M l n σ1) => c9_till (σ := σ1) (M := M) hf a.2.1 hI hv (by omega) h6 hR
    by_cases h0 : R.2.2.2 < 0
    · have hm2 : R.2.2.2 = -2 := hge.elim id (fun z => absurd h0 (Int32.not_lt.mpr z))
      refine Pr_of (v := -2) (l' := l) (n' := n) (T' := σ.1 69) hX (hJ.st hk) (c8.mo (fun r1 s1 q => ⟨?_, q.1, ?_⟩)) (fun σ1 a e => ⟨_, c9 σ1 a, fun r2 σ2 q => ?_⟩)
      · have q2 := q.2
        rw [if_pos h0] at q2
        exact q2.1
      · have q2 := q.2
        rw [if_pos h0] at q2
        exact q2.2
      · obtain ⟨fl, nl, f1, f2, h, rfl, q⟩ := q
        rw [if_pos h0] at q
        subst q
        rw [hm2]
        exact ⟨rfl, _, _, rfl, bk_lo, by repeat first | exact Off.rf | refine o_I ?_ | refine o_Rw ?_ | refine o_Ln ?_ | refine o_Hd ?_ | refine o_Wy ?_ | refine o_Wi ?_ | refine o_Co ?_ | refine o_Bg ?_ | refine o_Ps ?_ | refine o_Tp ?_, (by first | exact a.2.1 | rfl), a.2.2.1, a.2.2.2.1, a.2.2.2.2, fun j _ => congrFun e j⟩
    · refine Pr_of (v := R.2.2.2) (l' := [R.2.2.1.toInt64, (R.1 8 - M 8).toInt64]) (n' := n) (T' := σ.1 69) hX (hJ.st hk) (c8.mo (fun r1 s1 q => ⟨?_, q.1, ?_⟩)) (fun σ1 a e => ⟨_, c9 σ1 a, fun r2 σ2 q => ?_⟩)
      · have q2 := q.2
        rw [if_neg h0] at q2
        exact q2.1
      · have q2 := q.2
        rw [if_neg h0] at q2
        exact q2.2
      · obtain ⟨fl, nl, f1, f2, h, rfl, q⟩ := q
        rw [if_neg h0] at q
        obtain ⟨fr, rfl, hrw⟩ := q
        exact ⟨rfl, _, _, rfl, bk_lo, by repeat first | exact Off.rf | refine o_I ?_ | refine o_Rw ?_ | refine o_Ln ?_ | refine o_Hd ?_ | refine o_Wy ?_ | refine o_Wi ?_ | refine o_Co ?_ | refine o_Bg ?_ | refine o_Ps ?_ | refine o_Tp ?_, (by first | exact a.2.1 | rfl), rfl, hrw, a.2.2.2.2, fun j _ => congrFun e j⟩
  · exact Pr_of hX (hJ.st hk) (c8_till_no hf hK hF hB hv) (fun σ1 a e => ⟨_, c9_till_no (σ := σ1) (M := M) hf a.2.1 hv, fun r2 σ2 q => by
    obtain ⟨rfl, rfl⟩ := q
    exact ⟨rfl, _, _, rfl, fun _ _ => rfl, by repeat first | exact Off.rf | refine o_I ?_ | refine o_Rw ?_ | refine o_Ln ?_ | refine o_Hd ?_ | refine o_Wy ?_ | refine o_Wi ?_ | refine o_Co ?_ | refine o_Bg ?_ | refine o_Ps ?_ | refine o_Tp ?_, (by first | exact a.2.1 | rfl), a.2.2.1, a.2.2.2.1, a.2.2.2.2, fun j _ => congrFun e j⟩⟩)
set_option maxRecDepth 20000 in
set_option maxHeartbeats 4000000 in
theorem p_loudest {w : Wp} (hf : Fit sh0 w) {k : Nat} {σ : Mm} (hS : St k σ) (hk : k < 512) {v : Int32} : Pr w k 4 8 mX8_loudest mX9_loudest [.int v] σ := by
  obtain ⟨M, L, r, n, l, hJ, hK, hX⟩ := hS
  have hC := hJ.cv
  have hF := hC.1.1
  have hB := hC.2.1
  obtain ⟨c, h6, hc6⟩ := hJ.ck
  have hCt := Cv_tr hC
  have hI : Ck (trM M) L r c := ⟨hCt.1, (trM_lo (by omega)).trans h6⟩
  by_cases hv : inR v 1 100
  · obtain ⟨m, rfl, m1, m2⟩ := inR_ex (lo := 1) (hi := 100) hv (by omega) (by omega)
    obtain ⟨R, hR⟩ : ∃ R, askS L loV m (trM M, r, fun _ => 0) = R := ⟨_, rfl⟩
    have hG : Gr (trM M) := Gr_cg hJ.gr (fun j h1 h2 => trM_lo (by omega))
    have c8 := c8_loudest hf hK hF hB hJ.z hC h6 m1 m2 (by omega) hJ.gr hR
    have c9 := fun (σ1 : Mm) (a : Rf M l n σ1) => c9_loudest (σ := σ1) (M := M) hf a.2.1 hI hG (k := nI m) rfl m1 m2 (by omega) h6 hR
    by_cases h0 : R.2.2 (loB R.2.2) = 0
    · refine Pr_of (v := -2) (l' := l) (n' := n) (T' := σ.1 69) hX (hJ.st hk) (c8.mo (fun r1 s1 q => ⟨?_, q.1, ?_⟩)) (fun σ1 a e => ⟨_, c9 σ1 a, fun r2 σ2 q => ?_⟩)
      · have q2 := q.2
        rw [if_pos h0] at q2
        exact q2.1
      · have q2 := q.2
        rw [if_pos h0] at q2
        exact q2.2
      · obtain ⟨fl, nl, f1, f2, h, f, q⟩ := q
        rw [if_pos h0] at q
        obtain ⟨rfl, rfl⟩ := q
        exact ⟨rfl, _, _, rfl, bk_lo, by repeat first | exact Off.rf | refine o_I ?_ | refine o_Rw ?_ | refine o_Ln ?_ | refine o_Hd ?_ | refine o_Wy ?_ | refine o_Wi ?_ | refine o_Co ?_ | refine o_Bg ?_ | refine o_Ps ?_ | refine o_Tp ?_, (by first | exact a.2.1 | rfl), a.2.2.1, a.2.2.2.1, a.2.2.2.2, fun j _ => congrFun e j⟩
    · refine Pr_of (v := nI (loB R.2.2)) (l' := loL R.2.2 8) (n' := n) (T' := σ.1 69) hX (hJ.st hk) (c8.mo (fun r1 s1 q => ⟨?_, q.1, ?_⟩)) (fun σ1 a e => ⟨_, c9 σ1 a, fun r2 σ2 q => ?_⟩)
      · have q2 := q.2
        rw [if_neg h0] at q2
        exact q2.1
      · have q2 := q.2
        rw [if_neg h0] at q2
        exact q2.2
      · obtain ⟨fl, nl, f1, f2, h, f, q⟩ := q
        rw [if_neg h0] at q
        obtain ⟨fr, rfl, rfl, hrw⟩ := q
        exact ⟨rfl, _, _, rfl, bk_lo, by repeat first | exact Off.rf | refine o_I ?_ | refine o_Rw ?_ | refine o_Ln ?_ | refine o_Hd ?_ | refine o_Wy ?_ | refine o_Wi ?_ | refine o_Co ?_ | refine o_Bg ?_ | refine o_Ps ?_ | refine o_Tp ?_, (by first | exact a.2.1 | rfl), (show nI 8 = nI (loL R.2.2 8).length by simp [loL]), hrw, a.2.2.2.2, fun j _ => congrFun e j⟩
  · exact Pr_of hX (hJ.st hk) (c8_loudest_no hf hK hF hB hv) (fun σ1 a e => ⟨_, c9_loudest_no (σ := σ1) (M := M) hf a.2.1 hv, fun r2 σ2 q => by
    obtain ⟨rfl, rfl⟩ := q
    exact ⟨rfl, _, _, rfl, fun _ _ => rfl, by repeat first | exact Off.rf | refine o_I ?_ | refine o_Rw ?_ | refine o_Ln ?_ | refine o_Hd ?_ | refine o_Wy ?_ | refine o_Wi ?_ | refine o_Co ?_ | refine o_Bg ?_ | refine o_Ps ?_ | refine o_Tp ?_, (by first | exact a.2.1 | rfl), a.2.2.1, a.2.2.2.1, a.2.2.2.2, fun j _ => congrFun e j⟩⟩)
theorem inR_lt {v : Int32} {r : Nat} (hr : r ≤ 1000) (h : inR v 0 (nI r - 1)) : ∃ i : Nat, v = nI i ∧ i < r := by
  cases r with
  | zero => exact absurd (Int32.le_trans h.1 h.2) (by decide)
  | succ r =>
    rw [nI_pred] at h
    obtain ⟨m, e, -, hm⟩ := inR_ex (lo := 0) h (by omega) (Nat.zero_le _)
    exact ⟨m, e, by omega⟩
set_option maxRecDepth 20000 in
set_option maxHeartbeats 4000000 in
theorem p_rung {w : Wp} (hf : Fit sh0 w) {k : Nat} {σ : Mm} (hS : St k σ) (hk : k < 512) {v : Int32} : Pr w k 2 1 mX8_rung mX9_rung [.int v] σ := by
  obtain ⟨M, L, r, n, l, hJ, hK, hX⟩ := hS
  have hC := hJ.cv
  have hF := hC.1.1
  have hB := hC.2.1
  have hr := hC.1.2.1
  have hr4 := hC.1.2.2.1
  by_cases hv : inR v 0 (nI r - 1)
  · obtain ⟨i, rfl, hi⟩ := inR_lt (by omega) hv
    exact Pr_of hX (hJ.st hk) (c8_rung hf hK hF hB hi) (fun σ1 a e => ⟨_, c9_rung (σ := σ1) (M := M) hf a.2.1 hr hr4 rfl hi, fun r2 σ2 q => by
    obtain ⟨fr, rfl, rfl, hrw⟩ := q
    exact ⟨rfl, _, _, rfl, fun _ _ => rfl, by repeat first | exact Off.rf | refine o_I ?_ | refine o_Rw ?_ | refine o_Ln ?_ | refine o_Hd ?_ | refine o_Wy ?_ | refine o_Wi ?_ | refine o_Co ?_ | refine o_Bg ?_ | refine o_Ps ?_ | refine o_Tp ?_, (by first | exact a.2.1 | rfl), rfl, hrw, a.2.2.2.2, fun j _ => congrFun e j⟩⟩)
  · exact Pr_of hX (hJ.st hk) (c8_rung_no hf hK hF hB hv) (fun σ1 a e => ⟨_, c9_rung_no (σ := σ1) (M := M) hf a.2.1 (by rw [hr]; exact hv), fun r2 σ2 q => by
    obtain ⟨rfl, rfl⟩ := q
    exact ⟨rfl, _, _, rfl, fun _ _ => rfl, by repeat first | exact Off.rf | refine o_I ?_ | refine o_Rw ?_ | refine o_Ln ?_ | refine o_Hd ?_ | refine o_Wy ?_ | refine o_Wi ?_ | refine o_Co ?_ | refine o_Bg ?_ | refine o_Ps ?_ | refine o_Tp ?_, (by first | exact a.2.1 | rfl), a.2.2.1, a.2.2.2.1, a.2.2.2.2, fun j _ => congrFun e j⟩⟩)
set_option maxRecDepth 20000 in
set_option maxHeartbeats 4000000 in
theorem p_told {w : Wp} (hf : Fit sh0 w) {k : Nat} {σ : Mm} (hS : St k σ) (hk : k < 512) {v : Int32} : Pr w k 1 1 mX8_told mX9_told [.int v] σ := by
  obtain ⟨M, L, r, n, l, hJ, hK, hX⟩ := hS
  have hC := hJ.cv
  have hF := hC.1.1
  have hB := hC.2.1
  exact Pr_of hX (hJ.st hk) (c8_told hf hK hF hB) (fun σ1 a e => ⟨_, c9_told (σ := σ1) (M := M) hf a.2.1, fun r2 σ2 q => by
    obtain ⟨rfl, rfl⟩ := q
    exact ⟨rfl, _, _, rfl, fun _ _ => rfl, by repeat first | exact Off.rf | refine o_I ?_ | refine o_Rw ?_ | refine o_Ln ?_ | refine o_Hd ?_ | refine o_Wy ?_ | refine o_Wi ?_ | refine o_Co ?_ | refine o_Bg ?_ | refine o_Ps ?_ | refine o_Tp ?_, (by first | exact a.2.1 | rfl), a.2.2.1, a.2.2.2.1, a.2.2.2.2, fun j _ => congrFun e j⟩⟩)
set_option maxRecDepth 20000 in
set_option maxHeartbeats 4000000 in
theorem p_count {w : Wp} (hf : Fit sh0 w) {k : Nat} {σ : Mm} (hS : St k σ) (hk : k < 512) {v : Int32} : Pr w k 2 4 mX8_count mX9_count [.int v] σ := by
  obtain ⟨M, L, r, n, l, hJ, hK, hX⟩ := hS
  have hC := hJ.cv
  have hF := hC.1.1
  have hB := hC.2.1
  refine Pr_of hX (hJ.st hk) (c8_count hf hK hF hB hJ.z hJ.lv hC.1.2.1) (fun σ1 a e => ?_)
  have c := c9_count (σ := σ1) (M := M) hf a.2.1 hF (k := v)
  rw [a.2.2.1, a.2.2.2.2] at c
  refine ⟨_, c, fun r2 σ2 q => ?_⟩
  obtain ⟨rfl, rfl⟩ := q
  exact ⟨rfl, _, _, rfl, fun _ _ => rfl, by repeat first | exact Off.rf | refine o_I ?_ | refine o_Rw ?_ | refine o_Ln ?_ | refine o_Hd ?_ | refine o_Wy ?_ | refine o_Wi ?_ | refine o_Co ?_ | refine o_Bg ?_ | refine o_Ps ?_ | refine o_Tp ?_, (by first | exact a.2.1 | rfl), a.2.2.1, a.2.2.2.1, a.2.2.2.2, fun j _ => congrFun e j⟩
end
