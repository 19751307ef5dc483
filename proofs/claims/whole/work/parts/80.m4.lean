def ahR (M : Nat → Int32) (a b : Int32) : Int32 := if ahC M a b then (if ahG M a b then bz (¬ soonB M true (ix a) (ix b) = true) else -2) else -1
def ahL (M : Nat → Int32) (l : List Int64) (a b : Int32) : List Int64 := if ahC M a b ∧ ahG M a b then [(mnI (M (231 + ix a)) (M (231 + ix b))).toInt64] else l
theorem mn_soon {M : Nat → Int32} {a b : Nat} : mnI (M (231 + a)) (M (231 + b)) = if soonB M true a b = true then M (231 + a) else M (231 + b) := by
  by_cases h : M (231 + a) = M (231 + b)
  · have e : mnI (M (231 + a)) (M (231 + b)) = M (231 + b) := by unfold mnI; rw [h]; split <;> rfl
    rw [e]
    split
    · exact h.symm
    · rfl
  · have e2 : soonB M true a b = decide (M (231 + a) < M (231 + b)) := by unfold soonB; exact if_pos (And.intro rfl h)
    rw [e2]
    unfold mnI
    by_cases h2 : M (231 + a) < M (231 + b)
    · rw [if_pos (Int32.le_of_lt h2), if_pos (decide_eq_true h2)]
    · rw [if_neg (fun q => h2 (Int32.lt_of_le_of_ne q h)), if_neg (fun q => h2 (of_decide_eq_true q))]
set_option maxRecDepth 20000 in
set_option maxHeartbeats 4000000 in
theorem c8_ahead {w : Wp} (hf : Fit sh0 w) {σ : Mm} {M : Nat → Int32} {L r n : Nat} {l : List Int64} {T : Nat → Int32} (hK : KR M L r l T n σ) (hF : Wf M L) (hB : Bo M) (hr5 : M 5 = 0 ∨ M 5 = 1 ∨ M 5 = 2) (hAr : Ar M) {a b : Int32} : Ct sh0 w 1 mX8_ahead [.ref 1, .int a, .int b] σ (fun r' σ' => r' = some (.int (ahR M a b)) ∧ Off 1 67 σ σ' ∧ KR (M) (L) r (ahL M l a b) (T) (n) σ') := by
  have hL := hF.2.2.1
  have hW := hK.1
  refine Ct_of hf (by decide) rfl (Nat.le_of_ble_eq_true rfl) (fun x o rt => ?_)
  refine V_aload_n o dX8_ahead_0 rfl rfl ?_
  refine V_getR (t := 2) o dX8_ahead_1 rfl fl_X8_10 rfl ?_
  refine V_iload_n o dX8_ahead_4 rfl rfl ?_
  rcases fnd3 hB a with hk | ⟨t, ht, rfl, hT⟩ | ⟨t, ht, rfl, hT⟩
  · refine V_cVn o rt dX8_ahead_5 ml_X8_154 (c7_find_out_2 hf hk) rfl rfl rfl (Nat.le_of_ble_eq_true rfl) rfl ?_
    refine V_astore_nN (ls' := [(3, _), (0, _), (1, _), (2, _)]) o dX8_ahead_8 rfl (by decide) rfl ?_
    refine V_aload_n o dX8_ahead_9 rfl rfl ?_
    refine V_getR (t := 2) o dX8_ahead_10 rfl fl_X8_10 rfl ?_
    refine V_iload_n o dX8_ahead_13 rfl rfl ?_
    rcases fnd3 hB b with hk2 | ⟨u, hu, rfl, hT2⟩ | ⟨u, hu, rfl, hT2⟩
    · refine V_cVn o rt dX8_ahead_14 ml_X8_154 (c7_find_out_2 hf hk2) rfl rfl rfl (Nat.le_of_ble_eq_true rfl) rfl ?_
      refine V_astoreN (ls' := [(4, _), (3, _), (0, _), (1, _), (2, _)]) o dX8_ahead_17 (by decide) rfl ?_
      refine V_aload_nN o dX8_ahead_19 rfl rfl ?_
      refine V_ifnull_n (tgt := 33) o dX8_ahead_20 (by decide) ?_
      refine V_iconst (v := -1) o dX8_ahead_33 (by decide) ?_
      refine V_iret o rt dX8_ahead_34 rfl rfl ?_
      exact ⟨by rw [ahR, if_neg (fun q => isTm_o hk q.1)], Off.rf, by rw [ahL, if_neg (fun q => (fun q => isTm_o hk q.1) q.1)]; exact hK⟩
    · refine V_cVn o rt dX8_ahead_14 ml_X8_154 (c7_find_n_2 hf hW hu hT2) rfl rfl rfl (Nat.le_of_ble_eq_true rfl) rfl ?_
      refine V_astoreN (ls' := [(4, _), (3, _), (0, _), (1, _), (2, _)]) o dX8_ahead_17 (by decide) rfl ?_
      refine V_aload_nN o dX8_ahead_19 rfl rfl ?_
      refine V_ifnull_n (tgt := 33) o dX8_ahead_20 (by decide) ?_
      refine V_iconst (v := -1) o dX8_ahead_33 (by decide) ?_
      refine V_iret o rt dX8_ahead_34 rfl rfl ?_
      exact ⟨by rw [ahR, if_neg (fun q => isTm_o hk q.1)], Off.rf, by rw [ahL, if_neg (fun q => (fun q => isTm_o hk q.1) q.1)]; exact hK⟩
    · refine V_cVr o rt dX8_ahead_14 ml_X8_154 (c7_find_2 hf hW hu hT2) rfl rfl rfl (Nat.le_of_ble_eq_true rfl) rfl ?_
      refine V_astore (ls' := [(4, _), (3, _), (0, _), (1, _), (2, _)]) o dX8_ahead_17 (by decide) rfl ?_
      refine V_aload_nN o dX8_ahead_19 rfl rfl ?_
      refine V_ifnull_n (tgt := 33) o dX8_ahead_20 (by decide) ?_
      refine V_iconst (v := -1) o dX8_ahead_33 (by decide) ?_
      refine V_iret o rt dX8_ahead_34 rfl rfl ?_
      exact ⟨by rw [ahR, if_neg (fun q => isTm_o hk q.1)], Off.rf, by rw [ahL, if_neg (fun q => (fun q => isTm_o hk q.1) q.1)]; exact hK⟩
  · refine V_cVn o rt dX8_ahead_5 ml_X8_154 (c7_find_n_2 hf hW ht hT) rfl rfl rfl (Nat.le_of_ble_eq_true rfl) rfl ?_
    refine V_astore_nN (ls' := [(3, _), (0, _), (1, _), (2, _)]) o dX8_ahead_8 rfl (by decide) rfl ?_
    refine V_aload_n o dX8_ahead_9 rfl rfl ?_
    refine V_getR (t := 2) o dX8_ahead_10 rfl fl_X8_10 rfl ?_
    refine V_iload_n o dX8_ahead_13 rfl rfl ?_
    rcases fnd3 hB b with hk2 | ⟨u, hu, rfl, hT2⟩ | ⟨u, hu, rfl, hT2⟩
    · refine V_cVn o rt dX8_ahead_14 ml_X8_154 (c7_find_out_2 hf hk2) rfl rfl rfl (Nat.le_of_ble_eq_true rfl) rfl ?_
      refine V_astoreN (ls' := [(4, _), (3, _), (0, _), (1, _), (2, _)]) o dX8_ahead_17 (by decide) rfl ?_
      refine V_aload_nN o dX8_ahead_19 rfl rfl ?_
      refine V_ifnull_n (tgt := 33) o dX8_ahead_20 (by decide) ?_
      refine V_iconst (v := -1) o dX8_ahead_33 (by decide) ?_
      refine V_iret o rt dX8_ahead_34 rfl rfl ?_
      exact ⟨by rw [ahR, if_neg (fun q => isTm_0 ht hT q.1)], Off.rf, by rw [ahL, if_neg (fun q => (fun q => isTm_0 ht hT q.1) q.1)]; exact hK⟩
    · refine V_cVn o rt dX8_ahead_14 ml_X8_154 (c7_find_n_2 hf hW hu hT2) rfl rfl rfl (Nat.le_of_ble_eq_true rfl) rfl ?_
      refine V_astoreN (ls' := [(4, _), (3, _), (0, _), (1, _), (2, _)]) o dX8_ahead_17 (by decide) rfl ?_
      refine V_aload_nN o dX8_ahead_19 rfl rfl ?_
      refine V_ifnull_n (tgt := 33) o dX8_ahead_20 (by decide) ?_
      refine V_iconst (v := -1) o dX8_ahead_33 (by decide) ?_
      refine V_iret o rt dX8_ahead_34 rfl rfl ?_
      exact ⟨by rw [ahR, if_neg (fun q => isTm_0 ht hT q.1)], Off.rf, by rw [ahL, if_neg (fun q => (fun q => isTm_0 ht hT q.1) q.1)]; exact hK⟩
    · refine V_cVr o rt dX8_ahead_14 ml_X8_154 (c7_find_2 hf hW hu hT2) rfl rfl rfl (Nat.le_of_ble_eq_true rfl) rfl ?_
      refine V_astore (ls' := [(4, _), (3, _), (0, _), (1, _), (2, _)]) o dX8_ahead_17 (by decide) rfl ?_
      refine V_aload_nN o dX8_ahead_19 rfl rfl ?_
      refine V_ifnull_n (tgt := 33) o dX8_ahead_20 (by decide) ?_
      refine V_iconst (v := -1) o dX8_ahead_33 (by decide) ?_
      refine V_iret o rt dX8_ahead_34 rfl rfl ?_
      exact ⟨by rw [ahR, if_neg (fun q => isTm_0 ht hT q.1)], Off.rf, by rw [ahL, if_neg (fun q => (fun q => isTm_0 ht hT q.1) q.1)]; exact hK⟩
  · refine V_cVr o rt dX8_ahead_5 ml_X8_154 (c7_find_2 hf hW ht hT) rfl rfl rfl (Nat.le_of_ble_eq_true rfl) rfl ?_
    refine V_astore_n (ls' := [(3, _), (0, _), (1, _), (2, _)]) o dX8_ahead_8 rfl (by decide) rfl ?_
    refine V_aload_n o dX8_ahead_9 rfl rfl ?_
    refine V_getR (t := 2) o dX8_ahead_10 rfl fl_X8_10 rfl ?_
    refine V_iload_n o dX8_ahead_13 rfl rfl ?_
    rcases fnd3 hB b with hk2 | ⟨u, hu, rfl, hT2⟩ | ⟨u, hu, rfl, hT2⟩
    · refine V_cVn o rt dX8_ahead_14 ml_X8_154 (c7_find_out_2 hf hk2) rfl rfl rfl (Nat.le_of_ble_eq_true rfl) rfl ?_
      refine V_astoreN (ls' := [(4, _), (3, _), (0, _), (1, _), (2, _)]) o dX8_ahead_17 (by decide) rfl ?_
      refine V_aload_n o dX8_ahead_19 rfl rfl ?_
      refine V_ifnull_r o dX8_ahead_20 ?_
      refine V_aloadN o dX8_ahead_23 rfl ?_
      refine V_ifnull_n (tgt := 33) o dX8_ahead_25 (by decide) ?_
      refine V_iconst (v := -1) o dX8_ahead_33 (by decide) ?_
      refine V_iret o rt dX8_ahead_34 rfl rfl ?_
      exact ⟨by rw [ahR, if_neg (fun q => isTm_o hk2 q.2.1)], Off.rf, by rw [ahL, if_neg (fun q => (fun q => isTm_o hk2 q.2.1) q.1)]; exact hK⟩
    · refine V_cVn o rt dX8_ahead_14 ml_X8_154 (c7_find_n_2 hf hW hu hT2) rfl rfl rfl (Nat.le_of_ble_eq_true rfl) rfl ?_
      refine V_astoreN (ls' := [(4, _), (3, _), (0, _), (1, _), (2, _)]) o dX8_ahead_17 (by decide) rfl ?_
      refine V_aload_n o dX8_ahead_19 rfl rfl ?_
      refine V_ifnull_r o dX8_ahead_20 ?_
      refine V_aloadN o dX8_ahead_23 rfl ?_
      refine V_ifnull_n (tgt := 33) o dX8_ahead_25 (by decide) ?_
      refine V_iconst (v := -1) o dX8_ahead_33 (by decide) ?_
      refine V_iret o rt dX8_ahead_34 rfl rfl ?_
      exact ⟨by rw [ahR, if_neg (fun q => isTm_0 hu hT2 q.2.1)], Off.rf, by rw [ahL, if_neg (fun q => (fun q => isTm_0 hu hT2 q.2.1) q.1)]; exact hK⟩
    · refine V_cVr o rt dX8_ahead_14 ml_X8_154 (c7_find_2 hf hW hu hT2) rfl rfl rfl (Nat.le_of_ble_eq_true rfl) rfl ?_
      refine V_astore (ls' := [(4, _), (3, _), (0, _), (1, _), (2, _)]) o dX8_ahead_17 (by decide) rfl ?_
      refine V_aload_n o dX8_ahead_19 rfl rfl ?_
      refine V_ifnull_r o dX8_ahead_20 ?_
      refine V_aload o dX8_ahead_23 rfl ?_
      refine V_ifnull_r o dX8_ahead_25 ?_
      refine V_iload_n o dX8_ahead_28 rfl rfl ?_
      refine V_iload_n o dX8_ahead_29 rfl rfl ?_
      refine V_icmp_ne (tgt := 35) o dX8_ahead_30 (by decide) (fun c_30 => ?_) (fun c_30 => ?_)
      · have e : aheadC M true (M 5) t u = soonB M true t u := aheadC_soon hr5 (hAr t u ht hu hT hT2 (fun q => c_30 (by rw [q])))
        refine V_aload_n o dX8_ahead_35 rfl rfl ?_
        refine V_getI o dX8_ahead_36 (kT9 t ht) fl_X8_171 (rT9 ht) ?_
        refine V_topI (v' := M (343 + t)) (hW.2.2 t ht).pau ?_
        refine V_if_ne (tgt := 50) o dX8_ahead_39 (by decide) (fun c_39 => ?_) (fun c_39 => ?_)
        · refine V_bipush (v := -2) o dX8_ahead_50 (by decide) ?_
          refine V_iret o rt dX8_ahead_52 rfl rfl ?_
          have hc : ahC M (nI t) (nI u) := ⟨isTm_t ht hT, isTm_t hu hT2, c_30⟩
          have hg : ¬ ahG M (nI t) (nI u) := fun q => by have := q.1.2; rw [ix_nI (by omega)] at this; exact c_39 this
          exact ⟨by rw [ahR, if_pos hc, if_neg hg], Off.rf, by rw [ahL, if_neg (fun q => hg q.2)]; exact hK⟩
        · refine V_aload o dX8_ahead_42 rfl ?_
          refine V_getI o dX8_ahead_44 (kT9 u hu) fl_X8_171 (rT9 hu) ?_
          refine V_topI (v' := M (343 + u)) (hW.2.2 u hu).pau ?_
          refine V_if_eq (tgt := 53) o dX8_ahead_47 (by decide) (fun c_47 => ?_) (fun c_47 => ?_)
          · refine V_aload_n o dX8_ahead_53 rfl rfl ?_
            refine V_aload o dX8_ahead_54 rfl ?_
            refine V_iconst (v := 1) o dX8_ahead_56 (by decide) ?_
            refine V_topI (v' := bz (true = true)) (bz_t rfl).symm ?_
            refine V_aload_n o dX8_ahead_57 rfl rfl ?_
            refine V_getR (t := 2) o dX8_ahead_58 rfl fl_X8_10 rfl ?_
            refine V_getI o dX8_ahead_61 rfl fl_X8_83 rfl ?_
            refine V_topI (v' := M 5) hW.1.2.1 ?_
            refine V_cVi o rt dX8_ahead_64 ml_X8_290 (c6_isAhead_9 hf hW ht hu (bd := true)) (kT9 t ht) rfl rfl (Nat.le_of_ble_eq_true rfl) rfl ?_
            refine V_istore (ls' := [(5, _), (4, _), (3, _), (0, _), (1, _), (2, _)]) o dX8_ahead_67 (by decide) rfl ?_
            refine V_aload_n o dX8_ahead_69 rfl rfl ?_
            refine V_getR (t := 52) o dX8_ahead_70 rfl fl_X8_33 rfl ?_
            refine V_callV o rt dX8_ahead_73 ml_X8_209 (c3_empty hf) rfl rfl rfl (Nat.le_of_ble_eq_true rfl) rfl (fun r_73 σ_73 q_73 => ?_)
            obtain ⟨rfl, ho_73, hR_73⟩ := q_73
            show V sh0 w x mX8_ahead (0, 0) _ _ [] _
            refine V_aload_n o dX8_ahead_76 rfl rfl ?_
            refine V_getR (t := 52) o dX8_ahead_77 rfl fl_X8_33 rfl ?_
            refine V_iload o dX8_ahead_80 rfl ?_
            refine V_if_eq (tgt := 93) o dX8_ahead_82 (by decide) (fun c_82 => ?_) (fun c_82 => ?_)
            · refine V_aload o dX8_ahead_93 rfl ?_
              refine V_getI o dX8_ahead_95 (kT9 u hu) fl_X8_183 (rT9 hu) ?_
              refine V_topI (v' := M (231 + u)) ((congrFun (ho_73 (9 + u) (by omega)).1 2).trans (hW.2.2 u hu).due) ?_
              refine V_i2l o dX8_ahead_98 ?_
              refine V_callV o rt dX8_ahead_99 ml_X8_210 (c3_put hf hR_73 (by simp)) rfl rfl rfl (Nat.le_of_ble_eq_true rfl) rfl (fun r_99 σ_99 q_99 => ?_)
              obtain ⟨rfl, hp_99, hR_99⟩ := q_99
              have ho_99 := ho_73.tr hp_99
              show V sh0 w x mX8_ahead (0, 0) _ _ [] _
              refine V_iload o dX8_ahead_102 rfl ?_
              refine V_if_eq (tgt := 111) o dX8_ahead_104 (by decide) (fun c_104 => ?_) (fun c_104 => False.elim (c_104 c_82))
              refine V_iconst (v := 1) o dX8_ahead_111 (by decide) ?_
              refine V_iret o rt dX8_ahead_112 rfl rfl ?_
              have hc : ahC M (nI t) (nI u) := ⟨isTm_t ht hT, isTm_t hu hT2, c_30⟩
              have hg : ahG M (nI t) (nI u) := by unfold ahG; rw [ix_nI (by omega), ix_nI (by omega)]; exact ⟨⟨hT, c_39⟩, hT2, c_47⟩
              have hs := bz_0.mp c_82
              rw [e] at hs
              exact ⟨by rw [ahR, if_pos hc, if_pos hg, ix_nI (by omega), ix_nI (by omega), bz_t hs], ho_99.wd (by omega) (by omega), by rw [ahL, if_pos ⟨hc, hg⟩, ix_nI (by omega), ix_nI (by omega), mn_soon, if_neg hs]; exact hK.rw hL ho_99 hR_99⟩
            · refine V_aload_n o dX8_ahead_85 rfl rfl ?_
              refine V_getI o dX8_ahead_86 (kT9 t ht) fl_X8_183 (rT9 ht) ?_
              refine V_topI (v' := M (231 + t)) ((congrFun (ho_73 (9 + t) (by omega)).1 2).trans (hW.2.2 t ht).due) ?_
              refine V_i2l o dX8_ahead_89 ?_
              refine V_goto (tgt := 99) o dX8_ahead_90 (by decide) ?_
              refine V_callV o rt dX8_ahead_99 ml_X8_210 (c3_put hf hR_73 (by simp)) rfl rfl rfl (Nat.le_of_ble_eq_true rfl) rfl (fun r_99 σ_99 q_99 => ?_)
              obtain ⟨rfl, hp_99, hR_99⟩ := q_99
              have ho_99 := ho_73.tr hp_99
              show V sh0 w x mX8_ahead (0, 0) _ _ [] _
              refine V_iload o dX8_ahead_102 rfl ?_
              refine V_if_eq (tgt := 111) o dX8_ahead_104 (by decide) (fun c_104 => False.elim (c_82 c_104)) (fun c_104 => ?_)
              refine V_iconst (v := 0) o dX8_ahead_107 (by decide) ?_
              refine V_goto (tgt := 112) o dX8_ahead_108 (by decide) ?_
              refine V_iret o rt dX8_ahead_112 rfl rfl ?_
              have hc : ahC M (nI t) (nI u) := ⟨isTm_t ht hT, isTm_t hu hT2, c_30⟩
              have hg : ahG M (nI t) (nI u) := by unfold ahG; rw [ix_nI (by omega), ix_nI (by omega)]; exact ⟨⟨hT, c_39⟩, hT2, c_47⟩
              have hs := bz_n0.mp c_82
              rw [e] at hs
              exact ⟨by rw [ahR, if_pos hc, if_pos hg, ix_nI (by omega), ix_nI (by omega), bz_f (fun q => q hs)], ho_99.wd (by omega) (by omega), by rw [ahL, if_pos ⟨hc, hg⟩, ix_nI (by omega), ix_nI (by omega), mn_soon, if_pos hs]; exact hK.rw hL ho_99 hR_99⟩
          · refine V_bipush (v := -2) o dX8_ahead_50 (by decide) ?_
            refine V_iret o rt dX8_ahead_52 rfl rfl ?_
            have hc : ahC M (nI t) (nI u) := ⟨isTm_t ht hT, isTm_t hu hT2, c_30⟩
            have hg : ¬ ahG M (nI t) (nI u) := fun q => by have := q.2.2; rw [ix_nI (by omega)] at this; exact c_47 this
            exact ⟨by rw [ahR, if_pos hc, if_neg hg], Off.rf, by rw [ahL, if_neg (fun q => hg q.2)]; exact hK⟩
      · refine V_iconst (v := -1) o dX8_ahead_33 (by decide) ?_
        refine V_iret o rt dX8_ahead_34 rfl rfl ?_
        exact ⟨by rw [ahR, if_neg (fun q => q.2.2 c_30)], Off.rf, by rw [ahL, if_neg (fun q => (fun q => q.2.2 c_30) q.1)]; exact hK⟩
set_option maxRecDepth 20000 in
set_option maxHeartbeats 4000000 in
theorem c8_way_no {w : Wp} (hf : Fit sh0 w) {σ : Mm} {M : Nat → Int32} {L r n : Nat} {l : List Int64} {T : Nat → Int32} (hK : KR M L r l T n σ) (hF : Wf M L) (hB : Bo M) {k : Int32} (hT : ¬ isTm M k) : Ct sh0 w 3 mX8_way [.ref 1, .int k] σ (fun r' σ' => r' = some (.int (-1)) ∧ Off 1 67 σ σ' ∧ KR (M) (L) r (l) (T) (n) σ') := by
  rcases fnd3 hB k with hk | ⟨t, ht, rfl, hT0⟩ | ⟨t, ht, rfl, hT0⟩
  · refine Ct_of hf (by decide) rfl (Nat.le_of_ble_eq_true rfl) (fun x o rt => ?_)
    refine V_aload_n o dX8_way_0 rfl rfl ?_
    refine V_getR (t := 2) o dX8_way_1 rfl fl_X8_10 rfl ?_
    refine V_iload_n o dX8_way_4 rfl rfl ?_
    refine V_cVn o rt dX8_way_5 ml_X8_154 (c7_find_out_2 hf hk) rfl rfl rfl (Nat.le_of_ble_eq_true rfl) rfl ?_
    refine V_astore_nN (ls' := [(2, _), (0, _), (1, _)]) o dX8_way_8 rfl (by decide) rfl ?_
    refine V_aload_nN o dX8_way_9 rfl rfl ?_
    refine V_ifnonnull_n o dX8_way_10 ?_
    refine V_iconst (v := -1) o dX8_way_13 (by decide) ?_
    refine V_iret o rt dX8_way_14 rfl rfl ?_
    exact ⟨rfl, Off.rf, hK⟩
  · refine Ct_of hf (by decide) rfl (Nat.le_of_ble_eq_true rfl) (fun x o rt => ?_)
    refine V_aload_n o dX8_way_0 rfl rfl ?_
    refine V_getR (t := 2) o dX8_way_1 rfl fl_X8_10 rfl ?_
    refine V_iload_n o dX8_way_4 rfl rfl ?_
    refine V_cVn o rt dX8_way_5 ml_X8_154 (c7_find_n_2 hf hK.1 ht hT0) rfl rfl rfl (Nat.le_of_ble_eq_true rfl) rfl ?_
    refine V_astore_nN (ls' := [(2, _), (0, _), (1, _)]) o dX8_way_8 rfl (by decide) rfl ?_
    refine V_aload_nN o dX8_way_9 rfl rfl ?_
    refine V_ifnonnull_n o dX8_way_10 ?_
    refine V_iconst (v := -1) o dX8_way_13 (by decide) ?_
    refine V_iret o rt dX8_way_14 rfl rfl ?_
    exact ⟨rfl, Off.rf, hK⟩
  · exact absurd (isTm_t ht hT0) hT
set_option maxRecDepth 20000 in
set_option maxHeartbeats 4000000 in
theorem c8_way_pa {w : Wp} (hf : Fit sh0 w) {σ : Mm} {M : Nat → Int32} {L r n : Nat} {l : List Int64} {T : Nat → Int32} (hK : KR M L r l T n σ) (hF : Wf M L) (hB : Bo M) {t : Nat} (ht : t < 16) (hT : isT M t) (hp : M (343 + t) = 1) : Ct sh0 w 3 mX8_way [.ref 1, .int (nI t)] σ (fun r' σ' => r' = some (.int (-2)) ∧ Off 1 67 σ σ' ∧ KR (M) (L) r (l) (T) (n) σ') := by
  have hL := hF.2.2.1
  have hW := hK.1
  refine Ct_of hf (by decide) rfl (Nat.le_of_ble_eq_true rfl) (fun x o rt => ?_)
  refine V_aload_n o dX8_way_0 rfl rfl ?_
  refine V_getR (t := 2) o dX8_way_1 rfl fl_X8_10 rfl ?_
  refine V_iload_n o dX8_way_4 rfl rfl ?_
  refine V_cVr o rt dX8_way_5 ml_X8_154 (c7_find_2 hf hW ht hT) rfl rfl rfl (Nat.le_of_ble_eq_true rfl) rfl ?_
  refine V_astore_n (ls' := [(2, _), (0, _), (1, _)]) o dX8_way_8 rfl (by decide) rfl ?_
  refine V_aload_n o dX8_way_9 rfl rfl ?_
  refine V_ifnonnull_r (tgt := 15) o dX8_way_10 (by decide) ?_
  refine V_aload_n o dX8_way_15 rfl rfl ?_
  refine V_getI o dX8_way_16 (kT9 t ht) fl_X8_171 (rT9 ht) ?_
  refine V_topI (v' := M (343 + t)) (hW.2.2 t ht).pau ?_
  refine V_if_eq (tgt := 25) o dX8_way_19 (by decide) (fun c_19 => False.elim (absurd (hp.symm.trans c_19) (by decide))) (fun c_19 => ?_)
  refine V_bipush (v := -2) o dX8_way_22 (by decide) ?_
  refine V_iret o rt dX8_way_24 rfl rfl ?_
  exact ⟨rfl, Off.rf, hK⟩
set_option maxRecDepth 20000 in
set_option maxHeartbeats 4000000 in
theorem c8_way {w : Wp} (hf : Fit sh0 w) {σ : Mm} {M : Nat → Int32} {L r n : Nat} {l : List Int64} {T : Nat → Int32} (hK : KR M L r l T n σ) (hF : Wf M L) (hB : Bo M) {t : Nat} (ht : t < 16) (hT : isT M t) (hp : M (343 + t) = 0) (hlv : LvOk L (M (391 + t))) {WL : List (Int32 × Int32)} (hWL : wyL M L (M (231 + t)) 5 (M (391 + t)) = WL) : Ct sh0 w 3 mX8_way [.ref 1, .int (nI t)] σ (fun r' σ' => r' = some (.int (nI WL.length)) ∧ Off 1 67 σ σ' ∧ KR (M) (L) r (rowW (M (391 + t)) WL ++ [(M (231 + t)).toInt64]) (T) (n) σ') := by
  have hL := hF.2.2.1
  have hW := hK.1
  have hlen : WL.length ≤ 5 := by rw [← hWL]; exact wyL_len _ _ _ _ _
  refine Ct_of hf (by decide) rfl (Nat.le_of_ble_eq_true rfl) (fun x o rt => ?_)
  have fin : ∀ i on (τ : Mm), i = WL.length → Off 52 54 σ τ → RwC (rowW (M (391 + t)) WL) τ → V sh0 w x mX8_way (0, 0) 70 [(5, .int (nI i)), (4, .int on), (3, .int (nI WL.length)), (0, .ref 1), (1, .int (nI t)), (2, .ref (9 + t))] [] τ := by
    intro i on τ hi ho_0 hR_0
    refine V_iload o dX8_way_70 rfl ?_
    refine V_iload_n o dX8_way_72 rfl rfl ?_
    refine V_icmp_ge (tgt := 139) o dX8_way_73 (by decide) (fun c_73 => ?_) (fun c_73 => False.elim (c_73 (by rw [hi]; exact Int32.le_refl _)))
    refine V_aload_n o dX8_way_139 rfl rfl ?_
    refine V_getR (t := 52) o dX8_way_140 rfl fl_X8_33 rfl ?_
    refine V_aload_n o dX8_way_143 rfl rfl ?_
    refine V_getI o dX8_way_144 (kT9 t ht) fl_X8_183 (rT9 ht) ?_
    refine V_topI (v' := M (231 + t)) ((congrFun (ho_0 (9 + t) (by omega)).1 2).trans (hW.2.2 t ht).due) ?_
    refine V_i2l o dX8_way_147 ?_
    refine V_callV o rt dX8_way_148 ml_X8_210 (c3_put hf hR_0 (by rw [rowW_len]; omega)) rfl rfl rfl (Nat.le_of_ble_eq_true rfl) rfl (fun r_148 σ_148 q_148 => ?_)
    obtain ⟨rfl, hp_148, hR_148⟩ := q_148
    have ho_148 := ho_0.tr hp_148
    show V sh0 w x mX8_way (0, 0) _ _ [] _
    refine V_iload_n o dX8_way_151 rfl rfl ?_
    refine V_iret o rt dX8_way_152 rfl rfl ?_
    exact ⟨rfl, ho_148.wd (by omega) (by omega), hK.rw hL ho_148 hR_148⟩
  have loop : ∀ n i on (τ : Mm) (P : List (Int32 × Int32)), P.length = i → LvOk L on → P ++ wyL M L (M (231 + t)) n on = WL → Off 52 54 σ τ → RwC (rowW (M (391 + t)) P) τ → V sh0 w x mX8_way (0, 0) 70 [(5, .int (nI i)), (4, .int on), (3, .int (nI WL.length)), (0, .ref 1), (1, .int (nI t)), (2, .ref (9 + t))] [] τ := by
    intro n
    induction n with
    | zero =>
      intro i on τ P hP hon hE ho hR
      have hs : P = WL := by rw [← hE, wyL, List.append_nil]
      subst hs
      exact fin i on τ hP.symm ho hR
    | succ n ih =>
      intro i on τ P hP hon hE ho_0 hR_0
      have hWt := (hW.off (lo := 52) (hi := 54) hL (fun _ _ _ => rfl) ho_0 (by omega))
      rw [wyL] at hE
      by_cases h0 : on = 0
      · rw [if_pos h0, List.append_nil] at hE
        subst hE
        exact fin i on τ hP.symm ho_0 hR_0
      · rw [if_neg h0] at hE
        generalize hc : M (231 + t) / wyBy M L on * wyBy M L on = c at hE
        have hi : i < WL.length := by rw [← hE, List.length_append, List.length_cons]; omega
        refine V_iload o dX8_way_70 rfl ?_
        refine V_iload_n o dX8_way_72 rfl rfl ?_
        refine V_icmp_ge (tgt := 139) o dX8_way_73 (by decide) (fun c_73 => False.elim (absurd c_73 (nI_ge hi (by omega)))) (fun c_73 => ?_)
        refine V_aload_n o dX8_way_76 rfl rfl ?_
        refine V_getR (t := 2) o dX8_way_77 rfl fl_X8_10 rfl ?_
        refine V_getR (t := 3) o dX8_way_80 rfl fl_X8_62 rfl ?_
        refine V_iload o dX8_way_83 rfl ?_
        refine V_aload_n o dX8_way_85 rfl rfl ?_
        refine V_getI o dX8_way_86 (kT9 t ht) fl_X8_183 (rT9 ht) ?_
        refine V_topI (v' := M (231 + t)) ((congrFun (ho_0 (9 + t) (by omega)).1 2).trans (hW.2.2 t ht).due) ?_
        refine V_cVi o rt dX8_way_89 ml_X8_294 (c4_turnTime_3 hf hWt.2.1 hF hon) rfl rfl rfl (Nat.le_of_ble_eq_true rfl) rfl ?_
        refine V_topI (v' := c) hc ?_
        refine V_istore (ls' := [(6, _), (5, _), (4, _), (3, _), (0, _), (1, _), (2, _)]) o dX8_way_92 (by decide) rfl ?_
        refine V_aload_n o dX8_way_94 rfl rfl ?_
        refine V_getR (t := 2) o dX8_way_95 rfl fl_X8_10 rfl ?_
        refine V_getR (t := 3) o dX8_way_98 rfl fl_X8_62 rfl ?_
        refine V_aload_n o dX8_way_101 rfl rfl ?_
        refine V_getI o dX8_way_102 (kT9 t ht) fl_X8_183 (rT9 ht) ?_
        refine V_topI (v' := M (231 + t)) ((congrFun (ho_0 (9 + t) (by omega)).1 2).trans (hW.2.2 t ht).due) ?_
        refine V_iload o dX8_way_105 rfl ?_
        refine V_isub o dX8_way_107 ?_
        refine V_cVi o rt dX8_way_108 ml_X8_278 (c4_levelFor_3 hf hWt.2.1 hL rfl) rfl rfl rfl (Nat.le_of_ble_eq_true rfl) rfl ?_
        refine V_istore (ls' := [(4, _), (6, _), (5, _), (3, _), (0, _), (1, _), (2, _)]) o dX8_way_111 (by decide) rfl ?_
        refine V_aload_n o dX8_way_113 rfl rfl ?_
        refine V_getR (t := 52) o dX8_way_114 rfl fl_X8_33 rfl ?_
        refine V_iload o dX8_way_117 rfl ?_
        refine V_i2l o dX8_way_119 ?_
        refine V_callV o rt dX8_way_120 ml_X8_210 (c3_put hf hR_0 (by rw [rowW_len]; omega)) rfl rfl rfl (Nat.le_of_ble_eq_true rfl) rfl (fun r_120 σ_120 q_120 => ?_)
        obtain ⟨rfl, hp_120, hR_120⟩ := q_120
        have ho_120 := ho_0.tr hp_120
        show V sh0 w x mX8_way (0, 0) _ _ [] _
        refine V_aload_n o dX8_way_123 rfl rfl ?_
        refine V_getR (t := 52) o dX8_way_124 rfl fl_X8_33 rfl ?_
        refine V_iload o dX8_way_127 rfl ?_
        refine V_i2l o dX8_way_129 ?_
        refine V_callV o rt dX8_way_130 ml_X8_210 (c3_put hf hR_120 (by rw [List.length_append, rowW_len]; simp; omega)) rfl rfl rfl (Nat.le_of_ble_eq_true rfl) rfl (fun r_130 σ_130 q_130 => ?_)
        obtain ⟨rfl, hp_130, hR_130⟩ := q_130
        have ho_130 := ho_120.tr hp_130
        show V sh0 w x mX8_way (0, 0) _ _ [] _
        refine V_iincV (v := nI (i + 1)) (ls' := [(5, _), (4, _), (6, _), (3, _), (0, _), (1, _), (2, _)]) o dX8_way_133 rfl (ninc 1 rfl) (by decide) rfl ?_
        refine V_goto (tgt := 70) o dX8_way_136 (by decide) ?_
        exact V_sub (by simp) (ih (i + 1) (lvF M (M (231 + t) - c) L 0) σ_130 (P ++ [(c, lvF M (M (231 + t) - c) L 0)]) (by rw [List.length_append, hP]; rfl) LvOk_lvF (by rw [List.append_assoc]; exact hE) ho_130 (by rw [rowW_app]; exact hR_130))
  refine V_aload_n o dX8_way_0 rfl rfl ?_
  refine V_getR (t := 2) o dX8_way_1 rfl fl_X8_10 rfl ?_
  refine V_iload_n o dX8_way_4 rfl rfl ?_
  refine V_cVr o rt dX8_way_5 ml_X8_154 (c7_find_2 hf hW ht hT) rfl rfl rfl (Nat.le_of_ble_eq_true rfl) rfl ?_
  refine V_astore_n (ls' := [(2, _), (0, _), (1, _)]) o dX8_way_8 rfl (by decide) rfl ?_
  refine V_aload_n o dX8_way_9 rfl rfl ?_
  refine V_ifnonnull_r (tgt := 15) o dX8_way_10 (by decide) ?_
  refine V_aload_n o dX8_way_15 rfl rfl ?_
  refine V_getI o dX8_way_16 (kT9 t ht) fl_X8_171 (rT9 ht) ?_
  refine V_topI (v' := M (343 + t)) (hW.2.2 t ht).pau ?_
  refine V_if_eq (tgt := 25) o dX8_way_19 (by decide) (fun c_19 => ?_) (fun c_19 => False.elim (c_19 hp))
  refine V_aload_n o dX8_way_25 rfl rfl ?_
  refine V_getR (t := 2) o dX8_way_26 rfl fl_X8_10 rfl ?_
  refine V_getR (t := 3) o dX8_way_29 rfl fl_X8_62 rfl ?_
  refine V_aload_n o dX8_way_32 rfl rfl ?_
  refine V_getI o dX8_way_33 (kT9 t ht) fl_X8_238 (rT9 ht) ?_
  refine V_topI (v' := M (391 + t)) (((hW.2.2 t ht).2.2 hp).1) ?_
  refine V_aload_n o dX8_way_36 rfl rfl ?_
  refine V_getI o dX8_way_37 (kT9 t ht) fl_X8_183 (rT9 ht) ?_
  refine V_topI (v' := M (231 + t)) (hW.2.2 t ht).due ?_
  refine V_cVi o rt dX8_way_40 ml_X8_275 (c4_movesFrom_3 hf hW.2.1 hF hlv hWL) rfl rfl rfl (Nat.le_of_ble_eq_true rfl) rfl ?_
  refine V_istore_n (ls' := [(3, _), (2, _), (0, _), (1, _)]) o dX8_way_43 rfl (by decide) rfl ?_
  refine V_aload_n o dX8_way_44 rfl rfl ?_
  refine V_getI o dX8_way_45 (kT9 t ht) fl_X8_238 (rT9 ht) ?_
  refine V_topI (v' := M (391 + t)) (((hW.2.2 t ht).2.2 hp).1) ?_
  refine V_istore (ls' := [(4, _), (3, _), (2, _), (0, _), (1, _)]) o dX8_way_48 (by decide) rfl ?_
  refine V_aload_n o dX8_way_50 rfl rfl ?_
  refine V_getR (t := 52) o dX8_way_51 rfl fl_X8_33 rfl ?_
  refine V_callV o rt dX8_way_54 ml_X8_209 (c3_empty hf) rfl rfl rfl (Nat.le_of_ble_eq_true rfl) rfl (fun r_54 σ_54 q_54 => ?_)
  obtain ⟨rfl, ho_54, hR_54⟩ := q_54
  show V sh0 w x mX8_way (0, 0) _ _ [] _
  refine V_aload_n o dX8_way_57 rfl rfl ?_
  refine V_getR (t := 52) o dX8_way_58 rfl fl_X8_33 rfl ?_
  refine V_iload o dX8_way_61 rfl ?_
  refine V_i2l o dX8_way_63 ?_
  refine V_callV o rt dX8_way_64 ml_X8_210 (c3_put hf hR_54 (by simp)) rfl rfl rfl (Nat.le_of_ble_eq_true rfl) rfl (fun r_64 σ_64 q_64 => ?_)
  obtain ⟨rfl, hp_64, hR_64⟩ := q_64
  have ho_64 := ho_54.tr hp_64
  show V sh0 w x mX8_way (0, 0) _ _ [] _
  refine V_iconst (v := 0) o dX8_way_67 (by decide) ?_
  refine V_istore (ls' := [(5, _), (4, _), (3, _), (2, _), (0, _), (1, _)]) o dX8_way_68 (by decide) rfl ?_
  exact V_sub (by simp; rfl) (loop 5 0 (M (391 + t)) σ_64 [] rfl hlv hWL ho_64 hR_64)
set_option maxRecDepth 20000 in
set_option maxHeartbeats 4000000 in
theorem c8_rung {w : Wp} (hf : Fit sh0 w) {σ : Mm} {M : Nat → Int32} {L r n : Nat} {l : List Int64} {T : Nat → Int32} (hK : KR M L r l T n σ) (hF : Wf M L) (hB : Bo M) {i : Nat} (hi : i < r) : Ct sh0 w 2 mX8_rung [.ref 1, .int (nI i)] σ (fun r' σ' => r' = some (.int (M (15 + 5 * i))) ∧ Off 1 67 σ σ' ∧ KR (M) (L) r (rgL M i 5) (T) (n) σ') := by
  have hL := hF.2.2.1
  have hW := hK.1
  obtain ⟨l1, l2, l3, q, l4, l5, l6, l7⟩ := hK.2.2.1
  have hq : LgP q r i < 40 := Nat.mod_lt _ (by omega)
  generalize hP : LgP q r i = P at hq
  have l8 : ∀ c, c < 5 → σ.1 (55 + c) P = M (15 + 5 * i + c) := fun c hc => by rw [← hP]; exact l7 i hi c hc
  refine Ct_of hf (by decide) rfl (Nat.le_of_ble_eq_true rfl) (fun x o rt => ?_)
  refine V_aload_n o dX8_rung_0 rfl rfl ?_
  refine V_getR (t := 54) o dX8_rung_1 rfl fl_X8_40 rfl ?_
  refine V_iload_n o dX8_rung_4 rfl rfl ?_
  refine V_cVi o rt dX8_rung_5 ml_X8_319 (c2_placeOf hf l1 l3 l5 l4 hi) rfl rfl rfl (Nat.le_of_ble_eq_true rfl) rfl ?_
  refine V_topI (v' := nI P) (by rw [hP]) ?_
  refine V_istore_n (ls' := [(2, _), (0, _), (1, _)]) o dX8_rung_8 rfl (by decide) rfl ?_
  refine V_iload_n o dX8_rung_9 rfl rfl ?_
  refine V_iconst (v := 0) o dX8_rung_10 (by decide) ?_
  refine V_bipush (v := 39) o dX8_rung_11 (by decide) ?_
  refine V_cSi o rt dX8_rung_13 ms_X8_79 (c8_isWithin hf) rfl rfl (Nat.le_of_ble_eq_true rfl) rfl ?_
  refine V_if_ne (tgt := 21) o dX8_rung_16 (by decide) (fun c_16 => ?_) (fun c_16 => False.elim (bz_0.mp c_16 ⟨nI_le (a := 0) (Nat.zero_le _) (by omega), nI_le (b := 39) (by omega) (by omega)⟩))
  refine V_aload_n o dX8_rung_21 rfl rfl ?_
  refine V_getR (t := 52) o dX8_rung_22 rfl fl_X8_33 rfl ?_
  refine V_callV o rt dX8_rung_25 ml_X8_209 (c3_empty hf) rfl rfl rfl (Nat.le_of_ble_eq_true rfl) rfl (fun r_25 σ_25 q_25 => ?_)
  obtain ⟨rfl, ho_25, hR_25⟩ := q_25
  show V sh0 w x mX8_rung (0, 0) _ _ [] _
  refine V_aload_n o dX8_rung_28 rfl rfl ?_
  refine V_getR (t := 52) o dX8_rung_29 rfl fl_X8_33 rfl ?_
  refine V_aload_n o dX8_rung_32 rfl rfl ?_
  refine V_getR (t := 54) o dX8_rung_33 rfl fl_X8_40 rfl ?_
  refine V_getR (t := 56) o dX8_rung_36 rfl fl_X8_322 rfl ?_
  refine V_iload_n o dX8_rung_39 rfl rfl ?_
  refine V_ialdN 40 o dX8_rung_40 rfl rfl rfl (by omega) rfl ?_
  refine V_topI (v' := M (15 + 5 * i + 1)) ((congrFun (ho_25 56 (by omega)).1 P).trans (l8 1 (by omega))) ?_
  refine V_i2l o dX8_rung_41 ?_
  refine V_callV o rt dX8_rung_42 ml_X8_210 (c3_put hf hR_25 (by simp)) rfl rfl rfl (Nat.le_of_ble_eq_true rfl) rfl (fun r_42 σ_42 q_42 => ?_)
  obtain ⟨rfl, hp_42, hR_42⟩ := q_42
  have ho_42 := ho_25.tr hp_42
  show V sh0 w x mX8_rung (0, 0) _ _ [] _
  refine V_aload_n o dX8_rung_45 rfl rfl ?_
  refine V_getR (t := 52) o dX8_rung_46 rfl fl_X8_33 rfl ?_
  refine V_aload_n o dX8_rung_49 rfl rfl ?_
  refine V_getR (t := 54) o dX8_rung_50 rfl fl_X8_40 rfl ?_
  refine V_getR (t := 57) o dX8_rung_53 rfl fl_X8_325 rfl ?_
  refine V_iload_n o dX8_rung_56 rfl rfl ?_
  refine V_ialdN 40 o dX8_rung_57 rfl rfl rfl (by omega) rfl ?_
  refine V_topI (v' := M (15 + 5 * i + 2)) ((congrFun (ho_42 57 (by omega)).1 P).trans (l8 2 (by omega))) ?_
  refine V_i2l o dX8_rung_58 ?_
  refine V_callV o rt dX8_rung_59 ml_X8_210 (c3_put hf hR_42 (by simp)) rfl rfl rfl (Nat.le_of_ble_eq_true rfl) rfl (fun r_59 σ_59 q_59 => ?_)
  obtain ⟨rfl, hp_59, hR_59⟩ := q_59
  have ho_59 := ho_42.tr hp_59
  show V sh0 w x mX8_rung (0, 0) _ _ [] _
  refine V_aload_n o dX8_rung_62 rfl rfl ?_
  refine V_getR (t := 52) o dX8_rung_63 rfl fl_X8_33 rfl ?_
  refine V_aload_n o dX8_rung_66 rfl rfl ?_
  refine V_getR (t := 54) o dX8_rung_67 rfl fl_X8_40 rfl ?_
  refine V_getR (t := 58) o dX8_rung_70 rfl fl_X8_328 rfl ?_
  refine V_iload_n o dX8_rung_73 rfl rfl ?_
  refine V_ialdN 40 o dX8_rung_74 rfl rfl rfl (by omega) rfl ?_
  refine V_topI (v' := M (15 + 5 * i + 3)) ((congrFun (ho_59 58 (by omega)).1 P).trans (l8 3 (by omega))) ?_
  refine V_i2l o dX8_rung_75 ?_
  refine V_callV o rt dX8_rung_76 ml_X8_210 (c3_put hf hR_59 (by simp)) rfl rfl rfl (Nat.le_of_ble_eq_true rfl) rfl (fun r_76 σ_76 q_76 => ?_)
  obtain ⟨rfl, hp_76, hR_76⟩ := q_76
  have ho_76 := ho_59.tr hp_76
  show V sh0 w x mX8_rung (0, 0) _ _ [] _
  refine V_aload_n o dX8_rung_79 rfl rfl ?_
  refine V_getR (t := 52) o dX8_rung_80 rfl fl_X8_33 rfl ?_
  refine V_aload_n o dX8_rung_83 rfl rfl ?_
  refine V_getR (t := 54) o dX8_rung_84 rfl fl_X8_40 rfl ?_
  refine V_getR (t := 59) o dX8_rung_87 rfl fl_X8_331 rfl ?_
  refine V_iload_n o dX8_rung_90 rfl rfl ?_
  refine V_ialdN 40 o dX8_rung_91 rfl rfl rfl (by omega) rfl ?_
  refine V_topI (v' := M (15 + 5 * i + 4)) ((congrFun (ho_76 59 (by omega)).1 P).trans (l8 4 (by omega))) ?_
  refine V_i2l o dX8_rung_92 ?_
  refine V_callV o rt dX8_rung_93 ml_X8_210 (c3_put hf hR_76 (by simp)) rfl rfl rfl (Nat.le_of_ble_eq_true rfl) rfl (fun r_93 σ_93 q_93 => ?_)
  obtain ⟨rfl, hp_93, hR_93⟩ := q_93
  have ho_93 := ho_76.tr hp_93
  show V sh0 w x mX8_rung (0, 0) _ _ [] _
  refine V_aload_n o dX8_rung_96 rfl rfl ?_
  refine V_getR (t := 54) o dX8_rung_97 rfl fl_X8_40 rfl ?_
  refine V_getR (t := 55) o dX8_rung_100 rfl fl_X8_334 rfl ?_
  refine V_iload_n o dX8_rung_103 rfl rfl ?_
  refine V_ialdN 40 o dX8_rung_104 rfl rfl rfl (by omega) rfl ?_
  refine V_topI (v' := M (15 + 5 * i)) ((congrFun (ho_93 55 (by omega)).1 P).trans (l8 0 (by omega))) ?_
  refine V_iret o rt dX8_rung_105 rfl rfl ?_
  exact ⟨rfl, ho_93.wd (by omega) (by omega), hK.rw hL ho_93 hR_93⟩
set_option maxRecDepth 20000 in
set_option maxHeartbeats 4000000 in
theorem c8_rung_no {w : Wp} (hf : Fit sh0 w) {σ : Mm} {M : Nat → Int32} {L r n : Nat} {l : List Int64} {T : Nat → Int32} (hK : KR M L r l T n σ) (hF : Wf M L) (hB : Bo M) {k : Int32} (hk : ¬ inR k 0 (nI r - 1)) : Ct sh0 w 2 mX8_rung [.ref 1, .int k] σ (fun r' σ' => r' = some (.int (-1)) ∧ Off 1 67 σ σ' ∧ KR (M) (L) r (l) (T) (n) σ') := by
  refine Ct_of hf (by decide) rfl (Nat.le_of_ble_eq_true rfl) (fun x o rt => ?_)
  refine V_aload_n o dX8_rung_0 rfl rfl ?_
  refine V_getR (t := 54) o dX8_rung_1 rfl fl_X8_40 rfl ?_
  refine V_iload_n o dX8_rung_4 rfl rfl ?_
  refine V_cVi o rt dX8_rung_5 ml_X8_319 (c2_placeOf_no hf hK.2.2.1.1 hk) rfl rfl rfl (Nat.le_of_ble_eq_true rfl) rfl ?_
  refine V_istore_n (ls' := [(2, _), (0, _), (1, _)]) o dX8_rung_8 rfl (by decide) rfl ?_
  refine V_iload_n o dX8_rung_9 rfl rfl ?_
  refine V_iconst (v := 0) o dX8_rung_10 (by decide) ?_
  refine V_bipush (v := 39) o dX8_rung_11 (by decide) ?_
  refine V_cSi o rt dX8_rung_13 ms_X8_79 (c8_isWithin hf) rfl rfl (Nat.le_of_ble_eq_true rfl) rfl ?_
  refine V_if_ne (tgt := 21) o dX8_rung_16 (by decide) (fun c_16 => False.elim (absurd (bz_n0.mp c_16).1 (by decide))) (fun c_16 => ?_)
  refine V_iconst (v := -1) o dX8_rung_19 (by decide) ?_
  refine V_iret o rt dX8_rung_20 rfl rfl ?_
  exact ⟨rfl, Off.rf, hK⟩
theorem WRel_rest {b L t : Nat} {M : Nat → Int32} {σ : Mm} {v : Int32} (h : WRel b M L σ) (hL : L ≤ 4) (ht : t < 16) : WRel b (uM M (359 + t) v) L (wI σ (b + 7 + t) 12 v) := by
  have h0 := h.2.2 t ht
  refine h.one hL ht (fun j hj => uM_ne _ _ (by omega)) (fun j h1 h2 h3 => uM_ne _ _ (by omega)) ?_ ?_ ?_ (fun k h1 h2 h3 => wI_ne (by omega)) ⟨?_, fun q => ?_, fun q => ?_⟩
  · rw [wI_ne (by omega), uM_ne _ _ (by omega)]; exact h.1.2.2.1
  · rw [wI_ne (by omega), uM_ne _ _ (by omega)]; exact h.1.2.2.2
  · rw [wI_ne (by omega)]; exact ⟨rfl, rfl⟩
  · rw [wI_nj (by decide), wI_nj (by decide), wI_nj (by decide), wI_nj (by decide), wI_nj (by decide), wI_nj (by decide), wI_nj (by decide), wI_nj (by decide), wI_nj (by decide), wI_nj (by decide), wI_nj (by decide)]
    rw [uM_ne _ _ (by omega), uM_ne _ _ (by omega), uM_ne _ _ (by omega), uM_ne _ _ (by omega), uM_ne _ _ (by omega), uM_ne _ _ (by omega), uM_ne _ _ (by omega), uM_ne _ _ (by omega), uM_ne _ _ (by omega), uM_ne _ _ (by omega)]
    exact h0.1
  · rw [uM_ne _ _ (by omega)] at q
    rw [wI_at, uM_self, wI_nj (by decide), wI_nj (by decide)]
    exact ⟨rfl, (h0.2.1 q).2⟩
  · rw [uM_ne _ _ (by omega)] at q
    rw [wI_nj (by decide), wI_nj (by decide), uM_ne _ _ (by omega), uM_ne _ _ (by omega)]
    exact h0.2.2 q
theorem dlM_lo {M : Nat → Int32} {L t j : Nat} {dl : Int32} (h : j < 215) : dlM M L t dl j = M j := by
  unfold dlM
  split
  · exact uM_ne _ _ (by omega)
  · rw [layM_ne (by omega), uM_ne _ _ (by omega)]
set_option maxRecDepth 20000 in
set_option maxHeartbeats 4000000 in
theorem c8_delays_so {w : Wp} (hf : Fit sh0 w) {σ : Mm} {M : Nat → Int32} {L r n : Nat} {l : List Int64} {T : Nat → Int32} (hK : KR M L r l T n σ) (hF : Wf M L) (hB : Bo M) {t : Nat} (ht : t < 16) (hT : isT M t) {dl : Int32} (hr : inR dl 1 1000000) (hw : dlWas M t = dl) : Ct sh0 w 2 mX8_delays [.ref 1, .int (nI t), .int dl] σ (fun r' σ' => r' = some (.int (-2)) ∧ Off 1 67 σ σ' ∧ KR (M) (L) r (l) (T) (n) σ') := by
  have hL := hF.2.2.1
  have hW := hK.1
  refine Ct_of hf (by decide) rfl (Nat.le_of_ble_eq_true rfl) (fun x o rt => ?_)
  refine V_aload_n o dX8_delays_0 rfl rfl ?_
  refine V_getR (t := 2) o dX8_delays_1 rfl fl_X8_10 rfl ?_
  refine V_iload_n o dX8_delays_4 rfl rfl ?_
  refine V_cVr o rt dX8_delays_5 ml_X8_154 (c7_find_2 hf hW ht hT) rfl rfl rfl (Nat.le_of_ble_eq_true rfl) rfl ?_
  refine V_astore_n (ls' := [(3, _), (0, _), (1, _), (2, _)]) o dX8_delays_8 rfl (by decide) rfl ?_
  refine V_aload_n o dX8_delays_9 rfl rfl ?_
  refine V_ifnull_r o dX8_delays_10 ?_
  refine V_iload_n o dX8_delays_13 rfl rfl ?_
  refine V_iconst (v := 1) o dX8_delays_14 (by decide) ?_
  refine V_ldc o dX8_delays_15 kc_X8_114 ?_
  refine V_cSi o rt dX8_delays_17 ms_X8_79 (c8_isWithin hf) rfl rfl (Nat.le_of_ble_eq_true rfl) rfl ?_
  refine V_if_ne (tgt := 25) o dX8_delays_20 (by decide) (fun c_20 => ?_) (fun c_20 => False.elim (bz_0.mp c_20 hr))
  refine V_aload_n o dX8_delays_25 rfl rfl ?_
  refine V_getI o dX8_delays_26 (kT9 t ht) fl_X8_171 (rT9 ht) ?_
  refine V_topI (v' := M (343 + t)) (hW.2.2 t ht).pau ?_
  refine V_if_eq (tgt := 39) o dX8_delays_29 (by decide) (fun c_29 => ?_) (fun c_29 => ?_)
  · refine V_aload_n o dX8_delays_39 rfl rfl ?_
    refine V_getI o dX8_delays_40 (kT9 t ht) fl_X8_183 (rT9 ht) ?_
    refine V_topI (v' := M (231 + t)) (hW.2.2 t ht).due ?_
    refine V_aload_n o dX8_delays_43 rfl rfl ?_
    refine V_getR (t := 2) o dX8_delays_44 rfl fl_X8_10 rfl ?_
    refine V_getI o dX8_delays_47 rfl fl_X8_123 rfl ?_
    refine V_topI (v' := M 6) hW.1.1 ?_
    refine V_isub o dX8_delays_50 ?_
    refine V_topI (v' := dlWas M t) (by rw [dlWas, if_neg (by rw [c_29]; decide)]) ?_
    refine V_istore (ls' := [(4, _), (3, _), (0, _), (1, _), (2, _)]) o dX8_delays_51 (by decide) rfl ?_
    refine V_iload o dX8_delays_53 rfl ?_
    refine V_iload_n o dX8_delays_55 rfl rfl ?_
    refine V_icmp_ne (tgt := 62) o dX8_delays_56 (by decide) (fun c_56 => False.elim (c_56 hw)) (fun c_56 => ?_)
    refine V_bipush (v := -2) o dX8_delays_59 (by decide) ?_
    refine V_iret o rt dX8_delays_61 rfl rfl ?_
    exact ⟨rfl, Off.rf, hK⟩
  · refine V_aload_n o dX8_delays_32 rfl rfl ?_
    refine V_getI o dX8_delays_33 (kT9 t ht) fl_X8_177 (rT9 ht) ?_
    refine V_topI (v' := M (359 + t)) ((hW.2.2 t ht).2.1 ((hB t ht).2.2.resolve_left c_29)).1 ?_
    refine V_goto (tgt := 51) o dX8_delays_36 (by decide) ?_
    refine V_topI (v' := dlWas M t) (by rw [dlWas, if_pos ((hB t ht).2.2.resolve_left c_29)]) ?_
    refine V_istore (ls' := [(4, _), (3, _), (0, _), (1, _), (2, _)]) o dX8_delays_51 (by decide) rfl ?_
    refine V_iload o dX8_delays_53 rfl ?_
    refine V_iload_n o dX8_delays_55 rfl rfl ?_
    refine V_icmp_ne (tgt := 62) o dX8_delays_56 (by decide) (fun c_56 => False.elim (c_56 hw)) (fun c_56 => ?_)
    refine V_bipush (v := -2) o dX8_delays_59 (by decide) ?_
    refine V_iret o rt dX8_delays_61 rfl rfl ?_
    exact ⟨rfl, Off.rf, hK⟩
set_option maxRecDepth 20000 in
set_option maxHeartbeats 4000000 in
theorem c8_delays {w : Wp} (hf : Fit sh0 w) {σ : Mm} {M : Nat → Int32} {L r n : Nat} {l : List Int64} {T : Nat → Int32} (hK : KR M L r l T n σ) (hF : Wf M L) (hB : Bo M) {t : Nat} (ht : t < 16) (hT : isT M t) {dl : Int32} (hr : inR dl 1 1000000) (hw : ¬ dlWas M t = dl) : Ct sh0 w 2 mX8_delays [.ref 1, .int (nI t), .int dl] σ (fun r' σ' => r' = some (.int 0) ∧ Off 1 67 σ σ' ∧ KR (dlM M L t dl) (L) r ([(dl - dlWas M t).toInt64]) (T) (n) σ') := by
  have hL := hF.2.2.1
  have hW := hK.1
  refine Ct_of hf (by decide) rfl (Nat.le_of_ble_eq_true rfl) (fun x o rt => ?_)
  have fin : ∀ τ : Mm, Off 2 25 σ τ → WRel 2 (dlM M L t dl) L τ → V sh0 w x mX8_delays (0, 0) 98 [(4, .int (dlWas M t)), (0, .ref 1), (1, .int (nI t)), (2, .int dl)] [] τ := by
    intro τ ho hW2
    have hK2 := hK.wk ho hW2 (fun j h1 h2 _ _ => dlM_lo h2)
    refine V_aload_n o dX8_delays_98 rfl rfl ?_
    refine V_getR (t := 52) o dX8_delays_99 rfl fl_X8_33 rfl ?_
    refine V_callV o rt dX8_delays_102 ml_X8_209 (c3_empty hf) rfl rfl rfl (Nat.le_of_ble_eq_true rfl) rfl (fun r_102 σ_102 q_102 => ?_)
    obtain ⟨rfl, ho_102, hR_102⟩ := q_102
    show V sh0 w x mX8_delays (0, 0) _ _ [] _
    refine V_aload_n o dX8_delays_105 rfl rfl ?_
    refine V_getR (t := 52) o dX8_delays_106 rfl fl_X8_33 rfl ?_
    refine V_iload_n o dX8_delays_109 rfl rfl ?_
    refine V_iload o dX8_delays_110 rfl ?_
    refine V_isub o dX8_delays_112 ?_
    refine V_i2l o dX8_delays_113 ?_
    refine V_callV o rt dX8_delays_114 ml_X8_210 (c3_put hf hR_102 (by simp)) rfl rfl rfl (Nat.le_of_ble_eq_true rfl) rfl (fun r_114 σ_114 q_114 => ?_)
    obtain ⟨rfl, hp_114, hR_114⟩ := q_114
    have ho_114 := ho_102.tr hp_114
    show V sh0 w x mX8_delays (0, 0) _ _ [] _
    refine V_iconst (v := 0) o dX8_delays_117 (by decide) ?_
    refine V_iret o rt dX8_delays_118 rfl rfl ?_
    exact ⟨rfl, (ho.wd (by omega) (by omega)).tr (ho_114.wd (by omega) (by omega)), hK2.rw hL ho_114 hR_114⟩
  refine V_aload_n o dX8_delays_0 rfl rfl ?_
  refine V_getR (t := 2) o dX8_delays_1 rfl fl_X8_10 rfl ?_
  refine V_iload_n o dX8_delays_4 rfl rfl ?_
  refine V_cVr o rt dX8_delays_5 ml_X8_154 (c7_find_2 hf hW ht hT) rfl rfl rfl (Nat.le_of_ble_eq_true rfl) rfl ?_
  refine V_astore_n (ls' := [(3, _), (0, _), (1, _), (2, _)]) o dX8_delays_8 rfl (by decide) rfl ?_
  refine V_aload_n o dX8_delays_9 rfl rfl ?_
  refine V_ifnull_r o dX8_delays_10 ?_
  refine V_iload_n o dX8_delays_13 rfl rfl ?_
  refine V_iconst (v := 1) o dX8_delays_14 (by decide) ?_
  refine V_ldc o dX8_delays_15 kc_X8_114 ?_
  refine V_cSi o rt dX8_delays_17 ms_X8_79 (c8_isWithin hf) rfl rfl (Nat.le_of_ble_eq_true rfl) rfl ?_
  refine V_if_ne (tgt := 25) o dX8_delays_20 (by decide) (fun c_20 => ?_) (fun c_20 => False.elim (bz_0.mp c_20 hr))
  refine V_aload_n o dX8_delays_25 rfl rfl ?_
  refine V_getI o dX8_delays_26 (kT9 t ht) fl_X8_171 (rT9 ht) ?_
  refine V_topI (v' := M (343 + t)) (hW.2.2 t ht).pau ?_
  refine V_if_eq (tgt := 39) o dX8_delays_29 (by decide) (fun c_29 => ?_) (fun c_29 => ?_)
  · refine V_aload_n o dX8_delays_39 rfl rfl ?_
    refine V_getI o dX8_delays_40 (kT9 t ht) fl_X8_183 (rT9 ht) ?_
    refine V_topI (v' := M (231 + t)) (hW.2.2 t ht).due ?_
    refine V_aload_n o dX8_delays_43 rfl rfl ?_
    refine V_getR (t := 2) o dX8_delays_44 rfl fl_X8_10 rfl ?_
    refine V_getI o dX8_delays_47 rfl fl_X8_123 rfl ?_
    refine V_topI (v' := M 6) hW.1.1 ?_
    refine V_isub o dX8_delays_50 ?_
    refine V_topI (v' := dlWas M t) (by rw [dlWas, if_neg (by rw [c_29]; decide)]) ?_
    refine V_istore (ls' := [(4, _), (3, _), (0, _), (1, _), (2, _)]) o dX8_delays_51 (by decide) rfl ?_
    refine V_iload o dX8_delays_53 rfl ?_
    refine V_iload_n o dX8_delays_55 rfl rfl ?_
    refine V_icmp_ne (tgt := 62) o dX8_delays_56 (by decide) (fun c_56 => ?_) (fun c_56 => False.elim (hw c_56))
    refine V_aload_n o dX8_delays_62 rfl rfl ?_
    refine V_getI o dX8_delays_63 (kT9 t ht) fl_X8_171 (rT9 ht) ?_
    refine V_topI (v' := M (343 + t)) (hW.2.2 t ht).pau ?_
    refine V_if_eq (tgt := 77) o dX8_delays_66 (by decide) (fun c_66 => ?_) (fun c_66 => False.elim (c_66 c_29))
    refine V_aload_n o dX8_delays_77 rfl rfl ?_
    refine V_aload_n o dX8_delays_78 rfl rfl ?_
    refine V_getR (t := 2) o dX8_delays_79 rfl fl_X8_10 rfl ?_
    refine V_getI o dX8_delays_82 rfl fl_X8_123 rfl ?_
    refine V_topI (v' := M 6) hW.1.1 ?_
    refine V_iload_n o dX8_delays_85 rfl rfl ?_
    refine V_iadd o dX8_delays_86 ?_
    refine V_putI o dX8_delays_87 (kT9 t ht) fl_X8_183 (rT9 ht) rfl rfl ?_
    refine V_aload_n o dX8_delays_90 rfl rfl ?_
    refine V_getR (t := 2) o dX8_delays_91 rfl fl_X8_10 rfl ?_
    refine V_aload_n o dX8_delays_94 rfl rfl ?_
    refine V_cVv o rt dX8_delays_95 ml_X8_147 (c7_lay_2 hf ht ((WRel_due hW hL ht).pre ht) (Wf_uM hF (by omega))) rfl rfl rfl (Nat.le_of_ble_eq_true rfl) rfl ?_
    have e : dlM M L t dl = layM (uM M (231 + t) (M 6 + dl)) L t := by rw [dlM, if_neg (by rw [c_29]; decide)]
    refine V_sub (by simp) (fin (laySg 2 (uM M (231 + t) (M 6 + dl)) L t (wI σ (9 + t) 2 (M 6 + dl))) (Off_lay (Off.rf.wI (by omega) (by omega)) (by omega) (by omega)) ?_)
    rw [e]
    exact WRel_lay hL ht ((WRel_due hW hL ht).pre ht) ((uM_ne _ _ (by omega)).trans c_29)
  · refine V_aload_n o dX8_delays_32 rfl rfl ?_
    refine V_getI o dX8_delays_33 (kT9 t ht) fl_X8_177 (rT9 ht) ?_
    refine V_topI (v' := M (359 + t)) ((hW.2.2 t ht).2.1 ((hB t ht).2.2.resolve_left c_29)).1 ?_
    refine V_goto (tgt := 51) o dX8_delays_36 (by decide) ?_
    refine V_topI (v' := dlWas M t) (by rw [dlWas, if_pos ((hB t ht).2.2.resolve_left c_29)]) ?_
    refine V_istore (ls' := [(4, _), (3, _), (0, _), (1, _), (2, _)]) o dX8_delays_51 (by decide) rfl ?_
    refine V_iload o dX8_delays_53 rfl ?_
    refine V_iload_n o dX8_delays_55 rfl rfl ?_
    refine V_icmp_ne (tgt := 62) o dX8_delays_56 (by decide) (fun c_56 => ?_) (fun c_56 => False.elim (hw c_56))
    refine V_aload_n o dX8_delays_62 rfl rfl ?_
    refine V_getI o dX8_delays_63 (kT9 t ht) fl_X8_171 (rT9 ht) ?_
    refine V_topI (v' := M (343 + t)) (hW.2.2 t ht).pau ?_
    refine V_if_eq (tgt := 77) o dX8_delays_66 (by decide) (fun c_66 => False.elim (c_29 c_66)) (fun c_66 => ?_)
    refine V_aload_n o dX8_delays_69 rfl rfl ?_
    refine V_iload_n o dX8_delays_70 rfl rfl ?_
    refine V_putI o dX8_delays_71 (kT9 t ht) fl_X8_177 (rT9 ht) rfl rfl ?_
    refine V_goto (tgt := 98) o dX8_delays_74 (by decide) ?_
    have e : dlM M L t dl = uM M (359 + t) dl := by rw [dlM, if_pos ((hB t ht).2.2.resolve_left c_29)]
    refine V_sub (by simp) (fin (wI σ (9 + t) 12 dl) (Off.rf.wI (by omega) (by omega)) ?_)
    rw [e]
    exact WRel_rest hW hL ht
set_option maxRecDepth 20000 in
set_option maxHeartbeats 4000000 in
theorem c8_delays_no {w : Wp} (hf : Fit sh0 w) {σ : Mm} {M : Nat → Int32} {L r n : Nat} {l : List Int64} {T : Nat → Int32} (hK : KR M L r l T n σ) (hF : Wf M L) (hB : Bo M) {k dl : Int32} (hc : ¬ (isTm M k ∧ inR dl 1 1000000)) : Ct sh0 w 2 mX8_delays [.ref 1, .int k, .int dl] σ (fun r' σ' => r' = some (.int (-1)) ∧ Off 1 67 σ σ' ∧ KR (M) (L) r (l) (T) (n) σ') := by
  have hL := hF.2.2.1
  have hW := hK.1
  refine Ct_of hf (by decide) rfl (Nat.le_of_ble_eq_true rfl) (fun x o rt => ?_)
  refine V_aload_n o dX8_delays_0 rfl rfl ?_
  refine V_getR (t := 2) o dX8_delays_1 rfl fl_X8_10 rfl ?_
  refine V_iload_n o dX8_delays_4 rfl rfl ?_
  rcases fnd3 hB k with hk | ⟨t, ht, rfl, hT⟩ | ⟨t, ht, rfl, hT⟩
  · refine V_cVn o rt dX8_delays_5 ml_X8_154 (c7_find_out_2 hf hk) rfl rfl rfl (Nat.le_of_ble_eq_true rfl) rfl ?_
    refine V_astore_nN (ls' := [(3, _), (0, _), (1, _), (2, _)]) o dX8_delays_8 rfl (by decide) rfl ?_
    refine V_aload_nN o dX8_delays_9 rfl rfl ?_
    refine V_ifnull_n (tgt := 23) o dX8_delays_10 (by decide) ?_
    refine V_iconst (v := -1) o dX8_delays_23 (by decide) ?_
    refine V_iret o rt dX8_delays_24 rfl rfl ?_
    exact ⟨rfl, Off.rf, hK⟩
  · refine V_cVn o rt dX8_delays_5 ml_X8_154 (c7_find_n_2 hf hW ht hT) rfl rfl rfl (Nat.le_of_ble_eq_true rfl) rfl ?_
    refine V_astore_nN (ls' := [(3, _), (0, _), (1, _), (2, _)]) o dX8_delays_8 rfl (by decide) rfl ?_
    refine V_aload_nN o dX8_delays_9 rfl rfl ?_
    refine V_ifnull_n (tgt := 23) o dX8_delays_10 (by decide) ?_
    refine V_iconst (v := -1) o dX8_delays_23 (by decide) ?_
    refine V_iret o rt dX8_delays_24 rfl rfl ?_
    exact ⟨rfl, Off.rf, hK⟩
  · refine V_cVr o rt dX8_delays_5 ml_X8_154 (c7_find_2 hf hW ht hT) rfl rfl rfl (Nat.le_of_ble_eq_true rfl) rfl ?_
    refine V_astore_n (ls' := [(3, _), (0, _), (1, _), (2, _)]) o dX8_delays_8 rfl (by decide) rfl ?_
    refine V_aload_n o dX8_delays_9 rfl rfl ?_
    refine V_ifnull_r o dX8_delays_10 ?_
    refine V_iload_n o dX8_delays_13 rfl rfl ?_
    refine V_iconst (v := 1) o dX8_delays_14 (by decide) ?_
    refine V_ldc o dX8_delays_15 kc_X8_114 ?_
    refine V_cSi o rt dX8_delays_17 ms_X8_79 (c8_isWithin hf) rfl rfl (Nat.le_of_ble_eq_true rfl) rfl ?_
    refine V_if_ne (tgt := 25) o dX8_delays_20 (by decide) (fun c_20 => False.elim (hc ⟨isTm_t ht hT, bz_n0.mp c_20⟩)) (fun c_20 => ?_)
    refine V_iconst (v := -1) o dX8_delays_23 (by decide) ?_
    refine V_iret o rt dX8_delays_24 rfl rfl ?_
    exact ⟨rfl, Off.rf, hK⟩
set_option maxRecDepth 20000 in
set_option maxHeartbeats 4000000 in
theorem c8_timer {w : Wp} (hf : Fit sh0 w) {σ : Mm} {M : Nat → Int32} {L r n : Nat} {l : List Int64} {T : Nat → Int32} (hK : KR M L r l T n σ) (hF : Wf M L) (hB : Bo M) {t : Nat} (ht : t < 16) (hT : isT M t) {b : Int32} (hb : inR b 0 10) : Ct sh0 w 1 mX8_timer [.ref 1, .int (nI t), .int b] σ (fun r' σ' => r' = some (.int (timerR M t b)) ∧ Off 1 67 σ σ' ∧ KR (M) (L) r (l) (T) (n) σ') := by
  have hL := hF.2.2.1
  have hW := hK.1
  refine Ct_of hf (by decide) rfl (Nat.le_of_ble_eq_true rfl) (fun x o rt => ?_)
  refine V_aload_n o dX8_timer_0 rfl rfl ?_
  refine V_getR (t := 2) o dX8_timer_1 rfl fl_X8_10 rfl ?_
  refine V_iload_n o dX8_timer_4 rfl rfl ?_
  refine V_cVr o rt dX8_timer_5 ml_X8_154 (c7_find_2 hf hW ht hT) rfl rfl rfl (Nat.le_of_ble_eq_true rfl) rfl ?_
  refine V_astore_n (ls' := [(3, _), (0, _), (1, _), (2, _)]) o dX8_timer_8 rfl (by decide) rfl ?_
  refine V_aload_n o dX8_timer_9 rfl rfl ?_
  refine V_ifnull_r o dX8_timer_10 ?_
  refine V_iload_n o dX8_timer_13 rfl rfl ?_
  refine V_iconst (v := 0) o dX8_timer_14 (by decide) ?_
  refine V_bipush (v := 10) o dX8_timer_15 (by decide) ?_
  refine V_cSi o rt dX8_timer_17 ms_X8_79 (c8_isWithin hf) rfl rfl (Nat.le_of_ble_eq_true rfl) rfl ?_
  refine V_if_ne (tgt := 31) o dX8_timer_20 (by decide) (fun c_20 => ?_) (fun c_20 => False.elim (bz_0.mp c_20 hb))
  refine V_iload_n o dX8_timer_31 rfl rfl ?_
  by_cases h0 : b = 0
  · refine V_tableIn (off := 56) (tgt := 88) o dX8_timer_32 (by rw [h0]; decide) (by rw [h0]; decide) (by rw [h0]; decide) (by decide) ?_
    refine V_aload_n o dX8_timer_88 rfl rfl ?_
    refine V_getI o dX8_timer_89 (kT9 t ht) fl_X8_171 (rT9 ht) ?_
    refine V_topI (v' := M (343 + t)) (hW.2.2 t ht).pau ?_
    refine V_if_eq (tgt := 110) o dX8_timer_92 (by decide) (fun c_92 => ?_) (fun c_92 => ?_)
    · refine V_aload_n o dX8_timer_110 rfl rfl ?_
      refine V_getI o dX8_timer_111 (kT9 t ht) fl_X8_183 (rT9 ht) ?_
      refine V_topI (v' := M (231 + t)) (hW.2.2 t ht).due ?_
      refine V_iret o rt dX8_timer_114 rfl rfl ?_
      exact ⟨by rw [timerR, if_pos h0, if_neg (by rw [c_92]; decide)], Off.rf, hK⟩
    · refine V_aload_n o dX8_timer_95 rfl rfl ?_
      refine V_getR (t := 2) o dX8_timer_96 rfl fl_X8_10 rfl ?_
      refine V_getI o dX8_timer_99 rfl fl_X8_123 rfl ?_
      refine V_topI (v' := M 6) hW.1.1 ?_
      refine V_aload_n o dX8_timer_102 rfl rfl ?_
      refine V_getI o dX8_timer_103 (kT9 t ht) fl_X8_177 (rT9 ht) ?_
      refine V_topI (v' := M (359 + t)) ((hW.2.2 t ht).2.1 ((hB t ht).2.2.resolve_left c_92)).1 ?_
      refine V_iadd o dX8_timer_106 ?_
      refine V_goto (tgt := 114) o dX8_timer_107 (by decide) ?_
      refine V_iret o rt dX8_timer_114 rfl rfl ?_
      exact ⟨by rw [timerR, if_pos h0, if_pos ((hB t ht).2.2.resolve_left c_92)], Off.rf, hK⟩
  by_cases h1 : b = 1
  · refine V_tableIn (off := 83) (tgt := 115) o dX8_timer_32 (by rw [h1]; decide) (by rw [h1]; decide) (by rw [h1]; decide) (by decide) ?_
    refine V_aload_n o dX8_timer_115 rfl rfl ?_
    refine V_getI o dX8_timer_116 (kT9 t ht) fl_X8_238 (rT9 ht) ?_
    refine V_topI (v' := cLv M t) ((hW.2.2 t ht).lv (hB t ht).2.2) ?_
    refine V_iret o rt dX8_timer_119 rfl rfl ?_
    exact ⟨by rw [timerR, if_neg (by rw [h1]; decide), if_pos h1]; rfl, Off.rf, hK⟩
  by_cases h2 : b = 2
  · refine V_tableIn (off := 88) (tgt := 120) o dX8_timer_32 (by rw [h2]; decide) (by rw [h2]; decide) (by rw [h2]; decide) (by decide) ?_
    refine V_aload_n o dX8_timer_120 rfl rfl ?_
    refine V_getI o dX8_timer_121 (kT9 t ht) fl_X8_241 (rT9 ht) ?_
    refine V_topI (v' := cSl M t) ((hW.2.2 t ht).sl (hB t ht).2.2) ?_
    refine V_iret o rt dX8_timer_124 rfl rfl ?_
    exact ⟨by rw [timerR, if_neg (by rw [h2]; decide), if_neg (by rw [h2]; decide), if_pos h2]; rfl, Off.rf, hK⟩
  by_cases h3 : b = 3
  · refine V_tableIn (off := 93) (tgt := 125) o dX8_timer_32 (by rw [h3]; decide) (by rw [h3]; decide) (by rw [h3]; decide) (by decide) ?_
    refine V_aload_n o dX8_timer_125 rfl rfl ?_
    refine V_getI o dX8_timer_126 (kT9 t ht) fl_X8_244 (rT9 ht) ?_
    refine V_topI (v' := M (247 + t)) (hW.2.2 t ht).arr ?_
    refine V_iret o rt dX8_timer_129 rfl rfl ?_
    exact ⟨by rw [timerR, if_neg (by rw [h3]; decide), if_neg (by rw [h3]; decide), if_neg (by rw [h3]; decide), if_pos h3], Off.rf, hK⟩
  by_cases h4 : b = 4
  · refine V_tableIn (off := 98) (tgt := 130) o dX8_timer_32 (by rw [h4]; decide) (by rw [h4]; decide) (by rw [h4]; decide) (by decide) ?_
    refine V_aload_n o dX8_timer_130 rfl rfl ?_
    refine V_getI o dX8_timer_131 (kT9 t ht) fl_X8_135 (rT9 ht) ?_
    refine V_topI (v' := M (263 + t)) (hW.2.2 t ht).grp ?_
    refine V_iret o rt dX8_timer_134 rfl rfl ?_
    exact ⟨by rw [timerR, if_neg (by rw [h4]; decide), if_neg (by rw [h4]; decide), if_neg (by rw [h4]; decide), if_neg (by rw [h4]; decide), if_pos h4], Off.rf, hK⟩
  by_cases h5 : b = 5
  · refine V_tableIn (off := 103) (tgt := 135) o dX8_timer_32 (by rw [h5]; decide) (by rw [h5]; decide) (by rw [h5]; decide) (by decide) ?_
    refine V_aload_n o dX8_timer_135 rfl rfl ?_
    refine V_getI o dX8_timer_136 (kT9 t ht) fl_X8_138 (rT9 ht) ?_
    refine V_topI (v' := M (279 + t)) (hW.2.2 t ht).sort ?_
    refine V_iret o rt dX8_timer_139 rfl rfl ?_
    exact ⟨by rw [timerR, if_neg (by rw [h5]; decide), if_neg (by rw [h5]; decide), if_neg (by rw [h5]; decide), if_neg (by rw [h5]; decide), if_neg (by rw [h5]; decide), if_pos h5], Off.rf, hK⟩
  by_cases h6 : b = 6
  · refine V_tableIn (off := 108) (tgt := 140) o dX8_timer_32 (by rw [h6]; decide) (by rw [h6]; decide) (by rw [h6]; decide) (by decide) ?_
    refine V_aload_n o dX8_timer_140 rfl rfl ?_
    refine V_getI o dX8_timer_141 (kT9 t ht) fl_X8_141 (rT9 ht) ?_
    refine V_topI (v' := M (295 + t)) (hW.2.2 t ht).per ?_
    refine V_iret o rt dX8_timer_144 rfl rfl ?_
    exact ⟨by rw [timerR, if_neg (by rw [h6]; decide), if_neg (by rw [h6]; decide), if_neg (by rw [h6]; decide), if_neg (by rw [h6]; decide), if_neg (by rw [h6]; decide), if_neg (by rw [h6]; decide), if_pos h6], Off.rf, hK⟩
  by_cases h7 : b = 7
  · refine V_tableIn (off := 113) (tgt := 145) o dX8_timer_32 (by rw [h7]; decide) (by rw [h7]; decide) (by rw [h7]; decide) (by decide) ?_
    refine V_aload_n o dX8_timer_145 rfl rfl ?_
    refine V_getI o dX8_timer_146 (kT9 t ht) fl_X8_144 (rT9 ht) ?_
    refine V_topI (v' := M (311 + t)) (hW.2.2 t ht).tms ?_
    refine V_iret o rt dX8_timer_149 rfl rfl ?_
    exact ⟨by rw [timerR, if_neg (by rw [h7]; decide), if_neg (by rw [h7]; decide), if_neg (by rw [h7]; decide), if_neg (by rw [h7]; decide), if_neg (by rw [h7]; decide), if_neg (by rw [h7]; decide), if_neg (by rw [h7]; decide), if_pos h7], Off.rf, hK⟩
  by_cases h8 : b = 8
  · refine V_tableIn (off := 118) (tgt := 150) o dX8_timer_32 (by rw [h8]; decide) (by rw [h8]; decide) (by rw [h8]; decide) (by decide) ?_
    refine V_aload_n o dX8_timer_150 rfl rfl ?_
    refine V_getI o dX8_timer_151 (kT9 t ht) fl_X8_247 (rT9 ht) ?_
    refine V_topI (v' := M (375 + t)) (hW.2.2 t ht).rang ?_
    refine V_iret o rt dX8_timer_154 rfl rfl ?_
    exact ⟨by rw [timerR, if_neg (by rw [h8]; decide), if_neg (by rw [h8]; decide), if_neg (by rw [h8]; decide), if_neg (by rw [h8]; decide), if_neg (by rw [h8]; decide), if_neg (by rw [h8]; decide), if_neg (by rw [h8]; decide), if_neg (by rw [h8]; decide), if_pos h8], Off.rf, hK⟩
  by_cases h9 : b = 9
  · refine V_tableIn (off := 123) (tgt := 155) o dX8_timer_32 (by rw [h9]; decide) (by rw [h9]; decide) (by rw [h9]; decide) (by decide) ?_
    refine V_aload_n o dX8_timer_155 rfl rfl ?_
    refine V_getI o dX8_timer_156 (kT9 t ht) fl_X8_168 (rT9 ht) ?_
    refine V_topI (v' := M (327 + t)) (hW.2.2 t ht).ste ?_
    refine V_if_eq (tgt := 166) o dX8_timer_159 (by decide) (fun c_159 => ?_) (fun c_159 => ?_)
    · refine V_iconst (v := 0) o dX8_timer_166 (by decide) ?_
      refine V_iret o rt dX8_timer_167 rfl rfl ?_
      exact ⟨by rw [timerR, if_neg (by rw [h9]; decide), if_neg (by rw [h9]; decide), if_neg (by rw [h9]; decide), if_neg (by rw [h9]; decide), if_neg (by rw [h9]; decide), if_neg (by rw [h9]; decide), if_neg (by rw [h9]; decide), if_neg (by rw [h9]; decide), if_neg (by rw [h9]; decide), if_pos h9, c_159], Off.rf, hK⟩
    · refine V_iconst (v := 1) o dX8_timer_162 (by decide) ?_
      refine V_goto (tgt := 167) o dX8_timer_163 (by decide) ?_
      refine V_iret o rt dX8_timer_167 rfl rfl ?_
      exact ⟨by rw [timerR, if_neg (by rw [h9]; decide), if_neg (by rw [h9]; decide), if_neg (by rw [h9]; decide), if_neg (by rw [h9]; decide), if_neg (by rw [h9]; decide), if_neg (by rw [h9]; decide), if_neg (by rw [h9]; decide), if_neg (by rw [h9]; decide), if_neg (by rw [h9]; decide), if_pos h9, show M (327 + t) = 1 from (hB t ht).2.1.resolve_left c_159], Off.rf, hK⟩
  refine V_tableOut (tgt := 168) o dX8_timer_32 (tIo10 h0 h1 h2 h3 h4 h5 h6 h7 h8 h9) (by decide) ?_
  refine V_aload_n o dX8_timer_168 rfl rfl ?_
  refine V_getI o dX8_timer_169 (kT9 t ht) fl_X8_171 (rT9 ht) ?_
  refine V_topI (v' := M (343 + t)) (hW.2.2 t ht).pau ?_
  refine V_if_eq (tgt := 182) o dX8_timer_172 (by decide) (fun c_172 => ?_) (fun c_172 => ?_)
  · refine V_iconst (v := -1) o dX8_timer_182 (by decide) ?_
    refine V_iret o rt dX8_timer_183 rfl rfl ?_
    exact ⟨by rw [timerR, if_neg h0, if_neg h1, if_neg h2, if_neg h3, if_neg h4, if_neg h5, if_neg h6, if_neg h7, if_neg h8, if_neg h9, if_neg (by rw [c_172]; decide)], Off.rf, hK⟩
  · refine V_aload_n o dX8_timer_175 rfl rfl ?_
    refine V_getI o dX8_timer_176 (kT9 t ht) fl_X8_177 (rT9 ht) ?_
    refine V_topI (v' := M (359 + t)) ((hW.2.2 t ht).2.1 ((hB t ht).2.2.resolve_left c_172)).1 ?_
    refine V_goto (tgt := 183) o dX8_timer_179 (by decide) ?_
    refine V_iret o rt dX8_timer_183 rfl rfl ?_
    exact ⟨by rw [timerR, if_neg h0, if_neg h1, if_neg h2, if_neg h3, if_neg h4, if_neg h5, if_neg h6, if_neg h7, if_neg h8, if_neg h9, if_pos ((hB t ht).2.2.resolve_left c_172)], Off.rf, hK⟩
set_option maxRecDepth 20000 in
set_option maxHeartbeats 4000000 in
theorem c8_row {w : Wp} (hf : Fit sh0 w) {σ : Mm} {M : Nat → Int32} {L r n : Nat} {l : List Int64} {T : Nat → Int32} (hK : KR M L r l T n σ) (hF : Wf M L) (hB : Bo M) {i : Nat} (hi : i < l.length) : Ct sh0 w 1 mX8_row [.ref 1, .int (nI i)] σ (fun r' σ' => r' = some (.long (l.getD i 0)) ∧ Off 1 67 σ σ' ∧ KR M L r l T n σ') := by
  have hL := hF.2.2.1
  have hW := hK.1
  have hR := hK.2.2.2.1
  have hl40 := hR.2.1
  obtain ⟨m, hm⟩ : ∃ m, l.length = m + 1 := ⟨l.length - 1, by omega⟩
  refine Ct_of hf (by decide) rfl (Nat.le_of_ble_eq_true rfl) (fun x o rt => ?_)
  refine V_iload_n o dX8_row_0 rfl rfl ?_
  refine V_iconst (v := 0) o dX8_row_1 (by decide) ?_
  refine V_aload_n o dX8_row_2 rfl rfl ?_
  refine V_getR (t := 52) o dX8_row_3 rfl fl_X8_33 rfl ?_
  refine V_getIE (v := nI (m + 1)) o dX8_row_6 rfl fl_X8_260 rfl (hR.1.trans (by rw [hm])) ?_
  refine V_iconst (v := 1) o dX8_row_9 (by decide) ?_
  refine V_isub o dX8_row_10 ?_
  refine V_topI (v' := nI (m)) (nI_pred m) ?_
  refine V_cSi o rt dX8_row_11 ms_X8_79 (c8_isWithin hf) rfl rfl (Nat.le_of_ble_eq_true rfl) rfl ?_
  refine V_if_eq (tgt := 29) o dX8_row_14 (by decide) (fun c_14 => False.elim (bz_0.mp c_14 (nI_rng (by omega) (by omega)))) (fun c_14 => ?_)
  refine V_iload_n o dX8_row_17 rfl rfl ?_
  refine V_aload_n o dX8_row_18 rfl rfl ?_
  refine V_getR (t := 52) o dX8_row_19 rfl fl_X8_33 rfl ?_
  refine V_getR (t := 53) o dX8_row_22 rfl fl_X8_349 rfl ?_
  refine V_alen (v := 40) o dX8_row_25 (by decide) (by decide) ?_
  refine V_icmp_lt (tgt := 37) o dX8_row_26 (by decide) (fun c_26 => ?_) (fun c_26 => False.elim (c_26 (nI_lt (b := 40) (by omega) (by omega))))
  refine V_aload_n o dX8_row_37 rfl rfl ?_
  refine V_getR (t := 52) o dX8_row_38 rfl fl_X8_33 rfl ?_
  refine V_getR (t := 53) o dX8_row_41 rfl fl_X8_349 rfl ?_
  refine V_iload_n o dX8_row_44 rfl rfl ?_
  refine V_laldN 40 o dX8_row_45 rfl rfl rfl (by omega) rfl ?_
  refine V_lret o rt dX8_row_46 rfl ?_
  exact ⟨by rw [← hR.2.2 i hi], Off.rf, hK⟩
