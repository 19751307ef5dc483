theorem WRel_shape {M M1 : Nat → Int32} {L N : Nat} {σ τ : Mm} (h : WRel 2 M L σ) (ho : Off 3 6 σ τ) (hS : ShR 3 M1 N τ) (e : ∀ j, 5 ≤ j → j < 423 → M1 j = M j) : WRel 2 M1 N τ := by
  refine ⟨?_, hS, fun t ht => (h.2.2 t ht).sm ht (fun j h1 h2 _ => e j (by omega) h2) ((ho (2 + 7 + t) (by omega)).1)⟩
  rw [(ho 2 (by omega)).1, e 6 (by omega) (by omega), e 5 (by omega) (by omega), e 8 (by omega) (by omega), e 9 (by omega) (by omega)]
  exact h.1
theorem wiM_hi {M W : Nat → Int32} {N j : Nat} (h : 5 ≤ j) : wiM M W N j = M j := by rw [wiM_at, if_neg (by omega), if_neg (by omega)]
theorem wiM_lo {M W : Nat → Int32} {N k : Nat} (h : k < 4) : wiM M W N (1 + k) = W k := by rw [wiM_at, if_neg (by omega), if_pos (by omega), Nat.add_sub_cancel_left]
theorem trM_lo {M : Nat → Int32} {j : Nat} (h : j < 423) : trM M j = M j := if_pos h
theorem Nm.of48 {σ τ : Mm} (h : Nm σ) (ho : Off 48 51 σ τ) : Nm τ := h.off ho (by omega)
theorem as4 {M : Nat → Int32} {a b c e : Int32} : (∀ k, k < 4 → M (1 + k) = w4 a b c e k) ↔ (M 1 = a ∧ M 2 = b ∧ M 3 = c ∧ M 4 = e) :=
  ⟨fun h => ⟨h 0 (by omega), h 1 (by omega), h 2 (by omega), h 3 (by omega)⟩, fun h k hk => by
    have : k = 0 ∨ k = 1 ∨ k = 2 ∨ k = 3 := by omega
    rcases this with q | q | q | q <;> subst q
    · exact h.1
    · exact h.2.1
    · exact h.2.2.1
    · exact h.2.2.2⟩
set_option maxRecDepth 20000 in
set_option maxHeartbeats 4000000 in
theorem c8_wheels_no {w : Wp} (hf : Fit sh0 w) {σ : Mm} {M : Nat → Int32} {L r n : Nat} {l : List Int64} {T : Nat → Int32} (hK : KR M L r l T n σ) (hF : Wf M L) (hB : Bo M) {a b c e : Int32} (hok : ¬ wiOk (w4 a b c e) = true) : Ct sh0 w 4 mX8_wheels [.ref 1, .int a, .int b, .int c, .int e] σ (fun r' σ' => r' = some (.int (-1)) ∧ Off 1 67 σ σ' ∧ KR (M) (L) r (l) (T) (n) σ') := by
  have hL := hF.2.2.1
  have hW := hK.1
  refine Ct_of hf (by decide) rfl (Nat.le_of_ble_eq_true rfl) (fun x o rt => ?_)
  refine V_iload_n o dX8_wheels_0 rfl rfl ?_
  refine V_iload_n o dX8_wheels_1 rfl rfl ?_
  refine V_iload_n o dX8_wheels_2 rfl rfl ?_
  refine V_iload o dX8_wheels_3 rfl ?_
  refine V_cSi o rt dX8_wheels_5 ms_X8_58 (c4_isPossible hf) rfl rfl (Nat.le_of_ble_eq_true rfl) rfl ?_
  refine V_if_ne (tgt := 13) o dX8_wheels_8 (by decide) (fun c_8 => False.elim (hok (pos_wi.mp (bz_n0.mp c_8)))) (fun c_8 => ?_)
  refine V_iconst (v := -1) o dX8_wheels_11 (by decide) ?_
  refine V_iret o rt dX8_wheels_12 rfl rfl ?_
  exact ⟨rfl, Off.rf, hK⟩
set_option maxRecDepth 20000 in
set_option maxHeartbeats 4000000 in
theorem c8_cost_no {w : Wp} (hf : Fit sh0 w) {σ : Mm} {M : Nat → Int32} {L r n : Nat} {l : List Int64} {T : Nat → Int32} (hK : KR M L r l T n σ) (hF : Wf M L) (hB : Bo M) {a b c e : Int32} (hok : ¬ wiOk (w4 a b c e) = true) : Ct sh0 w 4 mX8_cost [.ref 1, .int a, .int b, .int c, .int e] σ (fun r' σ' => r' = some (.int (-1)) ∧ Off 1 67 σ σ' ∧ KR (M) (L) r (l) (T) (n) σ') := by
  have hL := hF.2.2.1
  have hW := hK.1
  refine Ct_of hf (by decide) rfl (Nat.le_of_ble_eq_true rfl) (fun x o rt => ?_)
  refine V_iload_n o dX8_cost_0 rfl rfl ?_
  refine V_iload_n o dX8_cost_1 rfl rfl ?_
  refine V_iload_n o dX8_cost_2 rfl rfl ?_
  refine V_iload o dX8_cost_3 rfl ?_
  refine V_cSi o rt dX8_cost_5 ms_X8_58 (c4_isPossible hf) rfl rfl (Nat.le_of_ble_eq_true rfl) rfl ?_
  refine V_if_ne (tgt := 13) o dX8_cost_8 (by decide) (fun c_8 => False.elim (hok (pos_wi.mp (bz_n0.mp c_8)))) (fun c_8 => ?_)
  refine V_iconst (v := -1) o dX8_cost_11 (by decide) ?_
  refine V_iret o rt dX8_cost_12 rfl rfl ?_
  exact ⟨rfl, Off.rf, hK⟩
set_option maxRecDepth 20000 in
set_option maxHeartbeats 4000000 in
theorem c8_wheels_so {w : Wp} (hf : Fit sh0 w) {σ : Mm} {M : Nat → Int32} {L r n : Nat} {l : List Int64} {T : Nat → Int32} (hK : KR M L r l T n σ) (hF : Wf M L) (hB : Bo M) (hZ : Z0 M L) {a b c e : Int32} (hok : wiOk (w4 a b c e) = true) (has : asW M (w4 a b c e) (wiN (w4 a b c e) 4 0) = true) : Ct sh0 w 4 mX8_wheels [.ref 1, .int a, .int b, .int c, .int e] σ (fun r' σ' => r' = some (.int (-2)) ∧ Off 1 67 σ σ' ∧ KR (M) (L) r (l) (T) (n) σ') := by
  have hL := hF.2.2.1
  have hW := hK.1
  refine Ct_of hf (by decide) rfl (Nat.le_of_ble_eq_true rfl) (fun x o rt => ?_)
  refine V_iload_n o dX8_wheels_0 rfl rfl ?_
  refine V_iload_n o dX8_wheels_1 rfl rfl ?_
  refine V_iload_n o dX8_wheels_2 rfl rfl ?_
  refine V_iload o dX8_wheels_3 rfl ?_
  refine V_cSi o rt dX8_wheels_5 ms_X8_58 (c4_isPossible hf) rfl rfl (Nat.le_of_ble_eq_true rfl) rfl ?_
  refine V_if_ne (tgt := 13) o dX8_wheels_8 (by decide) (fun c_8 => ?_) (fun c_8 => False.elim (bz_0.mp c_8 (pos_wi.mpr hok)))
  refine V_aload_n o dX8_wheels_13 rfl rfl ?_
  refine V_getR (t := 2) o dX8_wheels_14 rfl fl_X8_10 rfl ?_
  refine V_getR (t := 3) o dX8_wheels_17 rfl fl_X8_62 rfl ?_
  refine V_iload_n o dX8_wheels_20 rfl rfl ?_
  refine V_iload_n o dX8_wheels_21 rfl rfl ?_
  refine V_iload_n o dX8_wheels_22 rfl rfl ?_
  refine V_iload o dX8_wheels_23 rfl ?_
  refine V_cVi o rt dX8_wheels_25 ml_X8_65 (c4_isOf_3 hf hW.2.1 hL) rfl rfl rfl (Nat.le_of_ble_eq_true rfl) rfl ?_
  refine V_if_eq (tgt := 34) o dX8_wheels_28 (by decide) (fun c_28 => False.elim (bz_0.mp c_28 (as4.mp ((as_of hF hZ hok).mp has)))) (fun c_28 => ?_)
  refine V_bipush (v := -2) o dX8_wheels_31 (by decide) ?_
  refine V_iret o rt dX8_wheels_33 rfl rfl ?_
  exact ⟨rfl, Off.rf, hK⟩
set_option maxRecDepth 20000 in
set_option maxHeartbeats 4000000 in
theorem c8_wheels {w : Wp} (hf : Fit sh0 w) {σ : Mm} {M : Nat → Int32} {L r n : Nat} {l : List Int64} {T : Nat → Int32} (hK : KR M L r l T n σ) (hF : Wf M L) (hB : Bo M) (hZ : Z0 M L) {a b c e : Int32} (hok : wiOk (w4 a b c e) = true) (has : ¬ asW M (w4 a b c e) (wiN (w4 a b c e) 4 0) = true) {N : Nat} (hN : wiN (w4 a b c e) 4 0 = N) {R : Nat → Int32} (hR : layAllM (wiM M (w4 a b c e) N) N = R) : Ct sh0 w 4 mX8_wheels [.ref 1, .int a, .int b, .int c, .int e] σ (fun r' σ' => r' = some (.int (nI N)) ∧ Off 1 67 σ σ' ∧ KR (R) (N) r (l) (T) (n) σ') := by
  have hL := hF.2.2.1
  have hW := hK.1
  have hF1 : Wf (wiM M (w4 a b c e) N) N := by rw [← hN]; exact Wf_wiM hok
  have hZ1 : Z0 (wiM M (w4 a b c e) N) N := by rw [← hN]; exact Z0_wiM hok
  have hB1 : Bo (wiM M (w4 a b c e) N) := Bo_same hB (fun j h1 h2 _ => wiM_hi (by omega))
  have hlo : ∀ j, 5 ≤ j → j < 391 → j ≠ 8 → R j = M j := fun j h1 h2 h3 => by rw [← hR, Lo_layAll j h2 h3]; exact wiM_hi h1
  refine Ct_of hf (by decide) rfl (Nat.le_of_ble_eq_true rfl) (fun x o rt => ?_)
  refine V_iload_n o dX8_wheels_0 rfl rfl ?_
  refine V_iload_n o dX8_wheels_1 rfl rfl ?_
  refine V_iload_n o dX8_wheels_2 rfl rfl ?_
  refine V_iload o dX8_wheels_3 rfl ?_
  refine V_cSi o rt dX8_wheels_5 ms_X8_58 (c4_isPossible hf) rfl rfl (Nat.le_of_ble_eq_true rfl) rfl ?_
  refine V_if_ne (tgt := 13) o dX8_wheels_8 (by decide) (fun c_8 => ?_) (fun c_8 => False.elim (bz_0.mp c_8 (pos_wi.mpr hok)))
  refine V_aload_n o dX8_wheels_13 rfl rfl ?_
  refine V_getR (t := 2) o dX8_wheels_14 rfl fl_X8_10 rfl ?_
  refine V_getR (t := 3) o dX8_wheels_17 rfl fl_X8_62 rfl ?_
  refine V_iload_n o dX8_wheels_20 rfl rfl ?_
  refine V_iload_n o dX8_wheels_21 rfl rfl ?_
  refine V_iload_n o dX8_wheels_22 rfl rfl ?_
  refine V_iload o dX8_wheels_23 rfl ?_
  refine V_cVi o rt dX8_wheels_25 ml_X8_65 (c4_isOf_3 hf hW.2.1 hL) rfl rfl rfl (Nat.le_of_ble_eq_true rfl) rfl ?_
  refine V_if_eq (tgt := 34) o dX8_wheels_28 (by decide) (fun c_28 => ?_) (fun c_28 => False.elim (has ((as_of hF hZ hok).mpr (as4.mpr (bz_n0.mp c_28)))))
  refine V_aload_n o dX8_wheels_34 rfl rfl ?_
  refine V_getR (t := 2) o dX8_wheels_35 rfl fl_X8_10 rfl ?_
  refine V_getR (t := 3) o dX8_wheels_38 rfl fl_X8_62 rfl ?_
  refine V_iload_n o dX8_wheels_41 rfl rfl ?_
  refine V_iload_n o dX8_wheels_42 rfl rfl ?_
  refine V_iload_n o dX8_wheels_43 rfl rfl ?_
  refine V_iload o dX8_wheels_44 rfl ?_
  refine V_callV o rt dX8_wheels_46 ml_X8_68 (c4_become_3 hf) rfl rfl rfl (Nat.le_of_ble_eq_true rfl) rfl (fun r_46 σ_46 q_46 => ?_)
  obtain ⟨rfl, ho, hb⟩ := q_46
  have hS := ShR_bc hF1 hZ1 (fun k hk => (wiM_lo hk).symm) hb
  have hW2 := WRel_shape hW ho hS (fun j h1 _ => wiM_hi h1)
  show V sh0 w x mX8_wheels (0, 0) _ _ [] _
  refine V_aload_n o dX8_wheels_49 rfl rfl ?_
  refine V_getR (t := 2) o dX8_wheels_50 rfl fl_X8_10 rfl ?_
  refine V_callV o rt dX8_wheels_53 ml_X8_72 (c7_layAll_2 hf hW2 hB1 hF1 hR) rfl rfl rfl (Nat.le_of_ble_eq_true rfl) rfl (fun r_53 σ_53 q_53 => ?_)
  obtain ⟨rfl, ho2, hd2, hW3⟩ := q_53
  show V sh0 w x mX8_wheels (0, 0) _ _ [] _
  refine V_aload_n o dX8_wheels_56 rfl rfl ?_
  refine V_getR (t := 2) o dX8_wheels_57 rfl fl_X8_10 rfl ?_
  refine V_getR (t := 3) o dX8_wheels_60 rfl fl_X8_62 rfl ?_
  refine V_getIE (v := nI (N)) o dX8_wheels_63 rfl fl_X8_75 rfl hW3.2.1.1 ?_
  refine V_iret o rt dX8_wheels_66 rfl rfl ?_
  have ho3 : Off 2 25 σ σ_53 := (ho.wd (by omega) (by omega)).tr ho2.off
  exact ⟨rfl, ho3.wd (by omega) (by omega), hK.wk ho3 hW3 (fun j h1 h2 h3 h4 => hlo j (by omega) (by omega) h3)⟩
set_option maxRecDepth 20000 in
set_option maxHeartbeats 4000000 in
theorem c8_movesBy {w : Wp} (hf : Fit sh0 w) {σ : Mm} {M : Nat → Int32} {L : Nat} (hW : WRel 2 M L σ) (hB : Bo M) {M0 : Nat → Int32} {N : Nat} (hS : ShR 48 M0 N σ) (hF0 : Wf M0 N) {R : Int32} (hR0 : mbS M M0 N = R) : Cf sh0 w 3 mX8_movesBy [.ref 1, .ref 48] σ (some (.int R)) σ := by
  unfold mbS at hR0
  refine Ct_of hf (by decide) rfl (Nat.le_of_ble_eq_true rfl) (fun x o rt => ?_)
  have loop : ∀ m t (v : Int32), t + m = 16 → itr (fun t v => if isG M t then v + nI (wl M M0 N t) else v) t m v = R → V sh0 w x mX8_movesBy (0, 0) 4 [(2, .int v), (3, .int (nI t)), (0, .ref 1), (1, .ref 48)] [] σ := by
    intro m
    induction m with
    | zero =>
      intro t v htn hR
      have h16 : t = 16 := by omega
      have hs : v = R := hR
      subst hs
      refine V_iload_n o dX8_movesBy_4 rfl rfl ?_
      refine V_bipush (v := 16) o dX8_movesBy_5 (by decide) ?_
      refine V_icmp_ge (tgt := 60) o dX8_movesBy_7 (by decide) (fun c_7 => ?_) (fun c_7 => False.elim (c_7 (by rw [h16]; decide)))
      refine V_iload_n o dX8_movesBy_60 rfl rfl ?_
      refine V_iret o rt dX8_movesBy_61 rfl rfl ?_
      exact ⟨rfl, rfl⟩
    | succ m ih =>
      intro t v htn hR
      have ht : t < 16 := by omega
      rw [itr_succ] at hR
      refine V_iload_n o dX8_movesBy_4 rfl rfl ?_
      refine V_bipush (v := 16) o dX8_movesBy_5 (by decide) ?_
      refine V_icmp_ge (tgt := 60) o dX8_movesBy_7 (by decide) (fun c_7 => False.elim (absurd c_7 (nI_ge (b := 16) (by omega) (by omega)))) (fun c_7 => ?_)
      refine V_aload_n o dX8_movesBy_10 rfl rfl ?_
      refine V_getR (t := 2) o dX8_movesBy_11 rfl fl_X8_10 rfl ?_
      refine V_iload_n o dX8_movesBy_14 rfl rfl ?_
      by_cases hG : isG M t
      · refine V_cVr o rt dX8_movesBy_15 ml_X8_186 (c7_run_2 hf hW ht hG) rfl rfl rfl (Nat.le_of_ble_eq_true rfl) rfl ?_
        refine V_astore (ls' := [(4, _), (2, _), (3, _), (0, _), (1, _)]) o dX8_movesBy_18 (by decide) rfl ?_
        refine V_aload o dX8_movesBy_20 rfl ?_
        refine V_ifnull_r o dX8_movesBy_22 ?_
        refine V_iload_n o dX8_movesBy_25 rfl rfl ?_
        refine V_aload_n o dX8_movesBy_26 rfl rfl ?_
        refine V_aload_n o dX8_movesBy_27 rfl rfl ?_
        refine V_aload o dX8_movesBy_28 rfl ?_
        refine V_getI o dX8_movesBy_30 (kT9 t ht) fl_X8_183 (rT9 ht) ?_
        refine V_topI (v' := M (231 + t)) (hW.2.2 t ht).due ?_
        refine V_aload_n o dX8_movesBy_33 rfl rfl ?_
        refine V_getR (t := 2) o dX8_movesBy_34 rfl fl_X8_10 rfl ?_
        refine V_getI o dX8_movesBy_37 rfl fl_X8_123 rfl ?_
        refine V_topI (v' := M 6) hW.1.1 ?_
        refine V_isub o dX8_movesBy_40 ?_
        refine V_cVi o rt dX8_movesBy_41 ml_X8_278 (c4_levelFor_48 hf hS hF0.2.2.1 rfl) rfl rfl rfl (Nat.le_of_ble_eq_true rfl) rfl ?_
        refine V_aload o dX8_movesBy_44 rfl ?_
        refine V_getI o dX8_movesBy_46 (kT9 t ht) fl_X8_183 (rT9 ht) ?_
        refine V_topI (v' := M (231 + t)) (hW.2.2 t ht).due ?_
        refine V_cVi o rt dX8_movesBy_49 ml_X8_275 (c4_movesFrom_48 hf hS hF0 LvOk_lvF rfl) rfl rfl rfl (Nat.le_of_ble_eq_true rfl) rfl ?_
        refine V_iadd o dX8_movesBy_52 ?_
        refine V_istore_n (ls' := [(2, _), (4, _), (3, _), (0, _), (1, _)]) o dX8_movesBy_53 rfl (by decide) rfl ?_
        refine V_iincV (v := nI (t + 1)) (ls' := [(3, _), (2, _), (4, _), (0, _), (1, _)]) o dX8_movesBy_54 rfl (ninc 1 rfl) (by decide) rfl ?_
        refine V_goto (tgt := 4) o dX8_movesBy_57 (by decide) ?_
        rw [if_pos hG] at hR
        exact V_sub (by simp; rfl) (ih (t + 1) (v + nI (wl M M0 N t)) (by omega) hR)
      · refine V_cVn o rt dX8_movesBy_15 ml_X8_186 (c7_run_n_2 hf hW hB ht hG) rfl rfl rfl (Nat.le_of_ble_eq_true rfl) rfl ?_
        refine V_astoreN (ls' := [(4, _), (2, _), (3, _), (0, _), (1, _)]) o dX8_movesBy_18 (by decide) rfl ?_
        refine V_aloadN o dX8_movesBy_20 rfl ?_
        refine V_ifnull_n (tgt := 54) o dX8_movesBy_22 (by decide) ?_
        refine V_iincV (v := nI (t + 1)) (ls' := [(3, _), (4, _), (2, _), (0, _), (1, _)]) o dX8_movesBy_54 rfl (ninc 1 rfl) (by decide) rfl ?_
        refine V_goto (tgt := 4) o dX8_movesBy_57 (by decide) ?_
        rw [if_neg hG] at hR
        exact V_sub (by simp) (ih (t + 1) v (by omega) hR)
  refine V_iconst (v := 0) o dX8_movesBy_0 (by decide) ?_
  refine V_istore_n (ls' := [(2, _), (0, _), (1, _)]) o dX8_movesBy_1 rfl (by decide) rfl ?_
  refine V_iconst (v := 0) o dX8_movesBy_2 (by decide) ?_
  refine V_istore_n (ls' := [(3, _), (2, _), (0, _), (1, _)]) o dX8_movesBy_3 rfl (by decide) rfl ?_
  exact V_sub (by simp; rfl) (loop 16 0 0 (by omega) hR0)
set_option maxRecDepth 20000 in
set_option maxHeartbeats 4000000 in
theorem c8_cost {w : Wp} (hf : Fit sh0 w) {σ : Mm} {M : Nat → Int32} {L r n : Nat} {l : List Int64} {T : Nat → Int32} (hK : KR M L r l T n σ) (hF : Wf M L) (hB : Bo M) {a b c e : Int32} (hok : wiOk (w4 a b c e) = true) {N : Nat} (hN : wiN (w4 a b c e) 4 0 = N) {M0 : Nat → Int32} (hM0 : wiM (trM M) (w4 a b c e) N = M0) {R : Int32} (hR0 : mbS M M0 N = R) {S : Int32 × Int32} (hS0 : faS M M0 N = S) : Ct sh0 w 4 mX8_cost [.ref 1, .int a, .int b, .int c, .int e] σ (fun r' σ' => r' = some (.int R) ∧ Off 1 67 σ σ' ∧ KR (M) (L) r ([S.1.toInt64, S.2.toInt64]) (T) (n) σ') := by
  have hL := hF.2.2.1
  have hW := hK.1
  have hF1 : Wf M0 N := by rw [← hM0, ← hN]; exact Wf_wiM hok
  have hZ1 : Z0 M0 N := by rw [← hM0, ← hN]; exact Z0_wiM hok
  unfold faS at hS0
  refine Ct_of hf (by decide) rfl (Nat.le_of_ble_eq_true rfl) (fun x o rt => ?_)
  have main : ∀ τ : Mm, Off 48 51 σ τ → ShR 48 M0 N τ → V sh0 w x mX8_cost (0, 0) 25 [(0, .ref 1), (1, .int a), (2, .int b), (3, .int c), (4, .int e)] [] τ := by
    intro τ ho hS
    have hW2 : WRel 2 M L τ := hW.off hL (fun _ _ _ => rfl) ho (by omega)
    have hKt : KR M L r l T n τ := hK.th hL (ho.wd (by omega) (by omega)) (hK.2.2.2.2.2.of48 ho)
    have loop : ∀ m t (v : Int32 × Int32), t + m = 16 → itr (fun t v => if isG M t then (v.1 + bz (lvF M0 (M (231 + t) - M 6) N 0 = -1), mxI v.2 (nI (wl M M0 N t))) else v) t m v = S → V sh0 w x mX8_cost (0, 0) 34 [(7, .int (nI t)), (6, .int v.2), (5, .int v.1), (0, .ref 1), (1, .int a), (2, .int b), (3, .int c), (4, .int e)] [] τ := by
      intro m
      induction m with
      | zero =>
        intro t v htn hR
        have h16 : t = 16 := by omega
        have hs : v = S := hR
        subst hs
        refine V_iload o dX8_cost_34 rfl ?_
        refine V_bipush (v := 16) o dX8_cost_36 (by decide) ?_
        refine V_icmp_ge (tgt := 122) o dX8_cost_38 (by decide) (fun c_38 => ?_) (fun c_38 => False.elim (c_38 (by rw [h16]; decide)))
        refine V_aload_n o dX8_cost_122 rfl rfl ?_
        refine V_getR (t := 52) o dX8_cost_123 rfl fl_X8_33 rfl ?_
        refine V_callV o rt dX8_cost_126 ml_X8_209 (c3_empty hf) rfl rfl rfl (Nat.le_of_ble_eq_true rfl) rfl (fun r_126 σ_126 q_126 => ?_)
        obtain ⟨rfl, ho_126, hR_126⟩ := q_126
        show V sh0 w x mX8_cost (0, 0) _ _ [] _
        refine V_aload_n o dX8_cost_129 rfl rfl ?_
        refine V_getR (t := 52) o dX8_cost_130 rfl fl_X8_33 rfl ?_
        refine V_iload o dX8_cost_133 rfl ?_
        refine V_i2l o dX8_cost_135 ?_
        refine V_callV o rt dX8_cost_136 ml_X8_210 (c3_put hf hR_126 (by simp)) rfl rfl rfl (Nat.le_of_ble_eq_true rfl) rfl (fun r_136 σ_136 q_136 => ?_)
        obtain ⟨rfl, hp_136, hR_136⟩ := q_136
        have ho_136 := ho_126.tr hp_136
        show V sh0 w x mX8_cost (0, 0) _ _ [] _
        refine V_aload_n o dX8_cost_139 rfl rfl ?_
        refine V_getR (t := 52) o dX8_cost_140 rfl fl_X8_33 rfl ?_
        refine V_iload o dX8_cost_143 rfl ?_
        refine V_i2l o dX8_cost_145 ?_
        refine V_callV o rt dX8_cost_146 ml_X8_210 (c3_put hf hR_136 (by simp)) rfl rfl rfl (Nat.le_of_ble_eq_true rfl) rfl (fun r_146 σ_146 q_146 => ?_)
        obtain ⟨rfl, hp_146, hR_146⟩ := q_146
        have ho_146 := ho_136.tr hp_146
        show V sh0 w x mX8_cost (0, 0) _ _ [] _
        have hKe := hKt.rw hL ho_146 hR_146
        have hSe : ShR 48 M0 N σ_146 := hS.off hF1.2.2.1 (fun _ _ => rfl) (ho_146 48 (by omega)).1 (ho_146 49 (by omega)).1 (ho_146 50 (by omega)).1
        refine V_aload_n o dX8_cost_149 rfl rfl ?_
        refine V_aload_n o dX8_cost_150 rfl rfl ?_
        refine V_getR (t := 48) o dX8_cost_151 rfl fl_X8_22 rfl ?_
        refine V_cVi o rt dX8_cost_154 ml_X8_286 (c8_movesBy hf hKe.1 hB hSe hF1 hR0) rfl rfl rfl (Nat.le_of_ble_eq_true rfl) rfl ?_
        refine V_iret o rt dX8_cost_157 rfl rfl ?_
        exact ⟨rfl, (ho.wd (by omega) (by omega)).tr (ho_146.wd (by omega) (by omega)), hKe⟩
      | succ m ih =>
        intro t v htn hR
        have ht : t < 16 := by omega
        rw [itr_succ] at hR
        refine V_iload o dX8_cost_34 rfl ?_
        refine V_bipush (v := 16) o dX8_cost_36 (by decide) ?_
        refine V_icmp_ge (tgt := 122) o dX8_cost_38 (by decide) (fun c_38 => False.elim (absurd c_38 (nI_ge (b := 16) (by omega) (by omega)))) (fun c_38 => ?_)
        refine V_aload_n o dX8_cost_41 rfl rfl ?_
        refine V_getR (t := 2) o dX8_cost_42 rfl fl_X8_10 rfl ?_
        refine V_iload o dX8_cost_45 rfl ?_
        by_cases hG : isG M t
        · refine V_cVr o rt dX8_cost_47 ml_X8_186 (c7_run_2 hf hW2 ht hG) rfl rfl rfl (Nat.le_of_ble_eq_true rfl) rfl ?_
          refine V_astore (ls' := [(8, _), (7, _), (6, _), (5, _), (0, _), (1, _), (2, _), (3, _), (4, _)]) o dX8_cost_50 (by decide) rfl ?_
          refine V_aload o dX8_cost_52 rfl ?_
          refine V_ifnull_r o dX8_cost_54 ?_
          refine V_aload_n o dX8_cost_57 rfl rfl ?_
          refine V_getR (t := 48) o dX8_cost_58 rfl fl_X8_22 rfl ?_
          refine V_aload o dX8_cost_61 rfl ?_
          refine V_getI o dX8_cost_63 (kT9 t ht) fl_X8_183 (rT9 ht) ?_
          refine V_topI (v' := M (231 + t)) (hW2.2.2 t ht).due ?_
          refine V_aload_n o dX8_cost_66 rfl rfl ?_
          refine V_getR (t := 2) o dX8_cost_67 rfl fl_X8_10 rfl ?_
          refine V_getI o dX8_cost_70 rfl fl_X8_123 rfl ?_
          refine V_topI (v' := M 6) hW2.1.1 ?_
          refine V_isub o dX8_cost_73 ?_
          refine V_cVi o rt dX8_cost_74 ml_X8_278 (c4_levelFor_48 hf hS hF1.2.2.1 rfl) rfl rfl rfl (Nat.le_of_ble_eq_true rfl) rfl ?_
          refine V_istore (ls' := [(9, _), (8, _), (7, _), (6, _), (5, _), (0, _), (1, _), (2, _), (3, _), (4, _)]) o dX8_cost_77 (by decide) rfl ?_
          refine V_iload o dX8_cost_79 rfl ?_
          refine V_iload o dX8_cost_81 rfl ?_
          refine V_iconst (v := -1) o dX8_cost_83 (by decide) ?_
          refine V_icmp_ne (tgt := 91) o dX8_cost_84 (by decide) (fun c_84 => ?_) (fun c_84 => ?_)
          · refine V_iconst (v := 0) o dX8_cost_91 (by decide) ?_
            refine V_iadd o dX8_cost_92 ?_
            refine V_istore (ls' := [(5, _), (9, _), (8, _), (7, _), (6, _), (0, _), (1, _), (2, _), (3, _), (4, _)]) o dX8_cost_93 (by decide) rfl ?_
            refine V_iload o dX8_cost_95 rfl ?_
            refine V_aload_n o dX8_cost_97 rfl rfl ?_
            refine V_getR (t := 48) o dX8_cost_98 rfl fl_X8_22 rfl ?_
            refine V_iload o dX8_cost_101 rfl ?_
            refine V_aload o dX8_cost_103 rfl ?_
            refine V_getI o dX8_cost_105 (kT9 t ht) fl_X8_183 (rT9 ht) ?_
            refine V_topI (v' := M (231 + t)) (hW2.2.2 t ht).due ?_
            refine V_cVi o rt dX8_cost_108 ml_X8_275 (c4_movesFrom_48 hf hS hF1 LvOk_lvF rfl) rfl rfl rfl (Nat.le_of_ble_eq_true rfl) rfl ?_
            refine V_cSi o rt dX8_cost_111 ms_X8_281 (cJ_max hf) rfl rfl (Nat.le_of_ble_eq_true rfl) rfl ?_
            refine V_istore (ls' := [(6, _), (5, _), (9, _), (8, _), (7, _), (0, _), (1, _), (2, _), (3, _), (4, _)]) o dX8_cost_114 (by decide) rfl ?_
            refine V_iincV (v := nI (t + 1)) (ls' := [(7, _), (6, _), (5, _), (9, _), (8, _), (0, _), (1, _), (2, _), (3, _), (4, _)]) o dX8_cost_116 rfl (ninc 1 rfl) (by decide) rfl ?_
            refine V_goto (tgt := 34) o dX8_cost_119 (by decide) ?_
            rw [if_pos hG, bz_f c_84] at hR
            exact V_sub (by simp; rfl) (ih (t + 1) (v.1 + 0, mxI v.2 (nI (wl M M0 N t))) (by omega) hR)
          · refine V_iconst (v := 1) o dX8_cost_87 (by decide) ?_
            refine V_goto (tgt := 92) o dX8_cost_88 (by decide) ?_
            refine V_iadd o dX8_cost_92 ?_
            refine V_istore (ls' := [(5, _), (9, _), (8, _), (7, _), (6, _), (0, _), (1, _), (2, _), (3, _), (4, _)]) o dX8_cost_93 (by decide) rfl ?_
            refine V_iload o dX8_cost_95 rfl ?_
            refine V_aload_n o dX8_cost_97 rfl rfl ?_
            refine V_getR (t := 48) o dX8_cost_98 rfl fl_X8_22 rfl ?_
            refine V_iload o dX8_cost_101 rfl ?_
            refine V_aload o dX8_cost_103 rfl ?_
            refine V_getI o dX8_cost_105 (kT9 t ht) fl_X8_183 (rT9 ht) ?_
            refine V_topI (v' := M (231 + t)) (hW2.2.2 t ht).due ?_
            refine V_cVi o rt dX8_cost_108 ml_X8_275 (c4_movesFrom_48 hf hS hF1 LvOk_lvF rfl) rfl rfl rfl (Nat.le_of_ble_eq_true rfl) rfl ?_
            refine V_cSi o rt dX8_cost_111 ms_X8_281 (cJ_max hf) rfl rfl (Nat.le_of_ble_eq_true rfl) rfl ?_
            refine V_istore (ls' := [(6, _), (5, _), (9, _), (8, _), (7, _), (0, _), (1, _), (2, _), (3, _), (4, _)]) o dX8_cost_114 (by decide) rfl ?_
            refine V_iincV (v := nI (t + 1)) (ls' := [(7, _), (6, _), (5, _), (9, _), (8, _), (0, _), (1, _), (2, _), (3, _), (4, _)]) o dX8_cost_116 rfl (ninc 1 rfl) (by decide) rfl ?_
            refine V_goto (tgt := 34) o dX8_cost_119 (by decide) ?_
            rw [if_pos hG, bz_t c_84] at hR
            exact V_sub (by simp; rfl) (ih (t + 1) (v.1 + 1, mxI v.2 (nI (wl M M0 N t))) (by omega) hR)
        · refine V_cVn o rt dX8_cost_47 ml_X8_186 (c7_run_n_2 hf hW2 hB ht hG) rfl rfl rfl (Nat.le_of_ble_eq_true rfl) rfl ?_
          refine V_astoreN (ls' := [(8, _), (7, _), (6, _), (5, _), (0, _), (1, _), (2, _), (3, _), (4, _)]) o dX8_cost_50 (by decide) rfl ?_
          refine V_aloadN o dX8_cost_52 rfl ?_
          refine V_ifnull_n (tgt := 116) o dX8_cost_54 (by decide) ?_
          refine V_iincV (v := nI (t + 1)) (ls' := [(7, _), (8, _), (6, _), (5, _), (0, _), (1, _), (2, _), (3, _), (4, _)]) o dX8_cost_116 rfl (ninc 1 rfl) (by decide) rfl ?_
          refine V_goto (tgt := 34) o dX8_cost_119 (by decide) ?_
          rw [if_neg hG] at hR
          exact V_sub (by simp) (ih (t + 1) v (by omega) hR)
    refine V_iconst (v := 0) o dX8_cost_25 (by decide) ?_
    refine V_istore (ls' := [(5, _), (0, _), (1, _), (2, _), (3, _), (4, _)]) o dX8_cost_26 (by decide) rfl ?_
    refine V_iconst (v := 0) o dX8_cost_28 (by decide) ?_
    refine V_istore (ls' := [(6, _), (5, _), (0, _), (1, _), (2, _), (3, _), (4, _)]) o dX8_cost_29 (by decide) rfl ?_
    refine V_iconst (v := 0) o dX8_cost_31 (by decide) ?_
    refine V_istore (ls' := [(7, _), (6, _), (5, _), (0, _), (1, _), (2, _), (3, _), (4, _)]) o dX8_cost_32 (by decide) rfl ?_
    exact V_sub (by simp; rfl) (loop 16 0 (0, 0) (by omega) hS0)
  refine V_iload_n o dX8_cost_0 rfl rfl ?_
  refine V_iload_n o dX8_cost_1 rfl rfl ?_
  refine V_iload_n o dX8_cost_2 rfl rfl ?_
  refine V_iload o dX8_cost_3 rfl ?_
  refine V_cSi o rt dX8_cost_5 ms_X8_58 (c4_isPossible hf) rfl rfl (Nat.le_of_ble_eq_true rfl) rfl ?_
  refine V_if_ne (tgt := 13) o dX8_cost_8 (by decide) (fun c_8 => ?_) (fun c_8 => False.elim (bz_0.mp c_8 (pos_wi.mpr hok)))
  refine V_aload_n o dX8_cost_13 rfl rfl ?_
  refine V_getR (t := 48) o dX8_cost_14 rfl fl_X8_22 rfl ?_
  refine V_iload_n o dX8_cost_17 rfl rfl ?_
  refine V_iload_n o dX8_cost_18 rfl rfl ?_
  refine V_iload_n o dX8_cost_19 rfl rfl ?_
  refine V_iload o dX8_cost_20 rfl ?_
  refine V_callV o rt dX8_cost_22 ml_X8_68 (c4_become_48 hf) rfl rfl rfl (Nat.le_of_ble_eq_true rfl) rfl (fun r_22 σ_22 q_22 => ?_)
  obtain ⟨rfl, ho, hb⟩ := q_22
  show V sh0 w x mX8_cost (0, 0) _ _ [] _
  exact main σ_22 ho (ShR_bc hF1 hZ1 (fun k hk => by rw [← hM0]; exact (wiM_lo hk).symm) hb)
def cvB (M : Nat → Int32) (l sz : Nat) : Int32 := mbS M (wiM (trM M) (bW l sz) l) l + nI l * nI sz
def bcF (M : Nat → Int32) (l sz : Nat) (v : Int32 × Int32) : Int32 × Int32 := if v.1 = 0 ∨ cvB M l sz < v.2 then (nI sz, cvB M l sz) else v
def bcS (M : Nat → Int32) (l : Nat) : Int32 × Int32 := itr (bcF M l) 2 15 (0, 0)
theorem beV_eq {M D : Nat → Int32} {l sz : Nat} (hl : l ≤ 4) (h : ∀ j, j < 423 → D j = M j) : beV l sz D = cvB M l sz := by
  unfold beV beM cvB
  have e := (co_eq (M := M) (M' := M) (M0 := wiM (trM D) (bW l sz) l) (N := l) hl (fun j h1 h2 => by rw [wiM_hi h1, trM_lo h2, h j h2])).1
  rw [e, mbS_congr (M1 := wiM (trM M) (bW l sz) l) hl (fun j hj => ?_)]
  by_cases q : j = 0
  · rw [q, wiM_at, wiM_at, if_pos rfl, if_pos rfl]
  · obtain ⟨k, rfl⟩ : ∃ k, j = 1 + k := ⟨j - 1, by omega⟩
    rw [wiM_lo (by omega), wiM_lo (by omega)]
theorem bc_aux {M : Nat → Int32} {l : Nat} (hl : l ≤ 4) : ∀ n i (s : (Nat → Int32) × Int32 × Int32) (v : Int32 × Int32), 2 ≤ i → i + n = 17 → (∀ j, j < 423 → s.1 j = M j) → ((s.2.1 = -1 ∧ v.1 = 0 ∧ i = 2) ∨ (s.2 = v ∧ 0 < v.1)) →
    (∀ j, j < 423 → (itr (beF l) i n s).1 j = M j) ∧ ((0 < n ∨ s.2 = v) → (itr (beF l) i n s).2 = itr (bcF M l) i n v)
  | 0, _, s, v, _, _, h1, h2 => ⟨h1, fun q => q.resolve_left (by omega)⟩
  | n + 1, i, s, v, h0, hi, h1, h2 => by
    rw [itr_succ, itr_succ]
    have e : beV l i s.1 = cvB M l i := beV_eq hl h1
    have d1 : ∀ j, j < 423 → (beF l i s).1 j = M j := fun j hj => by
      show bkM s.1 (beM l i s.1) j = M j
      unfold bkM
      rw [if_pos hj]
      exact h1 j hj
    have d2 : (beF l i s).2 = bcF M l i v ∧ 0 < (bcF M l i v).1 := by
      show (if s.2.1 < 0 ∨ beV l i s.1 < s.2.2 then (nI i, beV l i s.1) else s.2) = _ ∧ _
      rw [e]
      have pi : (0 : Int32) < nI i := nI_lt (a := 0) (by omega) (by omega)
      unfold bcF
      rcases h2 with ⟨a1, a2, a3⟩ | ⟨a1, a2⟩
      · rw [if_pos (Or.inl (by rw [a1]; decide)), if_pos (Or.inl a2)]
        exact ⟨rfl, pi⟩
      · subst a1
        by_cases q : cvB M l i < s.2.2
        · rw [if_pos (Or.inr q), if_pos (Or.inr q)]
          exact ⟨rfl, pi⟩
        · rw [if_neg (fun h => h.elim (fun h => absurd a2 (Int32.not_lt.mpr (Int32.le_of_lt h))) q), if_neg (fun h => h.elim (fun h => absurd a2 (by rw [h]; decide)) q)]
          exact ⟨rfl, a2⟩
    obtain ⟨a, b⟩ := bc_aux hl n (i + 1) (beF l i s) (bcF M l i v) (by omega) (by omega) d1 (Or.inr d2)
    exact ⟨a, fun _ => b (Or.inr d2.1)⟩
theorem be_eq {M : Nat → Int32} {l : Nat} (hl : l ≤ 4) : (∀ j, j < 423 → (beS l M).1 j = M j) ∧ (beS l M).2 = bcS M l := by
  obtain ⟨a, b⟩ := bc_aux (M := M) hl 15 2 (M, -1, 0) (0, 0) (by omega) (by omega) (fun _ _ => rfl) (Or.inl ⟨rfl, rfl, rfl⟩)
  exact ⟨a, b (Or.inl (by omega))⟩
theorem Z0_bW {M : Nat → Int32} {l sz : Nat} : Z0 (wiM M (bW l sz) l) l := fun k h1 h2 => by rw [wiM_lo h2, bW, if_neg (by omega)]
theorem bw4 {l sz k : Nat} (hl : 1 ≤ l) (hk : k < 4) : w4 (nI sz) (bW l sz 1) (bW l sz 2) (bW l sz 3) k = bW l sz k := by
  have : k = 0 ∨ k = 1 ∨ k = 2 ∨ k = 3 := by omega
  rcases this with q | q | q | q <;> subst q
  · show nI sz = bW l sz 0
    unfold bW
    rw [if_pos (by omega)]
  · rfl
  · rfl
  · rfl
set_option maxRecDepth 20000 in
set_option maxHeartbeats 4000000 in
theorem c8_best {w : Wp} (hf : Fit sh0 w) {σ : Mm} {M : Nat → Int32} {L r n : Nat} {l : List Int64} {T : Nat → Int32} (hK : KR M L r l T n σ) (hF : Wf M L) (hB : Bo M) {l1 : Nat} (hl1 : 1 ≤ l1) (hl4 : l1 ≤ 4) {R : Int32 × Int32} (hR0 : bcS M l1 = R) : Ct sh0 w 4 mX8_best [.ref 1, .int (nI l1)] σ (fun r' σ' => r' = some (.int R.1) ∧ Off 1 67 σ σ' ∧ KR (M) (L) r ([R.2.toInt64]) (T) (n) σ') := by
  have hL := hF.2.2.1
  have hW := hK.1
  unfold bcS at hR0
  refine Ct_of hf (by decide) rfl (Nat.le_of_ble_eq_true rfl) (fun x o rt => ?_)
  have loop : ∀ m sz (v : Int32 × Int32) (τ : Mm), sz + m = 17 → 2 ≤ sz → Off 48 51 σ τ → itr (bcF M l1) sz m v = R → V sh0 w x mX8_best (0, 0) 18 [(4, .int (nI sz)), (3, .int v.2), (2, .int v.1), (0, .ref 1), (1, .int (nI l1))] [] τ := by
    intro m
    induction m with
    | zero =>
      intro sz v τ hsz h2 ho hR
      have h17 : sz = 17 := by omega
      have hs : v = R := hR
      subst hs
      have hKt : KR M L r l T n τ := hK.th hL (ho.wd (by omega) (by omega)) (hK.2.2.2.2.2.of48 ho)
      refine V_iload o dX8_best_18 rfl ?_
      refine V_bipush (v := 16) o dX8_best_20 (by decide) ?_
      refine V_icmp_gt (tgt := 104) o dX8_best_22 (by decide) (fun c_22 => ?_) (fun c_22 => False.elim (c_22 (by rw [h17]; decide)))
      refine V_aload_n o dX8_best_104 rfl rfl ?_
      refine V_getR (t := 52) o dX8_best_105 rfl fl_X8_33 rfl ?_
      refine V_callV o rt dX8_best_108 ml_X8_209 (c3_empty hf) rfl rfl rfl (Nat.le_of_ble_eq_true rfl) rfl (fun r_108 σ_108 q_108 => ?_)
      obtain ⟨rfl, ho_108, hR_108⟩ := q_108
      show V sh0 w x mX8_best (0, 0) _ _ [] _
      refine V_aload_n o dX8_best_111 rfl rfl ?_
      refine V_getR (t := 52) o dX8_best_112 rfl fl_X8_33 rfl ?_
      refine V_iload_n o dX8_best_115 rfl rfl ?_
      refine V_i2l o dX8_best_116 ?_
      refine V_callV o rt dX8_best_117 ml_X8_210 (c3_put hf hR_108 (by simp)) rfl rfl rfl (Nat.le_of_ble_eq_true rfl) rfl (fun r_117 σ_117 q_117 => ?_)
      obtain ⟨rfl, hp_117, hR_117⟩ := q_117
      have ho_117 := ho_108.tr hp_117
      show V sh0 w x mX8_best (0, 0) _ _ [] _
      refine V_iload_n o dX8_best_120 rfl rfl ?_
      refine V_iret o rt dX8_best_121 rfl rfl ?_
      exact ⟨rfl, (ho.wd (by omega) (by omega)).tr (ho_117.wd (by omega) (by omega)), hKt.rw hL ho_117 hR_117⟩
    | succ m ih =>
      intro sz v τ hsz h2 ho hR
      rw [itr_succ] at hR
      have k64 : V sh0 w x mX8_best (0, 0) 64 [(4, .int (nI sz)), (3, .int v.2), (2, .int v.1), (0, .ref 1), (1, .int (nI l1))] (.int (bW l1 sz 3) :: .int (bW l1 sz 2) :: .int (bW l1 sz 1) :: .int (nI sz) :: .ref 48 :: []) τ := by
        refine V_callV o rt dX8_best_64 ml_X8_68 (c4_become_48 hf) rfl rfl rfl (Nat.le_of_ble_eq_true rfl) rfl (fun r_64 σ_64 q_64 => ?_)
        obtain ⟨rfl, ho2, hb⟩ := q_64
        have hS := ShR_bc (M := wiM (trM M) (bW l1 sz) l1) (L := l1) (Wf_bW hl1 hl4 h2 (by omega)) Z0_bW (fun k hk => by rw [bw4 hl1 hk]; exact (wiM_lo hk).symm) hb
        have hW2 : WRel 2 M L σ_64 := hW.off hL (fun _ _ _ => rfl) (ho.tr ho2) (by omega)
        show V sh0 w x mX8_best (0, 0) _ _ [] _
        refine V_aload_n o dX8_best_67 rfl rfl ?_
        refine V_aload_n o dX8_best_68 rfl rfl ?_
        refine V_getR (t := 48) o dX8_best_69 rfl fl_X8_22 rfl ?_
        refine V_cVi o rt dX8_best_72 ml_X8_286 (c8_movesBy hf hW2 hB hS (Wf_bW hl1 hl4 h2 (by omega)) rfl) rfl rfl rfl (Nat.le_of_ble_eq_true rfl) rfl ?_
        refine V_iload_n o dX8_best_75 rfl rfl ?_
        refine V_iload o dX8_best_76 rfl ?_
        refine V_imul o dX8_best_78 ?_
        refine V_iadd o dX8_best_79 ?_
        refine V_topI (v' := cvB M l1 sz) rfl ?_
        refine V_istore (ls' := [(5, _), (4, _), (3, _), (2, _), (0, _), (1, _)]) o dX8_best_80 (by decide) rfl ?_
        refine V_iload_n o dX8_best_82 rfl rfl ?_
        refine V_if_eq (tgt := 92) o dX8_best_83 (by decide) (fun c_83 => ?_) (fun c_83 => ?_)
        · refine V_iload o dX8_best_92 rfl ?_
          refine V_istore_n (ls' := [(2, _), (5, _), (4, _), (3, _), (0, _), (1, _)]) o dX8_best_94 rfl (by decide) rfl ?_
          refine V_iload o dX8_best_95 rfl ?_
          refine V_istore_n (ls' := [(3, _), (2, _), (5, _), (4, _), (0, _), (1, _)]) o dX8_best_97 rfl (by decide) rfl ?_
          refine V_iincV (v := nI (sz + 1)) (ls' := [(4, _), (3, _), (2, _), (5, _), (0, _), (1, _)]) o dX8_best_98 rfl (ninc 1 rfl) (by decide) rfl ?_
          refine V_goto (tgt := 18) o dX8_best_101 (by decide) ?_
          rw [bcF, if_pos (Or.inl c_83)] at hR
          exact V_sub (by simp) (ih (sz + 1) (nI sz, cvB M l1 sz) σ_64 (by omega) (by omega) (ho.tr ho2) hR)
        · refine V_iload o dX8_best_86 rfl ?_
          refine V_iload_n o dX8_best_88 rfl rfl ?_
          refine V_icmp_ge (tgt := 98) o dX8_best_89 (by decide) (fun c_89 => ?_) (fun c_89 => ?_)
          · refine V_iincV (v := nI (sz + 1)) (ls' := [(4, _), (5, _), (3, _), (2, _), (0, _), (1, _)]) o dX8_best_98 rfl (ninc 1 rfl) (by decide) rfl ?_
            refine V_goto (tgt := 18) o dX8_best_101 (by decide) ?_
            rw [bcF, if_neg (fun q => q.elim c_83 (fun q => absurd q (Int32.not_lt.mpr c_89)))] at hR
            exact V_sub (by simp) (ih (sz + 1) v σ_64 (by omega) (by omega) (ho.tr ho2) hR)
          · refine V_iload o dX8_best_92 rfl ?_
            refine V_istore_n (ls' := [(2, _), (5, _), (4, _), (3, _), (0, _), (1, _)]) o dX8_best_94 rfl (by decide) rfl ?_
            refine V_iload o dX8_best_95 rfl ?_
            refine V_istore_n (ls' := [(3, _), (2, _), (5, _), (4, _), (0, _), (1, _)]) o dX8_best_97 rfl (by decide) rfl ?_
            refine V_iincV (v := nI (sz + 1)) (ls' := [(4, _), (3, _), (2, _), (5, _), (0, _), (1, _)]) o dX8_best_98 rfl (ninc 1 rfl) (by decide) rfl ?_
            refine V_goto (tgt := 18) o dX8_best_101 (by decide) ?_
            rw [bcF, if_pos (Or.inr (Int32.not_le.mp c_89))] at hR
            exact V_sub (by simp) (ih (sz + 1) (nI sz, cvB M l1 sz) σ_64 (by omega) (by omega) (ho.tr ho2) hR)
      have k53 : V sh0 w x mX8_best (0, 0) 53 [(4, .int (nI sz)), (3, .int v.2), (2, .int v.1), (0, .ref 1), (1, .int (nI l1))] (.int (bW l1 sz 2) :: .int (bW l1 sz 1) :: .int (nI sz) :: .ref 48 :: []) τ := by
        refine V_iload_n o dX8_best_53 rfl rfl ?_
        refine V_iconst (v := 3) o dX8_best_54 (by decide) ?_
        refine V_icmp_le (tgt := 63) o dX8_best_55 (by decide) (fun c_55 => ?_) (fun c_55 => ?_)
        · refine V_iconst (v := 0) o dX8_best_63 (by decide) ?_
          refine V_topI (v' := bW l1 sz 3) (by rw [bW, if_neg (fun q => absurd ((nI_leI (b := 3) (by omega) (by omega)).mp c_55) (by omega))]) ?_
          exact k64
        · refine V_iload o dX8_best_58 rfl ?_
          refine V_goto (tgt := 64) o dX8_best_60 (by decide) ?_
          refine V_topI (v' := bW l1 sz 3) (by rw [bW, if_pos (by have := (nI_ltI (a := 3) (by omega) (by omega)).mp (Int32.not_le.mp c_55); omega)]) ?_
          exact k64
      have k42 : V sh0 w x mX8_best (0, 0) 42 [(4, .int (nI sz)), (3, .int v.2), (2, .int v.1), (0, .ref 1), (1, .int (nI l1))] (.int (bW l1 sz 1) :: .int (nI sz) :: .ref 48 :: []) τ := by
        refine V_iload_n o dX8_best_42 rfl rfl ?_
        refine V_iconst (v := 2) o dX8_best_43 (by decide) ?_
        refine V_icmp_le (tgt := 52) o dX8_best_44 (by decide) (fun c_44 => ?_) (fun c_44 => ?_)
        · refine V_iconst (v := 0) o dX8_best_52 (by decide) ?_
          refine V_topI (v' := bW l1 sz 2) (by rw [bW, if_neg (fun q => absurd ((nI_leI (b := 2) (by omega) (by omega)).mp c_44) (by omega))]) ?_
          exact k53
        · refine V_iload o dX8_best_47 rfl ?_
          refine V_goto (tgt := 53) o dX8_best_49 (by decide) ?_
          refine V_topI (v' := bW l1 sz 2) (by rw [bW, if_pos (by have := (nI_ltI (a := 2) (by omega) (by omega)).mp (Int32.not_le.mp c_44); omega)]) ?_
          exact k53
      refine V_iload o dX8_best_18 rfl ?_
      refine V_bipush (v := 16) o dX8_best_20 (by decide) ?_
      refine V_icmp_gt (tgt := 104) o dX8_best_22 (by decide) (fun c_22 => False.elim (absurd c_22 (Int32.not_lt.mpr (nI_le (b := 16) (by omega) (by omega))))) (fun c_22 => ?_)
      refine V_aload_n o dX8_best_25 rfl rfl ?_
      refine V_getR (t := 48) o dX8_best_26 rfl fl_X8_22 rfl ?_
      refine V_iload o dX8_best_29 rfl ?_
      refine V_iload_n o dX8_best_31 rfl rfl ?_
      refine V_iconst (v := 1) o dX8_best_32 (by decide) ?_
      refine V_icmp_le (tgt := 41) o dX8_best_33 (by decide) (fun c_33 => ?_) (fun c_33 => ?_)
      · refine V_iconst (v := 0) o dX8_best_41 (by decide) ?_
        refine V_topI (v' := bW l1 sz 1) (by rw [bW, if_neg (fun q => absurd ((nI_leI (b := 1) (by omega) (by omega)).mp c_33) (by omega))]) ?_
        exact k42
      · refine V_iload o dX8_best_36 rfl ?_
        refine V_goto (tgt := 42) o dX8_best_38 (by decide) ?_
        refine V_topI (v' := bW l1 sz 1) (by rw [bW, if_pos (by have := (nI_ltI (a := 1) (by omega) (by omega)).mp (Int32.not_le.mp c_33); omega)]) ?_
        exact k42
  refine V_iload_n o dX8_best_0 rfl rfl ?_
  refine V_iconst (v := 1) o dX8_best_1 (by decide) ?_
  refine V_iconst (v := 4) o dX8_best_2 (by decide) ?_
  refine V_cSi o rt dX8_best_3 ms_X8_79 (c8_isWithin hf) rfl rfl (Nat.le_of_ble_eq_true rfl) rfl ?_
  refine V_if_ne (tgt := 11) o dX8_best_6 (by decide) (fun c_6 => ?_) (fun c_6 => False.elim (bz_0.mp c_6 ⟨nI_le (a := 1) hl1 (by omega), nI_le (b := 4) hl4 (by omega)⟩))
  refine V_iconst (v := 0) o dX8_best_11 (by decide) ?_
  refine V_istore_n (ls' := [(2, _), (0, _), (1, _)]) o dX8_best_12 rfl (by decide) rfl ?_
  refine V_iconst (v := 0) o dX8_best_13 (by decide) ?_
  refine V_istore_n (ls' := [(3, _), (2, _), (0, _), (1, _)]) o dX8_best_14 rfl (by decide) rfl ?_
  refine V_iconst (v := 2) o dX8_best_15 (by decide) ?_
  refine V_istore (ls' := [(4, _), (3, _), (2, _), (0, _), (1, _)]) o dX8_best_16 (by decide) rfl ?_
  exact V_sub (by simp; rfl) (loop 15 2 (0, 0) σ (by omega) (by omega) Off.rf hR0)
set_option maxRecDepth 20000 in
set_option maxHeartbeats 4000000 in
theorem c8_best_no {w : Wp} (hf : Fit sh0 w) {σ : Mm} {M : Nat → Int32} {L r n : Nat} {l : List Int64} {T : Nat → Int32} (hK : KR M L r l T n σ) (hF : Wf M L) (hB : Bo M) {k : Int32} (hk : ¬ inR k 1 4) : Ct sh0 w 4 mX8_best [.ref 1, .int k] σ (fun r' σ' => r' = some (.int (-1)) ∧ Off 1 67 σ σ' ∧ KR (M) (L) r (l) (T) (n) σ') := by
  have hL := hF.2.2.1
  have hW := hK.1
  refine Ct_of hf (by decide) rfl (Nat.le_of_ble_eq_true rfl) (fun x o rt => ?_)
  refine V_iload_n o dX8_best_0 rfl rfl ?_
  refine V_iconst (v := 1) o dX8_best_1 (by decide) ?_
  refine V_iconst (v := 4) o dX8_best_2 (by decide) ?_
  refine V_cSi o rt dX8_best_3 ms_X8_79 (c8_isWithin hf) rfl rfl (Nat.le_of_ble_eq_true rfl) rfl ?_
  refine V_if_ne (tgt := 11) o dX8_best_6 (by decide) (fun c_6 => False.elim (hk (bz_n0.mp c_6))) (fun c_6 => ?_)
  refine V_iconst (v := -1) o dX8_best_9 (by decide) ?_
  refine V_iret o rt dX8_best_10 rfl rfl ?_
  exact ⟨rfl, Off.rf, hK⟩
