/-- every TIMER that goes lies in a LEVEL there is, or FAR -/
def LvA (M : Nat → Int32) (L : Nat) : Prop := ∀ t, t < 16 → isG M t → LvOk L (M (391 + t))
theorem lay_lv {M : Nat → Int32} {L t : Nat} (ht : t < 16) : layM M L t (391 + t) = lvF M (M (231 + t) - M 6) L 0 := by
  unfold layM
  rw [uM_ne _ _ (by omega), uM_self]
theorem lay_lv_ne {M : Nat → Int32} {L t u : Nat} (ht : t < 16) (hu : u < 16) (h : u ≠ t) : layM M L t (391 + u) = M (391 + u) := by
  unfold layM
  rw [uM_ne _ _ (by omega), uM_ne _ _ (by omega)]
theorem isG_lay {M : Nat → Int32} {L t u : Nat} (hu : u < 16) : isG (layM M L t) u ↔ isG M u := by
  unfold isG
  rw [layM_ne (by omega), layM_ne (by omega)]
theorem LvA_layAll {M : Nat → Int32} {L : Nat} : LvA (layAllM M L) L := by
  unfold layAllM
  have h := itr_inv (f := fun t M => if isG M t then layM M L t else M) (fun i s => ∀ t, t < i → t < 16 → isG s t → LvOk L (s (391 + t))) 16 0 M (fun t h => absurd h (Nat.not_lt_zero t)) (fun j s _ h2 hs t ht ht6 hG => by
    by_cases hj : isG s j
    · rw [if_pos hj] at hG ⊢
      by_cases e : t = j
      · subst e
        rw [lay_lv (by omega)]
        exact LvOk_lvF
      · rw [lay_lv_ne (by omega) ht6 e]
        exact hs t (by omega) ht6 ((isG_lay ht6).mp hG)
    · rw [if_neg hj] at hG ⊢
      by_cases e : t = j
      · subst e; exact absurd hG hj
      · exact hs t (by omega) ht6 hG)
  exact fun t ht hG => h t (by omega) ht hG
/-- cost: together, FAR ones, the most -/
def coF (L : Nat) (M : Nat → Int32) (t : Nat) (v : Int32 × Int32 × Int32) : Int32 × Int32 × Int32 :=
  if isG M t then (v.1 + nI (wyL M L (M (231 + t)) 5 (M (391 + t))).length, v.2.1 + bz (M (391 + t) = -1), mxI v.2.2 (nI (wyL M L (M (231 + t)) 5 (M (391 + t))).length)) else v
def coS (L : Nat) (M : Nat → Int32) : Int32 × Int32 × Int32 := itr (coF L M) 0 16 (0, 0, 0)
def sCo (σ : Mm) (a b : Int32) : Mm := (fun x j => if x = 67 ∧ j = 18 then a else if x = 67 ∧ j = 19 then b else σ.1 x j, σ.2)
theorem wI_sCo18 {σ : Mm} {a b v : Int32} : wI (sCo σ a b) 67 18 v = sCo σ v b := by
  refine Prod.ext (funext fun x => funext fun j => ?_) rfl
  simp only [sCo, wI, up2]
  by_cases q : x = 67 ∧ j = 18
  · simp [q]
  · simp [q]
theorem wI_sCo19 {σ : Mm} {a b v : Int32} : wI (sCo σ a b) 67 19 v = sCo σ a v := by
  refine Prod.ext (funext fun x => funext fun j => ?_) rfl
  simp only [sCo, wI, up2]
  by_cases q : x = 67 ∧ j = 18
  · simp [q]
  · by_cases q2 : x = 67 ∧ j = 19
    · simp [q2]
    · simp [q, q2]
theorem sCo_of {σ : Mm} : sCo σ (σ.1 67 18) (σ.1 67 19) = σ := by
  refine Prod.ext (funext fun x => funext fun j => ?_) rfl
  simp only [sCo]
  split
  · next q => rw [q.1, q.2]
  · split
    · next q => rw [q.1, q.2]
    · rfl
theorem sWy_sCo {σ : Mm} {a b : Int32} {fc fl : Nat → Int32} : sWy (sCo σ a b) fc fl = sCo (sWy σ fc fl) a b := by
  refine Prod.ext (funext fun x => funext fun j => ?_) rfl
  simp only [sWy, sCo]
  by_cases q : x = 76
  · subst q; simp
  · by_cases q2 : x = 77
    · subst q2; simp
    · simp [q, q2]
theorem sCo_dk {σ : Mm} {M : Nat → Int32} {v a b : Int32} : sCo (wI (sM σ 0 M) 67 8 v) a b = wI (sM (sCo σ a b) 0 M) 67 8 v := by
  refine Prod.ext (funext fun x => funext fun j => ?_) rfl
  simp only [sCo, wI, sM, up2]
  by_cases h1 : x = 70
  · subst h1; simp
  · by_cases h3 : x = 67
    · subst h3
      by_cases h4 : j = 8
      · subst h4; simp
      · by_cases h5 : j = 18
        · subst h5; simp
        · by_cases h6 : j = 19
          · subst h6; simp
          · simp [h4, h5, h6]
    · simp [h1, h3]
theorem sWy_dk {σ : Mm} {M : Nat → Int32} {v : Int32} {fc fl : Nat → Int32} : sWy (wI (sM σ 0 M) 67 8 v) fc fl = wI (sM (sWy σ fc fl) 0 M) 67 8 v := by
  refine Prod.ext (funext fun x => funext fun j => ?_) rfl
  simp only [sWy, wI, sM, up2]
  by_cases h1 : x = 70
  · subst h1; simp
  · by_cases h2 : x = 76
    · subst h2; simp
    · by_cases h2b : x = 77
      · subst h2b; simp
      · by_cases h3 : x = 67 ∧ j = 8
        · simp [h3]
        · simp [h1, h2, h2b, h3]
set_option maxRecDepth 20000 in
set_option maxHeartbeats 4000000 in
theorem c9_costOf {w : Wp} (hf : Fit sh0 w) {σ : Mm} {M : Nat → Int32} {k : Int32} {N : Nat} (hk : k = nI N) {M1 : Nat → Int32} (hM1 : layAllM (wiM (trM M) (σ.1 74) N) N = M1) (hW0 : Wf (wiM (trM M) (σ.1 74) N) N) {S : Int32 × Int32 × Int32} (hS : coS N M1 = S) : Ct sh0 w 6 mX9_costOf [.ref 67, .int k] (sM σ 0 M) (fun r' σ' => ∃ fc fl, r' = some (.int S.1) ∧ σ' = sM (wI (sCo (sWy σ fc fl) S.2.1 S.2.2) 67 8 0) 0 (bkM M M1)) := by
  subst hk
  unfold coS at hS
  have hW : Wf M1 N := by rw [← hM1]; exact Lo_layAll.wf hW0
  have hLv : LvA M1 N := by rw [← hM1]; exact LvA_layAll
  have hdx : (wI (sM σ 0 M) 67 8 423).1 67 8 = nI 423 := rfl
  refine Ct_of hf (by decide) rfl (Nat.le_of_ble_eq_true rfl) (fun x o rt => ?_)
  have loop : ∀ n t (v : Int32 × Int32 × Int32) (fc fl : Nat → Int32), t + n = 16 → itr (coF N M1) t n v = S → V sh0 w x mX9_costOf (0, 0) 23 [(3, .int (nI t)), (2, .int v.1), (0, .ref 67), (1, .int (nI N))] [] (sM (sCo (sWy (wI (sM σ 0 M) 67 8 423) fc fl) v.2.1 v.2.2) 423 M1) := by
    intro n
    induction n with
    | zero =>
      intro t v fc fl htn hR
      have ht : t = 16 := by omega
      have hs : v = S := hR
      subst hs
      refine V_iload_n o dX9_costOf_23 rfl rfl ?_
      refine V_bipush (v := 16) o dX9_costOf_24 (by decide) ?_
      refine V_icmp_ge (tgt := 98) o dX9_costOf_26 (by decide) (fun c_26 => ?_) (fun c_26 => False.elim (c_26 (by rw [ht]; exact Int32.le_refl _)))
      rw [sWy_dk, sCo_dk]
      refine V_aload_n o dX9_costOf_98 rfl rfl ?_
      refine V_cVv o rt dX9_costOf_99 ml_X9_249 (c9_isBack hf) rfl rfl rfl (Nat.le_of_ble_eq_true rfl) rfl ?_
      refine V_iload_n o dX9_costOf_102 rfl rfl ?_
      refine V_iret o rt dX9_costOf_103 rfl rfl ?_
      exact ⟨fc, fl, rfl, rfl⟩
    | succ n ih =>
      intro t v fc fl htn hR
      rw [itr_succ] at hR
      generalize hWL : wyL M1 N (M1 (231 + t)) 5 (M1 (391 + t)) = WL
      refine V_iload_n o dX9_costOf_23 rfl rfl ?_
      refine V_bipush (v := 16) o dX9_costOf_24 (by decide) ?_
      refine V_icmp_ge (tgt := 98) o dX9_costOf_26 (by decide) (fun c_26 => False.elim (absurd c_26 (nI_ge (b := 16) (by omega) (by omega)))) (fun c_26 => ?_)
      refine V_aload_n o dX9_costOf_29 rfl rfl ?_
      refine V_iload_n o dX9_costOf_30 rfl rfl ?_
      refine V_cVi o rt dX9_costOf_31 ml_X9_99 (c9_goes hf (by exact hdx) (Nat.le_refl 423) rfl (by omega)) rfl rfl rfl (Nat.le_of_ble_eq_true rfl) rfl ?_
      refine V_if_eq (tgt := 92) o dX9_costOf_34 (by decide) (fun c_34 => ?_) (fun c_34 => ?_)
      · refine V_iincV (v := nI (t + 1)) (ls' := [(3, _), (2, _), (0, _), (1, _)]) o dX9_costOf_92 rfl (ninc 1 rfl) (by decide) rfl ?_
        refine V_goto (tgt := 23) o dX9_costOf_95 (by decide) ?_
        rw [coF, if_neg (bz_0.mp c_34)] at hR
        exact V_sub (by simp) (ih (t + 1) v fc fl (by omega) hR)
      · refine V_aload_n o dX9_costOf_37 rfl rfl ?_
        refine V_iload_n o dX9_costOf_38 rfl rfl ?_
        refine V_callV o rt dX9_costOf_39 ml_X9_258 (c9_movesOf hf (by exact hdx) (Nat.le_refl 423) hW rfl (by omega) (hLv t (by omega) (bz_n0.mp c_34)) hWL) rfl rfl rfl (Nat.le_of_ble_eq_true rfl) rfl (fun r_39 σ_39 q_39 => ?_)
        obtain ⟨fc2, fl2, rfl, rfl, hF⟩ := q_39
        rw [sWy_sCo, sWy_sWy]
        show V sh0 w x mX9_costOf (0, 0) _ _ (.int (nI WL.length) :: []) _
        refine V_istore (ls' := [(4, _), (3, _), (2, _), (0, _), (1, _)]) o dX9_costOf_42 (by decide) rfl ?_
        refine V_iload_n o dX9_costOf_44 rfl rfl ?_
        refine V_iload o dX9_costOf_45 rfl ?_
        refine V_iadd o dX9_costOf_47 ?_
        refine V_istore_n (ls' := [(2, _), (4, _), (3, _), (0, _), (1, _)]) o dX9_costOf_48 rfl (by decide) rfl ?_
        refine V_aload_n o dX9_costOf_49 rfl rfl ?_
        refine V_dup o dX9_costOf_50 rfl ?_
        refine V_getI o dX9_costOf_51 rfl fl_X9_261 rfl ?_
        refine V_aload_n o dX9_costOf_54 rfl rfl ?_
        refine V_sipush (v := 391) o dX9_costOf_55 (by decide) ?_
        refine V_iload_n o dX9_costOf_58 rfl rfl ?_
        refine V_iadd o dX9_costOf_59 ?_
        refine V_cVi o rt dX9_costOf_60 ml_X9_85 (c9_of hf (by exact hdx) (nadd (show (391 : Int32) = nI 391 from rfl) rfl) (by omega)) rfl rfl rfl (Nat.le_of_ble_eq_true rfl) rfl ?_
        refine V_iconst (v := -1) o dX9_costOf_63 (by decide) ?_
        refine V_icmp_ne (tgt := 71) o dX9_costOf_64 (by decide) (fun c_64 => ?_) (fun c_64 => ?_)
        · refine V_iconst (v := 0) o dX9_costOf_71 (by decide) ?_
          refine V_cSi o rt dX9_costOf_72 ms_X9_31 (c9_flag hf (by simp)) rfl rfl (Nat.le_of_ble_eq_true rfl) rfl ?_
          refine V_iadd o dX9_costOf_75 ?_
          refine V_putI o dX9_costOf_76 rfl fl_X9_261 rfl rfl rfl ?_
          rw [wI_sM67, wI_sCo18]
          refine V_aload_n o dX9_costOf_79 rfl rfl ?_
          refine V_aload_n o dX9_costOf_80 rfl rfl ?_
          refine V_getI o dX9_costOf_81 rfl fl_X9_264 rfl ?_
          refine V_iload o dX9_costOf_84 rfl ?_
          refine V_cSi o rt dX9_costOf_86 ms_X9_150 (cJ_max hf) rfl rfl (Nat.le_of_ble_eq_true rfl) rfl ?_
          refine V_putI o dX9_costOf_89 rfl fl_X9_264 rfl rfl rfl ?_
          rw [wI_sM67, wI_sCo19]
          refine V_iincV (v := nI (t + 1)) (ls' := [(3, _), (2, _), (4, _), (0, _), (1, _)]) o dX9_costOf_92 rfl (ninc 1 rfl) (by decide) rfl ?_
          refine V_goto (tgt := 23) o dX9_costOf_95 (by decide) ?_
          rw [coF, if_pos (bz_n0.mp c_34), hWL, bz_f c_64] at hR
          exact V_sub (by simp) (ih (t + 1) (v.1 + nI WL.length, v.2.1 + 0, mxI v.2.2 (nI WL.length)) fc2 fl2 (by omega) hR)
        · refine V_iconst (v := 1) o dX9_costOf_67 (by decide) ?_
          refine V_goto (tgt := 72) o dX9_costOf_68 (by decide) ?_
          refine V_cSi o rt dX9_costOf_72 ms_X9_31 (c9_flag hf (by simp)) rfl rfl (Nat.le_of_ble_eq_true rfl) rfl ?_
          refine V_iadd o dX9_costOf_75 ?_
          refine V_putI o dX9_costOf_76 rfl fl_X9_261 rfl rfl rfl ?_
          rw [wI_sM67, wI_sCo18]
          refine V_aload_n o dX9_costOf_79 rfl rfl ?_
          refine V_aload_n o dX9_costOf_80 rfl rfl ?_
          refine V_getI o dX9_costOf_81 rfl fl_X9_264 rfl ?_
          refine V_iload o dX9_costOf_84 rfl ?_
          refine V_cSi o rt dX9_costOf_86 ms_X9_150 (cJ_max hf) rfl rfl (Nat.le_of_ble_eq_true rfl) rfl ?_
          refine V_putI o dX9_costOf_89 rfl fl_X9_264 rfl rfl rfl ?_
          rw [wI_sM67, wI_sCo19]
          refine V_iincV (v := nI (t + 1)) (ls' := [(3, _), (2, _), (4, _), (0, _), (1, _)]) o dX9_costOf_92 rfl (ninc 1 rfl) (by decide) rfl ?_
          refine V_goto (tgt := 23) o dX9_costOf_95 (by decide) ?_
          rw [coF, if_pos (bz_n0.mp c_34), hWL, bz_t c_64] at hR
          exact V_sub (by simp) (ih (t + 1) (v.1 + nI WL.length, v.2.1 + 1, mxI v.2.2 (nI WL.length)) fc2 fl2 (by omega) hR)
  refine V_aload_n o dX9_costOf_0 rfl rfl ?_
  refine V_cVv o rt dX9_costOf_1 ml_X9_246 (c9_tries hf) rfl rfl rfl (Nat.le_of_ble_eq_true rfl) rfl ?_
  refine V_aload_n o dX9_costOf_4 rfl rfl ?_
  refine V_iload_n o dX9_costOf_5 rfl rfl ?_
  refine V_cVv o rt dX9_costOf_6 ml_X9_180 (c9_laysWished hf (by exact hdx) (Nat.le_refl 423) rfl (by exact hW0)) rfl rfl rfl (Nat.le_of_ble_eq_true rfl) rfl ?_
  rw [show layAllM (wiM (trM M) ((wI (sM σ 0 M) 67 8 423).1 74) N) N = M1 from hM1]
  refine V_iconst (v := 0) o dX9_costOf_9 (by decide) ?_
  refine V_istore_n (ls' := [(2, _), (0, _), (1, _)]) o dX9_costOf_10 rfl (by decide) rfl ?_
  refine V_aload_n o dX9_costOf_11 rfl rfl ?_
  refine V_iconst (v := 0) o dX9_costOf_12 (by decide) ?_
  refine V_putI o dX9_costOf_13 rfl fl_X9_261 rfl rfl rfl ?_
  rw [wI_sM67, ← sCo_of (σ := (wI (sM σ 0 M) 67 8 423)), wI_sCo18]
  refine V_aload_n o dX9_costOf_16 rfl rfl ?_
  refine V_iconst (v := 0) o dX9_costOf_17 (by decide) ?_
  refine V_putI o dX9_costOf_18 rfl fl_X9_264 rfl rfl rfl ?_
  rw [wI_sM67, wI_sCo19]
  refine V_iconst (v := 0) o dX9_costOf_21 (by decide) ?_
  refine V_istore_n (ls' := [(3, _), (2, _), (0, _), (1, _)]) o dX9_costOf_22 rfl (by decide) rfl ?_
  have h0 := loop 16 0 (0, 0, 0) ((wI (sM σ 0 M) 67 8 423).1 76) ((wI (sM σ 0 M) 67 8 423).1 77) (by omega) hS
  rw [sWy_of] at h0
  exact h0
