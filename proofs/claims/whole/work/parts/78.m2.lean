theorem Bo_pa {M : Nat → Int32} {t : Nat} (ht : t < 16) (h : Bo M) : Bo (paM M t) := fun u hu => by
  have e : ∀ j, j ≠ 343 + t → j ≠ 359 + t → paM M t j = M j := fun j h1 h2 => by unfold paM; rw [uM_ne _ _ h2, uM_ne _ _ h1]
  rw [e (215 + u) (by omega) (by omega), e (327 + u) (by omega) (by omega)]
  refine ⟨(h u hu).1, (h u hu).2.1, ?_⟩
  by_cases q : u = t
  · subst q
    refine Or.inr ?_
    unfold paM
    rw [uM_ne _ _ (by omega), uM_self]
  · rw [e (343 + u) (by omega) (by omega)]; exact (h u hu).2.2
theorem reM_ne {M : Nat → Int32} {L t j : Nat} (h : j < 391) (h1 : j ≠ 343 + t) (h2 : j ≠ 231 + t) : reM M L t j = M j := by
  unfold reM
  rw [layM_ne h, uM_ne _ _ h2, uM_ne _ _ h1]
theorem Bo_re {M : Nat → Int32} {L t : Nat} (ht : t < 16) (h : Bo M) : Bo (reM M L t) := fun u hu => by
  rw [reM_ne (j := 215 + u) (by omega) (by omega) (by omega), reM_ne (j := 327 + u) (by omega) (by omega) (by omega)]
  refine ⟨(h u hu).1, (h u hu).2.1, ?_⟩
  by_cases q : u = t
  · subst q
    refine Or.inl ?_
    unfold reM
    rw [layM_ne (by omega), uM_ne _ _ (by omega), uM_self]
  · rw [reM_ne (j := 343 + u) (by omega) (by omega) (by omega)]; exact (h u hu).2.2
/-- nothing that works don't hold -/
def Rst (M N : Nat → Int32) : Prop := ∀ j, 7 ≤ j → j < 215 → j ≠ 8 → j ≠ 9 → N j = M j
theorem Rst.rf {M : Nat → Int32} : Rst M M := fun _ _ _ _ _ => rfl
theorem paM_lo {M : Nat → Int32} {t j : Nat} (h : j < 215) : paM M t j = M j := by unfold paM; rw [uM_ne _ _ (by omega), uM_ne _ _ (by omega)]
theorem Rst.pa {M N : Nat → Int32} {t : Nat} (h : Rst M N) : Rst M (paM N t) := fun j h1 h2 h3 h4 => (paM_lo h2).trans (h j h1 h2 h3 h4)
theorem Rst.re {M N : Nat → Int32} {L t : Nat} (h : Rst M N) : Rst M (reM N L t) := fun j h1 h2 h3 h4 => (reM_ne (by omega) (by omega) (by omega)).trans (h j h1 h2 h3 h4)
theorem Wf_pa {M : Nat → Int32} {L t : Nat} (h : Wf M L) : Wf (paM M t) L := Wf_same h (fun j hj => paM_lo (by omega))
theorem Wf_re {M : Nat → Int32} {L t : Nat} (h : Wf M L) : Wf (reM M L t) L := Wf_same h (fun j hj => reM_ne (by omega) (by omega) (by omega))
theorem Off_pa {b t lo hi : Nat} {M : Nat → Int32} {σ τ : Mm} (h : Off lo hi σ τ) (h1 : lo ≤ b + 7 + t) (h2 : b + 7 + t < hi) : Off lo hi σ (paSg b M t τ) := (((h.wI h1 h2).wI h1 h2).wI h1 h2).wI h1 h2
set_option maxRecDepth 20000 in
set_option maxHeartbeats 4000000 in
theorem c8_cancelsAll {w : Wp} (hf : Fit sh0 w) {σ : Mm} {M : Nat → Int32} {L r n : Nat} {l : List Int64} {T : Nat → Int32} (hK : KR M L r l T n σ) (hF : Wf M L) (hB : Bo M) {k : Int32} (hk : inR k 0 7) {RG : (Nat → Int32) × Nat} (hRG : grpS (caP k) (caM) M = RG) : Ct sh0 w 2 mX8_cancelsAll [.ref 1, .int k] σ (fun r' σ' => r' = some (.int (nI RG.2)) ∧ Off 1 67 σ σ' ∧ KR (RG.1) (L) r (l) (T) (n) σ') := by
  have hL := hF.2.2.1
  have hW := hK.1
  unfold grpS at hRG
  refine Ct_of hf (by decide) rfl (Nat.le_of_ble_eq_true rfl) (fun x o rt => ?_)
  have loop : ∀ m t g (τ : Mm) (N : Nat → Int32), t + m = 16 → g ≤ t → Off 2 25 σ τ → WRel 2 N L τ → Bo N → Wf N L → (N 10 = M 10 + nI g ∧ ∀ j, 7 ≤ j → j < 215 → j ≠ 8 → j ≠ 9 → j ≠ 10 → N j = M j) → itr (grpF (caP k) (caM)) t m (N, g) = RG → V sh0 w x mX8_cancelsAll (0, 0) 13 [(3, .int (nI t)), (2, .int (nI g)), (0, .ref 1), (1, .int k)] [] τ := by
    intro m
    induction m with
    | zero =>
      intro t g τ N htn hgt ho hW hB hF hr hR
      have h16 : t = 16 := by omega
      subst hR
      refine V_iload_n o dX8_cancelsAll_13 rfl rfl ?_
      refine V_bipush (v := 16) o dX8_cancelsAll_14 (by decide) ?_
      refine V_icmp_ge (tgt := 58) o dX8_cancelsAll_16 (by decide) (fun c_16 => ?_) (fun c_16 => False.elim (c_16 (by rw [h16]; decide)))
      refine V_aload_n o dX8_cancelsAll_58 rfl rfl ?_
      refine V_dup o dX8_cancelsAll_59 rfl ?_
      refine V_getI o dX8_cancelsAll_60 rfl fl_X8_162 rfl ?_
      refine V_topI (v' := M 10) ((congrFun (ho 1 (by omega)).1 9).trans hK.2.1.2.1) ?_
      refine V_iload_n o dX8_cancelsAll_63 rfl rfl ?_
      refine V_iadd o dX8_cancelsAll_64 ?_
      refine V_putI o dX8_cancelsAll_65 rfl fl_X8_162 rfl rfl rfl ?_
      refine V_iload_n o dX8_cancelsAll_68 rfl rfl ?_
      refine V_iret o rt dX8_cancelsAll_69 rfl rfl ?_
      have hr10 := hr.1
      have hrr := hr.2
      refine ⟨rfl, (ho.wd (by omega) (by omega)).wI (by omega) (by omega), ?_⟩
      have hc := hK.2.1
      have e1 := (ho 1 (by omega)).1
      refine ⟨hW.off (lo := 1) (hi := 2) hL (fun _ _ _ => rfl) (Off.rf.wI (by omega) (by omega)) (by omega), ⟨?_, ?_, ?_, ?_⟩, ?_, ?_, ?_, ?_⟩
      · rw [wI_nj (by decide), e1]; exact hc.1.trans (hrr 13 (by omega) (by omega) (by omega) (by omega) (by omega)).symm
      · rw [wI_at]; exact hr10.symm
      · rw [wI_nj (by decide), e1]; exact hc.2.2.1.trans (hrr 11 (by omega) (by omega) (by omega) (by omega) (by omega)).symm
      · rw [wI_nj (by decide), e1]; exact hc.2.2.2.trans (hrr 12 (by omega) (by omega) (by omega) (by omega) (by omega)).symm
      · exact ((hK.2.2.1.off ho (by omega)).cg (fun j hj => hrr j (by omega) (by omega) (by omega) (by omega) (by omega))).off (lo := 1) (hi := 2) (Off.rf.wI (by omega) (by omega)) (by omega)
      · exact (hK.2.2.2.1.off ho (by omega)).off (lo := 1) (hi := 2) (Off.rf.wI (by omega) (by omega)) (by omega)
      · exact (hK.2.2.2.2.1.off ho (by omega)).off (lo := 1) (hi := 2) (Off.rf.wI (by omega) (by omega)) (by omega)
      · exact (hK.2.2.2.2.2.off ho (by omega)).off (lo := 1) (hi := 2) (Off.rf.wI (by omega) (by omega)) (by omega)
    | succ m ih =>
      intro t g τ N htn hgt ho hW hB hF hr hR
      have ht : t < 16 := by omega
      rw [itr_succ, grpF] at hR
      refine V_iload_n o dX8_cancelsAll_13 rfl rfl ?_
      refine V_bipush (v := 16) o dX8_cancelsAll_14 (by decide) ?_
      refine V_icmp_ge (tgt := 58) o dX8_cancelsAll_16 (by decide) (fun c_16 => False.elim (absurd c_16 (nI_ge (b := 16) (by omega) (by omega)))) (fun c_16 => ?_)
      refine V_aload_n o dX8_cancelsAll_19 rfl rfl ?_
      refine V_getR (t := 2) o dX8_cancelsAll_20 rfl fl_X8_10 rfl ?_
      refine V_iload_n o dX8_cancelsAll_23 rfl rfl ?_
      rcases (hB t ht).1 with hG0 | hG
      · refine V_cVn o rt dX8_cancelsAll_24 ml_X8_154 (c7_find_n_2 hf hW ht hG0) rfl rfl rfl (Nat.le_of_ble_eq_true rfl) rfl ?_
        refine V_astoreN (ls' := [(4, _), (3, _), (2, _), (0, _), (1, _)]) o dX8_cancelsAll_27 (by decide) rfl ?_
        refine V_aloadN o dX8_cancelsAll_29 rfl ?_
        refine V_ifnull_n (tgt := 52) o dX8_cancelsAll_31 (by decide) ?_
        refine V_iincV (v := nI (t + 1)) (ls' := [(3, _), (4, _), (2, _), (0, _), (1, _)]) o dX8_cancelsAll_52 rfl (ninc 1 rfl) (by decide) rfl ?_
        refine V_goto (tgt := 13) o dX8_cancelsAll_55 (by decide) ?_
        rw [if_neg (fun q => absurd (hG0.symm.trans (of_decide_eq_true q).1) (by decide))] at hR
        exact V_sub (by simp) (ih (t + 1) g τ N (by omega) (by omega) ho hW hB hF hr hR)
      · refine V_cVr o rt dX8_cancelsAll_24 ml_X8_154 (c7_find_2 hf hW ht hG) rfl rfl rfl (Nat.le_of_ble_eq_true rfl) rfl ?_
        refine V_astore (ls' := [(4, _), (3, _), (2, _), (0, _), (1, _)]) o dX8_cancelsAll_27 (by decide) rfl ?_
        refine V_aload o dX8_cancelsAll_29 rfl ?_
        refine V_ifnull_r o dX8_cancelsAll_31 ?_
        refine V_aload o dX8_cancelsAll_34 rfl ?_
        refine V_getI o dX8_cancelsAll_36 (kT9 t ht) fl_X8_135 (rT9 ht) ?_
        refine V_topI (v' := N (263 + t)) (hW.2.2 t ht).grp ?_
        refine V_iload_n o dX8_cancelsAll_39 rfl rfl ?_
        refine V_icmp_ne (tgt := 52) o dX8_cancelsAll_40 (by decide) (fun c_40 => ?_) (fun c_40 => ?_)
        · refine V_iincV (v := nI (t + 1)) (ls' := [(3, _), (4, _), (2, _), (0, _), (1, _)]) o dX8_cancelsAll_52 rfl (ninc 1 rfl) (by decide) rfl ?_
          refine V_goto (tgt := 13) o dX8_cancelsAll_55 (by decide) ?_
          rw [if_neg (fun q => c_40 (of_decide_eq_true q).2)] at hR
          exact V_sub (by simp) (ih (t + 1) g τ N (by omega) (by omega) ho hW hB hF hr hR)
        · refine V_aload o dX8_cancelsAll_43 rfl ?_
          refine V_iconst (v := 0) o dX8_cancelsAll_45 (by decide) ?_
          refine V_putZ o dX8_cancelsAll_46 (kT9 t ht) fl_X8_158 (rT9 ht) rfl rfl (by simp) ?_
          refine V_iincV (v := nI (g + 1)) (ls' := [(2, _), (4, _), (3, _), (0, _), (1, _)]) o dX8_cancelsAll_49 rfl (ninc 1 rfl) (by decide) rfl ?_
          refine V_iincV (v := nI (t + 1)) (ls' := [(3, _), (2, _), (4, _), (0, _), (1, _)]) o dX8_cancelsAll_52 rfl (ninc 1 rfl) (by decide) rfl ?_
          refine V_goto (tgt := 13) o dX8_cancelsAll_55 (by decide) ?_
          rw [if_pos (show caP k N t = true from decide_eq_true ⟨hG, c_40⟩)] at hR
          exact V_sub (by simp) (ih (t + 1) (g + 1) (wI τ (9 + t) 1 0) (caM N t) (by omega) (by omega) (ho.wI (by omega) (by omega)) ((WRel_live (v := 0) hW hL ht).cg hL (fun j h1 h2 => uM_ne _ _ (by omega))) (Bo_ca hB) (Wf_same hF (fun j hj => caM_ne (by omega) (by omega))) ⟨by unfold caM; rw [uM_self, hr.1, Int32.add_assoc, nI_1], fun j h1 h2 h3 h4 h5 => (caM_ne (by omega) h5).trans (hr.2 j h1 h2 h3 h4 h5)⟩ hR)
  refine V_iload_n o dX8_cancelsAll_0 rfl rfl ?_
  refine V_cSi o rt dX8_cancelsAll_1 ms_X8_115 (c8_isGroup hf) rfl rfl (Nat.le_of_ble_eq_true rfl) rfl ?_
  refine V_if_ne (tgt := 9) o dX8_cancelsAll_4 (by decide) (fun c_4 => ?_) (fun c_4 => False.elim (bz_0.mp c_4 hk))
  refine V_iconst (v := 0) o dX8_cancelsAll_9 (by decide) ?_
  refine V_istore_n (ls' := [(2, _), (0, _), (1, _)]) o dX8_cancelsAll_10 rfl (by decide) rfl ?_
  refine V_iconst (v := 0) o dX8_cancelsAll_11 (by decide) ?_
  refine V_istore_n (ls' := [(3, _), (2, _), (0, _), (1, _)]) o dX8_cancelsAll_12 rfl (by decide) rfl ?_
  exact V_sub (by simp; rfl) (loop 16 0 0 σ M (by omega) (by omega) Off.rf hW hB hF ⟨(Int32.add_zero _).symm, fun _ _ _ _ _ _ => rfl⟩ hRG)
set_option maxRecDepth 20000 in
set_option maxHeartbeats 4000000 in
theorem c8_cancelsAll_no {w : Wp} (hf : Fit sh0 w) {σ : Mm} {M : Nat → Int32} {L r n : Nat} {l : List Int64} {T : Nat → Int32} (hK : KR M L r l T n σ) (hF : Wf M L) (hB : Bo M) {k : Int32} (hk : ¬ inR k 0 7) : Ct sh0 w 2 mX8_cancelsAll [.ref 1, .int k] σ (fun r' σ' => r' = some (.int (-1)) ∧ Off 1 67 σ σ' ∧ KR (M) (L) r (l) (T) (n) σ') := by
  refine Ct_of hf (by decide) rfl (Nat.le_of_ble_eq_true rfl) (fun x o rt => ?_)
  refine V_iload_n o dX8_cancelsAll_0 rfl rfl ?_
  refine V_cSi o rt dX8_cancelsAll_1 ms_X8_115 (c8_isGroup hf) rfl rfl (Nat.le_of_ble_eq_true rfl) rfl ?_
  refine V_if_ne (tgt := 9) o dX8_cancelsAll_4 (by decide) (fun c_4 => False.elim (hk (bz_n0.mp c_4))) (fun c_4 => ?_)
  refine V_iconst (v := -1) o dX8_cancelsAll_7 (by decide) ?_
  refine V_iret o rt dX8_cancelsAll_8 rfl rfl ?_
  exact ⟨rfl, Off.rf, hK⟩
set_option maxRecDepth 20000 in
set_option maxHeartbeats 4000000 in
theorem c8_holds {w : Wp} (hf : Fit sh0 w) {σ : Mm} {M : Nat → Int32} {L r n : Nat} {l : List Int64} {T : Nat → Int32} (hK : KR M L r l T n σ) (hF : Wf M L) (hB : Bo M) {k : Int32} (hk : inR k 0 7) {RG : (Nat → Int32) × Nat} (hRG : grpS (hoP k) (paM) M = RG) : Ct sh0 w 3 mX8_holds [.ref 1, .int k] σ (fun r' σ' => r' = some (.int (nI RG.2)) ∧ Off 1 67 σ σ' ∧ KR (RG.1) (L) r (l) (T) (n) σ') := by
  have hL := hF.2.2.1
  have hW := hK.1
  unfold grpS at hRG
  refine Ct_of hf (by decide) rfl (Nat.le_of_ble_eq_true rfl) (fun x o rt => ?_)
  have loop : ∀ m t g (τ : Mm) (N : Nat → Int32), t + m = 16 → g ≤ t → Off 2 25 σ τ → WRel 2 N L τ → Bo N → Wf N L → Rst M N → itr (grpF (hoP k) (paM)) t m (N, g) = RG → V sh0 w x mX8_holds (0, 0) 13 [(3, .int (nI t)), (2, .int (nI g)), (0, .ref 1), (1, .int k)] [] τ := by
    intro m
    induction m with
    | zero =>
      intro t g τ N htn hgt ho hW hB hF hr hR
      have h16 : t = 16 := by omega
      subst hR
      refine V_iload_n o dX8_holds_13 rfl rfl ?_
      refine V_bipush (v := 16) o dX8_holds_14 (by decide) ?_
      refine V_icmp_ge (tgt := 61) o dX8_holds_16 (by decide) (fun c_16 => ?_) (fun c_16 => False.elim (c_16 (by rw [h16]; decide)))
      refine V_iload_n o dX8_holds_61 rfl rfl ?_
      refine V_iret o rt dX8_holds_62 rfl rfl ?_
      exact ⟨rfl, ho.wd (by omega) (by omega), hK.wk ho hW hr⟩
    | succ m ih =>
      intro t g τ N htn hgt ho hW hB hF hr hR
      have ht : t < 16 := by omega
      rw [itr_succ, grpF] at hR
      refine V_iload_n o dX8_holds_13 rfl rfl ?_
      refine V_bipush (v := 16) o dX8_holds_14 (by decide) ?_
      refine V_icmp_ge (tgt := 61) o dX8_holds_16 (by decide) (fun c_16 => False.elim (absurd c_16 (nI_ge (b := 16) (by omega) (by omega)))) (fun c_16 => ?_)
      refine V_aload_n o dX8_holds_19 rfl rfl ?_
      refine V_getR (t := 2) o dX8_holds_20 rfl fl_X8_10 rfl ?_
      refine V_iload_n o dX8_holds_23 rfl rfl ?_
      by_cases hG : isG N t
      · refine V_cVr o rt dX8_holds_24 ml_X8_186 (c7_run_2 hf hW ht hG) rfl rfl rfl (Nat.le_of_ble_eq_true rfl) rfl ?_
        refine V_astore (ls' := [(4, _), (3, _), (2, _), (0, _), (1, _)]) o dX8_holds_27 (by decide) rfl ?_
        refine V_aload o dX8_holds_29 rfl ?_
        refine V_ifnull_r o dX8_holds_31 ?_
        refine V_aload o dX8_holds_34 rfl ?_
        refine V_getI o dX8_holds_36 (kT9 t ht) fl_X8_135 (rT9 ht) ?_
        refine V_topI (v' := N (263 + t)) (hW.2.2 t ht).grp ?_
        refine V_iload_n o dX8_holds_39 rfl rfl ?_
        refine V_icmp_ne (tgt := 55) o dX8_holds_40 (by decide) (fun c_40 => ?_) (fun c_40 => ?_)
        · refine V_iincV (v := nI (t + 1)) (ls' := [(3, _), (4, _), (2, _), (0, _), (1, _)]) o dX8_holds_55 rfl (ninc 1 rfl) (by decide) rfl ?_
          refine V_goto (tgt := 13) o dX8_holds_58 (by decide) ?_
          rw [if_neg (fun q => c_40 (of_decide_eq_true q).2)] at hR
          exact V_sub (by simp) (ih (t + 1) g τ N (by omega) (by omega) ho hW hB hF hr hR)
        · refine V_aload_n o dX8_holds_43 rfl rfl ?_
          refine V_getR (t := 2) o dX8_holds_44 rfl fl_X8_10 rfl ?_
          refine V_aload o dX8_holds_47 rfl ?_
          refine V_cVv o rt dX8_holds_49 ml_X8_174 (c7_pause_2 hf hW ht) rfl rfl rfl (Nat.le_of_ble_eq_true rfl) rfl ?_
          refine V_iincV (v := nI (g + 1)) (ls' := [(2, _), (4, _), (3, _), (0, _), (1, _)]) o dX8_holds_52 rfl (ninc 1 rfl) (by decide) rfl ?_
          refine V_iincV (v := nI (t + 1)) (ls' := [(3, _), (2, _), (4, _), (0, _), (1, _)]) o dX8_holds_55 rfl (ninc 1 rfl) (by decide) rfl ?_
          refine V_goto (tgt := 13) o dX8_holds_58 (by decide) ?_
          rw [if_pos (show hoP k N t = true from decide_eq_true ⟨hG, c_40⟩)] at hR
          exact V_sub (by simp) (ih (t + 1) (g + 1) (paSg 2 N t τ) (paM N t) (by omega) (by omega) (Off_pa ho (by omega) (by omega)) (WRel_pause hW hL ht) (Bo_pa ht hB) (Wf_pa hF) hr.pa hR)
      · refine V_cVn o rt dX8_holds_24 ml_X8_186 (c7_run_n_2 hf hW hB ht hG) rfl rfl rfl (Nat.le_of_ble_eq_true rfl) rfl ?_
        refine V_astoreN (ls' := [(4, _), (3, _), (2, _), (0, _), (1, _)]) o dX8_holds_27 (by decide) rfl ?_
        refine V_aloadN o dX8_holds_29 rfl ?_
        refine V_ifnull_n (tgt := 55) o dX8_holds_31 (by decide) ?_
        refine V_iincV (v := nI (t + 1)) (ls' := [(3, _), (4, _), (2, _), (0, _), (1, _)]) o dX8_holds_55 rfl (ninc 1 rfl) (by decide) rfl ?_
        refine V_goto (tgt := 13) o dX8_holds_58 (by decide) ?_
        rw [if_neg (fun q => hG (of_decide_eq_true q).1)] at hR
        exact V_sub (by simp) (ih (t + 1) g τ N (by omega) (by omega) ho hW hB hF hr hR)
  refine V_iload_n o dX8_holds_0 rfl rfl ?_
  refine V_cSi o rt dX8_holds_1 ms_X8_115 (c8_isGroup hf) rfl rfl (Nat.le_of_ble_eq_true rfl) rfl ?_
  refine V_if_ne (tgt := 9) o dX8_holds_4 (by decide) (fun c_4 => ?_) (fun c_4 => False.elim (bz_0.mp c_4 hk))
  refine V_iconst (v := 0) o dX8_holds_9 (by decide) ?_
  refine V_istore_n (ls' := [(2, _), (0, _), (1, _)]) o dX8_holds_10 rfl (by decide) rfl ?_
  refine V_iconst (v := 0) o dX8_holds_11 (by decide) ?_
  refine V_istore_n (ls' := [(3, _), (2, _), (0, _), (1, _)]) o dX8_holds_12 rfl (by decide) rfl ?_
  exact V_sub (by simp; rfl) (loop 16 0 0 σ M (by omega) (by omega) Off.rf hW hB hF Rst.rf hRG)
set_option maxRecDepth 20000 in
set_option maxHeartbeats 4000000 in
theorem c8_holds_no {w : Wp} (hf : Fit sh0 w) {σ : Mm} {M : Nat → Int32} {L r n : Nat} {l : List Int64} {T : Nat → Int32} (hK : KR M L r l T n σ) (hF : Wf M L) (hB : Bo M) {k : Int32} (hk : ¬ inR k 0 7) : Ct sh0 w 3 mX8_holds [.ref 1, .int k] σ (fun r' σ' => r' = some (.int (-1)) ∧ Off 1 67 σ σ' ∧ KR (M) (L) r (l) (T) (n) σ') := by
  refine Ct_of hf (by decide) rfl (Nat.le_of_ble_eq_true rfl) (fun x o rt => ?_)
  refine V_iload_n o dX8_holds_0 rfl rfl ?_
  refine V_cSi o rt dX8_holds_1 ms_X8_115 (c8_isGroup hf) rfl rfl (Nat.le_of_ble_eq_true rfl) rfl ?_
  refine V_if_ne (tgt := 9) o dX8_holds_4 (by decide) (fun c_4 => False.elim (hk (bz_n0.mp c_4))) (fun c_4 => ?_)
  refine V_iconst (v := -1) o dX8_holds_7 (by decide) ?_
  refine V_iret o rt dX8_holds_8 rfl rfl ?_
  exact ⟨rfl, Off.rf, hK⟩
set_option maxRecDepth 20000 in
set_option maxHeartbeats 4000000 in
theorem c8_goesOn {w : Wp} (hf : Fit sh0 w) {σ : Mm} {M : Nat → Int32} {L r n : Nat} {l : List Int64} {T : Nat → Int32} (hK : KR M L r l T n σ) (hF : Wf M L) (hB : Bo M) {k : Int32} (hk : inR k 0 7) {RG : (Nat → Int32) × Nat} (hRG : grpS (goP k) (fun M t => reM M L t) M = RG) : Ct sh0 w 4 mX8_goesOn [.ref 1, .int k] σ (fun r' σ' => r' = some (.int (nI RG.2)) ∧ Off 1 67 σ σ' ∧ KR (RG.1) (L) r (l) (T) (n) σ') := by
  have hL := hF.2.2.1
  have hW := hK.1
  unfold grpS at hRG
  refine Ct_of hf (by decide) rfl (Nat.le_of_ble_eq_true rfl) (fun x o rt => ?_)
  have loop : ∀ m t g (τ : Mm) (N : Nat → Int32), t + m = 16 → g ≤ t → Off 2 25 σ τ → WRel 2 N L τ → Bo N → Wf N L → Rst M N → itr (grpF (goP k) (fun M t => reM M L t)) t m (N, g) = RG → V sh0 w x mX8_goesOn (0, 0) 13 [(3, .int (nI t)), (2, .int (nI g)), (0, .ref 1), (1, .int k)] [] τ := by
    intro m
    induction m with
    | zero =>
      intro t g τ N htn hgt ho hW hB hF hr hR
      have h16 : t = 16 := by omega
      subst hR
      refine V_iload_n o dX8_goesOn_13 rfl rfl ?_
      refine V_bipush (v := 16) o dX8_goesOn_14 (by decide) ?_
      refine V_icmp_ge (tgt := 69) o dX8_goesOn_16 (by decide) (fun c_16 => ?_) (fun c_16 => False.elim (c_16 (by rw [h16]; decide)))
      refine V_iload_n o dX8_goesOn_69 rfl rfl ?_
      refine V_iret o rt dX8_goesOn_70 rfl rfl ?_
      exact ⟨rfl, ho.wd (by omega) (by omega), hK.wk ho hW hr⟩
    | succ m ih =>
      intro t g τ N htn hgt ho hW hB hF hr hR
      have ht : t < 16 := by omega
      rw [itr_succ, grpF] at hR
      refine V_iload_n o dX8_goesOn_13 rfl rfl ?_
      refine V_bipush (v := 16) o dX8_goesOn_14 (by decide) ?_
      refine V_icmp_ge (tgt := 69) o dX8_goesOn_16 (by decide) (fun c_16 => False.elim (absurd c_16 (nI_ge (b := 16) (by omega) (by omega)))) (fun c_16 => ?_)
      refine V_aload_n o dX8_goesOn_19 rfl rfl ?_
      refine V_getR (t := 2) o dX8_goesOn_20 rfl fl_X8_10 rfl ?_
      refine V_iload_n o dX8_goesOn_23 rfl rfl ?_
      rcases (hB t ht).1 with hG0 | hG
      · refine V_cVn o rt dX8_goesOn_24 ml_X8_154 (c7_find_n_2 hf hW ht hG0) rfl rfl rfl (Nat.le_of_ble_eq_true rfl) rfl ?_
        refine V_astoreN (ls' := [(4, _), (3, _), (2, _), (0, _), (1, _)]) o dX8_goesOn_27 (by decide) rfl ?_
        refine V_aloadN o dX8_goesOn_29 rfl ?_
        refine V_ifnull_n (tgt := 63) o dX8_goesOn_31 (by decide) ?_
        refine V_iincV (v := nI (t + 1)) (ls' := [(3, _), (4, _), (2, _), (0, _), (1, _)]) o dX8_goesOn_63 rfl (ninc 1 rfl) (by decide) rfl ?_
        refine V_goto (tgt := 13) o dX8_goesOn_66 (by decide) ?_
        rw [if_neg (fun q => absurd (hG0.symm.trans (of_decide_eq_true q).1) (by decide))] at hR
        exact V_sub (by simp) (ih (t + 1) g τ N (by omega) (by omega) ho hW hB hF hr hR)
      · refine V_cVr o rt dX8_goesOn_24 ml_X8_154 (c7_find_2 hf hW ht hG) rfl rfl rfl (Nat.le_of_ble_eq_true rfl) rfl ?_
        refine V_astore (ls' := [(4, _), (3, _), (2, _), (0, _), (1, _)]) o dX8_goesOn_27 (by decide) rfl ?_
        refine V_aload o dX8_goesOn_29 rfl ?_
        refine V_ifnull_r o dX8_goesOn_31 ?_
        refine V_aload o dX8_goesOn_34 rfl ?_
        refine V_getI o dX8_goesOn_36 (kT9 t ht) fl_X8_171 (rT9 ht) ?_
        refine V_topI (v' := N (343 + t)) (hW.2.2 t ht).pau ?_
        refine V_if_eq (tgt := 63) o dX8_goesOn_39 (by decide) (fun c_39 => ?_) (fun c_39 => ?_)
        · refine V_iincV (v := nI (t + 1)) (ls' := [(3, _), (4, _), (2, _), (0, _), (1, _)]) o dX8_goesOn_63 rfl (ninc 1 rfl) (by decide) rfl ?_
          refine V_goto (tgt := 13) o dX8_goesOn_66 (by decide) ?_
          rw [if_neg (fun q => (of_decide_eq_true q).2.1 ⟨hG, c_39⟩)] at hR
          exact V_sub (by simp) (ih (t + 1) g τ N (by omega) (by omega) ho hW hB hF hr hR)
        · refine V_aload o dX8_goesOn_42 rfl ?_
          refine V_getI o dX8_goesOn_44 (kT9 t ht) fl_X8_135 (rT9 ht) ?_
          refine V_topI (v' := N (263 + t)) (hW.2.2 t ht).grp ?_
          refine V_iload_n o dX8_goesOn_47 rfl rfl ?_
          refine V_icmp_ne (tgt := 63) o dX8_goesOn_48 (by decide) (fun c_48 => ?_) (fun c_48 => ?_)
          · refine V_iincV (v := nI (t + 1)) (ls' := [(3, _), (4, _), (2, _), (0, _), (1, _)]) o dX8_goesOn_63 rfl (ninc 1 rfl) (by decide) rfl ?_
            refine V_goto (tgt := 13) o dX8_goesOn_66 (by decide) ?_
            rw [if_neg (fun q => c_48 (of_decide_eq_true q).2.2)] at hR
            exact V_sub (by simp) (ih (t + 1) g τ N (by omega) (by omega) ho hW hB hF hr hR)
          · refine V_aload_n o dX8_goesOn_51 rfl rfl ?_
            refine V_getR (t := 2) o dX8_goesOn_52 rfl fl_X8_10 rfl ?_
            refine V_aload o dX8_goesOn_55 rfl ?_
            refine V_callV o rt dX8_goesOn_57 ml_X8_180 (c7_resume_2 hf hW hF ht ((hB t ht).2.2.resolve_left c_39)) rfl rfl rfl (Nat.le_of_ble_eq_true rfl) rfl (fun r_57 σ_57 q_57 => ?_)
            obtain ⟨rfl, ho2, h2⟩ := q_57
            show V sh0 w x mX8_goesOn (0, 0) _ _ [] _
            refine V_iincV (v := nI (g + 1)) (ls' := [(2, _), (4, _), (3, _), (0, _), (1, _)]) o dX8_goesOn_60 rfl (ninc 1 rfl) (by decide) rfl ?_
            refine V_iincV (v := nI (t + 1)) (ls' := [(3, _), (2, _), (4, _), (0, _), (1, _)]) o dX8_goesOn_63 rfl (ninc 1 rfl) (by decide) rfl ?_
            refine V_goto (tgt := 13) o dX8_goesOn_66 (by decide) ?_
            rw [if_pos (show goP k N t = true from decide_eq_true ⟨hG, fun q => c_39 q.2, c_48⟩)] at hR
            exact V_sub (by simp) (ih (t + 1) (g + 1) σ_57 (reM N L t) (by omega) (by omega) (ho.tr (ho2.wd (by omega) (by omega))) h2 (Bo_re ht hB) (Wf_re hF) hr.re hR)
  refine V_iload_n o dX8_goesOn_0 rfl rfl ?_
  refine V_cSi o rt dX8_goesOn_1 ms_X8_115 (c8_isGroup hf) rfl rfl (Nat.le_of_ble_eq_true rfl) rfl ?_
  refine V_if_ne (tgt := 9) o dX8_goesOn_4 (by decide) (fun c_4 => ?_) (fun c_4 => False.elim (bz_0.mp c_4 hk))
  refine V_iconst (v := 0) o dX8_goesOn_9 (by decide) ?_
  refine V_istore_n (ls' := [(2, _), (0, _), (1, _)]) o dX8_goesOn_10 rfl (by decide) rfl ?_
  refine V_iconst (v := 0) o dX8_goesOn_11 (by decide) ?_
  refine V_istore_n (ls' := [(3, _), (2, _), (0, _), (1, _)]) o dX8_goesOn_12 rfl (by decide) rfl ?_
  exact V_sub (by simp; rfl) (loop 16 0 0 σ M (by omega) (by omega) Off.rf hW hB hF Rst.rf hRG)
set_option maxRecDepth 20000 in
set_option maxHeartbeats 4000000 in
theorem c8_goesOn_no {w : Wp} (hf : Fit sh0 w) {σ : Mm} {M : Nat → Int32} {L r n : Nat} {l : List Int64} {T : Nat → Int32} (hK : KR M L r l T n σ) (hF : Wf M L) (hB : Bo M) {k : Int32} (hk : ¬ inR k 0 7) : Ct sh0 w 4 mX8_goesOn [.ref 1, .int k] σ (fun r' σ' => r' = some (.int (-1)) ∧ Off 1 67 σ σ' ∧ KR (M) (L) r (l) (T) (n) σ') := by
  refine Ct_of hf (by decide) rfl (Nat.le_of_ble_eq_true rfl) (fun x o rt => ?_)
  refine V_iload_n o dX8_goesOn_0 rfl rfl ?_
  refine V_cSi o rt dX8_goesOn_1 ms_X8_115 (c8_isGroup hf) rfl rfl (Nat.le_of_ble_eq_true rfl) rfl ?_
  refine V_if_ne (tgt := 9) o dX8_goesOn_4 (by decide) (fun c_4 => False.elim (hk (bz_n0.mp c_4))) (fun c_4 => ?_)
  refine V_iconst (v := -1) o dX8_goesOn_7 (by decide) ?_
  refine V_iret o rt dX8_goesOn_8 rfl rfl ?_
  exact ⟨rfl, Off.rf, hK⟩
def stSg (σ : Mm) (t : Nat) (du ar gr so pe ti : Int32) : Mm := wI (wI (wI (wI (wI (wI (wI (wI (wI (wI (wI σ (9 + t) 1 1) (9 + t) 2 du) (9 + t) 4 ar) (9 + t) 9 0) (9 + t) 10 0) (9 + t) 11 0) (9 + t) 12 0) (9 + t) 5 gr) (9 + t) 6 so) (9 + t) 7 pe) (9 + t) 8 ti
theorem stSg_ne {σ : Mm} {t a : Nat} {du ar gr so pe ti : Int32} (h : a ≠ 9 + t) : (stSg σ t du ar gr so pe ti).1 a = σ.1 a := by
  unfold stSg
  rw [wI_ne h, wI_ne h, wI_ne h, wI_ne h, wI_ne h, wI_ne h, wI_ne h, wI_ne h, wI_ne h, wI_ne h, wI_ne h]
theorem Off_st {σ τ : Mm} {t : Nat} {du ar gr so pe ti : Int32} (h : Off 2 25 σ τ) (ht : t < 16) : Off 2 25 σ (stSg τ t du ar gr so pe ti) := ((((((((((h.wI (by omega) (by omega)).wI (by omega) (by omega)).wI (by omega) (by omega)).wI (by omega) (by omega)).wI (by omega) (by omega)).wI (by omega) (by omega)).wI (by omega) (by omega)).wI (by omega) (by omega)).wI (by omega) (by omega)).wI (by omega) (by omega)).wI (by omega) (by omega)
def stM (M : Nat → Int32) (t : Nat) (dl gr so pe ti : Int32) : Nat → Int32 := uM (st0M M t dl gr so pe ti) 13 (M 13 + 1)
theorem stM_ne {M : Nat → Int32} {t j : Nat} {dl gr so pe ti : Int32} (ht : t < 16) (h13 : j ≠ 13) (h : j < 215 ∨ ¬ (j - 215) % 16 = t ∨ 391 ≤ j) : stM M t dl gr so pe ti j = M j := by
  unfold stM st0M
  rw [uM_ne _ _ h13, uM_ne _ _ (by omega), uM_ne _ _ (by omega), uM_ne _ _ (by omega), uM_ne _ _ (by omega), uM_ne _ _ (by omega), uM_ne _ _ (by omega), uM_ne _ _ (by omega), uM_ne _ _ (by omega), uM_ne _ _ (by omega), uM_ne _ _ (by omega)]
theorem stM_343 {M : Nat → Int32} {t : Nat} {dl gr so pe ti : Int32} (ht : t < 16) : stM M t dl gr so pe ti (343 + t) = 0 := by
  unfold stM st0M
  rw [uM_ne _ _ (by omega), uM_ne _ _ (by omega), uM_self]
theorem WPre_set {L t : Nat} {M : Nat → Int32} {σ : Mm} {dl gr so pe ti : Int32} (h : WRel 2 M L σ) (hL : L ≤ 4) (ht : t < 16) : WPre 2 (stM M t dl gr so pe ti) L t (stSg σ t (M 6 + dl) (M 13) gr so pe ti) := by
  have e : ∀ a, a ≠ 9 + t → (stSg σ t (M 6 + dl) (M 13) gr so pe ti).1 a = σ.1 a := fun a ha => stSg_ne ha
  refine ⟨?_, h.2.1.off hL (fun j hj => stM_ne ht (by omega) (by omega)) (e _ (by omega)) (e _ (by omega)) (e _ (by omega)), fun u hu hut => (h.2.2 u hu).sm hu (fun j h1 h2 h3 => stM_ne ht (by omega) (by omega)) (e _ (by omega)), ?_⟩
  · rw [e 2 (by omega), stM_ne ht (by omega) (by omega), stM_ne ht (by omega) (by omega), stM_ne ht (by omega) (by omega), stM_ne ht (by omega) (by omega)]
    exact h.1
  · refine ⟨?_, ?_, ?_, ?_, ?_, ?_, ?_, ?_, ?_, ?_, ?_⟩
    · have h0 := (h.2.2 t ht).no
      simp [stSg, wI, up2]
      exact h0
    all_goals (simp [stSg, wI, up2, stM, st0M, uM]; intro hh; omega)
theorem c7_leastFree_n {w : Wp} (hf : Fit sh0 w) {σ : Mm} {M : Nat → Int32} {L : Nat} (hW : WRel 2 M L σ) (hB : Bo M) (h : frM M 16 0 = 16) : Cf sh0 w 0 mX7_leastFree [.ref 2] σ (some .null) σ := by
  have := c7_leastFree hf hW hB h
  rw [if_pos rfl] at this
  exact this
theorem c7_leastFree_t {w : Wp} (hf : Fit sh0 w) {σ : Mm} {M : Nat → Int32} {L : Nat} (hW : WRel 2 M L σ) (hB : Bo M) {t : Nat} (h : frM M 16 0 = t) (ht : ¬ t = 16) : Cf sh0 w 0 mX7_leastFree [.ref 2] σ (some (.ref (9 + t))) σ := by
  have := c7_leastFree hf hW hB h
  rw [if_neg ht] at this
  exact this
set_option maxRecDepth 20000 in
set_option maxHeartbeats 4000000 in
theorem c6_start {w : Wp} (hf : Fit sh0 w) {σ : Mm} {t : Nat} (ht : t < 16) {du ar : Int32} : Cf sh0 w 0 mX6_start [.ref (9 + t), .int du, .int ar] σ none (wI (wI (wI (wI (wI (wI (wI σ (9 + t) 1 1) (9 + t) 2 du) (9 + t) 4 ar) (9 + t) 9 0) (9 + t) 10 0) (9 + t) 11 0) (9 + t) 12 0) := by
  refine Ct_of hf (by decide) rfl (Nat.le_of_ble_eq_true rfl) (fun x o rt => ?_)
  refine V_aload_n o dX6_start_0 rfl rfl ?_
  refine V_iconst (v := 1) o dX6_start_1 (by decide) ?_
  refine V_putZ o dX6_start_2 (kT9 t ht) fl_X6_13 (rT9 ht) rfl rfl (by simp) ?_
  refine V_aload_n o dX6_start_5 rfl rfl ?_
  refine V_iload_n o dX6_start_6 rfl rfl ?_
  refine V_putI o dX6_start_7 (kT9 t ht) fl_X6_17 (rT9 ht) rfl rfl ?_
  refine V_aload_n o dX6_start_10 rfl rfl ?_
  refine V_iload_n o dX6_start_11 rfl rfl ?_
  refine V_putI o dX6_start_12 (kT9 t ht) fl_X6_20 (rT9 ht) rfl rfl ?_
  refine V_aload_n o dX6_start_15 rfl rfl ?_
  refine V_iconst (v := 0) o dX6_start_16 (by decide) ?_
  refine V_putI o dX6_start_17 (kT9 t ht) fl_X6_23 (rT9 ht) rfl rfl ?_
  refine V_aload_n o dX6_start_20 rfl rfl ?_
  refine V_iconst (v := 0) o dX6_start_21 (by decide) ?_
  refine V_putZ o dX6_start_22 (kT9 t ht) fl_X6_26 (rT9 ht) rfl rfl (by simp) ?_
  refine V_aload_n o dX6_start_25 rfl rfl ?_
  refine V_iconst (v := 0) o dX6_start_26 (by decide) ?_
  refine V_putZ o dX6_start_27 (kT9 t ht) fl_X6_29 (rT9 ht) rfl rfl (by simp) ?_
  refine V_aload_n o dX6_start_30 rfl rfl ?_
  refine V_iconst (v := 0) o dX6_start_31 (by decide) ?_
  refine V_putI o dX6_start_32 (kT9 t ht) fl_X6_32 (rT9 ht) rfl rfl ?_
  refine V_ret o rt dX6_start_35 rfl ?_
  exact ⟨rfl, rfl⟩
set_option maxRecDepth 20000 in
set_option maxHeartbeats 4000000 in
theorem c8_sets {w : Wp} (hf : Fit sh0 w) {σ : Mm} {M : Nat → Int32} {L r n : Nat} {l : List Int64} {T : Nat → Int32} (hK : KR M L r l T n σ) (hF : Wf M L) (hB : Bo M) {dl gr so pe ti : Int32} (hc : setsC dl gr so pe ti) : Ct sh0 w 2 mX8_sets [.ref 1, .int dl, .int gr, .int so, .int pe, .int ti] σ (fun r' σ' => r' = some (.int (setR M)) ∧ Off 1 62 σ σ' ∧ KR (setsM M L dl gr so pe ti) (L) r (l) (T) (n) σ') := by
  have hL := hF.2.2.1
  have hW := hK.1
  obtain ⟨t, htt⟩ : ∃ t, frM M 16 0 = t := ⟨_, rfl⟩
  refine Ct_of hf (by decide) rfl (Nat.le_of_ble_eq_true rfl) (fun x o rt => ?_)
  refine V_iload_n o dX8_sets_0 rfl rfl ?_
  refine V_iconst (v := 1) o dX8_sets_1 (by decide) ?_
  refine V_ldc o dX8_sets_2 kc_X8_114 ?_
  refine V_cSi o rt dX8_sets_4 ms_X8_79 (c8_isWithin hf) rfl rfl (Nat.le_of_ble_eq_true rfl) rfl ?_
  refine V_if_eq (tgt := 53) o dX8_sets_7 (by decide) (fun c_7 => False.elim (bz_0.mp c_7 hc.1)) (fun c_7 => ?_)
  refine V_iload_n o dX8_sets_10 rfl rfl ?_
  refine V_cSi o rt dX8_sets_11 ms_X8_115 (c8_isGroup hf) rfl rfl (Nat.le_of_ble_eq_true rfl) rfl ?_
  refine V_if_eq (tgt := 53) o dX8_sets_14 (by decide) (fun c_14 => False.elim (bz_0.mp c_14 hc.2.1)) (fun c_14 => ?_)
  refine V_iload_n o dX8_sets_17 rfl rfl ?_
  refine V_iconst (v := 0) o dX8_sets_18 (by decide) ?_
  refine V_iconst (v := 3) o dX8_sets_19 (by decide) ?_
  refine V_cSi o rt dX8_sets_20 ms_X8_79 (c8_isWithin hf) rfl rfl (Nat.le_of_ble_eq_true rfl) rfl ?_
  refine V_if_eq (tgt := 53) o dX8_sets_23 (by decide) (fun c_23 => False.elim (bz_0.mp c_23 hc.2.2.1)) (fun c_23 => ?_)
  refine V_iload o dX8_sets_26 rfl ?_
  refine V_iconst (v := 1) o dX8_sets_28 (by decide) ?_
  refine V_sipush (v := 1000) o dX8_sets_29 (by decide) ?_
  refine V_cSi o rt dX8_sets_32 ms_X8_79 (c8_isWithin hf) rfl rfl (Nat.le_of_ble_eq_true rfl) rfl ?_
  refine V_if_eq (tgt := 53) o dX8_sets_35 (by decide) (fun c_35 => False.elim (bz_0.mp c_35 hc.2.2.2.1)) (fun c_35 => ?_)
  refine V_iload o dX8_sets_38 rfl ?_
  refine V_iconst (v := 0) o dX8_sets_40 (by decide) ?_
  refine V_bipush (v := 99) o dX8_sets_41 (by decide) ?_
  refine V_cSi o rt dX8_sets_43 ms_X8_79 (c8_isWithin hf) rfl rfl (Nat.le_of_ble_eq_true rfl) rfl ?_
  refine V_if_eq (tgt := 53) o dX8_sets_46 (by decide) (fun c_46 => False.elim (bz_0.mp c_46 hc.2.2.2.2)) (fun c_46 => ?_)
  refine V_iconst (v := 1) o dX8_sets_49 (by decide) ?_
  refine V_goto (tgt := 54) o dX8_sets_50 (by decide) ?_
  refine V_istore (ls' := [(6, _), (0, _), (1, _), (2, _), (3, _), (4, _), (5, _)]) o dX8_sets_54 (by decide) rfl ?_
  refine V_iload o dX8_sets_56 rfl ?_
  refine V_if_ne (tgt := 63) o dX8_sets_58 (by decide) (fun c_58 => ?_) (fun c_58 => False.elim (absurd c_58 (by decide)))
  refine V_aload_n o dX8_sets_63 rfl rfl ?_
  refine V_getR (t := 2) o dX8_sets_64 rfl fl_X8_10 rfl ?_
  by_cases h16 : t = 16
  · refine V_cVn o rt dX8_sets_67 ml_X8_119 (c7_leastFree_n hf hW hB (htt.trans h16)) rfl rfl rfl (Nat.le_of_ble_eq_true rfl) rfl ?_
    refine V_astoreN (ls' := [(7, _), (6, _), (0, _), (1, _), (2, _), (3, _), (4, _), (5, _)]) o dX8_sets_70 (by decide) rfl ?_
    refine V_aloadN o dX8_sets_72 rfl ?_
    refine V_ifnonnull_n o dX8_sets_74 ?_
    refine V_bipush (v := -3) o dX8_sets_77 (by decide) ?_
    refine V_iret o rt dX8_sets_79 rfl rfl ?_
    exact ⟨by rw [setR, htt, if_pos h16], Off.rf, by rw [setsM, htt, if_pos h16]; exact hK⟩
  · refine V_cVr o rt dX8_sets_67 ml_X8_119 (c7_leastFree_t hf hW hB htt h16) rfl rfl rfl (Nat.le_of_ble_eq_true rfl) rfl ?_
    have ht : t < 16 := by have := frM_le M 16 0; omega
    have hP := WPre_set (dl := dl) (gr := gr) (so := so) (pe := pe) (ti := ti) hW hL ht
    have hWl := WRel_lay hL ht hP (stM_343 ht)
    refine V_astore (ls' := [(7, _), (6, _), (0, _), (1, _), (2, _), (3, _), (4, _), (5, _)]) o dX8_sets_70 (by decide) rfl ?_
    refine V_aload o dX8_sets_72 rfl ?_
    refine V_ifnonnull_r (tgt := 80) o dX8_sets_74 (by decide) ?_
    refine V_aload o dX8_sets_80 rfl ?_
    refine V_aload_n o dX8_sets_82 rfl rfl ?_
    refine V_getR (t := 2) o dX8_sets_83 rfl fl_X8_10 rfl ?_
    refine V_getI o dX8_sets_86 rfl fl_X8_123 rfl ?_
    refine V_topI (v' := M 6) hW.1.1 ?_
    refine V_iload_n o dX8_sets_89 rfl rfl ?_
    refine V_iadd o dX8_sets_90 ?_
    refine V_aload_n o dX8_sets_91 rfl rfl ?_
    refine V_getI o dX8_sets_92 rfl fl_X8_126 rfl ?_
    refine V_topI (v' := M 13) hK.2.1.1 ?_
    refine V_cVv o rt dX8_sets_95 ml_X8_129 (c6_start hf ht) (kT9 t ht) rfl rfl (Nat.le_of_ble_eq_true rfl) rfl ?_
    refine V_aload o dX8_sets_98 rfl ?_
    refine V_iload_n o dX8_sets_100 rfl rfl ?_
    refine V_putI o dX8_sets_101 (kT9 t ht) fl_X8_135 (rT9 ht) rfl rfl ?_
    refine V_aload o dX8_sets_104 rfl ?_
    refine V_iload_n o dX8_sets_106 rfl rfl ?_
    refine V_putI o dX8_sets_107 (kT9 t ht) fl_X8_138 (rT9 ht) rfl rfl ?_
    refine V_aload o dX8_sets_110 rfl ?_
    refine V_iload o dX8_sets_112 rfl ?_
    refine V_putI o dX8_sets_114 (kT9 t ht) fl_X8_141 (rT9 ht) rfl rfl ?_
    refine V_aload o dX8_sets_117 rfl ?_
    refine V_iload o dX8_sets_119 rfl ?_
    refine V_putI o dX8_sets_121 (kT9 t ht) fl_X8_144 (rT9 ht) rfl rfl ?_
    refine V_aload_n o dX8_sets_124 rfl rfl ?_
    refine V_getR (t := 2) o dX8_sets_125 rfl fl_X8_10 rfl ?_
    refine V_aload o dX8_sets_128 rfl ?_
    refine V_cVv o rt dX8_sets_130 ml_X8_147 (c7_lay_2 hf (σ := stSg σ t (M 6 + dl) (M 13) gr so pe ti) ht hP (Wf_same hF (fun j hj => stM_ne ht (by omega) (by omega)))) rfl rfl rfl (Nat.le_of_ble_eq_true rfl) rfl ?_
    refine V_aload_n o dX8_sets_133 rfl rfl ?_
    refine V_dup o dX8_sets_134 rfl ?_
    refine V_getI o dX8_sets_135 rfl fl_X8_126 rfl ?_
    refine V_topI (v' := M 13) ((congrFun (laySg_ne (by omega)) 8).trans ((congrFun (stSg_ne (by omega)) 8).trans hK.2.1.1)) ?_
    refine V_iconst (v := 1) o dX8_sets_138 (by decide) ?_
    refine V_iadd o dX8_sets_139 ?_
    refine V_putI o dX8_sets_140 rfl fl_X8_126 rfl rfl rfl ?_
    refine V_aload o dX8_sets_143 rfl ?_
    refine V_getI o dX8_sets_145 (kT9 t ht) fl_X8_151 (rT9 ht) ?_
    refine V_topI (v' := nI t) ((congrFun (wI_ne (by omega)) 0).trans (hWl.2.2 t ht).no) ?_
    refine V_iret o rt dX8_sets_148 rfl rfl ?_
    refine ⟨by rw [setR, htt, if_neg h16], ?_, ?_⟩
    · exact ((Off_lay (Off_st Off.rf ht) (by omega) (by omega)).wd (by omega) (by omega)).wI (by omega) (by omega)
    · rw [setsM, htt, if_neg h16]
      have ho : Off 2 25 σ (laySg 2 (stM M t dl gr so pe ti) L t (stSg σ t (M 6 + dl) (M 13) gr so pe ti)) := Off_lay (Off_st Off.rf ht) (by omega) (by omega)
      have sm : ∀ j, j < 215 → j ≠ 13 → setM M L t dl gr so pe ti j = M j := fun j h1 h2 => (layM_ne (by omega)).trans (stM_ne ht h2 (by omega))
      have s13 : setM M L t dl gr so pe ti 13 = M 13 + 1 := (layM_ne (by omega)).trans (uM_self _ _ _)
      have e1 := (ho 1 (by omega)).1
      refine ⟨hWl.off (lo := 1) (hi := 2) hL (fun _ _ _ => rfl) (Off.rf.wI (by omega) (by omega)) (by omega), ⟨?_, ?_, ?_, ?_⟩, ?_, ?_, ?_, ?_⟩
      · rw [wI_at, s13]
      · rw [wI_nj (by decide), e1, sm 10 (by omega) (by omega)]; exact hK.2.1.2.1
      · rw [wI_nj (by decide), e1, sm 11 (by omega) (by omega)]; exact hK.2.1.2.2.1
      · rw [wI_nj (by decide), e1, sm 12 (by omega) (by omega)]; exact hK.2.1.2.2.2
      · exact ((hK.2.2.1.off ho (by omega)).cg (fun j hj => sm j (by omega) (by omega))).off (lo := 1) (hi := 2) (Off.rf.wI (by omega) (by omega)) (by omega)
      · exact (hK.2.2.2.1.off ho (by omega)).off (lo := 1) (hi := 2) (Off.rf.wI (by omega) (by omega)) (by omega)
      · exact (hK.2.2.2.2.1.off ho (by omega)).off (lo := 1) (hi := 2) (Off.rf.wI (by omega) (by omega)) (by omega)
      · exact (hK.2.2.2.2.2.off ho (by omega)).off (lo := 1) (hi := 2) (Off.rf.wI (by omega) (by omega)) (by omega)
set_option maxRecDepth 20000 in
set_option maxHeartbeats 4000000 in
theorem c8_sets_no {w : Wp} (hf : Fit sh0 w) {σ : Mm} {M : Nat → Int32} {L r n : Nat} {l : List Int64} {T : Nat → Int32} (hK : KR M L r l T n σ) (hF : Wf M L) (hB : Bo M) {dl gr so pe ti : Int32} (hc : ¬ setsC dl gr so pe ti) : Ct sh0 w 2 mX8_sets [.ref 1, .int dl, .int gr, .int so, .int pe, .int ti] σ (fun r' σ' => r' = some (.int (-1)) ∧ Off 1 62 σ σ' ∧ KR (M) (L) r (l) (T) (n) σ') := by
  refine Ct_of hf (by decide) rfl (Nat.le_of_ble_eq_true rfl) (fun x o rt => ?_)
  refine V_iload_n o dX8_sets_0 rfl rfl ?_
  refine V_iconst (v := 1) o dX8_sets_1 (by decide) ?_
  refine V_ldc o dX8_sets_2 kc_X8_114 ?_
  refine V_cSi o rt dX8_sets_4 ms_X8_79 (c8_isWithin hf) rfl rfl (Nat.le_of_ble_eq_true rfl) rfl ?_
  refine V_if_eq (tgt := 53) o dX8_sets_7 (by decide) (fun c_7 => ?_) (fun c_7 => ?_)
  · refine V_iconst (v := 0) o dX8_sets_53 (by decide) ?_
    refine V_istore (ls' := [(6, _), (0, _), (1, _), (2, _), (3, _), (4, _), (5, _)]) o dX8_sets_54 (by decide) rfl ?_
    refine V_iload o dX8_sets_56 rfl ?_
    refine V_if_ne (tgt := 63) o dX8_sets_58 (by decide) (fun c_58 => False.elim (absurd (by decide) c_58)) (fun c_58 => ?_)
    refine V_iconst (v := -1) o dX8_sets_61 (by decide) ?_
    refine V_iret o rt dX8_sets_62 rfl rfl ?_
    exact ⟨rfl, Off.rf, hK⟩
  · refine V_iload_n o dX8_sets_10 rfl rfl ?_
    refine V_cSi o rt dX8_sets_11 ms_X8_115 (c8_isGroup hf) rfl rfl (Nat.le_of_ble_eq_true rfl) rfl ?_
    refine V_if_eq (tgt := 53) o dX8_sets_14 (by decide) (fun c_14 => ?_) (fun c_14 => ?_)
    · refine V_iconst (v := 0) o dX8_sets_53 (by decide) ?_
      refine V_istore (ls' := [(6, _), (0, _), (1, _), (2, _), (3, _), (4, _), (5, _)]) o dX8_sets_54 (by decide) rfl ?_
      refine V_iload o dX8_sets_56 rfl ?_
      refine V_if_ne (tgt := 63) o dX8_sets_58 (by decide) (fun c_58 => False.elim (absurd (by decide) c_58)) (fun c_58 => ?_)
      refine V_iconst (v := -1) o dX8_sets_61 (by decide) ?_
      refine V_iret o rt dX8_sets_62 rfl rfl ?_
      exact ⟨rfl, Off.rf, hK⟩
    · refine V_iload_n o dX8_sets_17 rfl rfl ?_
      refine V_iconst (v := 0) o dX8_sets_18 (by decide) ?_
      refine V_iconst (v := 3) o dX8_sets_19 (by decide) ?_
      refine V_cSi o rt dX8_sets_20 ms_X8_79 (c8_isWithin hf) rfl rfl (Nat.le_of_ble_eq_true rfl) rfl ?_
      refine V_if_eq (tgt := 53) o dX8_sets_23 (by decide) (fun c_23 => ?_) (fun c_23 => ?_)
      · refine V_iconst (v := 0) o dX8_sets_53 (by decide) ?_
        refine V_istore (ls' := [(6, _), (0, _), (1, _), (2, _), (3, _), (4, _), (5, _)]) o dX8_sets_54 (by decide) rfl ?_
        refine V_iload o dX8_sets_56 rfl ?_
        refine V_if_ne (tgt := 63) o dX8_sets_58 (by decide) (fun c_58 => False.elim (absurd (by decide) c_58)) (fun c_58 => ?_)
        refine V_iconst (v := -1) o dX8_sets_61 (by decide) ?_
        refine V_iret o rt dX8_sets_62 rfl rfl ?_
        exact ⟨rfl, Off.rf, hK⟩
      · refine V_iload o dX8_sets_26 rfl ?_
        refine V_iconst (v := 1) o dX8_sets_28 (by decide) ?_
        refine V_sipush (v := 1000) o dX8_sets_29 (by decide) ?_
        refine V_cSi o rt dX8_sets_32 ms_X8_79 (c8_isWithin hf) rfl rfl (Nat.le_of_ble_eq_true rfl) rfl ?_
        refine V_if_eq (tgt := 53) o dX8_sets_35 (by decide) (fun c_35 => ?_) (fun c_35 => ?_)
        · refine V_iconst (v := 0) o dX8_sets_53 (by decide) ?_
          refine V_istore (ls' := [(6, _), (0, _), (1, _), (2, _), (3, _), (4, _), (5, _)]) o dX8_sets_54 (by decide) rfl ?_
          refine V_iload o dX8_sets_56 rfl ?_
          refine V_if_ne (tgt := 63) o dX8_sets_58 (by decide) (fun c_58 => False.elim (absurd (by decide) c_58)) (fun c_58 => ?_)
          refine V_iconst (v := -1) o dX8_sets_61 (by decide) ?_
          refine V_iret o rt dX8_sets_62 rfl rfl ?_
          exact ⟨rfl, Off.rf, hK⟩
        · refine V_iload o dX8_sets_38 rfl ?_
          refine V_iconst (v := 0) o dX8_sets_40 (by decide) ?_
          refine V_bipush (v := 99) o dX8_sets_41 (by decide) ?_
          refine V_cSi o rt dX8_sets_43 ms_X8_79 (c8_isWithin hf) rfl rfl (Nat.le_of_ble_eq_true rfl) rfl ?_
          refine V_if_eq (tgt := 53) o dX8_sets_46 (by decide) (fun c_46 => ?_) (fun c_46 => ?_)
          · refine V_iconst (v := 0) o dX8_sets_53 (by decide) ?_
            refine V_istore (ls' := [(6, _), (0, _), (1, _), (2, _), (3, _), (4, _), (5, _)]) o dX8_sets_54 (by decide) rfl ?_
            refine V_iload o dX8_sets_56 rfl ?_
            refine V_if_ne (tgt := 63) o dX8_sets_58 (by decide) (fun c_58 => False.elim (absurd (by decide) c_58)) (fun c_58 => ?_)
            refine V_iconst (v := -1) o dX8_sets_61 (by decide) ?_
            refine V_iret o rt dX8_sets_62 rfl rfl ?_
            exact ⟨rfl, Off.rf, hK⟩
          · exact absurd ⟨bz_n0.mp c_7, bz_n0.mp c_14, bz_n0.mp c_23, bz_n0.mp c_35, bz_n0.mp c_46⟩ hc
