theorem lt_le15 {k : Int32} (h : k < 16) : k ≤ 15 := by
  rw [Int32.le_iff_toInt_le]
  have := Int32.lt_iff_toInt_lt.mp h
  have e1 : (16 : Int32).toInt = 16 := by decide
  have e2 : (15 : Int32).toInt = 15 := by decide
  omega
def cLv (M : Nat → Int32) (t : Nat) : Int32 := if M (343 + t) = 1 then -2 else M (391 + t)
def cSl (M : Nat → Int32) (t : Nat) : Int32 := if M (343 + t) = 1 then -2 else M (407 + t)
theorem TmR.lv {M : Nat → Int32} {t : Nat} {g : Nat → Int32} (h : TmR M t g) (hB : M (343 + t) = 0 ∨ M (343 + t) = 1) : g 13 = cLv M t := by
  unfold cLv
  rcases hB with e | e
  · rw [if_neg (by rw [e]; decide)]; exact (h.2.2 e).1
  · rw [if_pos e]; exact (h.2.1 e).2.1
theorem TmR.sl {M : Nat → Int32} {t : Nat} {g : Nat → Int32} (h : TmR M t g) (hB : M (343 + t) = 0 ∨ M (343 + t) = 1) : g 14 = cSl M t := by
  unfold cSl
  rcases hB with e | e
  · rw [if_neg (by rw [e]; decide)]; exact (h.2.2 e).2
  · rw [if_pos e]; exact (h.2.1 e).2.2
/-- all but where one timer lies -/
def WPre (b : Nat) (M : Nat → Int32) (L t : Nat) (σ : Mm) : Prop := (σ.1 b 3 = M 6 ∧ σ.1 b 4 = M 5 ∧ σ.1 b 5 = M 8 ∧ σ.1 b 6 = M 9) ∧ ShR (b + 1) M L σ ∧ (∀ u, u < 16 → u ≠ t → TmR M u (σ.1 (b + 7 + u))) ∧
  (σ.1 (b + 7 + t) 0 = nI t ∧ σ.1 (b + 7 + t) 1 = M (215 + t) ∧ σ.1 (b + 7 + t) 2 = M (231 + t) ∧ σ.1 (b + 7 + t) 4 = M (247 + t) ∧ σ.1 (b + 7 + t) 5 = M (263 + t) ∧ σ.1 (b + 7 + t) 6 = M (279 + t) ∧ σ.1 (b + 7 + t) 7 = M (295 + t) ∧ σ.1 (b + 7 + t) 8 = M (311 + t) ∧ σ.1 (b + 7 + t) 9 = M (375 + t) ∧ σ.1 (b + 7 + t) 10 = M (327 + t) ∧ σ.1 (b + 7 + t) 11 = M (343 + t))
theorem WRel.pre {b L t : Nat} {M : Nat → Int32} {σ : Mm} (h : WRel b M L σ) (ht : t < 16) : WPre b M L t σ := ⟨h.1, h.2.1, fun u hu _ => h.2.2 u hu, (h.2.2 t ht).1⟩
def laySg (b : Nat) (M : Nat → Int32) (L t : Nat) (σ : Mm) : Mm := wI (wI σ (b + 7 + t) 13 (lvF M (M (231 + t) - M 6) L 0)) (b + 7 + t) 14 (slM M (lvF M (M (231 + t) - M 6) L 0) (M (231 + t)))
theorem laySg_ne {b L t a : Nat} {M : Nat → Int32} {σ : Mm} (h : a ≠ b + 7 + t) : (laySg b M L t σ).1 a = σ.1 a := by
  funext j
  simp [laySg, wI, up2, h]
theorem laySg_lo {b L t j : Nat} {M : Nat → Int32} {σ : Mm} (h : j < 13) : (laySg b M L t σ).1 (b + 7 + t) j = σ.1 (b + 7 + t) j := by
  have h1 : ¬ j = 13 := by omega
  have h2 : ¬ j = 14 := by omega
  simp [laySg, wI, up2, h1, h2]
theorem WRel_lay {b L t : Nat} {M : Nat → Int32} {σ : Mm} (hL : L ≤ 4) (ht : t < 16) (h : WPre b M L t σ) (hp : M (343 + t) = 0) : WRel b (layM M L t) L (laySg b M L t σ) := by
  obtain ⟨h1, h2, h3, h4⟩ := h
  have e : ∀ a, a ≠ b + 7 + t → (laySg b M L t σ).1 a = σ.1 a := fun a ha => laySg_ne ha
  have el : ∀ j, j < 13 → (laySg b M L t σ).1 (b + 7 + t) j = σ.1 (b + 7 + t) j := fun j hj => laySg_lo hj
  refine ⟨?_, h2.off hL (fun j hj => layM_ne (by omega)) (e _ (by omega)) (e _ (by omega)) (e _ (by omega)), fun u hu => ?_⟩
  · rw [e b (by omega), layM_ne (by omega), layM_ne (by omega), layM_ne (by omega), layM_ne (by omega)]
    exact h1
  · by_cases hut : u = t
    · subst hut
      refine ⟨?_, fun q => absurd q (by rw [layM_ne (by omega), hp]; decide), fun _ => ?_⟩
      · rw [el 0 (by omega), el 1 (by omega), el 2 (by omega), el 4 (by omega), el 5 (by omega), el 6 (by omega), el 7 (by omega), el 8 (by omega), el 9 (by omega), el 10 (by omega), el 11 (by omega)]
        rw [layM_ne (by omega), layM_ne (by omega), layM_ne (by omega), layM_ne (by omega), layM_ne (by omega), layM_ne (by omega), layM_ne (by omega), layM_ne (by omega), layM_ne (by omega), layM_ne (by omega)]
        exact h4
      · constructor
        · unfold layM
          rw [uM_ne _ _ (by omega), uM_self]
          simp [laySg, wI, up2]
        · unfold layM
          rw [uM_self]
          simp [laySg, wI, up2]
    · refine (h3 u hu hut).sm hu (fun j h5 h6 h7 => ?_) (e _ (by omega))
      unfold layM
      rw [uM_ne _ _ (by omega), uM_ne _ _ (by omega)]
theorem Off_lay {b L t lo hi : Nat} {M : Nat → Int32} {σ τ : Mm} (h : Off lo hi σ τ) (h1 : lo ≤ b + 7 + t) (h2 : b + 7 + t < hi) : Off lo hi σ (laySg b M L t τ) := (h.wI h1 h2).wI h1 h2
set_option maxRecDepth 20000 in
set_option maxHeartbeats 4000000 in
theorem c7_find_2 {w : Wp} (hf : Fit sh0 w) {σ : Mm} {M : Nat → Int32} {L : Nat} (hW : WRel 2 M L σ) {t : Nat} (ht : t < 16) (hT : isT M t) : Cf sh0 w 0 mX7_find [.ref 2, .int (nI t)] σ (some (.ref (9 + t))) σ := by
  refine Ct_of hf (by decide) rfl (Nat.le_of_ble_eq_true rfl) (fun x o rt => ?_)
  refine V_iload_n o dX7_find_0 rfl rfl ?_
  refine V_if_lt (tgt := 10) o dX7_find_1 (by decide) (fun c_1 => False.elim (absurd c_1 (Int32.not_lt.mpr (nI_le (a := 0) (Nat.zero_le _) (by omega))))) (fun c_1 => ?_)
  refine V_iload_n o dX7_find_4 rfl rfl ?_
  refine V_bipush (v := 16) o dX7_find_5 (by decide) ?_
  refine V_icmp_lt (tgt := 12) o dX7_find_7 (by decide) (fun c_7 => ?_) (fun c_7 => False.elim (c_7 (nI_lt (b := 16) (by omega) (by omega))))
  refine V_aload_n o dX7_find_12 rfl rfl ?_
  refine V_getR (t := 6) o dX7_find_13 rfl fl_X7_20 rfl ?_
  refine V_iload_n o dX7_find_16 rfl rfl ?_
  refine V_aaldSN 16 o dX7_find_17 (Or.inr rfl) rfl rfl (by omega) rfl rfl ?_
  refine V_astore_n (ls' := [(2, _), (0, _), (1, _)]) o dX7_find_18 rfl (by decide) rfl ?_
  refine V_aload_n o dX7_find_19 rfl rfl ?_
  refine V_ifnull_r o dX7_find_20 ?_
  refine V_aload_n o dX7_find_23 rfl rfl ?_
  refine V_getI o dX7_find_24 (kT9 t ht) fl_X7_58 (rT9 ht) ?_
  refine V_topI (v' := M (215 + t)) (hW.2.2 t ht).live ?_
  refine V_if_ne (tgt := 34) o dX7_find_27 (by decide) (fun c_27 => ?_) (fun c_27 => False.elim (absurd (hT.symm.trans c_27) (by decide)))
  refine V_aload_n o dX7_find_34 rfl rfl ?_
  refine V_aretR o rt dX7_find_35 rfl ?_
  exact ⟨rfl, rfl⟩
set_option maxRecDepth 20000 in
set_option maxHeartbeats 4000000 in
theorem c7_find_n_2 {w : Wp} (hf : Fit sh0 w) {σ : Mm} {M : Nat → Int32} {L : Nat} (hW : WRel 2 M L σ) {t : Nat} (ht : t < 16) (hT : M (215 + t) = 0) : Cf sh0 w 0 mX7_find [.ref 2, .int (nI t)] σ (some .null) σ := by
  refine Ct_of hf (by decide) rfl (Nat.le_of_ble_eq_true rfl) (fun x o rt => ?_)
  refine V_iload_n o dX7_find_0 rfl rfl ?_
  refine V_if_lt (tgt := 10) o dX7_find_1 (by decide) (fun c_1 => False.elim (absurd c_1 (Int32.not_lt.mpr (nI_le (a := 0) (Nat.zero_le _) (by omega))))) (fun c_1 => ?_)
  refine V_iload_n o dX7_find_4 rfl rfl ?_
  refine V_bipush (v := 16) o dX7_find_5 (by decide) ?_
  refine V_icmp_lt (tgt := 12) o dX7_find_7 (by decide) (fun c_7 => ?_) (fun c_7 => False.elim (c_7 (nI_lt (b := 16) (by omega) (by omega))))
  refine V_aload_n o dX7_find_12 rfl rfl ?_
  refine V_getR (t := 6) o dX7_find_13 rfl fl_X7_20 rfl ?_
  refine V_iload_n o dX7_find_16 rfl rfl ?_
  refine V_aaldSN 16 o dX7_find_17 (Or.inr rfl) rfl rfl (by omega) rfl rfl ?_
  refine V_astore_n (ls' := [(2, _), (0, _), (1, _)]) o dX7_find_18 rfl (by decide) rfl ?_
  refine V_aload_n o dX7_find_19 rfl rfl ?_
  refine V_ifnull_r o dX7_find_20 ?_
  refine V_aload_n o dX7_find_23 rfl rfl ?_
  refine V_getI o dX7_find_24 (kT9 t ht) fl_X7_58 (rT9 ht) ?_
  refine V_topI (v' := M (215 + t)) (hW.2.2 t ht).live ?_
  refine V_if_ne (tgt := 34) o dX7_find_27 (by decide) (fun c_27 => False.elim (c_27 hT)) (fun c_27 => ?_)
  refine V_null o dX7_find_30 ?_
  refine V_goto (tgt := 35) o dX7_find_31 (by decide) ?_
  refine V_aretN o rt dX7_find_35 rfl ?_
  exact ⟨rfl, rfl⟩
set_option maxRecDepth 20000 in
set_option maxHeartbeats 4000000 in
theorem c7_find_out_2 {w : Wp} (hf : Fit sh0 w) {σ : Mm} {k : Int32} (hk : ¬ inR k 0 15) : Cf sh0 w 0 mX7_find [.ref 2, .int k] σ (some .null) σ := by
  refine Ct_of hf (by decide) rfl (Nat.le_of_ble_eq_true rfl) (fun x o rt => ?_)
  refine V_iload_n o dX7_find_0 rfl rfl ?_
  refine V_if_lt (tgt := 10) o dX7_find_1 (by decide) (fun c_1 => ?_) (fun c_1 => ?_)
  · refine V_null o dX7_find_10 ?_
    refine V_aretN o rt dX7_find_11 rfl ?_
    exact ⟨rfl, rfl⟩
  · refine V_iload_n o dX7_find_4 rfl rfl ?_
    refine V_bipush (v := 16) o dX7_find_5 (by decide) ?_
    refine V_icmp_lt (tgt := 12) o dX7_find_7 (by decide) (fun c_7 => False.elim (hk ⟨Int32.not_lt.mp c_1, lt_le15 c_7⟩)) (fun c_7 => ?_)
    refine V_null o dX7_find_10 ?_
    refine V_aretN o rt dX7_find_11 rfl ?_
    exact ⟨rfl, rfl⟩
set_option maxRecDepth 20000 in
set_option maxHeartbeats 4000000 in
theorem c7_run_2 {w : Wp} (hf : Fit sh0 w) {σ : Mm} {M : Nat → Int32} {L : Nat} (hW : WRel 2 M L σ) {t : Nat} (ht : t < 16) (hT : isG M t) : Cf sh0 w 1 mX7_findRunning [.ref 2, .int (nI t)] σ (some (.ref (9 + t))) σ := by
  refine Ct_of hf (by decide) rfl (Nat.le_of_ble_eq_true rfl) (fun x o rt => ?_)
  refine V_aload_n o dX7_findRunning_0 rfl rfl ?_
  refine V_iload_n o dX7_findRunning_1 rfl rfl ?_
  refine V_cVr o rt dX7_findRunning_2 ml_X7_62 (c7_find_2 hf hW ht hT.1) rfl rfl rfl (Nat.le_of_ble_eq_true rfl) rfl ?_
  refine V_astore_n (ls' := [(2, _), (0, _), (1, _)]) o dX7_findRunning_5 rfl (by decide) rfl ?_
  refine V_aload_n o dX7_findRunning_6 rfl rfl ?_
  refine V_ifnull_r o dX7_findRunning_7 ?_
  refine V_aload_n o dX7_findRunning_10 rfl rfl ?_
  refine V_getI o dX7_findRunning_11 (kT9 t ht) fl_X7_66 (rT9 ht) ?_
  refine V_topI (v' := M (343 + t)) (hW.2.2 t ht).pau ?_
  refine V_if_eq (tgt := 21) o dX7_findRunning_14 (by decide) (fun c_14 => ?_) (fun c_14 => False.elim (c_14 hT.2))
  refine V_aload_n o dX7_findRunning_21 rfl rfl ?_
  refine V_aretR o rt dX7_findRunning_22 rfl ?_
  exact ⟨rfl, rfl⟩
theorem c7_run_n_2 {w : Wp} (hf : Fit sh0 w) {σ : Mm} {M : Nat → Int32} {L : Nat} (hW : WRel 2 M L σ) (hB : Bo M) {t : Nat} (ht : t < 16) (hT : ¬ isG M t) : Cf sh0 w 1 mX7_findRunning [.ref 2, .int (nI t)] σ (some .null) σ := by
  rcases (hB t ht).1 with h0 | h1
  · refine Ct_of hf (by decide) rfl (Nat.le_of_ble_eq_true rfl) (fun x o rt => ?_)
    refine V_aload_n o dX7_findRunning_0 rfl rfl ?_
    refine V_iload_n o dX7_findRunning_1 rfl rfl ?_
    refine V_cVn o rt dX7_findRunning_2 ml_X7_62 (c7_find_n_2 hf hW ht h0) rfl rfl rfl (Nat.le_of_ble_eq_true rfl) rfl ?_
    refine V_astore_nN (ls' := [(2, _), (0, _), (1, _)]) o dX7_findRunning_5 rfl (by decide) rfl ?_
    refine V_aload_nN o dX7_findRunning_6 rfl rfl ?_
    refine V_ifnull_n (tgt := 17) o dX7_findRunning_7 (by decide) ?_
    refine V_null o dX7_findRunning_17 ?_
    refine V_goto (tgt := 22) o dX7_findRunning_18 (by decide) ?_
    refine V_aretN o rt dX7_findRunning_22 rfl ?_
    exact ⟨rfl, rfl⟩
  · have h2 : ¬ M (343 + t) = 0 := fun q => hT ⟨h1, q⟩
    refine Ct_of hf (by decide) rfl (Nat.le_of_ble_eq_true rfl) (fun x o rt => ?_)
    refine V_aload_n o dX7_findRunning_0 rfl rfl ?_
    refine V_iload_n o dX7_findRunning_1 rfl rfl ?_
    refine V_cVr o rt dX7_findRunning_2 ml_X7_62 (c7_find_2 hf hW ht h1) rfl rfl rfl (Nat.le_of_ble_eq_true rfl) rfl ?_
    refine V_astore_n (ls' := [(2, _), (0, _), (1, _)]) o dX7_findRunning_5 rfl (by decide) rfl ?_
    refine V_aload_n o dX7_findRunning_6 rfl rfl ?_
    refine V_ifnull_r o dX7_findRunning_7 ?_
    refine V_aload_n o dX7_findRunning_10 rfl rfl ?_
    refine V_getI o dX7_findRunning_11 (kT9 t ht) fl_X7_66 (rT9 ht) ?_
    refine V_topI (v' := M (343 + t)) (hW.2.2 t ht).pau ?_
    refine V_if_eq (tgt := 21) o dX7_findRunning_14 (by decide) (fun c_14 => False.elim (h2 c_14)) (fun c_14 => ?_)
    refine V_null o dX7_findRunning_17 ?_
    refine V_goto (tgt := 22) o dX7_findRunning_18 (by decide) ?_
    refine V_aretN o rt dX7_findRunning_22 rfl ?_
    exact ⟨rfl, rfl⟩
set_option maxRecDepth 20000 in
set_option maxHeartbeats 4000000 in
theorem c6_isAhead_9 {w : Wp} (hf : Fit sh0 w) {σ : Mm} {M : Nat → Int32} {L : Nat} (hW : WRel 2 M L σ) {a c : Nat} (ha : a < 16) (hc : c < 16) {bd : Bool} {v : Int32} : Cf sh0 w 0 mX6_isAhead [.ref (9 + a), .ref (9 + c), .int (bz (bd = true)), .int v] σ (some (.int (bz (aheadC M bd v a c = true)))) σ := by
  refine Ct_of hf (by decide) rfl (Nat.le_of_ble_eq_true rfl) (fun x o rt => ?_)
  refine V_iload_n o dX6_isAhead_0 rfl rfl ?_
  refine V_if_eq (tgt := 32) o dX6_isAhead_1 (by decide) (fun c_1 => ?_) (fun c_1 => ?_)
  · refine V_iload_n o dX6_isAhead_32 rfl rfl ?_
    refine V_iconst (v := 1) o dX6_isAhead_33 (by decide) ?_
    refine V_icmp_ne (tgt := 65) o dX6_isAhead_34 (by decide) (fun c_34 => ?_) (fun c_34 => ?_)
    · refine V_iload_n o dX6_isAhead_65 rfl rfl ?_
      refine V_iconst (v := 2) o dX6_isAhead_66 (by decide) ?_
      refine V_icmp_ne (tgt := 89) o dX6_isAhead_67 (by decide) (fun c_67 => ?_) (fun c_67 => ?_)
      · refine V_aload_n o dX6_isAhead_89 rfl rfl ?_
        refine V_getI o dX6_isAhead_90 (kT9 a ha) fl_X6_20 (rT9 ha) ?_
        refine V_topI (v' := M (247 + a)) (hW.2.2 a ha).arr ?_
        refine V_aload_n o dX6_isAhead_93 rfl rfl ?_
        refine V_getI o dX6_isAhead_94 (kT9 c hc) fl_X6_20 (rT9 hc) ?_
        refine V_topI (v' := M (247 + c)) (hW.2.2 c hc).arr ?_
        refine V_icmp_ge (tgt := 104) o dX6_isAhead_97 (by decide) (fun c_97 => ?_) (fun c_97 => ?_)
        · refine V_iconst (v := 0) o dX6_isAhead_104 (by decide) ?_
          refine V_iret o rt dX6_isAhead_105 rfl rfl ?_
          exact ⟨by rw [bz_f (show ¬ (aheadC M bd v a c = true) by rw [aheadC, if_neg (fun q => bz_0.mp c_1 q.1), if_neg (fun q => c_34 q.1), if_neg c_67, decide_eq_false (Int32.not_lt.mpr c_97)]; decide)], rfl⟩
        · refine V_iconst (v := 1) o dX6_isAhead_100 (by decide) ?_
          refine V_goto (tgt := 105) o dX6_isAhead_101 (by decide) ?_
          refine V_iret o rt dX6_isAhead_105 rfl rfl ?_
          exact ⟨by rw [bz_t (show (aheadC M bd v a c = true) by rw [aheadC, if_neg (fun q => bz_0.mp c_1 q.1), if_neg (fun q => c_34 q.1), if_neg c_67, decide_eq_true (Int32.not_le.mp c_97)])], rfl⟩
      · refine V_aload_n o dX6_isAhead_70 rfl rfl ?_
        refine V_getI o dX6_isAhead_71 (kT9 a ha) fl_X6_20 (rT9 ha) ?_
        refine V_topI (v' := M (247 + a)) (hW.2.2 a ha).arr ?_
        refine V_aload_n o dX6_isAhead_74 rfl rfl ?_
        refine V_getI o dX6_isAhead_75 (kT9 c hc) fl_X6_20 (rT9 hc) ?_
        refine V_topI (v' := M (247 + c)) (hW.2.2 c hc).arr ?_
        refine V_icmp_le (tgt := 85) o dX6_isAhead_78 (by decide) (fun c_78 => ?_) (fun c_78 => ?_)
        · refine V_iconst (v := 0) o dX6_isAhead_85 (by decide) ?_
          refine V_goto (tgt := 105) o dX6_isAhead_86 (by decide) ?_
          refine V_iret o rt dX6_isAhead_105 rfl rfl ?_
          exact ⟨by rw [bz_f (show ¬ (aheadC M bd v a c = true) by rw [aheadC, if_neg (fun q => bz_0.mp c_1 q.1), if_neg (fun q => c_34 q.1), if_pos c_67, decide_eq_false (Int32.not_lt.mpr c_78)]; decide)], rfl⟩
        · refine V_iconst (v := 1) o dX6_isAhead_81 (by decide) ?_
          refine V_goto (tgt := 105) o dX6_isAhead_82 (by decide) ?_
          refine V_iret o rt dX6_isAhead_105 rfl rfl ?_
          exact ⟨by rw [bz_t (show (aheadC M bd v a c = true) by rw [aheadC, if_neg (fun q => bz_0.mp c_1 q.1), if_neg (fun q => c_34 q.1), if_pos c_67, decide_eq_true (Int32.not_le.mp c_78)])], rfl⟩
    · refine V_aload_n o dX6_isAhead_37 rfl rfl ?_
      refine V_getI o dX6_isAhead_38 (kT9 a ha) fl_X6_38 (rT9 ha) ?_
      refine V_topI (v' := M (263 + a)) (hW.2.2 a ha).grp ?_
      refine V_aload_n o dX6_isAhead_41 rfl rfl ?_
      refine V_getI o dX6_isAhead_42 (kT9 c hc) fl_X6_38 (rT9 hc) ?_
      refine V_topI (v' := M (263 + c)) (hW.2.2 c hc).grp ?_
      refine V_icmp_eq (tgt := 65) o dX6_isAhead_45 (by decide) (fun c_45 => ?_) (fun c_45 => ?_)
      · refine V_iload_n o dX6_isAhead_65 rfl rfl ?_
        refine V_iconst (v := 2) o dX6_isAhead_66 (by decide) ?_
        refine V_icmp_ne (tgt := 89) o dX6_isAhead_67 (by decide) (fun c_67 => ?_) (fun c_67 => ?_)
        · refine V_aload_n o dX6_isAhead_89 rfl rfl ?_
          refine V_getI o dX6_isAhead_90 (kT9 a ha) fl_X6_20 (rT9 ha) ?_
          refine V_topI (v' := M (247 + a)) (hW.2.2 a ha).arr ?_
          refine V_aload_n o dX6_isAhead_93 rfl rfl ?_
          refine V_getI o dX6_isAhead_94 (kT9 c hc) fl_X6_20 (rT9 hc) ?_
          refine V_topI (v' := M (247 + c)) (hW.2.2 c hc).arr ?_
          refine V_icmp_ge (tgt := 104) o dX6_isAhead_97 (by decide) (fun c_97 => ?_) (fun c_97 => ?_)
          · refine V_iconst (v := 0) o dX6_isAhead_104 (by decide) ?_
            refine V_iret o rt dX6_isAhead_105 rfl rfl ?_
            exact ⟨by rw [bz_f (show ¬ (aheadC M bd v a c = true) by rw [aheadC, if_neg (fun q => bz_0.mp c_1 q.1), if_neg (fun q => q.2 c_45), if_neg c_67, decide_eq_false (Int32.not_lt.mpr c_97)]; decide)], rfl⟩
          · refine V_iconst (v := 1) o dX6_isAhead_100 (by decide) ?_
            refine V_goto (tgt := 105) o dX6_isAhead_101 (by decide) ?_
            refine V_iret o rt dX6_isAhead_105 rfl rfl ?_
            exact ⟨by rw [bz_t (show (aheadC M bd v a c = true) by rw [aheadC, if_neg (fun q => bz_0.mp c_1 q.1), if_neg (fun q => q.2 c_45), if_neg c_67, decide_eq_true (Int32.not_le.mp c_97)])], rfl⟩
        · refine V_aload_n o dX6_isAhead_70 rfl rfl ?_
          refine V_getI o dX6_isAhead_71 (kT9 a ha) fl_X6_20 (rT9 ha) ?_
          refine V_topI (v' := M (247 + a)) (hW.2.2 a ha).arr ?_
          refine V_aload_n o dX6_isAhead_74 rfl rfl ?_
          refine V_getI o dX6_isAhead_75 (kT9 c hc) fl_X6_20 (rT9 hc) ?_
          refine V_topI (v' := M (247 + c)) (hW.2.2 c hc).arr ?_
          refine V_icmp_le (tgt := 85) o dX6_isAhead_78 (by decide) (fun c_78 => ?_) (fun c_78 => ?_)
          · refine V_iconst (v := 0) o dX6_isAhead_85 (by decide) ?_
            refine V_goto (tgt := 105) o dX6_isAhead_86 (by decide) ?_
            refine V_iret o rt dX6_isAhead_105 rfl rfl ?_
            exact ⟨by rw [bz_f (show ¬ (aheadC M bd v a c = true) by rw [aheadC, if_neg (fun q => bz_0.mp c_1 q.1), if_neg (fun q => q.2 c_45), if_pos c_67, decide_eq_false (Int32.not_lt.mpr c_78)]; decide)], rfl⟩
          · refine V_iconst (v := 1) o dX6_isAhead_81 (by decide) ?_
            refine V_goto (tgt := 105) o dX6_isAhead_82 (by decide) ?_
            refine V_iret o rt dX6_isAhead_105 rfl rfl ?_
            exact ⟨by rw [bz_t (show (aheadC M bd v a c = true) by rw [aheadC, if_neg (fun q => bz_0.mp c_1 q.1), if_neg (fun q => q.2 c_45), if_pos c_67, decide_eq_true (Int32.not_le.mp c_78)])], rfl⟩
      · refine V_aload_n o dX6_isAhead_48 rfl rfl ?_
        refine V_getI o dX6_isAhead_49 (kT9 a ha) fl_X6_38 (rT9 ha) ?_
        refine V_topI (v' := M (263 + a)) (hW.2.2 a ha).grp ?_
        refine V_aload_n o dX6_isAhead_52 rfl rfl ?_
        refine V_getI o dX6_isAhead_53 (kT9 c hc) fl_X6_38 (rT9 hc) ?_
        refine V_topI (v' := M (263 + c)) (hW.2.2 c hc).grp ?_
        refine V_icmp_ge (tgt := 63) o dX6_isAhead_56 (by decide) (fun c_56 => ?_) (fun c_56 => ?_)
        · refine V_iconst (v := 0) o dX6_isAhead_63 (by decide) ?_
          refine V_iret o rt dX6_isAhead_64 rfl rfl ?_
          exact ⟨by rw [bz_f (show ¬ (aheadC M bd v a c = true) by rw [aheadC, if_neg (fun q => bz_0.mp c_1 q.1), if_pos ⟨c_34, c_45⟩, decide_eq_false (Int32.not_lt.mpr c_56)]; decide)], rfl⟩
        · refine V_iconst (v := 1) o dX6_isAhead_59 (by decide) ?_
          refine V_goto (tgt := 64) o dX6_isAhead_60 (by decide) ?_
          refine V_iret o rt dX6_isAhead_64 rfl rfl ?_
          exact ⟨by rw [bz_t (show (aheadC M bd v a c = true) by rw [aheadC, if_neg (fun q => bz_0.mp c_1 q.1), if_pos ⟨c_34, c_45⟩, decide_eq_true (Int32.not_le.mp c_56)])], rfl⟩
  · refine V_aload_n o dX6_isAhead_4 rfl rfl ?_
    refine V_getI o dX6_isAhead_5 (kT9 a ha) fl_X6_17 (rT9 ha) ?_
    refine V_topI (v' := M (231 + a)) (hW.2.2 a ha).due ?_
    refine V_aload_n o dX6_isAhead_8 rfl rfl ?_
    refine V_getI o dX6_isAhead_9 (kT9 c hc) fl_X6_17 (rT9 hc) ?_
    refine V_topI (v' := M (231 + c)) (hW.2.2 c hc).due ?_
    refine V_icmp_eq (tgt := 32) o dX6_isAhead_12 (by decide) (fun c_12 => ?_) (fun c_12 => ?_)
    · refine V_iload_n o dX6_isAhead_32 rfl rfl ?_
      refine V_iconst (v := 1) o dX6_isAhead_33 (by decide) ?_
      refine V_icmp_ne (tgt := 65) o dX6_isAhead_34 (by decide) (fun c_34 => ?_) (fun c_34 => ?_)
      · refine V_iload_n o dX6_isAhead_65 rfl rfl ?_
        refine V_iconst (v := 2) o dX6_isAhead_66 (by decide) ?_
        refine V_icmp_ne (tgt := 89) o dX6_isAhead_67 (by decide) (fun c_67 => ?_) (fun c_67 => ?_)
        · refine V_aload_n o dX6_isAhead_89 rfl rfl ?_
          refine V_getI o dX6_isAhead_90 (kT9 a ha) fl_X6_20 (rT9 ha) ?_
          refine V_topI (v' := M (247 + a)) (hW.2.2 a ha).arr ?_
          refine V_aload_n o dX6_isAhead_93 rfl rfl ?_
          refine V_getI o dX6_isAhead_94 (kT9 c hc) fl_X6_20 (rT9 hc) ?_
          refine V_topI (v' := M (247 + c)) (hW.2.2 c hc).arr ?_
          refine V_icmp_ge (tgt := 104) o dX6_isAhead_97 (by decide) (fun c_97 => ?_) (fun c_97 => ?_)
          · refine V_iconst (v := 0) o dX6_isAhead_104 (by decide) ?_
            refine V_iret o rt dX6_isAhead_105 rfl rfl ?_
            exact ⟨by rw [bz_f (show ¬ (aheadC M bd v a c = true) by rw [aheadC, if_neg (fun q => q.2 c_12), if_neg (fun q => c_34 q.1), if_neg c_67, decide_eq_false (Int32.not_lt.mpr c_97)]; decide)], rfl⟩
          · refine V_iconst (v := 1) o dX6_isAhead_100 (by decide) ?_
            refine V_goto (tgt := 105) o dX6_isAhead_101 (by decide) ?_
            refine V_iret o rt dX6_isAhead_105 rfl rfl ?_
            exact ⟨by rw [bz_t (show (aheadC M bd v a c = true) by rw [aheadC, if_neg (fun q => q.2 c_12), if_neg (fun q => c_34 q.1), if_neg c_67, decide_eq_true (Int32.not_le.mp c_97)])], rfl⟩
        · refine V_aload_n o dX6_isAhead_70 rfl rfl ?_
          refine V_getI o dX6_isAhead_71 (kT9 a ha) fl_X6_20 (rT9 ha) ?_
          refine V_topI (v' := M (247 + a)) (hW.2.2 a ha).arr ?_
          refine V_aload_n o dX6_isAhead_74 rfl rfl ?_
          refine V_getI o dX6_isAhead_75 (kT9 c hc) fl_X6_20 (rT9 hc) ?_
          refine V_topI (v' := M (247 + c)) (hW.2.2 c hc).arr ?_
          refine V_icmp_le (tgt := 85) o dX6_isAhead_78 (by decide) (fun c_78 => ?_) (fun c_78 => ?_)
          · refine V_iconst (v := 0) o dX6_isAhead_85 (by decide) ?_
            refine V_goto (tgt := 105) o dX6_isAhead_86 (by decide) ?_
            refine V_iret o rt dX6_isAhead_105 rfl rfl ?_
            exact ⟨by rw [bz_f (show ¬ (aheadC M bd v a c = true) by rw [aheadC, if_neg (fun q => q.2 c_12), if_neg (fun q => c_34 q.1), if_pos c_67, decide_eq_false (Int32.not_lt.mpr c_78)]; decide)], rfl⟩
          · refine V_iconst (v := 1) o dX6_isAhead_81 (by decide) ?_
            refine V_goto (tgt := 105) o dX6_isAhead_82 (by decide) ?_
            refine V_iret o rt dX6_isAhead_105 rfl rfl ?_
            exact ⟨by rw [bz_t (show (aheadC M bd v a c = true) by rw [aheadC, if_neg (fun q => q.2 c_12), if_neg (fun q => c_34 q.1), if_pos c_67, decide_eq_true (Int32.not_le.mp c_78)])], rfl⟩
      · refine V_aload_n o dX6_isAhead_37 rfl rfl ?_
        refine V_getI o dX6_isAhead_38 (kT9 a ha) fl_X6_38 (rT9 ha) ?_
        refine V_topI (v' := M (263 + a)) (hW.2.2 a ha).grp ?_
        refine V_aload_n o dX6_isAhead_41 rfl rfl ?_
        refine V_getI o dX6_isAhead_42 (kT9 c hc) fl_X6_38 (rT9 hc) ?_
        refine V_topI (v' := M (263 + c)) (hW.2.2 c hc).grp ?_
        refine V_icmp_eq (tgt := 65) o dX6_isAhead_45 (by decide) (fun c_45 => ?_) (fun c_45 => ?_)
        · refine V_iload_n o dX6_isAhead_65 rfl rfl ?_
          refine V_iconst (v := 2) o dX6_isAhead_66 (by decide) ?_
          refine V_icmp_ne (tgt := 89) o dX6_isAhead_67 (by decide) (fun c_67 => ?_) (fun c_67 => ?_)
          · refine V_aload_n o dX6_isAhead_89 rfl rfl ?_
            refine V_getI o dX6_isAhead_90 (kT9 a ha) fl_X6_20 (rT9 ha) ?_
            refine V_topI (v' := M (247 + a)) (hW.2.2 a ha).arr ?_
            refine V_aload_n o dX6_isAhead_93 rfl rfl ?_
            refine V_getI o dX6_isAhead_94 (kT9 c hc) fl_X6_20 (rT9 hc) ?_
            refine V_topI (v' := M (247 + c)) (hW.2.2 c hc).arr ?_
            refine V_icmp_ge (tgt := 104) o dX6_isAhead_97 (by decide) (fun c_97 => ?_) (fun c_97 => ?_)
            · refine V_iconst (v := 0) o dX6_isAhead_104 (by decide) ?_
              refine V_iret o rt dX6_isAhead_105 rfl rfl ?_
              exact ⟨by rw [bz_f (show ¬ (aheadC M bd v a c = true) by rw [aheadC, if_neg (fun q => q.2 c_12), if_neg (fun q => q.2 c_45), if_neg c_67, decide_eq_false (Int32.not_lt.mpr c_97)]; decide)], rfl⟩
            · refine V_iconst (v := 1) o dX6_isAhead_100 (by decide) ?_
              refine V_goto (tgt := 105) o dX6_isAhead_101 (by decide) ?_
              refine V_iret o rt dX6_isAhead_105 rfl rfl ?_
              exact ⟨by rw [bz_t (show (aheadC M bd v a c = true) by rw [aheadC, if_neg (fun q => q.2 c_12), if_neg (fun q => q.2 c_45), if_neg c_67, decide_eq_true (Int32.not_le.mp c_97)])], rfl⟩
          · refine V_aload_n o dX6_isAhead_70 rfl rfl ?_
            refine V_getI o dX6_isAhead_71 (kT9 a ha) fl_X6_20 (rT9 ha) ?_
            refine V_topI (v' := M (247 + a)) (hW.2.2 a ha).arr ?_
            refine V_aload_n o dX6_isAhead_74 rfl rfl ?_
            refine V_getI o dX6_isAhead_75 (kT9 c hc) fl_X6_20 (rT9 hc) ?_
            refine V_topI (v' := M (247 + c)) (hW.2.2 c hc).arr ?_
            refine V_icmp_le (tgt := 85) o dX6_isAhead_78 (by decide) (fun c_78 => ?_) (fun c_78 => ?_)
            · refine V_iconst (v := 0) o dX6_isAhead_85 (by decide) ?_
              refine V_goto (tgt := 105) o dX6_isAhead_86 (by decide) ?_
              refine V_iret o rt dX6_isAhead_105 rfl rfl ?_
              exact ⟨by rw [bz_f (show ¬ (aheadC M bd v a c = true) by rw [aheadC, if_neg (fun q => q.2 c_12), if_neg (fun q => q.2 c_45), if_pos c_67, decide_eq_false (Int32.not_lt.mpr c_78)]; decide)], rfl⟩
            · refine V_iconst (v := 1) o dX6_isAhead_81 (by decide) ?_
              refine V_goto (tgt := 105) o dX6_isAhead_82 (by decide) ?_
              refine V_iret o rt dX6_isAhead_105 rfl rfl ?_
              exact ⟨by rw [bz_t (show (aheadC M bd v a c = true) by rw [aheadC, if_neg (fun q => q.2 c_12), if_neg (fun q => q.2 c_45), if_pos c_67, decide_eq_true (Int32.not_le.mp c_78)])], rfl⟩
        · refine V_aload_n o dX6_isAhead_48 rfl rfl ?_
          refine V_getI o dX6_isAhead_49 (kT9 a ha) fl_X6_38 (rT9 ha) ?_
          refine V_topI (v' := M (263 + a)) (hW.2.2 a ha).grp ?_
          refine V_aload_n o dX6_isAhead_52 rfl rfl ?_
          refine V_getI o dX6_isAhead_53 (kT9 c hc) fl_X6_38 (rT9 hc) ?_
          refine V_topI (v' := M (263 + c)) (hW.2.2 c hc).grp ?_
          refine V_icmp_ge (tgt := 63) o dX6_isAhead_56 (by decide) (fun c_56 => ?_) (fun c_56 => ?_)
          · refine V_iconst (v := 0) o dX6_isAhead_63 (by decide) ?_
            refine V_iret o rt dX6_isAhead_64 rfl rfl ?_
            exact ⟨by rw [bz_f (show ¬ (aheadC M bd v a c = true) by rw [aheadC, if_neg (fun q => q.2 c_12), if_pos ⟨c_34, c_45⟩, decide_eq_false (Int32.not_lt.mpr c_56)]; decide)], rfl⟩
          · refine V_iconst (v := 1) o dX6_isAhead_59 (by decide) ?_
            refine V_goto (tgt := 64) o dX6_isAhead_60 (by decide) ?_
            refine V_iret o rt dX6_isAhead_64 rfl rfl ?_
            exact ⟨by rw [bz_t (show (aheadC M bd v a c = true) by rw [aheadC, if_neg (fun q => q.2 c_12), if_pos ⟨c_34, c_45⟩, decide_eq_true (Int32.not_le.mp c_56)])], rfl⟩
    · refine V_aload_n o dX6_isAhead_15 rfl rfl ?_
      refine V_getI o dX6_isAhead_16 (kT9 a ha) fl_X6_17 (rT9 ha) ?_
      refine V_topI (v' := M (231 + a)) (hW.2.2 a ha).due ?_
      refine V_aload_n o dX6_isAhead_19 rfl rfl ?_
      refine V_getI o dX6_isAhead_20 (kT9 c hc) fl_X6_17 (rT9 hc) ?_
      refine V_topI (v' := M (231 + c)) (hW.2.2 c hc).due ?_
      refine V_icmp_ge (tgt := 30) o dX6_isAhead_23 (by decide) (fun c_23 => ?_) (fun c_23 => ?_)
      · refine V_iconst (v := 0) o dX6_isAhead_30 (by decide) ?_
        refine V_iret o rt dX6_isAhead_31 rfl rfl ?_
        exact ⟨by rw [bz_f (show ¬ (aheadC M bd v a c = true) by rw [aheadC, if_pos ⟨bz_n0.mp c_1, c_12⟩, decide_eq_false (Int32.not_lt.mpr c_23)]; decide)], rfl⟩
      · refine V_iconst (v := 1) o dX6_isAhead_26 (by decide) ?_
        refine V_goto (tgt := 31) o dX6_isAhead_27 (by decide) ?_
        refine V_iret o rt dX6_isAhead_31 rfl rfl ?_
        exact ⟨by rw [bz_t (show (aheadC M bd v a c = true) by rw [aheadC, if_pos ⟨bz_n0.mp c_1, c_12⟩, decide_eq_true (Int32.not_le.mp c_23)])], rfl⟩
set_option maxRecDepth 20000 in
set_option maxHeartbeats 4000000 in
theorem c1_empty_2 {w : Wp} (hf : Fit sh0 w) {σ : Mm} : Cf sh0 w 0 mX1_empty [.ref 7] σ none (wI σ 7 1 0) := by
  refine Ct_of hf (by decide) rfl (Nat.le_of_ble_eq_true rfl) (fun x o rt => ?_)
  refine V_aload_n o dX1_empty_0 rfl rfl ?_
  refine V_iconst (v := 0) o dX1_empty_1 (by decide) ?_
  refine V_putI o dX1_empty_2 rfl fl_X1_17 rfl rfl rfl ?_
  refine V_ret o rt dX1_empty_5 rfl ?_
  exact ⟨rfl, rfl⟩
set_option maxRecDepth 20000 in
set_option maxHeartbeats 4000000 in
theorem c1_at_2 {w : Wp} (hf : Fit sh0 w) {σ : Mm} {g : Nat → Nat} {n : Nat} (hn : LnR 2 g n σ) {j : Nat} (hj : j < n) : Cf sh0 w 0 mX1_at [.ref 7, .int (nI j)] σ (some (.ref (9 + g j))) σ := by
  have hn16 := hn.2.1
  refine Ct_of hf (by decide) rfl (Nat.le_of_ble_eq_true rfl) (fun x o rt => ?_)
  refine V_iload_n o dX1_at_0 rfl rfl ?_
  refine V_if_lt (tgt := 18) o dX1_at_1 (by decide) (fun c_1 => False.elim (absurd c_1 (Int32.not_lt.mpr (nI_le (a := 0) (Nat.zero_le _) (by omega))))) (fun c_1 => ?_)
  refine V_iload_n o dX1_at_4 rfl rfl ?_
  refine V_aload_n o dX1_at_5 rfl rfl ?_
  refine V_getIE (v := nI (n)) o dX1_at_6 rfl fl_X1_17 rfl hn.1 ?_
  refine V_icmp_ge (tgt := 18) o dX1_at_9 (by decide) (fun c_9 => False.elim (absurd c_9 (nI_ge hj (by omega)))) (fun c_9 => ?_)
  refine V_iload_n o dX1_at_12 rfl rfl ?_
  refine V_bipush (v := 16) o dX1_at_13 (by decide) ?_
  refine V_icmp_lt (tgt := 22) o dX1_at_15 (by decide) (fun c_15 => ?_) (fun c_15 => False.elim (c_15 (nI_lt (b := 16) (by omega) (by omega))))
  refine V_aload_n o dX1_at_22 rfl rfl ?_
  refine V_getR (t := 8) o dX1_at_23 rfl fl_X1_11 rfl ?_
  refine V_iload_n o dX1_at_26 rfl rfl ?_
  refine V_aaldSN 16 o dX1_at_27 (Or.inl rfl) rfl rfl (by omega) rfl (hn.2.2 j hj).1 ?_
  refine V_aretR o rt dX1_at_28 rfl ?_
  exact ⟨rfl, rfl⟩
set_option maxRecDepth 20000 in
set_option maxHeartbeats 4000000 in
theorem c1_join_2 {w : Wp} (hf : Fit sh0 w) {σ : Mm} {M : Nat → Int32} {L : Nat} (hW : WRel 2 M L σ) {g : Nat → Nat} {n : Nat} (hn : LnR 2 g n σ) (hn16 : n < 16) {t : Nat} (ht : t < 16) {bd : Bool} {v : Int32} {G : Nat → Nat} (hG0 : qG (aheadC M bd v) t n g = G) {bv : Int32} (hbv : bv = bz (bd = true)) : Ct sh0 w 1 mX1_join [.ref 7, .ref (9 + t), .int bv, .int v] σ (fun r' σ' => r' = none ∧ Off 7 9 σ σ' ∧ LnR 2 G (n + 1) σ') := by
  subst hbv
  refine Ct_of hf (by decide) rfl (Nat.le_of_ble_eq_true rfl) (fun x o rt => ?_)
  have loop : ∀ k (τ : Mm) (g : Nat → Nat), k ≤ n → Off 7 9 σ τ → τ.1 7 1 = nI n → (∀ j, j < n + 1 → j ≠ k → τ.2.2 8 j = some (2 + 7 + g j) ∧ g j < 16) → qG (aheadC M bd v) t k g = G → V sh0 w x mX1_join (0, 0) 23 [(4, .int (nI k)), (0, .ref 7), (1, .ref (9 + t)), (2, .int (bz (bd = true))), (3, .int v)] [] τ := by
    intro k
    induction k with
    | zero =>
      intro τ g hk ho hl hg hG
      refine V_iload o dX1_join_23 rfl ?_
      refine V_if_le (tgt := 73) o dX1_join_25 (by decide) (fun c_25 => ?_) (fun c_25 => False.elim (c_25 (Int32.le_refl _)))
      refine V_aload_n o dX1_join_73 rfl rfl ?_
      refine V_getR (t := 8) o dX1_join_74 rfl fl_X1_11 rfl ?_
      refine V_iload o dX1_join_77 rfl ?_
      refine V_aload_n o dX1_join_79 rfl rfl ?_
      refine V_aastN 16 o dX1_join_80 rfl rfl rfl (by omega) rfl (kT9 t ht) ?_
      refine V_aload_n o dX1_join_81 rfl rfl ?_
      refine V_dup o dX1_join_82 rfl ?_
      refine V_getI o dX1_join_83 rfl fl_X1_17 rfl ?_
      refine V_iconst (v := 1) o dX1_join_86 (by decide) ?_
      refine V_iadd o dX1_join_87 ?_
      refine V_putI o dX1_join_88 rfl fl_X1_17 rfl rfl rfl ?_
      refine V_ret o rt dX1_join_91 rfl ?_
      refine ⟨rfl, (ho.wT (by omega) (by omega)).wI (by omega) (by omega), ?_, by omega, fun j hj => ?_⟩
      · show up2 τ.1 7 1 (τ.1 7 1 + 1) 7 1 = _
        rw [up2_self, hl]; exact nI_1 n
      · show up2 τ.2.2 8 (0) (some (9 + t)) 8 j = some (2 + 7 + G j) ∧ G j < 16
        rw [← hG]
        by_cases e : j = 0
        · rw [e, up2_self]
          rw [qG, uG, if_pos rfl]
          exact ⟨rfl, ht⟩
        · rw [up2_ne _ _ (Or.inr e)]
          have := hg j (by omega) e
          rw [qG, uG, if_neg e]
          exact this
    | succ k ih =>
      intro τ g hk ho hl hg hG
      have hW' : WRel 2 M L τ := ⟨by rw [(ho 2 (by omega)).1]; exact hW.1, ⟨by rw [(ho (2 + 1) (by omega)).1]; exact hW.2.1.1, by rw [(ho (2 + 1) (by omega)).1]; exact hW.2.1.2.1, fun q hq => by rw [(ho (2 + 1 + 1) (by omega)).1]; exact hW.2.1.2.2.1 q hq, fun q hq => by rw [(ho (2 + 1 + 2) (by omega)).1]; exact hW.2.1.2.2.2 q hq⟩, fun u hu => by rw [(ho (2 + 7 + u) (by omega)).1]; exact hW.2.2 u hu⟩
      have hgk := hg k (by omega) (by omega)
      rw [qG] at hG
      refine V_iload o dX1_join_23 rfl ?_
      refine V_if_le (tgt := 73) o dX1_join_25 (by decide) (fun c_25 => False.elim (absurd c_25 (nI_ge (a := 0) (by omega) (by omega)))) (fun c_25 => ?_)
      refine V_aload_n o dX1_join_28 rfl rfl ?_
      refine V_getR (t := 8) o dX1_join_29 rfl fl_X1_11 rfl ?_
      refine V_iload o dX1_join_32 rfl ?_
      refine V_iconst (v := 1) o dX1_join_34 (by decide) ?_
      refine V_isub o dX1_join_35 ?_
      refine V_topI (v' := nI (k)) (nI_pred k) ?_
      refine V_aaldSN 16 o dX1_join_36 (Or.inl rfl) rfl rfl (by omega) rfl hgk.1 ?_
      refine V_astore (ls' := [(5, _), (4, _), (0, _), (1, _), (2, _), (3, _)]) o dX1_join_37 (by decide) rfl ?_
      refine V_aload o dX1_join_39 rfl ?_
      refine V_ifnull_r o dX1_join_41 ?_
      refine V_aload_n o dX1_join_44 rfl rfl ?_
      refine V_aload o dX1_join_45 rfl ?_
      refine V_iload_n o dX1_join_47 rfl rfl ?_
      refine V_iload_n o dX1_join_48 rfl rfl ?_
      refine V_cVi o rt dX1_join_49 ml_X1_21 (c6_isAhead_9 hf hW' ht hgk.2) (kT9 t ht) rfl rfl (Nat.le_of_ble_eq_true rfl) rfl ?_
      refine V_if_ne (tgt := 58) o dX1_join_52 (by decide) (fun c_52 => ?_) (fun c_52 => ?_)
      · refine V_aload_n o dX1_join_58 rfl rfl ?_
        refine V_getR (t := 8) o dX1_join_59 rfl fl_X1_11 rfl ?_
        refine V_iload o dX1_join_62 rfl ?_
        refine V_aload o dX1_join_64 rfl ?_
        refine V_aastN 16 o dX1_join_66 rfl rfl rfl (by omega) rfl (kT9 (g k) hgk.2) ?_
        refine V_iincV (v := nI (k)) (ls' := [(4, _), (5, _), (0, _), (1, _), (2, _), (3, _)]) o dX1_join_67 rfl (ndec rfl) (by decide) rfl ?_
        refine V_goto (tgt := 23) o dX1_join_70 (by decide) ?_
        rw [if_pos (bz_n0.mp c_52)] at hG
        refine V_sub (by simp) (ih (wT τ 8 (k + 1) (some (2 + 7 + g k))) (uG g (k + 1) (g k)) (by omega) (ho.wT (by omega) (by omega)) hl (fun j hj hjk => ?_) hG)
        show up2 τ.2.2 8 (k + 1) (some (2 + 7 + g k)) 8 j = some (2 + 7 + uG g (k + 1) (g k) j) ∧ uG g (k + 1) (g k) j < 16
        by_cases e : j = k + 1
        · rw [e, up2_self, uG, if_pos rfl]
          exact ⟨rfl, hgk.2⟩
        · rw [up2_ne _ _ (Or.inr e), uG, if_neg e]
          exact hg j hj e
      · refine V_goto (tgt := 73) o dX1_join_55 (by decide) ?_
        refine V_aload_n o dX1_join_73 rfl rfl ?_
        refine V_getR (t := 8) o dX1_join_74 rfl fl_X1_11 rfl ?_
        refine V_iload o dX1_join_77 rfl ?_
        refine V_aload_n o dX1_join_79 rfl rfl ?_
        refine V_aastN 16 o dX1_join_80 rfl rfl rfl (by omega) rfl (kT9 t ht) ?_
        refine V_aload_n o dX1_join_81 rfl rfl ?_
        refine V_dup o dX1_join_82 rfl ?_
        refine V_getI o dX1_join_83 rfl fl_X1_17 rfl ?_
        refine V_iconst (v := 1) o dX1_join_86 (by decide) ?_
        refine V_iadd o dX1_join_87 ?_
        refine V_putI o dX1_join_88 rfl fl_X1_17 rfl rfl rfl ?_
        refine V_ret o rt dX1_join_91 rfl ?_
        rw [if_neg (bz_0.mp c_52)] at hG
        refine ⟨rfl, (ho.wT (by omega) (by omega)).wI (by omega) (by omega), ?_, by omega, fun j hj => ?_⟩
        · show up2 τ.1 7 1 (τ.1 7 1 + 1) 7 1 = _
          rw [up2_self, hl]; exact nI_1 n
        · show up2 τ.2.2 8 (k + 1) (some (9 + t)) 8 j = some (2 + 7 + G j) ∧ G j < 16
          rw [← hG]
          by_cases e : j = k + 1
          · rw [e, up2_self]
            rw [uG, if_pos rfl]
            exact ⟨rfl, ht⟩
          · rw [up2_ne _ _ (Or.inr e)]
            have := hg j (by omega) e
            rw [uG, if_neg e]
            exact this
  refine V_aload_n o dX1_join_0 rfl rfl ?_
  refine V_getIE (v := nI (n)) o dX1_join_1 rfl fl_X1_17 rfl hn.1 ?_
  refine V_if_lt (tgt := 16) o dX1_join_4 (by decide) (fun c_4 => False.elim (absurd c_4 (Int32.not_lt.mpr (nI_le (a := 0) (Nat.zero_le _) (by omega))))) (fun c_4 => ?_)
  refine V_aload_n o dX1_join_7 rfl rfl ?_
  refine V_getIE (v := nI (n)) o dX1_join_8 rfl fl_X1_17 rfl hn.1 ?_
  refine V_bipush (v := 16) o dX1_join_11 (by decide) ?_
  refine V_icmp_lt (tgt := 17) o dX1_join_13 (by decide) (fun c_13 => ?_) (fun c_13 => False.elim (c_13 (nI_lt (b := 16) hn16 (by omega))))
  refine V_aload_n o dX1_join_17 rfl rfl ?_
  refine V_getIE (v := nI (n)) o dX1_join_18 rfl fl_X1_17 rfl hn.1 ?_
  refine V_istore (ls' := [(4, _), (0, _), (1, _), (2, _), (3, _)]) o dX1_join_21 (by decide) rfl ?_
  exact loop n σ g (Nat.le_refl n) Off.rf hn.1 (fun j hj hjn => hn.2.2 j (by omega)) hG0
set_option maxRecDepth 20000 in
set_option maxHeartbeats 4000000 in
theorem c7_find_25 {w : Wp} (hf : Fit sh0 w) {σ : Mm} {M : Nat → Int32} {L : Nat} (hW : WRel 25 M L σ) {t : Nat} (ht : t < 16) (hT : isT M t) : Cf sh0 w 0 mX7_find [.ref 25, .int (nI t)] σ (some (.ref (32 + t))) σ := by
  refine Ct_of hf (by decide) rfl (Nat.le_of_ble_eq_true rfl) (fun x o rt => ?_)
  refine V_iload_n o dX7_find_0 rfl rfl ?_
  refine V_if_lt (tgt := 10) o dX7_find_1 (by decide) (fun c_1 => False.elim (absurd c_1 (Int32.not_lt.mpr (nI_le (a := 0) (Nat.zero_le _) (by omega))))) (fun c_1 => ?_)
  refine V_iload_n o dX7_find_4 rfl rfl ?_
  refine V_bipush (v := 16) o dX7_find_5 (by decide) ?_
  refine V_icmp_lt (tgt := 12) o dX7_find_7 (by decide) (fun c_7 => ?_) (fun c_7 => False.elim (c_7 (nI_lt (b := 16) (by omega) (by omega))))
  refine V_aload_n o dX7_find_12 rfl rfl ?_
  refine V_getR (t := 29) o dX7_find_13 rfl fl_X7_20 rfl ?_
  refine V_iload_n o dX7_find_16 rfl rfl ?_
  refine V_aaldSN 16 o dX7_find_17 (Or.inr rfl) rfl rfl (by omega) rfl rfl ?_
  refine V_astore_n (ls' := [(2, _), (0, _), (1, _)]) o dX7_find_18 rfl (by decide) rfl ?_
  refine V_aload_n o dX7_find_19 rfl rfl ?_
  refine V_ifnull_r o dX7_find_20 ?_
  refine V_aload_n o dX7_find_23 rfl rfl ?_
  refine V_getI o dX7_find_24 (kT32 t ht) fl_X7_58 (rT32 ht) ?_
  refine V_topI (v' := M (215 + t)) (hW.2.2 t ht).live ?_
  refine V_if_ne (tgt := 34) o dX7_find_27 (by decide) (fun c_27 => ?_) (fun c_27 => False.elim (absurd (hT.symm.trans c_27) (by decide)))
  refine V_aload_n o dX7_find_34 rfl rfl ?_
  refine V_aretR o rt dX7_find_35 rfl ?_
  exact ⟨rfl, rfl⟩
set_option maxRecDepth 20000 in
set_option maxHeartbeats 4000000 in
theorem c7_find_n_25 {w : Wp} (hf : Fit sh0 w) {σ : Mm} {M : Nat → Int32} {L : Nat} (hW : WRel 25 M L σ) {t : Nat} (ht : t < 16) (hT : M (215 + t) = 0) : Cf sh0 w 0 mX7_find [.ref 25, .int (nI t)] σ (some .null) σ := by
  refine Ct_of hf (by decide) rfl (Nat.le_of_ble_eq_true rfl) (fun x o rt => ?_)
  refine V_iload_n o dX7_find_0 rfl rfl ?_
  refine V_if_lt (tgt := 10) o dX7_find_1 (by decide) (fun c_1 => False.elim (absurd c_1 (Int32.not_lt.mpr (nI_le (a := 0) (Nat.zero_le _) (by omega))))) (fun c_1 => ?_)
  refine V_iload_n o dX7_find_4 rfl rfl ?_
  refine V_bipush (v := 16) o dX7_find_5 (by decide) ?_
  refine V_icmp_lt (tgt := 12) o dX7_find_7 (by decide) (fun c_7 => ?_) (fun c_7 => False.elim (c_7 (nI_lt (b := 16) (by omega) (by omega))))
  refine V_aload_n o dX7_find_12 rfl rfl ?_
  refine V_getR (t := 29) o dX7_find_13 rfl fl_X7_20 rfl ?_
  refine V_iload_n o dX7_find_16 rfl rfl ?_
  refine V_aaldSN 16 o dX7_find_17 (Or.inr rfl) rfl rfl (by omega) rfl rfl ?_
  refine V_astore_n (ls' := [(2, _), (0, _), (1, _)]) o dX7_find_18 rfl (by decide) rfl ?_
  refine V_aload_n o dX7_find_19 rfl rfl ?_
  refine V_ifnull_r o dX7_find_20 ?_
  refine V_aload_n o dX7_find_23 rfl rfl ?_
  refine V_getI o dX7_find_24 (kT32 t ht) fl_X7_58 (rT32 ht) ?_
  refine V_topI (v' := M (215 + t)) (hW.2.2 t ht).live ?_
  refine V_if_ne (tgt := 34) o dX7_find_27 (by decide) (fun c_27 => False.elim (c_27 hT)) (fun c_27 => ?_)
  refine V_null o dX7_find_30 ?_
  refine V_goto (tgt := 35) o dX7_find_31 (by decide) ?_
  refine V_aretN o rt dX7_find_35 rfl ?_
  exact ⟨rfl, rfl⟩
set_option maxRecDepth 20000 in
set_option maxHeartbeats 4000000 in
theorem c7_find_out_25 {w : Wp} (hf : Fit sh0 w) {σ : Mm} {k : Int32} (hk : ¬ inR k 0 15) : Cf sh0 w 0 mX7_find [.ref 25, .int k] σ (some .null) σ := by
  refine Ct_of hf (by decide) rfl (Nat.le_of_ble_eq_true rfl) (fun x o rt => ?_)
  refine V_iload_n o dX7_find_0 rfl rfl ?_
  refine V_if_lt (tgt := 10) o dX7_find_1 (by decide) (fun c_1 => ?_) (fun c_1 => ?_)
  · refine V_null o dX7_find_10 ?_
    refine V_aretN o rt dX7_find_11 rfl ?_
    exact ⟨rfl, rfl⟩
  · refine V_iload_n o dX7_find_4 rfl rfl ?_
    refine V_bipush (v := 16) o dX7_find_5 (by decide) ?_
    refine V_icmp_lt (tgt := 12) o dX7_find_7 (by decide) (fun c_7 => False.elim (hk ⟨Int32.not_lt.mp c_1, lt_le15 c_7⟩)) (fun c_7 => ?_)
    refine V_null o dX7_find_10 ?_
    refine V_aretN o rt dX7_find_11 rfl ?_
    exact ⟨rfl, rfl⟩
set_option maxRecDepth 20000 in
set_option maxHeartbeats 4000000 in
theorem c7_run_25 {w : Wp} (hf : Fit sh0 w) {σ : Mm} {M : Nat → Int32} {L : Nat} (hW : WRel 25 M L σ) {t : Nat} (ht : t < 16) (hT : isG M t) : Cf sh0 w 1 mX7_findRunning [.ref 25, .int (nI t)] σ (some (.ref (32 + t))) σ := by
  refine Ct_of hf (by decide) rfl (Nat.le_of_ble_eq_true rfl) (fun x o rt => ?_)
  refine V_aload_n o dX7_findRunning_0 rfl rfl ?_
  refine V_iload_n o dX7_findRunning_1 rfl rfl ?_
  refine V_cVr o rt dX7_findRunning_2 ml_X7_62 (c7_find_25 hf hW ht hT.1) rfl rfl rfl (Nat.le_of_ble_eq_true rfl) rfl ?_
  refine V_astore_n (ls' := [(2, _), (0, _), (1, _)]) o dX7_findRunning_5 rfl (by decide) rfl ?_
  refine V_aload_n o dX7_findRunning_6 rfl rfl ?_
  refine V_ifnull_r o dX7_findRunning_7 ?_
  refine V_aload_n o dX7_findRunning_10 rfl rfl ?_
  refine V_getI o dX7_findRunning_11 (kT32 t ht) fl_X7_66 (rT32 ht) ?_
  refine V_topI (v' := M (343 + t)) (hW.2.2 t ht).pau ?_
  refine V_if_eq (tgt := 21) o dX7_findRunning_14 (by decide) (fun c_14 => ?_) (fun c_14 => False.elim (c_14 hT.2))
  refine V_aload_n o dX7_findRunning_21 rfl rfl ?_
  refine V_aretR o rt dX7_findRunning_22 rfl ?_
  exact ⟨rfl, rfl⟩
theorem c7_run_n_25 {w : Wp} (hf : Fit sh0 w) {σ : Mm} {M : Nat → Int32} {L : Nat} (hW : WRel 25 M L σ) (hB : Bo M) {t : Nat} (ht : t < 16) (hT : ¬ isG M t) : Cf sh0 w 1 mX7_findRunning [.ref 25, .int (nI t)] σ (some .null) σ := by
  rcases (hB t ht).1 with h0 | h1
  · refine Ct_of hf (by decide) rfl (Nat.le_of_ble_eq_true rfl) (fun x o rt => ?_)
    refine V_aload_n o dX7_findRunning_0 rfl rfl ?_
    refine V_iload_n o dX7_findRunning_1 rfl rfl ?_
    refine V_cVn o rt dX7_findRunning_2 ml_X7_62 (c7_find_n_25 hf hW ht h0) rfl rfl rfl (Nat.le_of_ble_eq_true rfl) rfl ?_
    refine V_astore_nN (ls' := [(2, _), (0, _), (1, _)]) o dX7_findRunning_5 rfl (by decide) rfl ?_
    refine V_aload_nN o dX7_findRunning_6 rfl rfl ?_
    refine V_ifnull_n (tgt := 17) o dX7_findRunning_7 (by decide) ?_
    refine V_null o dX7_findRunning_17 ?_
    refine V_goto (tgt := 22) o dX7_findRunning_18 (by decide) ?_
    refine V_aretN o rt dX7_findRunning_22 rfl ?_
    exact ⟨rfl, rfl⟩
  · have h2 : ¬ M (343 + t) = 0 := fun q => hT ⟨h1, q⟩
    refine Ct_of hf (by decide) rfl (Nat.le_of_ble_eq_true rfl) (fun x o rt => ?_)
    refine V_aload_n o dX7_findRunning_0 rfl rfl ?_
    refine V_iload_n o dX7_findRunning_1 rfl rfl ?_
    refine V_cVr o rt dX7_findRunning_2 ml_X7_62 (c7_find_25 hf hW ht h1) rfl rfl rfl (Nat.le_of_ble_eq_true rfl) rfl ?_
    refine V_astore_n (ls' := [(2, _), (0, _), (1, _)]) o dX7_findRunning_5 rfl (by decide) rfl ?_
    refine V_aload_n o dX7_findRunning_6 rfl rfl ?_
    refine V_ifnull_r o dX7_findRunning_7 ?_
    refine V_aload_n o dX7_findRunning_10 rfl rfl ?_
    refine V_getI o dX7_findRunning_11 (kT32 t ht) fl_X7_66 (rT32 ht) ?_
    refine V_topI (v' := M (343 + t)) (hW.2.2 t ht).pau ?_
    refine V_if_eq (tgt := 21) o dX7_findRunning_14 (by decide) (fun c_14 => False.elim (h2 c_14)) (fun c_14 => ?_)
    refine V_null o dX7_findRunning_17 ?_
    refine V_goto (tgt := 22) o dX7_findRunning_18 (by decide) ?_
    refine V_aretN o rt dX7_findRunning_22 rfl ?_
    exact ⟨rfl, rfl⟩
set_option maxRecDepth 20000 in
set_option maxHeartbeats 4000000 in
theorem c6_isAhead_32 {w : Wp} (hf : Fit sh0 w) {σ : Mm} {M : Nat → Int32} {L : Nat} (hW : WRel 25 M L σ) {a c : Nat} (ha : a < 16) (hc : c < 16) {bd : Bool} {v : Int32} : Cf sh0 w 0 mX6_isAhead [.ref (32 + a), .ref (32 + c), .int (bz (bd = true)), .int v] σ (some (.int (bz (aheadC M bd v a c = true)))) σ := by
  refine Ct_of hf (by decide) rfl (Nat.le_of_ble_eq_true rfl) (fun x o rt => ?_)
  refine V_iload_n o dX6_isAhead_0 rfl rfl ?_
  refine V_if_eq (tgt := 32) o dX6_isAhead_1 (by decide) (fun c_1 => ?_) (fun c_1 => ?_)
  · refine V_iload_n o dX6_isAhead_32 rfl rfl ?_
    refine V_iconst (v := 1) o dX6_isAhead_33 (by decide) ?_
    refine V_icmp_ne (tgt := 65) o dX6_isAhead_34 (by decide) (fun c_34 => ?_) (fun c_34 => ?_)
    · refine V_iload_n o dX6_isAhead_65 rfl rfl ?_
      refine V_iconst (v := 2) o dX6_isAhead_66 (by decide) ?_
      refine V_icmp_ne (tgt := 89) o dX6_isAhead_67 (by decide) (fun c_67 => ?_) (fun c_67 => ?_)
      · refine V_aload_n o dX6_isAhead_89 rfl rfl ?_
        refine V_getI o dX6_isAhead_90 (kT32 a ha) fl_X6_20 (rT32 ha) ?_
        refine V_topI (v' := M (247 + a)) (hW.2.2 a ha).arr ?_
        refine V_aload_n o dX6_isAhead_93 rfl rfl ?_
        refine V_getI o dX6_isAhead_94 (kT32 c hc) fl_X6_20 (rT32 hc) ?_
        refine V_topI (v' := M (247 + c)) (hW.2.2 c hc).arr ?_
        refine V_icmp_ge (tgt := 104) o dX6_isAhead_97 (by decide) (fun c_97 => ?_) (fun c_97 => ?_)
        · refine V_iconst (v := 0) o dX6_isAhead_104 (by decide) ?_
          refine V_iret o rt dX6_isAhead_105 rfl rfl ?_
          exact ⟨by rw [bz_f (show ¬ (aheadC M bd v a c = true) by rw [aheadC, if_neg (fun q => bz_0.mp c_1 q.1), if_neg (fun q => c_34 q.1), if_neg c_67, decide_eq_false (Int32.not_lt.mpr c_97)]; decide)], rfl⟩
        · refine V_iconst (v := 1) o dX6_isAhead_100 (by decide) ?_
          refine V_goto (tgt := 105) o dX6_isAhead_101 (by decide) ?_
          refine V_iret o rt dX6_isAhead_105 rfl rfl ?_
          exact ⟨by rw [bz_t (show (aheadC M bd v a c = true) by rw [aheadC, if_neg (fun q => bz_0.mp c_1 q.1), if_neg (fun q => c_34 q.1), if_neg c_67, decide_eq_true (Int32.not_le.mp c_97)])], rfl⟩
      · refine V_aload_n o dX6_isAhead_70 rfl rfl ?_
        refine V_getI o dX6_isAhead_71 (kT32 a ha) fl_X6_20 (rT32 ha) ?_
        refine V_topI (v' := M (247 + a)) (hW.2.2 a ha).arr ?_
        refine V_aload_n o dX6_isAhead_74 rfl rfl ?_
        refine V_getI o dX6_isAhead_75 (kT32 c hc) fl_X6_20 (rT32 hc) ?_
        refine V_topI (v' := M (247 + c)) (hW.2.2 c hc).arr ?_
        refine V_icmp_le (tgt := 85) o dX6_isAhead_78 (by decide) (fun c_78 => ?_) (fun c_78 => ?_)
        · refine V_iconst (v := 0) o dX6_isAhead_85 (by decide) ?_
          refine V_goto (tgt := 105) o dX6_isAhead_86 (by decide) ?_
          refine V_iret o rt dX6_isAhead_105 rfl rfl ?_
          exact ⟨by rw [bz_f (show ¬ (aheadC M bd v a c = true) by rw [aheadC, if_neg (fun q => bz_0.mp c_1 q.1), if_neg (fun q => c_34 q.1), if_pos c_67, decide_eq_false (Int32.not_lt.mpr c_78)]; decide)], rfl⟩
        · refine V_iconst (v := 1) o dX6_isAhead_81 (by decide) ?_
          refine V_goto (tgt := 105) o dX6_isAhead_82 (by decide) ?_
          refine V_iret o rt dX6_isAhead_105 rfl rfl ?_
          exact ⟨by rw [bz_t (show (aheadC M bd v a c = true) by rw [aheadC, if_neg (fun q => bz_0.mp c_1 q.1), if_neg (fun q => c_34 q.1), if_pos c_67, decide_eq_true (Int32.not_le.mp c_78)])], rfl⟩
    · refine V_aload_n o dX6_isAhead_37 rfl rfl ?_
      refine V_getI o dX6_isAhead_38 (kT32 a ha) fl_X6_38 (rT32 ha) ?_
      refine V_topI (v' := M (263 + a)) (hW.2.2 a ha).grp ?_
      refine V_aload_n o dX6_isAhead_41 rfl rfl ?_
      refine V_getI o dX6_isAhead_42 (kT32 c hc) fl_X6_38 (rT32 hc) ?_
      refine V_topI (v' := M (263 + c)) (hW.2.2 c hc).grp ?_
      refine V_icmp_eq (tgt := 65) o dX6_isAhead_45 (by decide) (fun c_45 => ?_) (fun c_45 => ?_)
      · refine V_iload_n o dX6_isAhead_65 rfl rfl ?_
        refine V_iconst (v := 2) o dX6_isAhead_66 (by decide) ?_
        refine V_icmp_ne (tgt := 89) o dX6_isAhead_67 (by decide) (fun c_67 => ?_) (fun c_67 => ?_)
        · refine V_aload_n o dX6_isAhead_89 rfl rfl ?_
          refine V_getI o dX6_isAhead_90 (kT32 a ha) fl_X6_20 (rT32 ha) ?_
          refine V_topI (v' := M (247 + a)) (hW.2.2 a ha).arr ?_
          refine V_aload_n o dX6_isAhead_93 rfl rfl ?_
          refine V_getI o dX6_isAhead_94 (kT32 c hc) fl_X6_20 (rT32 hc) ?_
          refine V_topI (v' := M (247 + c)) (hW.2.2 c hc).arr ?_
          refine V_icmp_ge (tgt := 104) o dX6_isAhead_97 (by decide) (fun c_97 => ?_) (fun c_97 => ?_)
          · refine V_iconst (v := 0) o dX6_isAhead_104 (by decide) ?_
            refine V_iret o rt dX6_isAhead_105 rfl rfl ?_
            exact ⟨by rw [bz_f (show ¬ (aheadC M bd v a c = true) by rw [aheadC, if_neg (fun q => bz_0.mp c_1 q.1), if_neg (fun q => q.2 c_45), if_neg c_67, decide_eq_false (Int32.not_lt.mpr c_97)]; decide)], rfl⟩
          · refine V_iconst (v := 1) o dX6_isAhead_100 (by decide) ?_
            refine V_goto (tgt := 105) o dX6_isAhead_101 (by decide) ?_
            refine V_iret o rt dX6_isAhead_105 rfl rfl ?_
            exact ⟨by rw [bz_t (show (aheadC M bd v a c = true) by rw [aheadC, if_neg (fun q => bz_0.mp c_1 q.1), if_neg (fun q => q.2 c_45), if_neg c_67, decide_eq_true (Int32.not_le.mp c_97)])], rfl⟩
        · refine V_aload_n o dX6_isAhead_70 rfl rfl ?_
          refine V_getI o dX6_isAhead_71 (kT32 a ha) fl_X6_20 (rT32 ha) ?_
          refine V_topI (v' := M (247 + a)) (hW.2.2 a ha).arr ?_
          refine V_aload_n o dX6_isAhead_74 rfl rfl ?_
          refine V_getI o dX6_isAhead_75 (kT32 c hc) fl_X6_20 (rT32 hc) ?_
          refine V_topI (v' := M (247 + c)) (hW.2.2 c hc).arr ?_
          refine V_icmp_le (tgt := 85) o dX6_isAhead_78 (by decide) (fun c_78 => ?_) (fun c_78 => ?_)
          · refine V_iconst (v := 0) o dX6_isAhead_85 (by decide) ?_
            refine V_goto (tgt := 105) o dX6_isAhead_86 (by decide) ?_
            refine V_iret o rt dX6_isAhead_105 rfl rfl ?_
            exact ⟨by rw [bz_f (show ¬ (aheadC M bd v a c = true) by rw [aheadC, if_neg (fun q => bz_0.mp c_1 q.1), if_neg (fun q => q.2 c_45), if_pos c_67, decide_eq_false (Int32.not_lt.mpr c_78)]; decide)], rfl⟩
          · refine V_iconst (v := 1) o dX6_isAhead_81 (by decide) ?_
            refine V_goto (tgt := 105) o dX6_isAhead_82 (by decide) ?_
            refine V_iret o rt dX6_isAhead_105 rfl rfl ?_
            exact ⟨by rw [bz_t (show (aheadC M bd v a c = true) by rw [aheadC, if_neg (fun q => bz_0.mp c_1 q.1), if_neg (fun q => q.2 c_45), if_pos c_67, decide_eq_true (Int32.not_le.mp c_78)])], rfl⟩
      · refine V_aload_n o dX6_isAhead_48 rfl rfl ?_
        refine V_getI o dX6_isAhead_49 (kT32 a ha) fl_X6_38 (rT32 ha) ?_
        refine V_topI (v' := M (263 + a)) (hW.2.2 a ha).grp ?_
        refine V_aload_n o dX6_isAhead_52 rfl rfl ?_
        refine V_getI o dX6_isAhead_53 (kT32 c hc) fl_X6_38 (rT32 hc) ?_
        refine V_topI (v' := M (263 + c)) (hW.2.2 c hc).grp ?_
        refine V_icmp_ge (tgt := 63) o dX6_isAhead_56 (by decide) (fun c_56 => ?_) (fun c_56 => ?_)
        · refine V_iconst (v := 0) o dX6_isAhead_63 (by decide) ?_
          refine V_iret o rt dX6_isAhead_64 rfl rfl ?_
          exact ⟨by rw [bz_f (show ¬ (aheadC M bd v a c = true) by rw [aheadC, if_neg (fun q => bz_0.mp c_1 q.1), if_pos ⟨c_34, c_45⟩, decide_eq_false (Int32.not_lt.mpr c_56)]; decide)], rfl⟩
        · refine V_iconst (v := 1) o dX6_isAhead_59 (by decide) ?_
          refine V_goto (tgt := 64) o dX6_isAhead_60 (by decide) ?_
          refine V_iret o rt dX6_isAhead_64 rfl rfl ?_
          exact ⟨by rw [bz_t (show (aheadC M bd v a c = true) by rw [aheadC, if_neg (fun q => bz_0.mp c_1 q.1), if_pos ⟨c_34, c_45⟩, decide_eq_true (Int32.not_le.mp c_56)])], rfl⟩
  · refine V_aload_n o dX6_isAhead_4 rfl rfl ?_
    refine V_getI o dX6_isAhead_5 (kT32 a ha) fl_X6_17 (rT32 ha) ?_
    refine V_topI (v' := M (231 + a)) (hW.2.2 a ha).due ?_
    refine V_aload_n o dX6_isAhead_8 rfl rfl ?_
    refine V_getI o dX6_isAhead_9 (kT32 c hc) fl_X6_17 (rT32 hc) ?_
    refine V_topI (v' := M (231 + c)) (hW.2.2 c hc).due ?_
    refine V_icmp_eq (tgt := 32) o dX6_isAhead_12 (by decide) (fun c_12 => ?_) (fun c_12 => ?_)
    · refine V_iload_n o dX6_isAhead_32 rfl rfl ?_
      refine V_iconst (v := 1) o dX6_isAhead_33 (by decide) ?_
      refine V_icmp_ne (tgt := 65) o dX6_isAhead_34 (by decide) (fun c_34 => ?_) (fun c_34 => ?_)
      · refine V_iload_n o dX6_isAhead_65 rfl rfl ?_
        refine V_iconst (v := 2) o dX6_isAhead_66 (by decide) ?_
        refine V_icmp_ne (tgt := 89) o dX6_isAhead_67 (by decide) (fun c_67 => ?_) (fun c_67 => ?_)
        · refine V_aload_n o dX6_isAhead_89 rfl rfl ?_
          refine V_getI o dX6_isAhead_90 (kT32 a ha) fl_X6_20 (rT32 ha) ?_
          refine V_topI (v' := M (247 + a)) (hW.2.2 a ha).arr ?_
          refine V_aload_n o dX6_isAhead_93 rfl rfl ?_
          refine V_getI o dX6_isAhead_94 (kT32 c hc) fl_X6_20 (rT32 hc) ?_
          refine V_topI (v' := M (247 + c)) (hW.2.2 c hc).arr ?_
          refine V_icmp_ge (tgt := 104) o dX6_isAhead_97 (by decide) (fun c_97 => ?_) (fun c_97 => ?_)
          · refine V_iconst (v := 0) o dX6_isAhead_104 (by decide) ?_
            refine V_iret o rt dX6_isAhead_105 rfl rfl ?_
            exact ⟨by rw [bz_f (show ¬ (aheadC M bd v a c = true) by rw [aheadC, if_neg (fun q => q.2 c_12), if_neg (fun q => c_34 q.1), if_neg c_67, decide_eq_false (Int32.not_lt.mpr c_97)]; decide)], rfl⟩
          · refine V_iconst (v := 1) o dX6_isAhead_100 (by decide) ?_
            refine V_goto (tgt := 105) o dX6_isAhead_101 (by decide) ?_
            refine V_iret o rt dX6_isAhead_105 rfl rfl ?_
            exact ⟨by rw [bz_t (show (aheadC M bd v a c = true) by rw [aheadC, if_neg (fun q => q.2 c_12), if_neg (fun q => c_34 q.1), if_neg c_67, decide_eq_true (Int32.not_le.mp c_97)])], rfl⟩
        · refine V_aload_n o dX6_isAhead_70 rfl rfl ?_
          refine V_getI o dX6_isAhead_71 (kT32 a ha) fl_X6_20 (rT32 ha) ?_
          refine V_topI (v' := M (247 + a)) (hW.2.2 a ha).arr ?_
          refine V_aload_n o dX6_isAhead_74 rfl rfl ?_
          refine V_getI o dX6_isAhead_75 (kT32 c hc) fl_X6_20 (rT32 hc) ?_
          refine V_topI (v' := M (247 + c)) (hW.2.2 c hc).arr ?_
          refine V_icmp_le (tgt := 85) o dX6_isAhead_78 (by decide) (fun c_78 => ?_) (fun c_78 => ?_)
          · refine V_iconst (v := 0) o dX6_isAhead_85 (by decide) ?_
            refine V_goto (tgt := 105) o dX6_isAhead_86 (by decide) ?_
            refine V_iret o rt dX6_isAhead_105 rfl rfl ?_
            exact ⟨by rw [bz_f (show ¬ (aheadC M bd v a c = true) by rw [aheadC, if_neg (fun q => q.2 c_12), if_neg (fun q => c_34 q.1), if_pos c_67, decide_eq_false (Int32.not_lt.mpr c_78)]; decide)], rfl⟩
          · refine V_iconst (v := 1) o dX6_isAhead_81 (by decide) ?_
            refine V_goto (tgt := 105) o dX6_isAhead_82 (by decide) ?_
            refine V_iret o rt dX6_isAhead_105 rfl rfl ?_
            exact ⟨by rw [bz_t (show (aheadC M bd v a c = true) by rw [aheadC, if_neg (fun q => q.2 c_12), if_neg (fun q => c_34 q.1), if_pos c_67, decide_eq_true (Int32.not_le.mp c_78)])], rfl⟩
      · refine V_aload_n o dX6_isAhead_37 rfl rfl ?_
        refine V_getI o dX6_isAhead_38 (kT32 a ha) fl_X6_38 (rT32 ha) ?_
        refine V_topI (v' := M (263 + a)) (hW.2.2 a ha).grp ?_
        refine V_aload_n o dX6_isAhead_41 rfl rfl ?_
        refine V_getI o dX6_isAhead_42 (kT32 c hc) fl_X6_38 (rT32 hc) ?_
        refine V_topI (v' := M (263 + c)) (hW.2.2 c hc).grp ?_
        refine V_icmp_eq (tgt := 65) o dX6_isAhead_45 (by decide) (fun c_45 => ?_) (fun c_45 => ?_)
        · refine V_iload_n o dX6_isAhead_65 rfl rfl ?_
          refine V_iconst (v := 2) o dX6_isAhead_66 (by decide) ?_
          refine V_icmp_ne (tgt := 89) o dX6_isAhead_67 (by decide) (fun c_67 => ?_) (fun c_67 => ?_)
          · refine V_aload_n o dX6_isAhead_89 rfl rfl ?_
            refine V_getI o dX6_isAhead_90 (kT32 a ha) fl_X6_20 (rT32 ha) ?_
            refine V_topI (v' := M (247 + a)) (hW.2.2 a ha).arr ?_
            refine V_aload_n o dX6_isAhead_93 rfl rfl ?_
            refine V_getI o dX6_isAhead_94 (kT32 c hc) fl_X6_20 (rT32 hc) ?_
            refine V_topI (v' := M (247 + c)) (hW.2.2 c hc).arr ?_
            refine V_icmp_ge (tgt := 104) o dX6_isAhead_97 (by decide) (fun c_97 => ?_) (fun c_97 => ?_)
            · refine V_iconst (v := 0) o dX6_isAhead_104 (by decide) ?_
              refine V_iret o rt dX6_isAhead_105 rfl rfl ?_
              exact ⟨by rw [bz_f (show ¬ (aheadC M bd v a c = true) by rw [aheadC, if_neg (fun q => q.2 c_12), if_neg (fun q => q.2 c_45), if_neg c_67, decide_eq_false (Int32.not_lt.mpr c_97)]; decide)], rfl⟩
            · refine V_iconst (v := 1) o dX6_isAhead_100 (by decide) ?_
              refine V_goto (tgt := 105) o dX6_isAhead_101 (by decide) ?_
              refine V_iret o rt dX6_isAhead_105 rfl rfl ?_
              exact ⟨by rw [bz_t (show (aheadC M bd v a c = true) by rw [aheadC, if_neg (fun q => q.2 c_12), if_neg (fun q => q.2 c_45), if_neg c_67, decide_eq_true (Int32.not_le.mp c_97)])], rfl⟩
          · refine V_aload_n o dX6_isAhead_70 rfl rfl ?_
            refine V_getI o dX6_isAhead_71 (kT32 a ha) fl_X6_20 (rT32 ha) ?_
            refine V_topI (v' := M (247 + a)) (hW.2.2 a ha).arr ?_
            refine V_aload_n o dX6_isAhead_74 rfl rfl ?_
            refine V_getI o dX6_isAhead_75 (kT32 c hc) fl_X6_20 (rT32 hc) ?_
            refine V_topI (v' := M (247 + c)) (hW.2.2 c hc).arr ?_
            refine V_icmp_le (tgt := 85) o dX6_isAhead_78 (by decide) (fun c_78 => ?_) (fun c_78 => ?_)
            · refine V_iconst (v := 0) o dX6_isAhead_85 (by decide) ?_
              refine V_goto (tgt := 105) o dX6_isAhead_86 (by decide) ?_
              refine V_iret o rt dX6_isAhead_105 rfl rfl ?_
              exact ⟨by rw [bz_f (show ¬ (aheadC M bd v a c = true) by rw [aheadC, if_neg (fun q => q.2 c_12), if_neg (fun q => q.2 c_45), if_pos c_67, decide_eq_false (Int32.not_lt.mpr c_78)]; decide)], rfl⟩
            · refine V_iconst (v := 1) o dX6_isAhead_81 (by decide) ?_
              refine V_goto (tgt := 105) o dX6_isAhead_82 (by decide) ?_
              refine V_iret o rt dX6_isAhead_105 rfl rfl ?_
              exact ⟨by rw [bz_t (show (aheadC M bd v a c = true) by rw [aheadC, if_neg (fun q => q.2 c_12), if_neg (fun q => q.2 c_45), if_pos c_67, decide_eq_true (Int32.not_le.mp c_78)])], rfl⟩
        · refine V_aload_n o dX6_isAhead_48 rfl rfl ?_
          refine V_getI o dX6_isAhead_49 (kT32 a ha) fl_X6_38 (rT32 ha) ?_
          refine V_topI (v' := M (263 + a)) (hW.2.2 a ha).grp ?_
          refine V_aload_n o dX6_isAhead_52 rfl rfl ?_
          refine V_getI o dX6_isAhead_53 (kT32 c hc) fl_X6_38 (rT32 hc) ?_
          refine V_topI (v' := M (263 + c)) (hW.2.2 c hc).grp ?_
          refine V_icmp_ge (tgt := 63) o dX6_isAhead_56 (by decide) (fun c_56 => ?_) (fun c_56 => ?_)
          · refine V_iconst (v := 0) o dX6_isAhead_63 (by decide) ?_
            refine V_iret o rt dX6_isAhead_64 rfl rfl ?_
            exact ⟨by rw [bz_f (show ¬ (aheadC M bd v a c = true) by rw [aheadC, if_neg (fun q => q.2 c_12), if_pos ⟨c_34, c_45⟩, decide_eq_false (Int32.not_lt.mpr c_56)]; decide)], rfl⟩
          · refine V_iconst (v := 1) o dX6_isAhead_59 (by decide) ?_
            refine V_goto (tgt := 64) o dX6_isAhead_60 (by decide) ?_
            refine V_iret o rt dX6_isAhead_64 rfl rfl ?_
            exact ⟨by rw [bz_t (show (aheadC M bd v a c = true) by rw [aheadC, if_neg (fun q => q.2 c_12), if_pos ⟨c_34, c_45⟩, decide_eq_true (Int32.not_le.mp c_56)])], rfl⟩
    · refine V_aload_n o dX6_isAhead_15 rfl rfl ?_
      refine V_getI o dX6_isAhead_16 (kT32 a ha) fl_X6_17 (rT32 ha) ?_
      refine V_topI (v' := M (231 + a)) (hW.2.2 a ha).due ?_
      refine V_aload_n o dX6_isAhead_19 rfl rfl ?_
      refine V_getI o dX6_isAhead_20 (kT32 c hc) fl_X6_17 (rT32 hc) ?_
      refine V_topI (v' := M (231 + c)) (hW.2.2 c hc).due ?_
      refine V_icmp_ge (tgt := 30) o dX6_isAhead_23 (by decide) (fun c_23 => ?_) (fun c_23 => ?_)
      · refine V_iconst (v := 0) o dX6_isAhead_30 (by decide) ?_
        refine V_iret o rt dX6_isAhead_31 rfl rfl ?_
        exact ⟨by rw [bz_f (show ¬ (aheadC M bd v a c = true) by rw [aheadC, if_pos ⟨bz_n0.mp c_1, c_12⟩, decide_eq_false (Int32.not_lt.mpr c_23)]; decide)], rfl⟩
      · refine V_iconst (v := 1) o dX6_isAhead_26 (by decide) ?_
        refine V_goto (tgt := 31) o dX6_isAhead_27 (by decide) ?_
        refine V_iret o rt dX6_isAhead_31 rfl rfl ?_
        exact ⟨by rw [bz_t (show (aheadC M bd v a c = true) by rw [aheadC, if_pos ⟨bz_n0.mp c_1, c_12⟩, decide_eq_true (Int32.not_le.mp c_23)])], rfl⟩
set_option maxRecDepth 20000 in
set_option maxHeartbeats 4000000 in
theorem c1_empty_25 {w : Wp} (hf : Fit sh0 w) {σ : Mm} : Cf sh0 w 0 mX1_empty [.ref 30] σ none (wI σ 30 1 0) := by
  refine Ct_of hf (by decide) rfl (Nat.le_of_ble_eq_true rfl) (fun x o rt => ?_)
  refine V_aload_n o dX1_empty_0 rfl rfl ?_
  refine V_iconst (v := 0) o dX1_empty_1 (by decide) ?_
  refine V_putI o dX1_empty_2 rfl fl_X1_17 rfl rfl rfl ?_
  refine V_ret o rt dX1_empty_5 rfl ?_
  exact ⟨rfl, rfl⟩
set_option maxRecDepth 20000 in
set_option maxHeartbeats 4000000 in
theorem c1_at_25 {w : Wp} (hf : Fit sh0 w) {σ : Mm} {g : Nat → Nat} {n : Nat} (hn : LnR 25 g n σ) {j : Nat} (hj : j < n) : Cf sh0 w 0 mX1_at [.ref 30, .int (nI j)] σ (some (.ref (32 + g j))) σ := by
  have hn16 := hn.2.1
  refine Ct_of hf (by decide) rfl (Nat.le_of_ble_eq_true rfl) (fun x o rt => ?_)
  refine V_iload_n o dX1_at_0 rfl rfl ?_
  refine V_if_lt (tgt := 18) o dX1_at_1 (by decide) (fun c_1 => False.elim (absurd c_1 (Int32.not_lt.mpr (nI_le (a := 0) (Nat.zero_le _) (by omega))))) (fun c_1 => ?_)
  refine V_iload_n o dX1_at_4 rfl rfl ?_
  refine V_aload_n o dX1_at_5 rfl rfl ?_
  refine V_getIE (v := nI (n)) o dX1_at_6 rfl fl_X1_17 rfl hn.1 ?_
  refine V_icmp_ge (tgt := 18) o dX1_at_9 (by decide) (fun c_9 => False.elim (absurd c_9 (nI_ge hj (by omega)))) (fun c_9 => ?_)
  refine V_iload_n o dX1_at_12 rfl rfl ?_
  refine V_bipush (v := 16) o dX1_at_13 (by decide) ?_
  refine V_icmp_lt (tgt := 22) o dX1_at_15 (by decide) (fun c_15 => ?_) (fun c_15 => False.elim (c_15 (nI_lt (b := 16) (by omega) (by omega))))
  refine V_aload_n o dX1_at_22 rfl rfl ?_
  refine V_getR (t := 31) o dX1_at_23 rfl fl_X1_11 rfl ?_
  refine V_iload_n o dX1_at_26 rfl rfl ?_
  refine V_aaldSN 16 o dX1_at_27 (Or.inl rfl) rfl rfl (by omega) rfl (hn.2.2 j hj).1 ?_
  refine V_aretR o rt dX1_at_28 rfl ?_
  exact ⟨rfl, rfl⟩
set_option maxRecDepth 20000 in
set_option maxHeartbeats 4000000 in
theorem c1_join_25 {w : Wp} (hf : Fit sh0 w) {σ : Mm} {M : Nat → Int32} {L : Nat} (hW : WRel 25 M L σ) {g : Nat → Nat} {n : Nat} (hn : LnR 25 g n σ) (hn16 : n < 16) {t : Nat} (ht : t < 16) {bd : Bool} {v : Int32} {G : Nat → Nat} (hG0 : qG (aheadC M bd v) t n g = G) {bv : Int32} (hbv : bv = bz (bd = true)) : Ct sh0 w 1 mX1_join [.ref 30, .ref (32 + t), .int bv, .int v] σ (fun r' σ' => r' = none ∧ Off 30 32 σ σ' ∧ LnR 25 G (n + 1) σ') := by
  subst hbv
  refine Ct_of hf (by decide) rfl (Nat.le_of_ble_eq_true rfl) (fun x o rt => ?_)
  have loop : ∀ k (τ : Mm) (g : Nat → Nat), k ≤ n → Off 30 32 σ τ → τ.1 30 1 = nI n → (∀ j, j < n + 1 → j ≠ k → τ.2.2 31 j = some (25 + 7 + g j) ∧ g j < 16) → qG (aheadC M bd v) t k g = G → V sh0 w x mX1_join (0, 0) 23 [(4, .int (nI k)), (0, .ref 30), (1, .ref (32 + t)), (2, .int (bz (bd = true))), (3, .int v)] [] τ := by
    intro k
    induction k with
    | zero =>
      intro τ g hk ho hl hg hG
      refine V_iload o dX1_join_23 rfl ?_
      refine V_if_le (tgt := 73) o dX1_join_25 (by decide) (fun c_25 => ?_) (fun c_25 => False.elim (c_25 (Int32.le_refl _)))
      refine V_aload_n o dX1_join_73 rfl rfl ?_
      refine V_getR (t := 31) o dX1_join_74 rfl fl_X1_11 rfl ?_
      refine V_iload o dX1_join_77 rfl ?_
      refine V_aload_n o dX1_join_79 rfl rfl ?_
      refine V_aastN 16 o dX1_join_80 rfl rfl rfl (by omega) rfl (kT32 t ht) ?_
      refine V_aload_n o dX1_join_81 rfl rfl ?_
      refine V_dup o dX1_join_82 rfl ?_
      refine V_getI o dX1_join_83 rfl fl_X1_17 rfl ?_
      refine V_iconst (v := 1) o dX1_join_86 (by decide) ?_
      refine V_iadd o dX1_join_87 ?_
      refine V_putI o dX1_join_88 rfl fl_X1_17 rfl rfl rfl ?_
      refine V_ret o rt dX1_join_91 rfl ?_
      refine ⟨rfl, (ho.wT (by omega) (by omega)).wI (by omega) (by omega), ?_, by omega, fun j hj => ?_⟩
      · show up2 τ.1 30 1 (τ.1 30 1 + 1) 30 1 = _
        rw [up2_self, hl]; exact nI_1 n
      · show up2 τ.2.2 31 (0) (some (32 + t)) 31 j = some (25 + 7 + G j) ∧ G j < 16
        rw [← hG]
        by_cases e : j = 0
        · rw [e, up2_self]
          rw [qG, uG, if_pos rfl]
          exact ⟨rfl, ht⟩
        · rw [up2_ne _ _ (Or.inr e)]
          have := hg j (by omega) e
          rw [qG, uG, if_neg e]
          exact this
    | succ k ih =>
      intro τ g hk ho hl hg hG
      have hW' : WRel 25 M L τ := ⟨by rw [(ho 25 (by omega)).1]; exact hW.1, ⟨by rw [(ho (25 + 1) (by omega)).1]; exact hW.2.1.1, by rw [(ho (25 + 1) (by omega)).1]; exact hW.2.1.2.1, fun q hq => by rw [(ho (25 + 1 + 1) (by omega)).1]; exact hW.2.1.2.2.1 q hq, fun q hq => by rw [(ho (25 + 1 + 2) (by omega)).1]; exact hW.2.1.2.2.2 q hq⟩, fun u hu => by rw [(ho (25 + 7 + u) (by omega)).1]; exact hW.2.2 u hu⟩
      have hgk := hg k (by omega) (by omega)
      rw [qG] at hG
      refine V_iload o dX1_join_23 rfl ?_
      refine V_if_le (tgt := 73) o dX1_join_25 (by decide) (fun c_25 => False.elim (absurd c_25 (nI_ge (a := 0) (by omega) (by omega)))) (fun c_25 => ?_)
      refine V_aload_n o dX1_join_28 rfl rfl ?_
      refine V_getR (t := 31) o dX1_join_29 rfl fl_X1_11 rfl ?_
      refine V_iload o dX1_join_32 rfl ?_
      refine V_iconst (v := 1) o dX1_join_34 (by decide) ?_
      refine V_isub o dX1_join_35 ?_
      refine V_topI (v' := nI (k)) (nI_pred k) ?_
      refine V_aaldSN 16 o dX1_join_36 (Or.inl rfl) rfl rfl (by omega) rfl hgk.1 ?_
      refine V_astore (ls' := [(5, _), (4, _), (0, _), (1, _), (2, _), (3, _)]) o dX1_join_37 (by decide) rfl ?_
      refine V_aload o dX1_join_39 rfl ?_
      refine V_ifnull_r o dX1_join_41 ?_
      refine V_aload_n o dX1_join_44 rfl rfl ?_
      refine V_aload o dX1_join_45 rfl ?_
      refine V_iload_n o dX1_join_47 rfl rfl ?_
      refine V_iload_n o dX1_join_48 rfl rfl ?_
      refine V_cVi o rt dX1_join_49 ml_X1_21 (c6_isAhead_32 hf hW' ht hgk.2) (kT32 t ht) rfl rfl (Nat.le_of_ble_eq_true rfl) rfl ?_
      refine V_if_ne (tgt := 58) o dX1_join_52 (by decide) (fun c_52 => ?_) (fun c_52 => ?_)
      · refine V_aload_n o dX1_join_58 rfl rfl ?_
        refine V_getR (t := 31) o dX1_join_59 rfl fl_X1_11 rfl ?_
        refine V_iload o dX1_join_62 rfl ?_
        refine V_aload o dX1_join_64 rfl ?_
        refine V_aastN 16 o dX1_join_66 rfl rfl rfl (by omega) rfl (kT32 (g k) hgk.2) ?_
        refine V_iincV (v := nI (k)) (ls' := [(4, _), (5, _), (0, _), (1, _), (2, _), (3, _)]) o dX1_join_67 rfl (ndec rfl) (by decide) rfl ?_
        refine V_goto (tgt := 23) o dX1_join_70 (by decide) ?_
        rw [if_pos (bz_n0.mp c_52)] at hG
        refine V_sub (by simp) (ih (wT τ 31 (k + 1) (some (25 + 7 + g k))) (uG g (k + 1) (g k)) (by omega) (ho.wT (by omega) (by omega)) hl (fun j hj hjk => ?_) hG)
        show up2 τ.2.2 31 (k + 1) (some (25 + 7 + g k)) 31 j = some (25 + 7 + uG g (k + 1) (g k) j) ∧ uG g (k + 1) (g k) j < 16
        by_cases e : j = k + 1
        · rw [e, up2_self, uG, if_pos rfl]
          exact ⟨rfl, hgk.2⟩
        · rw [up2_ne _ _ (Or.inr e), uG, if_neg e]
          exact hg j hj e
      · refine V_goto (tgt := 73) o dX1_join_55 (by decide) ?_
        refine V_aload_n o dX1_join_73 rfl rfl ?_
        refine V_getR (t := 31) o dX1_join_74 rfl fl_X1_11 rfl ?_
        refine V_iload o dX1_join_77 rfl ?_
        refine V_aload_n o dX1_join_79 rfl rfl ?_
        refine V_aastN 16 o dX1_join_80 rfl rfl rfl (by omega) rfl (kT32 t ht) ?_
        refine V_aload_n o dX1_join_81 rfl rfl ?_
        refine V_dup o dX1_join_82 rfl ?_
        refine V_getI o dX1_join_83 rfl fl_X1_17 rfl ?_
        refine V_iconst (v := 1) o dX1_join_86 (by decide) ?_
        refine V_iadd o dX1_join_87 ?_
        refine V_putI o dX1_join_88 rfl fl_X1_17 rfl rfl rfl ?_
        refine V_ret o rt dX1_join_91 rfl ?_
        rw [if_neg (bz_0.mp c_52)] at hG
        refine ⟨rfl, (ho.wT (by omega) (by omega)).wI (by omega) (by omega), ?_, by omega, fun j hj => ?_⟩
        · show up2 τ.1 30 1 (τ.1 30 1 + 1) 30 1 = _
          rw [up2_self, hl]; exact nI_1 n
        · show up2 τ.2.2 31 (k + 1) (some (32 + t)) 31 j = some (25 + 7 + G j) ∧ G j < 16
          rw [← hG]
          by_cases e : j = k + 1
          · rw [e, up2_self]
            rw [uG, if_pos rfl]
            exact ⟨rfl, ht⟩
          · rw [up2_ne _ _ (Or.inr e)]
            have := hg j (by omega) e
            rw [uG, if_neg e]
            exact this
  refine V_aload_n o dX1_join_0 rfl rfl ?_
  refine V_getIE (v := nI (n)) o dX1_join_1 rfl fl_X1_17 rfl hn.1 ?_
  refine V_if_lt (tgt := 16) o dX1_join_4 (by decide) (fun c_4 => False.elim (absurd c_4 (Int32.not_lt.mpr (nI_le (a := 0) (Nat.zero_le _) (by omega))))) (fun c_4 => ?_)
  refine V_aload_n o dX1_join_7 rfl rfl ?_
  refine V_getIE (v := nI (n)) o dX1_join_8 rfl fl_X1_17 rfl hn.1 ?_
  refine V_bipush (v := 16) o dX1_join_11 (by decide) ?_
  refine V_icmp_lt (tgt := 17) o dX1_join_13 (by decide) (fun c_13 => ?_) (fun c_13 => False.elim (c_13 (nI_lt (b := 16) hn16 (by omega))))
  refine V_aload_n o dX1_join_17 rfl rfl ?_
  refine V_getIE (v := nI (n)) o dX1_join_18 rfl fl_X1_17 rfl hn.1 ?_
  refine V_istore (ls' := [(4, _), (0, _), (1, _), (2, _), (3, _)]) o dX1_join_21 (by decide) rfl ?_
  exact loop n σ g (Nat.le_refl n) Off.rf hn.1 (fun j hj hjn => hn.2.2 j (by omega)) hG0
