theorem lineC_aux2 {M M' : Nat → Int32} {bd : Bool} {v : Int32} {sel sel' : Nat → Bool} (hs : ∀ t, t < 16 → sel t = sel' t) (hA : ∀ a b, a < 16 → b < 16 → sel a = true → sel b = true → a ≠ b → aheadC M bd v a b = soonB M' bd a b) : ∀ n i (s : (Nat → Nat) × Nat), i + n = 16 → (∀ j, j < s.2 → s.1 j < i ∧ sel (s.1 j) = true) → itr (lnC M bd v sel) i n s = itr (lnF M' bd sel') i n s
  | 0, _, _, _, _ => rfl
  | n + 1, i, s, hi, h => by
    rw [itr_succ, itr_succ]
    have e : lnC M bd v sel i s = lnF M' bd sel' i s := by
      unfold lnC lnF
      rw [← hs i (by omega)]
      by_cases q : sel i = true
      · rw [if_pos q, if_pos q, qG_congr s.2 s.1 (fun j hj => hA i (s.1 j) (by omega) (by have := (h j hj).1; omega) q (h j hj).2 (by have := (h j hj).1; omega))]
      · rw [if_neg q, if_neg q]
    rw [e]
    refine lineC_aux2 hs hA n (i + 1) _ (by omega) ?_
    unfold lnF
    rw [← hs i (by omega)]
    split
    · intro j hj
      exact qG_all (P := fun t => t < i + 1 ∧ sel t = true) ⟨by omega, by assumption⟩ s.2 s.2 s.1 (Nat.le_refl _) (fun k hk hne => ⟨by have := (h k (by omega)).1; omega, (h k (by omega)).2⟩) j hj
    · intro j hj
      exact ⟨by have := (h j hj).1; omega, (h j hj).2⟩
theorem lineC_eq2 {M M' : Nat → Int32} {bd : Bool} {v : Int32} {sel sel' : Nat → Bool} (hs : ∀ t, t < 16 → sel t = sel' t) (hA : ∀ a b, a < 16 → b < 16 → sel a = true → sel b = true → a ≠ b → aheadC M bd v a b = soonB M' bd a b) : lineC M bd v sel = lineM M' bd sel' :=
  lineC_aux2 hs hA 16 0 (fun _ => 0, 0) (by omega) (fun j hj => absurd hj (Nat.not_lt_zero j))
/-- the line of the class is the line of the reference -/
theorem lineC_M {M : Nat → Int32} {bd : Bool} {sel : Nat → Bool} (hr5 : M 5 = 0 ∨ M 5 = 1 ∨ M 5 = 2) (hAr : Ar M) (hs : ∀ t, t < 16 → sel t = true → isT M t) : lineC M bd (M 5) sel = lineM M bd sel :=
  lineC_eq (fun a b ha hb h1 h2 hab => aheadC_soon hr5 (hAr a b ha hb (hs a ha h1) (hs b hb h2) hab))
set_option maxRecDepth 20000 in
set_option maxHeartbeats 4000000 in
theorem c8_tellLine {w : Wp} (hf : Fit sh0 w) {σ : Mm} {M : Nat → Int32} {L : Nat} (hW : WRel 2 M L σ) {g : Nat → Nat} {n : Nat} (hl : LnR 2 g n σ) : Ct sh0 w 1 mX8_tellLine [.ref 1, .ref 7] σ (fun r' σ' => r' = none ∧ Off 52 54 σ σ' ∧ RwC (rowG g n) σ') := by
  have hn := hl.2.1
  refine Ct_of hf (by decide) rfl (Nat.le_of_ble_eq_true rfl) (fun x o rt => ?_)
  have loop : ∀ m k (τ : Mm), k + m = n → Off 52 54 σ τ → RwC (rowG g k) τ → V sh0 w x mX8_tellLine (0, 0) 9 [(2, .int (nI k)), (0, .ref 1), (1, .ref 7)] [] τ := by
    intro m
    induction m with
    | zero =>
      intro k τ hk ho hR
      have hkn : k = n := by omega
      subst hkn
      have hl2 : LnR 2 g k τ := hl.off ho (by omega)
      refine V_iload_n o dX8_tellLine_9 rfl rfl ?_
      refine V_aload_n o dX8_tellLine_10 rfl rfl ?_
      refine V_getIE (v := nI (k)) o dX8_tellLine_11 rfl fl_X8_202 rfl hl2.1 ?_
      refine V_icmp_ge (tgt := 39) o dX8_tellLine_14 (by decide) (fun c_14 => ?_) (fun c_14 => False.elim (c_14 (Int32.le_refl _)))
      refine V_ret o rt dX8_tellLine_39 rfl ?_
      exact ⟨rfl, ho, hR⟩
    | succ m ih =>
      intro k τ hk ho_0 hR_0
      have hl2 : LnR 2 g n τ := hl.off ho_0 (by omega)
      have hk2 : k < n := by omega
      have hgk := (hl.2.2 k hk2).2
      refine V_iload_n o dX8_tellLine_9 rfl rfl ?_
      refine V_aload_n o dX8_tellLine_10 rfl rfl ?_
      refine V_getIE (v := nI (n)) o dX8_tellLine_11 rfl fl_X8_202 rfl hl2.1 ?_
      refine V_icmp_ge (tgt := 39) o dX8_tellLine_14 (by decide) (fun c_14 => False.elim (absurd c_14 (nI_ge hk2 (by omega)))) (fun c_14 => ?_)
      refine V_aload_n o dX8_tellLine_17 rfl rfl ?_
      refine V_getR (t := 52) o dX8_tellLine_18 rfl fl_X8_33 rfl ?_
      refine V_aload_n o dX8_tellLine_21 rfl rfl ?_
      refine V_iload_n o dX8_tellLine_22 rfl rfl ?_
      refine V_cVr o rt dX8_tellLine_23 ml_X8_297 (c1_at_2 hf hl2 hk2) rfl rfl rfl (Nat.le_of_ble_eq_true rfl) rfl ?_
      refine V_cSi o rt dX8_tellLine_26 ms_X8_315 (c8_numberOf_9 hf hgk ((congrFun (ho_0 (9 + g k) (by omega)).1 0).trans (hW.2.2 (g k) hgk).no)) rfl rfl (Nat.le_of_ble_eq_true rfl) rfl ?_
      refine V_i2l o dX8_tellLine_29 ?_
      refine V_callV o rt dX8_tellLine_30 ml_X8_210 (c3_put hf hR_0 (by rw [rowG_len]; omega)) rfl rfl rfl (Nat.le_of_ble_eq_true rfl) rfl (fun r_30 σ_30 q_30 => ?_)
      obtain ⟨rfl, hp_30, hR_30⟩ := q_30
      have ho_30 := ho_0.tr hp_30
      show V sh0 w x mX8_tellLine (0, 0) _ _ [] _
      refine V_iincV (v := nI (k + 1)) (ls' := [(2, _), (0, _), (1, _)]) o dX8_tellLine_33 rfl (ninc 1 rfl) (by decide) rfl ?_
      refine V_goto (tgt := 9) o dX8_tellLine_36 (by decide) ?_
      exact V_sub (by simp) (ih (k + 1) σ_30 (by omega) ho_30 (by rw [rowG_succ]; exact hR_30))
  refine V_aload_n o dX8_tellLine_0 rfl rfl ?_
  refine V_getR (t := 52) o dX8_tellLine_1 rfl fl_X8_33 rfl ?_
  refine V_callV o rt dX8_tellLine_4 ml_X8_209 (c3_empty hf) rfl rfl rfl (Nat.le_of_ble_eq_true rfl) rfl (fun r_4 σ_4 q_4 => ?_)
  obtain ⟨rfl, ho_4, hR_4⟩ := q_4
  show V sh0 w x mX8_tellLine (0, 0) _ _ [] _
  refine V_iconst (v := 0) o dX8_tellLine_7 (by decide) ?_
  refine V_istore_n (ls' := [(2, _), (0, _), (1, _)]) o dX8_tellLine_8 rfl (by decide) rfl ?_
  exact V_sub (by simp; rfl) (loop n 0 σ_4 (by omega) ho_4 hR_4)
set_option maxRecDepth 20000 in
set_option maxHeartbeats 4000000 in
theorem c8_slot0 {w : Wp} (hf : Fit sh0 w) {σ : Mm} {M : Nat → Int32} {L r n : Nat} {l : List Int64} {T : Nat → Int32} (hK : KR M L r l T n σ) (hF : Wf M L) (hB : Bo M) {j : Nat} (hj : j < L) {sl : Int32} (hsl : inR sl 0 (M (1 + j) - 1)) {G : Nat → Nat} {K : Nat} (hGK : lineC M false (M 5) (slSel M (nI j) sl) = (G, K)) : Ct sh0 w 2 mX8_slot [.ref 1, .int (nI j), .int sl] σ (fun r' σ' => r' = some (.int (nI K)) ∧ Off 1 67 σ σ' ∧ KR (M) (L) r (rowG G K) (T) (n) σ') := by
  have hL := hF.2.2.1
  have hW := hK.1
  unfold lineC at hGK
  refine Ct_of hf (by decide) rfl (Nat.le_of_ble_eq_true rfl) (fun x o rt => ?_)
  have jn : ∀ m t (τ : Mm) (g : Nat → Nat) (c : Nat), t + m = 16 → c ≤ t → Off 7 9 σ τ → LnR 2 g c τ → itr (lnC M false (M 5) (slSel M (nI j) sl)) t m (g, c) = (G, K) → V sh0 w x mX8_slot (0, 0) 52 [(4, .int (nI t)), (3, .ref 7), (0, .ref 1), (1, .int (nI j)), (2, .int sl)] [] τ := by
    intro m
    induction m with
    | zero =>
      intro t τ g c htn hct ho hl hR
      have h16 : t = 16 := by omega
      obtain ⟨rfl, rfl⟩ := Prod.mk.inj hR
      have hWt : WRel 2 M L τ := hW.ln ho
      have hKt : KR M L r l T n τ := hK.wk (ho.wd (by omega) (by omega)) hWt (fun _ _ _ _ _ => rfl)
      refine V_iload o dX8_slot_52 rfl ?_
      refine V_bipush (v := 16) o dX8_slot_54 (by decide) ?_
      refine V_icmp_ge (tgt := 113) o dX8_slot_56 (by decide) (fun c_56 => ?_) (fun c_56 => False.elim (c_56 (by rw [h16]; decide)))
      refine V_aload_n o dX8_slot_113 rfl rfl ?_
      refine V_aload_n o dX8_slot_114 rfl rfl ?_
      refine V_callV o rt dX8_slot_115 ml_X8_256 (c8_tellLine hf hWt hl) rfl rfl rfl (Nat.le_of_ble_eq_true rfl) rfl (fun r_115 σ_115 q_115 => ?_)
      obtain ⟨rfl, ho3, hR3⟩ := q_115
      show V sh0 w x mX8_slot (0, 0) _ _ [] _
      refine V_aload_n o dX8_slot_118 rfl rfl ?_
      refine V_getIE (v := nI (c)) o dX8_slot_119 rfl fl_X8_202 rfl ((congrFun (ho3 7 (by omega)).1 1).trans hl.1) ?_
      refine V_iret o rt dX8_slot_122 rfl rfl ?_
      exact ⟨rfl, (ho.wd (by omega) (by omega)).tr (ho3.wd (by omega) (by omega)), hKt.rw hL ho3 hR3⟩
    | succ m ih =>
      intro t τ g c htn hct ho hl hR
      have ht : t < 16 := by omega
      have hWt : WRel 2 M L τ := hW.ln ho
      rw [itr_succ, lnC] at hR
      refine V_iload o dX8_slot_52 rfl ?_
      refine V_bipush (v := 16) o dX8_slot_54 (by decide) ?_
      refine V_icmp_ge (tgt := 113) o dX8_slot_56 (by decide) (fun c_56 => False.elim (absurd c_56 (nI_ge (b := 16) (by omega) (by omega)))) (fun c_56 => ?_)
      refine V_aload_n o dX8_slot_59 rfl rfl ?_
      refine V_getR (t := 2) o dX8_slot_60 rfl fl_X8_10 rfl ?_
      refine V_iload o dX8_slot_63 rfl ?_
      rcases (hB t ht).1 with hG0 | hG
      · refine V_cVn o rt dX8_slot_65 ml_X8_154 (c7_find_n_2 hf hWt ht hG0) rfl rfl rfl (Nat.le_of_ble_eq_true rfl) rfl ?_
        refine V_astoreN (ls' := [(5, _), (4, _), (3, _), (0, _), (1, _), (2, _)]) o dX8_slot_68 (by decide) rfl ?_
        refine V_aloadN o dX8_slot_70 rfl ?_
        refine V_ifnull_n (tgt := 107) o dX8_slot_72 (by decide) ?_
        refine V_iincV (v := nI (t + 1)) (ls' := [(4, _), (5, _), (3, _), (0, _), (1, _), (2, _)]) o dX8_slot_107 rfl (ninc 1 rfl) (by decide) rfl ?_
        refine V_goto (tgt := 52) o dX8_slot_110 (by decide) ?_
        rw [if_neg (fun q => absurd (hG0.symm.trans (of_decide_eq_true q).1.1) (by decide))] at hR
        exact V_sub (by simp) (ih (t + 1) τ g c (by omega) (by omega) ho hl hR)
      · refine V_cVr o rt dX8_slot_65 ml_X8_154 (c7_find_2 hf hWt ht hG) rfl rfl rfl (Nat.le_of_ble_eq_true rfl) rfl ?_
        refine V_astore (ls' := [(5, _), (4, _), (3, _), (0, _), (1, _), (2, _)]) o dX8_slot_68 (by decide) rfl ?_
        refine V_aload o dX8_slot_70 rfl ?_
        refine V_ifnull_r o dX8_slot_72 ?_
        refine V_aload o dX8_slot_75 rfl ?_
        refine V_getI o dX8_slot_77 (kT9 t ht) fl_X8_238 (rT9 ht) ?_
        refine V_topI (v' := cLv M t) ((hWt.2.2 t ht).lv (hB t ht).2.2) ?_
        refine V_iload_n o dX8_slot_80 rfl rfl ?_
        refine V_icmp_ne (tgt := 107) o dX8_slot_81 (by decide) (fun c_81 => ?_) (fun c_81 => ?_)
        · refine V_iincV (v := nI (t + 1)) (ls' := [(4, _), (5, _), (3, _), (0, _), (1, _), (2, _)]) o dX8_slot_107 rfl (ninc 1 rfl) (by decide) rfl ?_
          refine V_goto (tgt := 52) o dX8_slot_110 (by decide) ?_
          rw [if_neg (fun q => c_81 ((cLv_0 (of_decide_eq_true q).1.2).trans (of_decide_eq_true q).2.1))] at hR
          exact V_sub (by simp) (ih (t + 1) τ g c (by omega) (by omega) ho hl hR)
        · refine V_aload o dX8_slot_84 rfl ?_
          refine V_getI o dX8_slot_86 (kT9 t ht) fl_X8_241 (rT9 ht) ?_
          refine V_topI (v' := cSl M t) ((hWt.2.2 t ht).sl (hB t ht).2.2) ?_
          refine V_iload_n o dX8_slot_89 rfl rfl ?_
          refine V_icmp_ne (tgt := 107) o dX8_slot_90 (by decide) (fun c_90 => ?_) (fun c_90 => ?_)
          · refine V_iincV (v := nI (t + 1)) (ls' := [(4, _), (5, _), (3, _), (0, _), (1, _), (2, _)]) o dX8_slot_107 rfl (ninc 1 rfl) (by decide) rfl ?_
            refine V_goto (tgt := 52) o dX8_slot_110 (by decide) ?_
            rw [if_neg (fun q => c_90 ((cSl_0 (of_decide_eq_true q).1.2).trans (of_decide_eq_true q).2.2))] at hR
            exact V_sub (by simp) (ih (t + 1) τ g c (by omega) (by omega) ho hl hR)
          · refine V_aload_n o dX8_slot_93 rfl rfl ?_
            refine V_aload o dX8_slot_94 rfl ?_
            refine V_iconst (v := 0) o dX8_slot_96 (by decide) ?_
            refine V_aload_n o dX8_slot_97 rfl rfl ?_
            refine V_getR (t := 2) o dX8_slot_98 rfl fl_X8_10 rfl ?_
            refine V_getI o dX8_slot_101 rfl fl_X8_83 rfl ?_
            refine V_topI (v' := M 5) hWt.1.2.1 ?_
            refine V_callV o rt dX8_slot_104 ml_X8_198 (c1_join_2 hf hWt hl (by omega) ht (bd := false) rfl (bz_f (by decide)).symm) rfl rfl rfl (Nat.le_of_ble_eq_true rfl) rfl (fun r_104 σ_104 q_104 => ?_)
            obtain ⟨rfl, ho2, h4⟩ := q_104
            show V sh0 w x mX8_slot (0, 0) _ _ [] _
            refine V_iincV (v := nI (t + 1)) (ls' := [(4, _), (5, _), (3, _), (0, _), (1, _), (2, _)]) o dX8_slot_107 rfl (ninc 1 rfl) (by decide) rfl ?_
            refine V_goto (tgt := 52) o dX8_slot_110 (by decide) ?_
            obtain ⟨hp, hlv⟩ := cLv_at (hB t ht).2.2 c_81 (nI_ne_m2 (by omega))
            rw [if_pos (show slSel M (nI j) sl t = true from decide_eq_true ⟨⟨hG, hp⟩, hlv, (cSl_0 hp).symm.trans c_90⟩)] at hR
            exact V_sub (by simp) (ih (t + 1) σ_104 (qG (aheadC M false (M 5)) t c g) (c + 1) (by omega) (by omega) (ho.tr ho2) h4 hR)
  refine V_aload_n o dX8_slot_0 rfl rfl ?_
  refine V_getR (t := 2) o dX8_slot_1 rfl fl_X8_10 rfl ?_
  refine V_getR (t := 3) o dX8_slot_4 rfl fl_X8_62 rfl ?_
  refine V_iload_n o dX8_slot_7 rfl rfl ?_
  refine V_cVi o rt dX8_slot_8 ml_X8_250 (c4_hasLevel_3 hf hW.2.1) rfl rfl rfl (Nat.le_of_ble_eq_true rfl) rfl ?_
  refine V_if_eq (tgt := 35) o dX8_slot_11 (by decide) (fun c_11 => False.elim (bz_0.mp c_11 (by obtain ⟨L1, rfl⟩ : ∃ L1, L = L1 + 1 := ⟨L - 1, by omega⟩; rw [nI_pred]; exact nI_rng (by omega) (by omega)))) (fun c_11 => ?_)
  refine V_iload_n o dX8_slot_14 rfl rfl ?_
  refine V_iconst (v := 0) o dX8_slot_15 (by decide) ?_
  refine V_aload_n o dX8_slot_16 rfl rfl ?_
  refine V_getR (t := 2) o dX8_slot_17 rfl fl_X8_10 rfl ?_
  refine V_getR (t := 3) o dX8_slot_20 rfl fl_X8_62 rfl ?_
  refine V_iload_n o dX8_slot_23 rfl rfl ?_
  refine V_cVi o rt dX8_slot_24 ml_X8_253 (c4_sizeOf_3 hf hW.2.1 hL (by omega)) rfl rfl rfl (Nat.le_of_ble_eq_true rfl) rfl ?_
  refine V_iconst (v := 1) o dX8_slot_27 (by decide) ?_
  refine V_isub o dX8_slot_28 ?_
  refine V_cSi o rt dX8_slot_29 ms_X8_79 (c8_isWithin hf) rfl rfl (Nat.le_of_ble_eq_true rfl) rfl ?_
  refine V_if_ne (tgt := 37) o dX8_slot_32 (by decide) (fun c_32 => ?_) (fun c_32 => False.elim (bz_0.mp c_32 hsl))
  refine V_aload_n o dX8_slot_37 rfl rfl ?_
  refine V_getR (t := 2) o dX8_slot_38 rfl fl_X8_10 rfl ?_
  refine V_getR (t := 7) o dX8_slot_41 rfl fl_X8_189 rfl ?_
  refine V_astore_n (ls' := [(3, _), (0, _), (1, _), (2, _)]) o dX8_slot_44 rfl (by decide) rfl ?_
  refine V_aload_n o dX8_slot_45 rfl rfl ?_
  refine V_cVv o rt dX8_slot_46 ml_X8_193 (c1_empty_2 hf) rfl rfl rfl (Nat.le_of_ble_eq_true rfl) rfl ?_
  refine V_iconst (v := 0) o dX8_slot_49 (by decide) ?_
  refine V_istore (ls' := [(4, _), (3, _), (0, _), (1, _), (2, _)]) o dX8_slot_50 (by decide) rfl ?_
  exact V_sub (by simp; rfl) (jn 16 0 (wI σ 7 1 0) (fun _ => 0) 0 (by omega) (by omega) (Off.rf.wI (by omega) (by omega)) LnR_0 hGK)
set_option maxRecDepth 20000 in
set_option maxHeartbeats 4000000 in
theorem c8_slot_no {w : Wp} (hf : Fit sh0 w) {σ : Mm} {M : Nat → Int32} {L r n : Nat} {l : List Int64} {T : Nat → Int32} (hK : KR M L r l T n σ) (hF : Wf M L) (hB : Bo M) {lv sl : Int32} (hc : ¬ slC M lv sl) : Ct sh0 w 2 mX8_slot [.ref 1, .int lv, .int sl] σ (fun r' σ' => r' = some (.int (-1)) ∧ Off 1 67 σ σ' ∧ KR (M) (L) r (l) (T) (n) σ') := by
  have hL := hF.2.2.1
  have hW := hK.1
  by_cases h1 : inR lv 0 (nI L - 1)
  · obtain ⟨L1, rfl⟩ : ∃ L1, L = L1 + 1 := ⟨L - 1, by have := hF.2.1; omega⟩
    have h2 := h1
    rw [nI_pred] at h2
    have hx := inR_nI (N := L1) (by omega) h2
    refine Ct_of hf (by decide) rfl (Nat.le_of_ble_eq_true rfl) (fun x o rt => ?_)
    refine V_aload_n o dX8_slot_0 rfl rfl ?_
    refine V_getR (t := 2) o dX8_slot_1 rfl fl_X8_10 rfl ?_
    refine V_getR (t := 3) o dX8_slot_4 rfl fl_X8_62 rfl ?_
    refine V_iload_n o dX8_slot_7 rfl rfl ?_
    refine V_cVi o rt dX8_slot_8 ml_X8_250 (c4_hasLevel_3 hf hW.2.1) rfl rfl rfl (Nat.le_of_ble_eq_true rfl) rfl ?_
    refine V_if_eq (tgt := 35) o dX8_slot_11 (by decide) (fun c_11 => False.elim (bz_0.mp c_11 h1)) (fun c_11 => ?_)
    refine V_iload_n o dX8_slot_14 rfl rfl ?_
    refine V_iconst (v := 0) o dX8_slot_15 (by decide) ?_
    refine V_aload_n o dX8_slot_16 rfl rfl ?_
    refine V_getR (t := 2) o dX8_slot_17 rfl fl_X8_10 rfl ?_
    refine V_getR (t := 3) o dX8_slot_20 rfl fl_X8_62 rfl ?_
    refine V_iload_n o dX8_slot_23 rfl rfl ?_
    refine V_topI (v' := nI (ix lv)) hx.1 ?_
    refine V_cVi o rt dX8_slot_24 ml_X8_253 (c4_sizeOf_3 hf hW.2.1 hL (by omega)) rfl rfl rfl (Nat.le_of_ble_eq_true rfl) rfl ?_
    refine V_iconst (v := 1) o dX8_slot_27 (by decide) ?_
    refine V_isub o dX8_slot_28 ?_
    refine V_cSi o rt dX8_slot_29 ms_X8_79 (c8_isWithin hf) rfl rfl (Nat.le_of_ble_eq_true rfl) rfl ?_
    refine V_if_ne (tgt := 37) o dX8_slot_32 (by decide) (fun c_32 => False.elim (hc ⟨by rw [hF.1]; exact h1, bz_n0.mp c_32⟩)) (fun c_32 => ?_)
    refine V_iconst (v := -1) o dX8_slot_35 (by decide) ?_
    refine V_iret o rt dX8_slot_36 rfl rfl ?_
    exact ⟨rfl, Off.rf, hK⟩
  · refine Ct_of hf (by decide) rfl (Nat.le_of_ble_eq_true rfl) (fun x o rt => ?_)
    refine V_aload_n o dX8_slot_0 rfl rfl ?_
    refine V_getR (t := 2) o dX8_slot_1 rfl fl_X8_10 rfl ?_
    refine V_getR (t := 3) o dX8_slot_4 rfl fl_X8_62 rfl ?_
    refine V_iload_n o dX8_slot_7 rfl rfl ?_
    refine V_cVi o rt dX8_slot_8 ml_X8_250 (c4_hasLevel_3 hf hW.2.1) rfl rfl rfl (Nat.le_of_ble_eq_true rfl) rfl ?_
    refine V_if_eq (tgt := 35) o dX8_slot_11 (by decide) (fun c_11 => ?_) (fun c_11 => False.elim (h1 (bz_n0.mp c_11)))
    refine V_iconst (v := -1) o dX8_slot_35 (by decide) ?_
    refine V_iret o rt dX8_slot_36 rfl rfl ?_
    exact ⟨rfl, Off.rf, hK⟩
theorem c8_slot {w : Wp} (hf : Fit sh0 w) {σ : Mm} {M : Nat → Int32} {L r n : Nat} {l : List Int64} {T : Nat → Int32} (hK : KR M L r l T n σ) (hF : Wf M L) (hB : Bo M) (hr5 : M 5 = 0 ∨ M 5 = 1 ∨ M 5 = 2) (hAr : Ar M) {lv sl : Int32} (hc : slC M lv sl) {LN : (Nat → Nat) × Nat} (hLN : lineM M false (slSel M lv sl) = LN) : Ct sh0 w 2 mX8_slot [.ref 1, .int lv, .int sl] σ (fun r' σ' => r' = some (.int (nI LN.2)) ∧ Off 1 67 σ σ' ∧ KR (M) (L) r (rowG LN.1 LN.2) (T) (n) σ') := by
  obtain ⟨h1, h2⟩ := hc
  rw [hF.1] at h1
  obtain ⟨L1, rfl⟩ : ∃ L1, L = L1 + 1 := ⟨L - 1, by have := hF.2.1; omega⟩
  have h3 := h1
  rw [nI_pred] at h3
  have hL := hF.2.2.1
  have hx := inR_nI (N := L1) (by omega) h3
  obtain ⟨G, K⟩ := LN
  generalize ix lv = j at hx h2
  obtain ⟨rfl, hj⟩ := hx
  exact c8_slot0 hf hK hF hB (by omega) h2 ((lineC_M hr5 hAr (fun t _ h => (of_decide_eq_true h).1.1)).trans hLN)
set_option maxRecDepth 20000 in
set_option maxHeartbeats 4000000 in
theorem c8_far0 {w : Wp} (hf : Fit sh0 w) {σ : Mm} {M : Nat → Int32} {L r n : Nat} {l : List Int64} {T : Nat → Int32} (hK : KR M L r l T n σ) (hF : Wf M L) (hB : Bo M) {G : Nat → Nat} {K : Nat} (hGK : lineC M true 0 (faSel M) = (G, K)) : Ct sh0 w 2 mX8_far [.ref 1] σ (fun r' σ' => r' = some (.int (nI K)) ∧ Off 1 67 σ σ' ∧ KR (M) (L) r (rowG G K) (T) (n) σ') := by
  have hL := hF.2.2.1
  have hW := hK.1
  unfold lineC at hGK
  refine Ct_of hf (by decide) rfl (Nat.le_of_ble_eq_true rfl) (fun x o rt => ?_)
  have jn : ∀ m t (τ : Mm) (g : Nat → Nat) (c : Nat), t + m = 16 → c ≤ t → Off 7 9 σ τ → LnR 2 g c τ → itr (lnC M true 0 (faSel M)) t m (g, c) = (G, K) → V sh0 w x mX8_far (0, 0) 14 [(2, .int (nI t)), (1, .ref 7), (0, .ref 1)] [] τ := by
    intro m
    induction m with
    | zero =>
      intro t τ g c htn hct ho hl hR
      have h16 : t = 16 := by omega
      obtain ⟨rfl, rfl⟩ := Prod.mk.inj hR
      have hWt : WRel 2 M L τ := hW.ln ho
      have hKt : KR M L r l T n τ := hK.wk (ho.wd (by omega) (by omega)) hWt (fun _ _ _ _ _ => rfl)
      refine V_iload_n o dX8_far_14 rfl rfl ?_
      refine V_bipush (v := 16) o dX8_far_15 (by decide) ?_
      refine V_icmp_ge (tgt := 54) o dX8_far_17 (by decide) (fun c_17 => ?_) (fun c_17 => False.elim (c_17 (by rw [h16]; decide)))
      refine V_aload_n o dX8_far_54 rfl rfl ?_
      refine V_aload_n o dX8_far_55 rfl rfl ?_
      refine V_callV o rt dX8_far_56 ml_X8_256 (c8_tellLine hf hWt hl) rfl rfl rfl (Nat.le_of_ble_eq_true rfl) rfl (fun r_56 σ_56 q_56 => ?_)
      obtain ⟨rfl, ho3, hR3⟩ := q_56
      show V sh0 w x mX8_far (0, 0) _ _ [] _
      refine V_aload_n o dX8_far_59 rfl rfl ?_
      refine V_getIE (v := nI (c)) o dX8_far_60 rfl fl_X8_202 rfl ((congrFun (ho3 7 (by omega)).1 1).trans hl.1) ?_
      refine V_iret o rt dX8_far_63 rfl rfl ?_
      exact ⟨rfl, (ho.wd (by omega) (by omega)).tr (ho3.wd (by omega) (by omega)), hKt.rw hL ho3 hR3⟩
    | succ m ih =>
      intro t τ g c htn hct ho hl hR
      have ht : t < 16 := by omega
      have hWt : WRel 2 M L τ := hW.ln ho
      rw [itr_succ, lnC] at hR
      refine V_iload_n o dX8_far_14 rfl rfl ?_
      refine V_bipush (v := 16) o dX8_far_15 (by decide) ?_
      refine V_icmp_ge (tgt := 54) o dX8_far_17 (by decide) (fun c_17 => False.elim (absurd c_17 (nI_ge (b := 16) (by omega) (by omega)))) (fun c_17 => ?_)
      refine V_aload_n o dX8_far_20 rfl rfl ?_
      refine V_getR (t := 2) o dX8_far_21 rfl fl_X8_10 rfl ?_
      refine V_iload_n o dX8_far_24 rfl rfl ?_
      rcases (hB t ht).1 with hG0 | hG
      · refine V_cVn o rt dX8_far_25 ml_X8_154 (c7_find_n_2 hf hWt ht hG0) rfl rfl rfl (Nat.le_of_ble_eq_true rfl) rfl ?_
        refine V_astore_nN (ls' := [(3, _), (2, _), (1, _), (0, _)]) o dX8_far_28 rfl (by decide) rfl ?_
        refine V_aload_nN o dX8_far_29 rfl rfl ?_
        refine V_ifnull_n (tgt := 48) o dX8_far_30 (by decide) ?_
        refine V_iincV (v := nI (t + 1)) (ls' := [(2, _), (3, _), (1, _), (0, _)]) o dX8_far_48 rfl (ninc 1 rfl) (by decide) rfl ?_
        refine V_goto (tgt := 14) o dX8_far_51 (by decide) ?_
        rw [if_neg (fun q => absurd (hG0.symm.trans (of_decide_eq_true q).1.1) (by decide))] at hR
        exact V_sub (by simp) (ih (t + 1) τ g c (by omega) (by omega) ho hl hR)
      · refine V_cVr o rt dX8_far_25 ml_X8_154 (c7_find_2 hf hWt ht hG) rfl rfl rfl (Nat.le_of_ble_eq_true rfl) rfl ?_
        refine V_astore_n (ls' := [(3, _), (2, _), (1, _), (0, _)]) o dX8_far_28 rfl (by decide) rfl ?_
        refine V_aload_n o dX8_far_29 rfl rfl ?_
        refine V_ifnull_r o dX8_far_30 ?_
        refine V_aload_n o dX8_far_33 rfl rfl ?_
        refine V_getI o dX8_far_34 (kT9 t ht) fl_X8_238 (rT9 ht) ?_
        refine V_topI (v' := cLv M t) ((hWt.2.2 t ht).lv (hB t ht).2.2) ?_
        refine V_iconst (v := -1) o dX8_far_37 (by decide) ?_
        refine V_icmp_ne (tgt := 48) o dX8_far_38 (by decide) (fun c_38 => ?_) (fun c_38 => ?_)
        · refine V_iincV (v := nI (t + 1)) (ls' := [(2, _), (3, _), (1, _), (0, _)]) o dX8_far_48 rfl (ninc 1 rfl) (by decide) rfl ?_
          refine V_goto (tgt := 14) o dX8_far_51 (by decide) ?_
          rw [if_neg (fun q => c_38 ((cLv_0 (of_decide_eq_true q).1.2).trans (of_decide_eq_true q).2))] at hR
          exact V_sub (by simp) (ih (t + 1) τ g c (by omega) (by omega) ho hl hR)
        · refine V_aload_n o dX8_far_41 rfl rfl ?_
          refine V_aload_n o dX8_far_42 rfl rfl ?_
          refine V_iconst (v := 1) o dX8_far_43 (by decide) ?_
          refine V_iconst (v := 0) o dX8_far_44 (by decide) ?_
          refine V_callV o rt dX8_far_45 ml_X8_198 (c1_join_2 hf hWt hl (by omega) ht (bd := true) rfl (bz_t (by decide)).symm) rfl rfl rfl (Nat.le_of_ble_eq_true rfl) rfl (fun r_45 σ_45 q_45 => ?_)
          obtain ⟨rfl, ho2, h4⟩ := q_45
          show V sh0 w x mX8_far (0, 0) _ _ [] _
          refine V_iincV (v := nI (t + 1)) (ls' := [(2, _), (3, _), (1, _), (0, _)]) o dX8_far_48 rfl (ninc 1 rfl) (by decide) rfl ?_
          refine V_goto (tgt := 14) o dX8_far_51 (by decide) ?_
          obtain ⟨hp, hlv⟩ := cLv_at (hB t ht).2.2 c_38 (by decide)
          rw [if_pos (show faSel M t = true from decide_eq_true ⟨⟨hG, hp⟩, hlv⟩)] at hR
          exact V_sub (by simp) (ih (t + 1) σ_45 (qG (aheadC M true 0) t c g) (c + 1) (by omega) (by omega) (ho.tr ho2) h4 hR)
  refine V_aload_n o dX8_far_0 rfl rfl ?_
  refine V_getR (t := 2) o dX8_far_1 rfl fl_X8_10 rfl ?_
  refine V_getR (t := 7) o dX8_far_4 rfl fl_X8_189 rfl ?_
  refine V_astore_n (ls' := [(1, _), (0, _)]) o dX8_far_7 rfl (by decide) rfl ?_
  refine V_aload_n o dX8_far_8 rfl rfl ?_
  refine V_cVv o rt dX8_far_9 ml_X8_193 (c1_empty_2 hf) rfl rfl rfl (Nat.le_of_ble_eq_true rfl) rfl ?_
  refine V_iconst (v := 0) o dX8_far_12 (by decide) ?_
  refine V_istore_n (ls' := [(2, _), (1, _), (0, _)]) o dX8_far_13 rfl (by decide) rfl ?_
  exact V_sub (by simp; rfl) (jn 16 0 (wI σ 7 1 0) (fun _ => 0) 0 (by omega) (by omega) (Off.rf.wI (by omega) (by omega)) LnR_0 hGK)
theorem faM_at {M : Nat → Int32} {j : Nat} (h : j < 423) (h5 : j ≠ 5) : faM M j = M j := by
  unfold faM trM
  rw [uM_ne _ _ h5, if_pos h]
theorem c8_far {w : Wp} (hf : Fit sh0 w) {σ : Mm} {M : Nat → Int32} {L r n : Nat} {l : List Int64} {T : Nat → Int32} (hK : KR M L r l T n σ) (hF : Wf M L) (hB : Bo M) (hAr : Ar M) {M1 : Nat → Int32} (hM1 : faM M = M1) {LN : (Nat → Nat) × Nat} (hLN : lineM M1 true (faSel M1) = LN) : Ct sh0 w 2 mX8_far [.ref 1] σ (fun r' σ' => r' = some (.int (nI LN.2)) ∧ Off 1 67 σ σ' ∧ KR (M) (L) r (rowG LN.1 LN.2) (T) (n) σ') := by
  obtain ⟨G, K⟩ := LN
  have e : ∀ j, j < 423 → j ≠ 5 → M1 j = M j := fun j h h5 => by rw [← hM1]; exact faM_at h h5
  have e5 : M1 5 = 0 := by rw [← hM1]; exact uM_self _ _ _
  refine c8_far0 hf hK hF hB ((lineC_eq2 (fun t ht => ?_) (fun a b ha hb h1 h2 hab => ?_)).trans hLN)
  · unfold faSel isG
    rw [e (215 + t) (by omega) (by omega), e (343 + t) (by omega) (by omega), e (391 + t) (by omega) (by omega)]
  · have e2 : aheadC M true 0 a b = aheadC M1 true (M1 5) a b := by
      unfold aheadC
      rw [e5, e (231 + a) (by omega) (by omega), e (231 + b) (by omega) (by omega), e (263 + a) (by omega) (by omega), e (263 + b) (by omega) (by omega), e (247 + a) (by omega) (by omega), e (247 + b) (by omega) (by omega)]
    rw [e2]
    refine aheadC_soon (Or.inl e5) ?_
    rw [e (247 + a) (by omega) (by omega), e (247 + b) (by omega) (by omega)]
    exact hAr a b ha hb (of_decide_eq_true h1).1.1 (of_decide_eq_true h2).1.1 hab
theorem nx_aux {M : Nat → Int32} (hd : ∀ t, t < 16 → isG M t → 0 ≤ M (231 + t)) : ∀ n i (o : Option Nat) (v : Int32), i + n = 16 → (o = none → v = -1) → (∀ u, o = some u → u < 16 ∧ isG M u ∧ v = M (231 + u)) →
    (itr (fdF M) i n o = none → itr (nxF M) i n v = -1) ∧ ∀ u, itr (fdF M) i n o = some u → u < 16 ∧ isG M u ∧ itr (nxF M) i n v = M (231 + u)
  | 0, _, _, _, _, h1, h2 => ⟨h1, h2⟩
  | n + 1, i, o, v, hi, h1, h2 => by
    rw [itr_succ, itr_succ]
    by_cases hG : isG M i
    · cases o with
      | none =>
        have e := h1 rfl
        subst e
        rw [fdF_0 hG, nxF, if_pos ⟨hG, Or.inl (by decide)⟩]
        exact nx_aux hd n (i + 1) (some i) (M (231 + i)) (by omega) (fun q => by cases q) (fun u q => by cases q; exact ⟨by omega, hG, rfl⟩)
      | some u =>
        obtain ⟨hu, hGu, e⟩ := h2 u rfl
        have hnn : ¬ v < 0 := by rw [e]; exact Int32.not_lt.mpr (hd u hu hGu)
        by_cases hlt : M (231 + i) < M (231 + u)
        · rw [fdF_lt hG hlt, nxF, if_pos ⟨hG, Or.inr (by rw [e]; exact hlt)⟩]
          exact nx_aux hd n (i + 1) (some i) (M (231 + i)) (by omega) (fun q => by cases q) (fun u q => by cases q; exact ⟨by omega, hG, rfl⟩)
        · rw [fdF_ge hG hlt, nxF, if_neg (fun q => q.2.elim hnn (fun q => hlt (by rw [← e]; exact q)))]
          exact nx_aux hd n (i + 1) (some u) v (by omega) h1 h2
    · rw [fdF_n hG, nxF, if_neg (fun q => hG q.1)]
      exact nx_aux hd n (i + 1) o v (by omega) h1 h2
theorem nx_eq {M : Nat → Int32} (hd : ∀ t, t < 16 → isG M t → 0 ≤ M (231 + t)) : (fdM M = none → nxM M = -1) ∧ ∀ u, fdM M = some u → u < 16 ∧ isG M u ∧ nxM M = M (231 + u) :=
  nx_aux hd 16 0 none (-1) (by omega) (fun _ => rfl) (fun u q => by cases q)
set_option maxRecDepth 20000 in
set_option maxHeartbeats 4000000 in
theorem c8_next0 {w : Wp} (hf : Fit sh0 w) {σ : Mm} {M : Nat → Int32} {L r n : Nat} {l : List Int64} {T : Nat → Int32} (hK : KR M L r l T n σ) (hF : Wf M L) (hB : Bo M) {u : Nat} (hu : u < 16) (hfo : fdM M = some u) {G : Nat → Nat} {K : Nat} (hGK : lineC M false (M 5) (nxSel M (M (231 + u))) = (G, K)) : Ct sh0 w 3 mX8_next [.ref 1] σ (fun r' σ' => r' = some (.int (M (231 + u))) ∧ Off 1 67 σ σ' ∧ KR (M) (L) r (rowG G K) (T) (n) σ') := by
  have hL := hF.2.2.1
  have hW := hK.1
  unfold lineC at hGK
  refine Ct_of hf (by decide) rfl (Nat.le_of_ble_eq_true rfl) (fun x o rt => ?_)
  have jn : ∀ m t (τ : Mm) (g : Nat → Nat) (c : Nat), t + m = 16 → c ≤ t → Off 7 9 σ τ → LnR 2 g c τ → itr (lnC M false (M 5) (nxSel M (M (231 + u)))) t m (g, c) = (G, K) → V sh0 w x mX8_next (0, 0) 29 [(3, .int (nI t)), (2, .ref 7), (1, .ref (9 + u)), (0, .ref 1)] [] τ := by
    intro m
    induction m with
    | zero =>
      intro t τ g c htn hct ho hl hR
      have h16 : t = 16 := by omega
      obtain ⟨rfl, rfl⟩ := Prod.mk.inj hR
      have hWt : WRel 2 M L τ := hW.ln ho
      have hKt : KR M L r l T n τ := hK.wk (ho.wd (by omega) (by omega)) hWt (fun _ _ _ _ _ => rfl)
      refine V_iload_n o dX8_next_29 rfl rfl ?_
      refine V_bipush (v := 16) o dX8_next_30 (by decide) ?_
      refine V_icmp_ge (tgt := 82) o dX8_next_32 (by decide) (fun c_32 => ?_) (fun c_32 => False.elim (c_32 (by rw [h16]; decide)))
      refine V_aload_n o dX8_next_82 rfl rfl ?_
      refine V_aload_n o dX8_next_83 rfl rfl ?_
      refine V_callV o rt dX8_next_84 ml_X8_256 (c8_tellLine hf hWt hl) rfl rfl rfl (Nat.le_of_ble_eq_true rfl) rfl (fun r_84 σ_84 q_84 => ?_)
      obtain ⟨rfl, ho3, hR3⟩ := q_84
      show V sh0 w x mX8_next (0, 0) _ _ [] _
      refine V_aload_n o dX8_next_87 rfl rfl ?_
      refine V_getI o dX8_next_88 (kT9 u hu) fl_X8_183 (rT9 hu) ?_
      refine V_topI (v' := M (231 + u)) ((congrFun (ho3 (9 + u) (by omega)).1 2).trans (hWt.2.2 u hu).due) ?_
      refine V_iret o rt dX8_next_91 rfl rfl ?_
      exact ⟨rfl, (ho.wd (by omega) (by omega)).tr (ho3.wd (by omega) (by omega)), hKt.rw hL ho3 hR3⟩
    | succ m ih =>
      intro t τ g c htn hct ho hl hR
      have ht : t < 16 := by omega
      have hWt : WRel 2 M L τ := hW.ln ho
      rw [itr_succ, lnC] at hR
      refine V_iload_n o dX8_next_29 rfl rfl ?_
      refine V_bipush (v := 16) o dX8_next_30 (by decide) ?_
      refine V_icmp_ge (tgt := 82) o dX8_next_32 (by decide) (fun c_32 => False.elim (absurd c_32 (nI_ge (b := 16) (by omega) (by omega)))) (fun c_32 => ?_)
      refine V_aload_n o dX8_next_35 rfl rfl ?_
      refine V_getR (t := 2) o dX8_next_36 rfl fl_X8_10 rfl ?_
      refine V_iload_n o dX8_next_39 rfl rfl ?_
      by_cases hG : isG M t
      · refine V_cVr o rt dX8_next_40 ml_X8_186 (c7_run_2 hf hWt ht hG) rfl rfl rfl (Nat.le_of_ble_eq_true rfl) rfl ?_
        refine V_astore (ls' := [(4, _), (3, _), (2, _), (1, _), (0, _)]) o dX8_next_43 (by decide) rfl ?_
        refine V_aload o dX8_next_45 rfl ?_
        refine V_ifnull_r o dX8_next_47 ?_
        refine V_aload o dX8_next_50 rfl ?_
        refine V_getI o dX8_next_52 (kT9 t ht) fl_X8_183 (rT9 ht) ?_
        refine V_topI (v' := M (231 + t)) (hWt.2.2 t ht).due ?_
        refine V_aload_n o dX8_next_55 rfl rfl ?_
        refine V_getI o dX8_next_56 (kT9 u hu) fl_X8_183 (rT9 hu) ?_
        refine V_topI (v' := M (231 + u)) (hWt.2.2 u hu).due ?_
        refine V_icmp_ne (tgt := 76) o dX8_next_59 (by decide) (fun c_59 => ?_) (fun c_59 => ?_)
        · refine V_iincV (v := nI (t + 1)) (ls' := [(3, _), (4, _), (2, _), (1, _), (0, _)]) o dX8_next_76 rfl (ninc 1 rfl) (by decide) rfl ?_
          refine V_goto (tgt := 29) o dX8_next_79 (by decide) ?_
          rw [if_neg (fun q => c_59 (of_decide_eq_true q).2)] at hR
          exact V_sub (by simp) (ih (t + 1) τ g c (by omega) (by omega) ho hl hR)
        · refine V_aload_n o dX8_next_62 rfl rfl ?_
          refine V_aload o dX8_next_63 rfl ?_
          refine V_iconst (v := 0) o dX8_next_65 (by decide) ?_
          refine V_aload_n o dX8_next_66 rfl rfl ?_
          refine V_getR (t := 2) o dX8_next_67 rfl fl_X8_10 rfl ?_
          refine V_getI o dX8_next_70 rfl fl_X8_83 rfl ?_
          refine V_topI (v' := M 5) hWt.1.2.1 ?_
          refine V_callV o rt dX8_next_73 ml_X8_198 (c1_join_2 hf hWt hl (by omega) ht (bd := false) rfl (bz_f (by decide)).symm) rfl rfl rfl (Nat.le_of_ble_eq_true rfl) rfl (fun r_73 σ_73 q_73 => ?_)
          obtain ⟨rfl, ho2, h4⟩ := q_73
          show V sh0 w x mX8_next (0, 0) _ _ [] _
          refine V_iincV (v := nI (t + 1)) (ls' := [(3, _), (4, _), (2, _), (1, _), (0, _)]) o dX8_next_76 rfl (ninc 1 rfl) (by decide) rfl ?_
          refine V_goto (tgt := 29) o dX8_next_79 (by decide) ?_
          rw [if_pos (show nxSel M (M (231 + u)) t = true from decide_eq_true ⟨hG, c_59⟩)] at hR
          exact V_sub (by simp) (ih (t + 1) σ_73 (qG (aheadC M false (M 5)) t c g) (c + 1) (by omega) (by omega) (ho.tr ho2) h4 hR)
      · refine V_cVn o rt dX8_next_40 ml_X8_186 (c7_run_n_2 hf hWt hB ht hG) rfl rfl rfl (Nat.le_of_ble_eq_true rfl) rfl ?_
        refine V_astoreN (ls' := [(4, _), (3, _), (2, _), (1, _), (0, _)]) o dX8_next_43 (by decide) rfl ?_
        refine V_aloadN o dX8_next_45 rfl ?_
        refine V_ifnull_n (tgt := 76) o dX8_next_47 (by decide) ?_
        refine V_iincV (v := nI (t + 1)) (ls' := [(3, _), (4, _), (2, _), (1, _), (0, _)]) o dX8_next_76 rfl (ninc 1 rfl) (by decide) rfl ?_
        refine V_goto (tgt := 29) o dX8_next_79 (by decide) ?_
        rw [if_neg (fun q => hG (of_decide_eq_true q).1)] at hR
        exact V_sub (by simp) (ih (t + 1) τ g c (by omega) (by omega) ho hl hR)
  refine V_aload_n o dX8_next_0 rfl rfl ?_
  refine V_getR (t := 2) o dX8_next_1 rfl fl_X8_10 rfl ?_
  refine V_cVr o rt dX8_next_4 ml_X8_265 (c7_firstDue hf hW hB hfo) rfl rfl rfl (Nat.le_of_ble_eq_true rfl) rfl ?_
  refine V_astore_n (ls' := [(1, _), (0, _)]) o dX8_next_7 rfl (by decide) rfl ?_
  refine V_aload_n o dX8_next_8 rfl rfl ?_
  refine V_ifnonnull_r (tgt := 15) o dX8_next_9 (by decide) ?_
  refine V_aload_n o dX8_next_15 rfl rfl ?_
  refine V_getR (t := 2) o dX8_next_16 rfl fl_X8_10 rfl ?_
  refine V_getR (t := 7) o dX8_next_19 rfl fl_X8_189 rfl ?_
  refine V_astore_n (ls' := [(2, _), (1, _), (0, _)]) o dX8_next_22 rfl (by decide) rfl ?_
  refine V_aload_n o dX8_next_23 rfl rfl ?_
  refine V_cVv o rt dX8_next_24 ml_X8_193 (c1_empty_2 hf) rfl rfl rfl (Nat.le_of_ble_eq_true rfl) rfl ?_
  refine V_iconst (v := 0) o dX8_next_27 (by decide) ?_
  refine V_istore_n (ls' := [(3, _), (2, _), (1, _), (0, _)]) o dX8_next_28 rfl (by decide) rfl ?_
  exact V_sub (by simp; rfl) (jn 16 0 (wI σ 7 1 0) (fun _ => 0) 0 (by omega) (by omega) (Off.rf.wI (by omega) (by omega)) LnR_0 hGK)
set_option maxRecDepth 20000 in
set_option maxHeartbeats 4000000 in
theorem c8_next_n {w : Wp} (hf : Fit sh0 w) {σ : Mm} {M : Nat → Int32} {L r n : Nat} {l : List Int64} {T : Nat → Int32} (hK : KR M L r l T n σ) (hF : Wf M L) (hB : Bo M) (hfo : fdM M = none) : Ct sh0 w 3 mX8_next [.ref 1] σ (fun r' σ' => r' = some (.int (-2)) ∧ Off 1 67 σ σ' ∧ KR (M) (L) r (l) (T) (n) σ') := by
  have hL := hF.2.2.1
  have hW := hK.1
  refine Ct_of hf (by decide) rfl (Nat.le_of_ble_eq_true rfl) (fun x o rt => ?_)
  refine V_aload_n o dX8_next_0 rfl rfl ?_
  refine V_getR (t := 2) o dX8_next_1 rfl fl_X8_10 rfl ?_
  refine V_cVn o rt dX8_next_4 ml_X8_265 (c7_firstDue hf hW hB hfo) rfl rfl rfl (Nat.le_of_ble_eq_true rfl) rfl ?_
  refine V_astore_nN (ls' := [(1, _), (0, _)]) o dX8_next_7 rfl (by decide) rfl ?_
  refine V_aload_nN o dX8_next_8 rfl rfl ?_
  refine V_ifnonnull_n o dX8_next_9 ?_
  refine V_bipush (v := -2) o dX8_next_12 (by decide) ?_
  refine V_iret o rt dX8_next_14 rfl rfl ?_
  exact ⟨rfl, Off.rf, hK⟩
theorem c8_next {w : Wp} (hf : Fit sh0 w) {σ : Mm} {M : Nat → Int32} {L r n : Nat} {l : List Int64} {T : Nat → Int32} (hK : KR M L r l T n σ) (hF : Wf M L) (hB : Bo M) (hr5 : M 5 = 0 ∨ M 5 = 1 ∨ M 5 = 2) (hAr : Ar M) (hd : ∀ t, t < 16 → isG M t → 0 ≤ M (231 + t)) {v : Int32} (hv : nxM M = v) {LN : (Nat → Nat) × Nat} (hLN : lineM M false (nxSel M v) = LN) (hv0 : ¬ v < 0) : Ct sh0 w 3 mX8_next [.ref 1] σ (fun r' σ' => r' = some (.int v) ∧ Off 1 67 σ σ' ∧ KR (M) (L) r (rowG LN.1 LN.2) (T) (n) σ') := by
  obtain ⟨h1, h2⟩ := nx_eq hd
  obtain ⟨G, K⟩ := LN
  cases hfo : fdM M with
  | none => exact absurd (by rw [← hv, h1 hfo]; decide) hv0
  | some u =>
    obtain ⟨hu, hGu, e⟩ := h2 u hfo
    have e2 : v = M (231 + u) := hv.symm.trans e
    subst e2
    exact c8_next0 hf hK hF hB hu hfo ((lineC_M hr5 hAr (fun t _ h => (of_decide_eq_true h).1.1)).trans hLN)
theorem c8_next_no {w : Wp} (hf : Fit sh0 w) {σ : Mm} {M : Nat → Int32} {L r n : Nat} {l : List Int64} {T : Nat → Int32} (hK : KR M L r l T n σ) (hF : Wf M L) (hB : Bo M) (hd : ∀ t, t < 16 → isG M t → 0 ≤ M (231 + t)) (hv0 : nxM M < 0) : Ct sh0 w 3 mX8_next [.ref 1] σ (fun r' σ' => r' = some (.int (-2)) ∧ Off 1 67 σ σ' ∧ KR (M) (L) r (l) (T) (n) σ') := by
  obtain ⟨h1, h2⟩ := nx_eq hd
  cases hfo : fdM M with
  | none => exact c8_next_n hf hK hF hB hfo
  | some u =>
    obtain ⟨hu, hGu, e⟩ := h2 u hfo
    exact absurd (hd u hu hGu) (by rw [← e]; exact Int32.not_le.mpr hv0)
