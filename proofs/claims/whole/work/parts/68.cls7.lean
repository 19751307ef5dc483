theorem WRel.ln {b L : Nat} {M : Nat → Int32} {σ τ : Mm} (hW : WRel b M L σ) (ho : Off (b + 5) (b + 7) σ τ) : WRel b M L τ :=
  ⟨by rw [(ho b (by omega)).1]; exact hW.1, ⟨by rw [(ho (b + 1) (by omega)).1]; exact hW.2.1.1, by rw [(ho (b + 1) (by omega)).1]; exact hW.2.1.2.1, fun q hq => by rw [(ho (b + 1 + 1) (by omega)).1]; exact hW.2.1.2.2.1 q hq, fun q hq => by rw [(ho (b + 1 + 2) (by omega)).1]; exact hW.2.1.2.2.2 q hq⟩, fun u hu => by rw [(ho (b + 7 + u) (by omega)).1]; exact hW.2.2 u hu⟩
theorem Lo_Bo {M M' : Nat → Int32} (h : Lo M M') (hB : Bo M) : Bo M' := Bo_same hB (fun j h1 h2 _ => h j (by omega) (by omega))
/-- arrivals of timers that are set are apart -/
def Ar (M : Nat → Int32) : Prop := ∀ a b, a < 16 → b < 16 → isT M a → isT M b → a ≠ b → M (247 + a) ≠ M (247 + b)
/-- what the class's answers need of a desk -/
def Cv (M : Nat → Int32) (L r : Nat) : Prop := Iv M L r ∧ Bo M ∧ (M 5 = 0 ∨ M 5 = 1 ∨ M 5 = 2) ∧ Ar M
theorem LnR_0 {b : Nat} {σ : Mm} {g : Nat → Nat} : LnR b g 0 (wI σ (b + 5) 1 0) := ⟨wI_at.trans rfl, Nat.zero_le _, fun j hj => absurd hj (Nat.not_lt_zero j)⟩
set_option maxRecDepth 20000 in
set_option maxHeartbeats 4000000 in
theorem c7_tick0_2 {w : Wp} (hf : Fit sh0 w) {σ : Mm} {M : Nat → Int32} {L : Nat} (hW0 : WRel 2 M L σ) (hF0 : Wf M L) (hB0 : Bo M) {A : Nat → Int32} (hA0 : tkA M L = A) {G : Nat → Nat} {K : Nat} (hG0 : lineC A false (A 5) (tkSel A (M 6 + 1)) = (G, K)) (hD : Dg G K) (hg : ∀ k, k < K → G k < 16 ∧ A (343 + G k) = 0 ∧ Pq A (G k)) {R : Nat → Int32} (hcg : ∀ j, j < 423 → (j < 7 ∨ j = 8 ∨ j = 9 ∨ 215 ≤ j) → R j = layC (ringC A G K) L G K j) : Ct sh0 w 3 mX7_tick [.ref 2] σ (fun r' σ' => r' = none ∧ Off 2 25 σ σ' ∧ LnR 2 G K σ' ∧ (∀ j, j < K → σ'.1 (2 + 7 + G j) 3 = M (231 + G j)) ∧ WRel 2 R L σ') := by
  have hL := hF0.2.2.1
  have hL1 := hF0.2.1
  obtain ⟨clk, hclk⟩ : ∃ c, M 6 + 1 = c := ⟨_, rfl⟩
  have h1 := WRel_clk (v := M 6 + 1) hW0 hL
  have hA6 : A 6 = clk := by rw [← hA0, Lo.tkA 6 (by omega) (by omega), uM_self]; exact hclk
  have hFA : Wf A L := by rw [← hA0]; exact Lo.tkA.wf (Wf_uM hF0 (by omega))
  have hBA : Bo A := by rw [← hA0]; exact Lo_Bo Lo.tkA (Bo_same hB0 (fun j h1 h2 _ => uM_ne _ _ (by omega)))
  have hdM : ∀ j, 231 ≤ j → j < 247 → A j = M j := fun j h1 h2 => by rw [← hA0]; exact Lo6 Lo.tkA (by omega) (by omega) (by omega)
  have hB1 : Bo (uM M 6 (M 6 + 1)) := Bo_same hB0 (fun j h1 h2 _ => uM_ne _ _ (by omega))
  have hF1 : Wf (uM M 6 (M 6 + 1)) L := Wf_uM hF0 (by omega)
  obtain ⟨TB, hTB⟩ : ∃ T, tkB M L = T := ⟨_, rfl⟩
  have hloB : Lo (uM M 6 (M 6 + 1)) TB := by rw [← hTB]; exact Lo.tkB
  unfold tkA at hA0
  rw [hTB] at hA0
  unfold tkB at hTB
  unfold lineC at hG0
  rw [hclk] at hA0 hTB hG0 h1 hB1 hF1 hloB
  have h16 : uM M 6 clk 6 = clk := uM_self _ _ _
  generalize uM M 6 clk = M1 at hTB h1 hB1 hF1 hloB h16
  obtain ⟨sl, hsl⟩ : ∃ s, rmI clk (A 1) = s := ⟨_, rfl⟩
  have hlr0 : lineC A false (A 5) (tkSel A clk) = (G, K) := hG0
  obtain ⟨RC, hRC⟩ : ∃ RC, layC (ringC A G K) L G K = RC := ⟨_, rfl⟩
  rw [hRC] at hcg
  refine Ct_of hf (by decide) rfl (Nat.le_of_ble_eq_true rfl) (fun x o rt => ?_)
  have jn : ∀ m t (τ : Mm) (g : Nat → Nat) (n : Nat), t + m = 16 → n ≤ t → Off 2 25 σ τ → WRel 2 A L τ → LnR 2 g n τ → itr (lnC A false (A 5) (tkSel A clk)) t m (g, n) = (G, K) → V sh0 w x mX7_tick (0, 0) 108 [(2, .int (nI t)), (1, .int sl), (0, .ref 2)] [] τ := by
    have hB := hBA
    intro m
    induction m with
    | zero =>
      intro t τ g n htn hnt ho hW hl hR
      have h16 : t = 16 := by omega
      obtain ⟨rfl, rfl⟩ := Prod.mk.inj hR
      refine V_iload_n o dX7_tick_108 rfl rfl ?_
      refine V_bipush (v := 16) o dX7_tick_109 (by decide) ?_
      refine V_icmp_ge (tgt := 158) o dX7_tick_111 (by decide) (fun c_111 => ?_) (fun c_111 => False.elim (c_111 (by rw [h16]; decide)))
      refine V_aload_n o dX7_tick_158 rfl rfl ?_
      refine V_callV o rt dX7_tick_159 ml_X7_122 (c7_ringLine_2 hf hW hFA hBA hl hD hg hRC) rfl rfl rfl (Nat.le_of_ble_eq_true rfl) rfl (fun r_159 σ_159 q_159 => ?_)
      obtain ⟨rfl, ho2, hd2, h4⟩ := q_159
      show V sh0 w x mX7_tick (0, 0) _ _ [] _
      refine V_ret o rt dX7_tick_162 rfl ?_
      exact ⟨rfl, ho.tr ho2.off, hl.offL ho2, fun j hj => (hd2 j hj).trans (hdM _ (by omega) (by have := (hg j hj).1; omega)), h4.cg hL hcg⟩
    | succ m ih =>
      intro t τ g n htn hnt ho hW hl hR
      have ht : t < 16 := by omega
      rw [itr_succ, lnC] at hR
      refine V_iload_n o dX7_tick_108 rfl rfl ?_
      refine V_bipush (v := 16) o dX7_tick_109 (by decide) ?_
      refine V_icmp_ge (tgt := 158) o dX7_tick_111 (by decide) (fun c_111 => False.elim (absurd c_111 (nI_ge (b := 16) (by omega) (by omega)))) (fun c_111 => ?_)
      refine V_aload_n o dX7_tick_114 rfl rfl ?_
      refine V_iload_n o dX7_tick_115 rfl rfl ?_
      rcases (hB t ht).1 with hG0 | hG
      · refine V_cVn o rt dX7_tick_116 ml_X7_62 (c7_find_n_2 hf hW ht hG0) rfl rfl rfl (Nat.le_of_ble_eq_true rfl) rfl ?_
        refine V_astore_nN (ls' := [(3, _), (2, _), (1, _), (0, _)]) o dX7_tick_119 rfl (by decide) rfl ?_
        refine V_aload_nN o dX7_tick_120 rfl rfl ?_
        refine V_ifnull_n (tgt := 152) o dX7_tick_121 (by decide) ?_
        refine V_iincV (v := nI (t + 1)) (ls' := [(2, _), (3, _), (1, _), (0, _)]) o dX7_tick_152 rfl (ninc 1 rfl) (by decide) rfl ?_
        refine V_goto (tgt := 108) o dX7_tick_155 (by decide) ?_
        rw [if_neg (fun q => absurd (hG0.symm.trans (of_decide_eq_true q).1.1) (by decide))] at hR
        exact V_sub (by simp) (ih (t + 1) τ g n (by omega) (by omega) ho hW hl hR)
      · refine V_cVr o rt dX7_tick_116 ml_X7_62 (c7_find_2 hf hW ht hG) rfl rfl rfl (Nat.le_of_ble_eq_true rfl) rfl ?_
        refine V_astore_n (ls' := [(3, _), (2, _), (1, _), (0, _)]) o dX7_tick_119 rfl (by decide) rfl ?_
        refine V_aload_n o dX7_tick_120 rfl rfl ?_
        refine V_ifnull_r o dX7_tick_121 ?_
        refine V_aload_n o dX7_tick_124 rfl rfl ?_
        refine V_getI o dX7_tick_125 (kT9 t ht) fl_X7_75 (rT9 ht) ?_
        refine V_topI (v' := cLv A t) ((hW.2.2 t ht).lv (hB t ht).2.2) ?_
        refine V_if_ne (tgt := 152) o dX7_tick_128 (by decide) (fun c_128 => ?_) (fun c_128 => ?_)
        · refine V_iincV (v := nI (t + 1)) (ls' := [(2, _), (3, _), (1, _), (0, _)]) o dX7_tick_152 rfl (ninc 1 rfl) (by decide) rfl ?_
          refine V_goto (tgt := 108) o dX7_tick_155 (by decide) ?_
          rw [if_neg (fun q => c_128 ((cLv_0 (of_decide_eq_true q).1.2).trans (of_decide_eq_true q).2.1))] at hR
          exact V_sub (by simp) (ih (t + 1) τ g n (by omega) (by omega) ho hW hl hR)
        · refine V_aload_n o dX7_tick_131 rfl rfl ?_
          refine V_getI o dX7_tick_132 (kT9 t ht) fl_X7_78 (rT9 ht) ?_
          refine V_topI (v' := cSl A t) ((hW.2.2 t ht).sl (hB t ht).2.2) ?_
          refine V_iload_n o dX7_tick_135 rfl rfl ?_
          refine V_icmp_ne (tgt := 152) o dX7_tick_136 (by decide) (fun c_136 => ?_) (fun c_136 => ?_)
          · refine V_iincV (v := nI (t + 1)) (ls' := [(2, _), (3, _), (1, _), (0, _)]) o dX7_tick_152 rfl (ninc 1 rfl) (by decide) rfl ?_
            refine V_goto (tgt := 108) o dX7_tick_155 (by decide) ?_
            rw [if_neg (fun q => c_136 ((cSl_0 (of_decide_eq_true q).1.2).trans ((of_decide_eq_true q).2.2.trans hsl)))] at hR
            exact V_sub (by simp) (ih (t + 1) τ g n (by omega) (by omega) ho hW hl hR)
          · refine V_aload_n o dX7_tick_139 rfl rfl ?_
            refine V_getR (t := 7) o dX7_tick_140 rfl fl_X7_27 rfl ?_
            refine V_aload_n o dX7_tick_143 rfl rfl ?_
            refine V_iconst (v := 0) o dX7_tick_144 (by decide) ?_
            refine V_aload_n o dX7_tick_145 rfl rfl ?_
            refine V_getI o dX7_tick_146 rfl fl_X7_49 rfl ?_
            refine V_topI (v' := A 5) hW.1.2.1 ?_
            refine V_callV o rt dX7_tick_149 ml_X7_118 (c1_join_2 hf hW hl (by omega) ht (bd := false) rfl (bz_f (by decide)).symm) rfl rfl rfl (Nat.le_of_ble_eq_true rfl) rfl (fun r_149 σ_149 q_149 => ?_)
            obtain ⟨rfl, ho2, h4⟩ := q_149
            show V sh0 w x mX7_tick (0, 0) _ _ [] _
            refine V_iincV (v := nI (t + 1)) (ls' := [(2, _), (3, _), (1, _), (0, _)]) o dX7_tick_152 rfl (ninc 1 rfl) (by decide) rfl ?_
            refine V_goto (tgt := 108) o dX7_tick_155 (by decide) ?_
            obtain ⟨hp, hlv⟩ := cLv_at (hB t ht).2.2 c_128 (by decide)
            rw [if_pos (show tkSel A clk t = true from decide_eq_true ⟨⟨hG, hp⟩, hlv, (cSl_0 hp).symm.trans (c_136.trans hsl.symm)⟩)] at hR
            exact V_sub (by simp) (ih (t + 1) σ_149 (qG (aheadC A false (A 5)) t n g) (n + 1) (by omega) (by omega) (ho.tr (ho2.wd (by omega) (by omega))) (hW.ln ho2) h4 hR)
  have after : ∀ τ : Mm, Off 2 25 σ τ → WRel 2 A L τ → V sh0 w x mX7_tick (0, 0) 86 [(0, .ref 2)] [] τ := by
    intro τ ho hW
    refine V_aload_n o dX7_tick_86 rfl rfl ?_
    refine V_getR (t := 3) o dX7_tick_87 rfl fl_X7_12 rfl ?_
    refine V_iconst (v := 0) o dX7_tick_90 (by decide) ?_
    refine V_aload_n o dX7_tick_91 rfl rfl ?_
    refine V_getI o dX7_tick_92 rfl fl_X7_45 rfl ?_
    refine V_topI (v' := clk) (hW.1.1.trans hA6) ?_
    refine V_cVi o rt dX7_tick_95 ml_X7_85 (c4_slotFor_3 hf hW.2.1 hFA (k := 0) (by omega)) rfl rfl rfl (Nat.le_of_ble_eq_true rfl) rfl ?_
    refine V_topI (v' := sl) (by show rmI (clk / 1) (A 1) = sl; rw [div1]; exact hsl) ?_
    refine V_istore_n (ls' := [(1, _), (0, _)]) o dX7_tick_98 rfl (by decide) rfl ?_
    refine V_aload_n o dX7_tick_99 rfl rfl ?_
    refine V_getR (t := 7) o dX7_tick_100 rfl fl_X7_27 rfl ?_
    refine V_cVv o rt dX7_tick_103 ml_X7_115 (c1_empty_2 hf) rfl rfl rfl (Nat.le_of_ble_eq_true rfl) rfl ?_
    refine V_iconst (v := 0) o dX7_tick_106 (by decide) ?_
    refine V_istore_n (ls' := [(2, _), (1, _), (0, _)]) o dX7_tick_107 rfl (by decide) rfl ?_
    exact V_sub (by simp; rfl) (jn 16 0 (wI τ 7 1 0) (fun _ => 0) 0 (by omega) (by omega) (ho.wI (by omega) (by omega)) (hW.ln (Off.rf.wI (by omega) (by omega))) LnR_0 hG0)
  have lvl : ∀ lv (τ : Mm) (N : Nat → Int32), lv < L → Off 2 25 σ τ → WRel 2 N L τ → Bo N → Wf N L → N 6 = clk → mvDn L clk lv N = A → V sh0 w x mX7_tick (0, 0) 41 [(1, .int (nI lv)), (0, .ref 2)] [] τ := by
    intro lv
    induction lv with
    | zero =>
      intro τ N hlv ho hW hB hF hc hR
      have hs : N = A := hR
      subst hs
      refine V_iload_n o dX7_tick_41 rfl rfl ?_
      refine V_if_le (tgt := 86) o dX7_tick_42 (by decide) (fun c_42 => ?_) (fun c_42 => False.elim (c_42 (Int32.le_refl _)))
      exact V_sub (by simp) (after τ ho hW)
    | succ lv ih =>
      intro τ N hlv ho hW hB hF hc hR
      rw [mvDn] at hR
      obtain ⟨N2, hN2⟩ : ∃ N2, mvLv N L clk (lv + 1) = N2 := ⟨_, rfl⟩
      have hlo : Lo N N2 := by rw [← hN2]; exact Lo.lv
      rw [hN2] at hR
      unfold mvLv at hN2
      obtain ⟨s, hs, hs1, hs2⟩ := Wf_span hF (lv + 1) (by omega)
      have hs3 : s < 2147483648 := by
        have : (16 : Nat) ^ (lv + 1) ≤ 16 ^ 4 := Nat.pow_le_pow_right (by omega) (by omega)
        omega
      rw [hs] at hN2
      refine V_iload_n o dX7_tick_41 rfl rfl ?_
      refine V_if_le (tgt := 86) o dX7_tick_42 (by decide) (fun c_42 => False.elim (absurd c_42 (nI_ge (a := 0) (by omega) (by omega)))) (fun c_42 => ?_)
      refine V_aload_n o dX7_tick_45 rfl rfl ?_
      refine V_getI o dX7_tick_46 rfl fl_X7_45 rfl ?_
      refine V_topI (v' := clk) (hW.1.1.trans hc) ?_
      refine V_aload_n o dX7_tick_49 rfl rfl ?_
      refine V_getR (t := 3) o dX7_tick_50 rfl fl_X7_12 rfl ?_
      refine V_iload_n o dX7_tick_53 rfl rfl ?_
      refine V_cVi o rt dX7_tick_54 ml_X7_108 (c4_spanOf_3 hf hW.2.1 hL hlv) rfl rfl rfl (Nat.le_of_ble_eq_true rfl) rfl ?_
      refine V_topI (v' := nI s) hs ?_
      refine V_cSNi o rt dX7_tick_57 ms_X7_98 (c8_isMultiple hf hs1 hs3) rfl rfl (Nat.le_of_ble_eq_true rfl) rfl ?_
      refine V_if_eq (tgt := 80) o dX7_tick_60 (by decide) (fun c_60 => ?_) (fun c_60 => ?_)
      · refine V_iincV (v := nI (lv)) (ls' := [(1, _), (0, _)]) o dX7_tick_80 rfl (ndec rfl) (by decide) rfl ?_
        refine V_goto (tgt := 41) o dX7_tick_83 (by decide) ?_
        rw [if_neg (bz_0.mp c_60)] at hN2
        subst hN2
        exact V_sub (by simp) (ih τ N (by omega) ho hW hB hF hc hR)
      · refine V_aload_n o dX7_tick_63 rfl rfl ?_
        refine V_iload_n o dX7_tick_64 rfl rfl ?_
        refine V_aload_n o dX7_tick_65 rfl rfl ?_
        refine V_getR (t := 3) o dX7_tick_66 rfl fl_X7_12 rfl ?_
        refine V_iload_n o dX7_tick_69 rfl rfl ?_
        refine V_aload_n o dX7_tick_70 rfl rfl ?_
        refine V_getI o dX7_tick_71 rfl fl_X7_45 rfl ?_
        refine V_topI (v' := clk) (hW.1.1.trans hc) ?_
        refine V_cVi o rt dX7_tick_74 ml_X7_85 (c4_slotFor_3 hf hW.2.1 hF hlv) rfl rfl rfl (Nat.le_of_ble_eq_true rfl) rfl ?_
        refine V_topI (v' := rmI (clk / nI s) (N (1 + (lv + 1)))) (by rw [hs]) ?_
        refine V_callV o rt dX7_tick_77 ml_X7_111 (c7_moveFrom_2 hf hW hB hF hc (lv := lv + 1) (by omega) rfl) rfl rfl rfl (Nat.le_of_ble_eq_true rfl) rfl (fun r_77 σ_77 q_77 => ?_)
        obtain ⟨rfl, ho2, hd2, h4⟩ := q_77
        show V sh0 w x mX7_tick (0, 0) _ _ [] _
        refine V_iincV (v := nI (lv)) (ls' := [(1, _), (0, _)]) o dX7_tick_80 rfl (ndec rfl) (by decide) rfl ?_
        refine V_goto (tgt := 41) o dX7_tick_83 (by decide) ?_
        rw [if_pos (bz_n0.mp c_60)] at hN2
        rw [hN2] at h4
        exact V_sub (by simp) (ih σ_77 N2 (by omega) (ho.tr ho2.off) h4 (Lo_Bo hlo hB) (hlo.wf hF) ((hlo 6 (by omega) (by omega)).trans hc) hR)
  have down : ∀ τ : Mm, Off 2 25 σ τ → WRel 2 TB L τ → V sh0 w x mX7_tick (0, 0) 31 [(0, .ref 2)] [] τ := by
    intro τ ho hW
    refine V_aload_n o dX7_tick_31 rfl rfl ?_
    refine V_getR (t := 3) o dX7_tick_32 rfl fl_X7_12 rfl ?_
    refine V_getIE (v := nI (L - 1 + 1)) o dX7_tick_35 rfl fl_X7_105 rfl (hW.2.1.1.trans (by rw [show L - 1 + 1 = L by omega])) ?_
    refine V_iconst (v := 1) o dX7_tick_38 (by decide) ?_
    refine V_isub o dX7_tick_39 ?_
    refine V_topI (v' := nI (L - 1)) (nI_pred (L - 1)) ?_
    refine V_istore_n (ls' := [(1, _), (0, _)]) o dX7_tick_40 rfl (by decide) rfl ?_
    exact lvl (L - 1) τ TB (by omega) ho hW (Lo_Bo hloB hB1) (hloB.wf hF1) ((hloB 6 (by omega) (by omega)).trans h16) hA0
  obtain ⟨s, hs, hs1, hs2⟩ := Wf_span hF1 L (Nat.le_refl L)
  have hs3 : s < 2147483648 := by
    have : (16 : Nat) ^ L ≤ 16 ^ 4 := Nat.pow_le_pow_right (by omega) (by omega)
    omega
  rw [hs] at hTB
  refine V_aload_n o dX7_tick_0 rfl rfl ?_
  refine V_dup o dX7_tick_1 rfl ?_
  refine V_getI o dX7_tick_2 rfl fl_X7_45 rfl ?_
  refine V_topI (v' := M 6) hW0.1.1 ?_
  refine V_iconst (v := 1) o dX7_tick_5 (by decide) ?_
  refine V_iadd o dX7_tick_6 ?_
  refine V_topI (v' := clk) hclk ?_
  refine V_putI o dX7_tick_7 rfl fl_X7_45 rfl rfl rfl ?_
  refine V_aload_n o dX7_tick_10 rfl rfl ?_
  refine V_getI o dX7_tick_11 rfl fl_X7_45 rfl ?_
  refine V_topI (v' := clk) wI_at ?_
  refine V_aload_n o dX7_tick_14 rfl rfl ?_
  refine V_getR (t := 3) o dX7_tick_15 rfl fl_X7_12 rfl ?_
  refine V_getI o dX7_tick_18 rfl fl_X7_95 rfl ?_
  refine V_topI (v' := nI s) (h1.2.1.2.1.trans hs) ?_
  refine V_cSNi o rt dX7_tick_21 ms_X7_98 (c8_isMultiple hf hs1 hs3) rfl rfl (Nat.le_of_ble_eq_true rfl) rfl ?_
  refine V_if_eq (tgt := 31) o dX7_tick_24 (by decide) (fun c_24 => ?_) (fun c_24 => ?_)
  · rw [if_neg (bz_0.mp c_24)] at hTB
    subst hTB
    exact (down (wI σ 2 3 clk) (Off.rf.wI (by omega) (by omega)) h1)
  · refine V_aload_n o dX7_tick_27 rfl rfl ?_
    refine V_callV o rt dX7_tick_28 ml_X7_102 (c7_bringFar_2 hf h1 hB1 hF1 h16 rfl) rfl rfl rfl (Nat.le_of_ble_eq_true rfl) rfl (fun r_28 σ_28 q_28 => ?_)
    obtain ⟨rfl, ho2, hd2, h4⟩ := q_28
    show V sh0 w x mX7_tick (0, 0) _ _ [] _
    rw [if_pos (bz_n0.mp c_24)] at hTB
    rw [hTB] at h4
    exact (down σ_28 ((Off.rf.wI (by omega) (by omega)).tr ho2.off) h4)
theorem c7_tick_2 {w : Wp} (hf : Fit sh0 w) {σ : Mm} {M : Nat → Int32} {L r : Nat} (hW : WRel 2 M L σ) (hc : Cv M L r) : Ct sh0 w 3 mX7_tick [.ref 2] σ (fun r' σ' => r' = none ∧ Off 2 25 σ σ' ∧ LnR 2 (tkLn M L).1 (tkLn M L).2 σ' ∧ (∀ j, j < (tkLn M L).2 → σ'.1 (2 + 7 + (tkLn M L).1 j) 3 = M (231 + (tkLn M L).1 j)) ∧ WRel 2 (tickM M L r) L σ') := by
  obtain ⟨hI, hB, hr5, hAr⟩ := hc
  obtain ⟨hIA1, hIA2, hIA3, hIA4⟩ := Iv_tkA hI
  have sm : ∀ j, j < 391 → j ≠ 8 → j ≠ 6 → tkA M L j = M j := fun j h1 h8 h6 => Lo6 Lo.tkA h1 h8 h6
  have hsel : ∀ k, k < (tkLn M L).2 → (tkLn M L).1 k < 16 ∧ isG (tkA M L) ((tkLn M L).1 k) := fun k hk => ⟨lineM_lt hk, (of_decide_eq_true (lineM_sel hk)).1⟩
  refine c7_tick0_2 hf hW hI.1 hB (A := tkA M L) rfl (G := (tkLn M L).1) (K := (tkLn M L).2) ?_ lineM_D (fun k hk => ⟨(hsel k hk).1, (hsel k hk).2.2, hIA4 _ (hsel k hk).1 (hsel k hk).2.1⟩) (ring_agree hI.1.2.2.1 hIA2 hIA3 lineM_D (fun k hk => ⟨(hsel k hk).1, (hsel k hk).2.1⟩))
  refine lineC_eq (fun a c ha hc h1 h2 hac => ?_)
  refine aheadC_soon (by rw [sm 5 (by omega) (by omega) (by omega)]; exact hr5) ?_
  rw [sm (247 + a) (by omega) (by omega) (by omega), sm (247 + c) (by omega) (by omega) (by omega)]
  exact hAr a c ha hc ((sm _ (by omega) (by omega) (by omega)).symm.trans (of_decide_eq_true h1).1.1) ((sm _ (by omega) (by omega) (by omega)).symm.trans (of_decide_eq_true h2).1.1) hac
set_option maxRecDepth 20000 in
set_option maxHeartbeats 4000000 in
theorem c7_tick0_25 {w : Wp} (hf : Fit sh0 w) {σ : Mm} {M : Nat → Int32} {L : Nat} (hW0 : WRel 25 M L σ) (hF0 : Wf M L) (hB0 : Bo M) {A : Nat → Int32} (hA0 : tkA M L = A) {G : Nat → Nat} {K : Nat} (hG0 : lineC A false (A 5) (tkSel A (M 6 + 1)) = (G, K)) (hD : Dg G K) (hg : ∀ k, k < K → G k < 16 ∧ A (343 + G k) = 0 ∧ Pq A (G k)) {R : Nat → Int32} (hcg : ∀ j, j < 423 → (j < 7 ∨ j = 8 ∨ j = 9 ∨ 215 ≤ j) → R j = layC (ringC A G K) L G K j) : Ct sh0 w 3 mX7_tick [.ref 25] σ (fun r' σ' => r' = none ∧ Off 25 48 σ σ' ∧ LnR 25 G K σ' ∧ (∀ j, j < K → σ'.1 (25 + 7 + G j) 3 = M (231 + G j)) ∧ WRel 25 R L σ') := by
  have hL := hF0.2.2.1
  have hL1 := hF0.2.1
  obtain ⟨clk, hclk⟩ : ∃ c, M 6 + 1 = c := ⟨_, rfl⟩
  have h1 := WRel_clk (v := M 6 + 1) hW0 hL
  have hA6 : A 6 = clk := by rw [← hA0, Lo.tkA 6 (by omega) (by omega), uM_self]; exact hclk
  have hFA : Wf A L := by rw [← hA0]; exact Lo.tkA.wf (Wf_uM hF0 (by omega))
  have hBA : Bo A := by rw [← hA0]; exact Lo_Bo Lo.tkA (Bo_same hB0 (fun j h1 h2 _ => uM_ne _ _ (by omega)))
  have hdM : ∀ j, 231 ≤ j → j < 247 → A j = M j := fun j h1 h2 => by rw [← hA0]; exact Lo6 Lo.tkA (by omega) (by omega) (by omega)
  have hB1 : Bo (uM M 6 (M 6 + 1)) := Bo_same hB0 (fun j h1 h2 _ => uM_ne _ _ (by omega))
  have hF1 : Wf (uM M 6 (M 6 + 1)) L := Wf_uM hF0 (by omega)
  obtain ⟨TB, hTB⟩ : ∃ T, tkB M L = T := ⟨_, rfl⟩
  have hloB : Lo (uM M 6 (M 6 + 1)) TB := by rw [← hTB]; exact Lo.tkB
  unfold tkA at hA0
  rw [hTB] at hA0
  unfold tkB at hTB
  unfold lineC at hG0
  rw [hclk] at hA0 hTB hG0 h1 hB1 hF1 hloB
  have h16 : uM M 6 clk 6 = clk := uM_self _ _ _
  generalize uM M 6 clk = M1 at hTB h1 hB1 hF1 hloB h16
  obtain ⟨sl, hsl⟩ : ∃ s, rmI clk (A 1) = s := ⟨_, rfl⟩
  have hlr0 : lineC A false (A 5) (tkSel A clk) = (G, K) := hG0
  obtain ⟨RC, hRC⟩ : ∃ RC, layC (ringC A G K) L G K = RC := ⟨_, rfl⟩
  rw [hRC] at hcg
  refine Ct_of hf (by decide) rfl (Nat.le_of_ble_eq_true rfl) (fun x o rt => ?_)
  have jn : ∀ m t (τ : Mm) (g : Nat → Nat) (n : Nat), t + m = 16 → n ≤ t → Off 25 48 σ τ → WRel 25 A L τ → LnR 25 g n τ → itr (lnC A false (A 5) (tkSel A clk)) t m (g, n) = (G, K) → V sh0 w x mX7_tick (0, 0) 108 [(2, .int (nI t)), (1, .int sl), (0, .ref 25)] [] τ := by
    have hB := hBA
    intro m
    induction m with
    | zero =>
      intro t τ g n htn hnt ho hW hl hR
      have h16 : t = 16 := by omega
      obtain ⟨rfl, rfl⟩ := Prod.mk.inj hR
      refine V_iload_n o dX7_tick_108 rfl rfl ?_
      refine V_bipush (v := 16) o dX7_tick_109 (by decide) ?_
      refine V_icmp_ge (tgt := 158) o dX7_tick_111 (by decide) (fun c_111 => ?_) (fun c_111 => False.elim (c_111 (by rw [h16]; decide)))
      refine V_aload_n o dX7_tick_158 rfl rfl ?_
      refine V_callV o rt dX7_tick_159 ml_X7_122 (c7_ringLine_25 hf hW hFA hBA hl hD hg hRC) rfl rfl rfl (Nat.le_of_ble_eq_true rfl) rfl (fun r_159 σ_159 q_159 => ?_)
      obtain ⟨rfl, ho2, hd2, h4⟩ := q_159
      show V sh0 w x mX7_tick (0, 0) _ _ [] _
      refine V_ret o rt dX7_tick_162 rfl ?_
      exact ⟨rfl, ho.tr ho2.off, hl.offL ho2, fun j hj => (hd2 j hj).trans (hdM _ (by omega) (by have := (hg j hj).1; omega)), h4.cg hL hcg⟩
    | succ m ih =>
      intro t τ g n htn hnt ho hW hl hR
      have ht : t < 16 := by omega
      rw [itr_succ, lnC] at hR
      refine V_iload_n o dX7_tick_108 rfl rfl ?_
      refine V_bipush (v := 16) o dX7_tick_109 (by decide) ?_
      refine V_icmp_ge (tgt := 158) o dX7_tick_111 (by decide) (fun c_111 => False.elim (absurd c_111 (nI_ge (b := 16) (by omega) (by omega)))) (fun c_111 => ?_)
      refine V_aload_n o dX7_tick_114 rfl rfl ?_
      refine V_iload_n o dX7_tick_115 rfl rfl ?_
      rcases (hB t ht).1 with hG0 | hG
      · refine V_cVn o rt dX7_tick_116 ml_X7_62 (c7_find_n_25 hf hW ht hG0) rfl rfl rfl (Nat.le_of_ble_eq_true rfl) rfl ?_
        refine V_astore_nN (ls' := [(3, _), (2, _), (1, _), (0, _)]) o dX7_tick_119 rfl (by decide) rfl ?_
        refine V_aload_nN o dX7_tick_120 rfl rfl ?_
        refine V_ifnull_n (tgt := 152) o dX7_tick_121 (by decide) ?_
        refine V_iincV (v := nI (t + 1)) (ls' := [(2, _), (3, _), (1, _), (0, _)]) o dX7_tick_152 rfl (ninc 1 rfl) (by decide) rfl ?_
        refine V_goto (tgt := 108) o dX7_tick_155 (by decide) ?_
        rw [if_neg (fun q => absurd (hG0.symm.trans (of_decide_eq_true q).1.1) (by decide))] at hR
        exact V_sub (by simp) (ih (t + 1) τ g n (by omega) (by omega) ho hW hl hR)
      · refine V_cVr o rt dX7_tick_116 ml_X7_62 (c7_find_25 hf hW ht hG) rfl rfl rfl (Nat.le_of_ble_eq_true rfl) rfl ?_
        refine V_astore_n (ls' := [(3, _), (2, _), (1, _), (0, _)]) o dX7_tick_119 rfl (by decide) rfl ?_
        refine V_aload_n o dX7_tick_120 rfl rfl ?_
        refine V_ifnull_r o dX7_tick_121 ?_
        refine V_aload_n o dX7_tick_124 rfl rfl ?_
        refine V_getI o dX7_tick_125 (kT32 t ht) fl_X7_75 (rT32 ht) ?_
        refine V_topI (v' := cLv A t) ((hW.2.2 t ht).lv (hB t ht).2.2) ?_
        refine V_if_ne (tgt := 152) o dX7_tick_128 (by decide) (fun c_128 => ?_) (fun c_128 => ?_)
        · refine V_iincV (v := nI (t + 1)) (ls' := [(2, _), (3, _), (1, _), (0, _)]) o dX7_tick_152 rfl (ninc 1 rfl) (by decide) rfl ?_
          refine V_goto (tgt := 108) o dX7_tick_155 (by decide) ?_
          rw [if_neg (fun q => c_128 ((cLv_0 (of_decide_eq_true q).1.2).trans (of_decide_eq_true q).2.1))] at hR
          exact V_sub (by simp) (ih (t + 1) τ g n (by omega) (by omega) ho hW hl hR)
        · refine V_aload_n o dX7_tick_131 rfl rfl ?_
          refine V_getI o dX7_tick_132 (kT32 t ht) fl_X7_78 (rT32 ht) ?_
          refine V_topI (v' := cSl A t) ((hW.2.2 t ht).sl (hB t ht).2.2) ?_
          refine V_iload_n o dX7_tick_135 rfl rfl ?_
          refine V_icmp_ne (tgt := 152) o dX7_tick_136 (by decide) (fun c_136 => ?_) (fun c_136 => ?_)
          · refine V_iincV (v := nI (t + 1)) (ls' := [(2, _), (3, _), (1, _), (0, _)]) o dX7_tick_152 rfl (ninc 1 rfl) (by decide) rfl ?_
            refine V_goto (tgt := 108) o dX7_tick_155 (by decide) ?_
            rw [if_neg (fun q => c_136 ((cSl_0 (of_decide_eq_true q).1.2).trans ((of_decide_eq_true q).2.2.trans hsl)))] at hR
            exact V_sub (by simp) (ih (t + 1) τ g n (by omega) (by omega) ho hW hl hR)
          · refine V_aload_n o dX7_tick_139 rfl rfl ?_
            refine V_getR (t := 30) o dX7_tick_140 rfl fl_X7_27 rfl ?_
            refine V_aload_n o dX7_tick_143 rfl rfl ?_
            refine V_iconst (v := 0) o dX7_tick_144 (by decide) ?_
            refine V_aload_n o dX7_tick_145 rfl rfl ?_
            refine V_getI o dX7_tick_146 rfl fl_X7_49 rfl ?_
            refine V_topI (v' := A 5) hW.1.2.1 ?_
            refine V_callV o rt dX7_tick_149 ml_X7_118 (c1_join_25 hf hW hl (by omega) ht (bd := false) rfl (bz_f (by decide)).symm) rfl rfl rfl (Nat.le_of_ble_eq_true rfl) rfl (fun r_149 σ_149 q_149 => ?_)
            obtain ⟨rfl, ho2, h4⟩ := q_149
            show V sh0 w x mX7_tick (0, 0) _ _ [] _
            refine V_iincV (v := nI (t + 1)) (ls' := [(2, _), (3, _), (1, _), (0, _)]) o dX7_tick_152 rfl (ninc 1 rfl) (by decide) rfl ?_
            refine V_goto (tgt := 108) o dX7_tick_155 (by decide) ?_
            obtain ⟨hp, hlv⟩ := cLv_at (hB t ht).2.2 c_128 (by decide)
            rw [if_pos (show tkSel A clk t = true from decide_eq_true ⟨⟨hG, hp⟩, hlv, (cSl_0 hp).symm.trans (c_136.trans hsl.symm)⟩)] at hR
            exact V_sub (by simp) (ih (t + 1) σ_149 (qG (aheadC A false (A 5)) t n g) (n + 1) (by omega) (by omega) (ho.tr (ho2.wd (by omega) (by omega))) (hW.ln ho2) h4 hR)
  have after : ∀ τ : Mm, Off 25 48 σ τ → WRel 25 A L τ → V sh0 w x mX7_tick (0, 0) 86 [(0, .ref 25)] [] τ := by
    intro τ ho hW
    refine V_aload_n o dX7_tick_86 rfl rfl ?_
    refine V_getR (t := 26) o dX7_tick_87 rfl fl_X7_12 rfl ?_
    refine V_iconst (v := 0) o dX7_tick_90 (by decide) ?_
    refine V_aload_n o dX7_tick_91 rfl rfl ?_
    refine V_getI o dX7_tick_92 rfl fl_X7_45 rfl ?_
    refine V_topI (v' := clk) (hW.1.1.trans hA6) ?_
    refine V_cVi o rt dX7_tick_95 ml_X7_85 (c4_slotFor_26 hf hW.2.1 hFA (k := 0) (by omega)) rfl rfl rfl (Nat.le_of_ble_eq_true rfl) rfl ?_
    refine V_topI (v' := sl) (by show rmI (clk / 1) (A 1) = sl; rw [div1]; exact hsl) ?_
    refine V_istore_n (ls' := [(1, _), (0, _)]) o dX7_tick_98 rfl (by decide) rfl ?_
    refine V_aload_n o dX7_tick_99 rfl rfl ?_
    refine V_getR (t := 30) o dX7_tick_100 rfl fl_X7_27 rfl ?_
    refine V_cVv o rt dX7_tick_103 ml_X7_115 (c1_empty_25 hf) rfl rfl rfl (Nat.le_of_ble_eq_true rfl) rfl ?_
    refine V_iconst (v := 0) o dX7_tick_106 (by decide) ?_
    refine V_istore_n (ls' := [(2, _), (1, _), (0, _)]) o dX7_tick_107 rfl (by decide) rfl ?_
    exact V_sub (by simp; rfl) (jn 16 0 (wI τ 30 1 0) (fun _ => 0) 0 (by omega) (by omega) (ho.wI (by omega) (by omega)) (hW.ln (Off.rf.wI (by omega) (by omega))) LnR_0 hG0)
  have lvl : ∀ lv (τ : Mm) (N : Nat → Int32), lv < L → Off 25 48 σ τ → WRel 25 N L τ → Bo N → Wf N L → N 6 = clk → mvDn L clk lv N = A → V sh0 w x mX7_tick (0, 0) 41 [(1, .int (nI lv)), (0, .ref 25)] [] τ := by
    intro lv
    induction lv with
    | zero =>
      intro τ N hlv ho hW hB hF hc hR
      have hs : N = A := hR
      subst hs
      refine V_iload_n o dX7_tick_41 rfl rfl ?_
      refine V_if_le (tgt := 86) o dX7_tick_42 (by decide) (fun c_42 => ?_) (fun c_42 => False.elim (c_42 (Int32.le_refl _)))
      exact V_sub (by simp) (after τ ho hW)
    | succ lv ih =>
      intro τ N hlv ho hW hB hF hc hR
      rw [mvDn] at hR
      obtain ⟨N2, hN2⟩ : ∃ N2, mvLv N L clk (lv + 1) = N2 := ⟨_, rfl⟩
      have hlo : Lo N N2 := by rw [← hN2]; exact Lo.lv
      rw [hN2] at hR
      unfold mvLv at hN2
      obtain ⟨s, hs, hs1, hs2⟩ := Wf_span hF (lv + 1) (by omega)
      have hs3 : s < 2147483648 := by
        have : (16 : Nat) ^ (lv + 1) ≤ 16 ^ 4 := Nat.pow_le_pow_right (by omega) (by omega)
        omega
      rw [hs] at hN2
      refine V_iload_n o dX7_tick_41 rfl rfl ?_
      refine V_if_le (tgt := 86) o dX7_tick_42 (by decide) (fun c_42 => False.elim (absurd c_42 (nI_ge (a := 0) (by omega) (by omega)))) (fun c_42 => ?_)
      refine V_aload_n o dX7_tick_45 rfl rfl ?_
      refine V_getI o dX7_tick_46 rfl fl_X7_45 rfl ?_
      refine V_topI (v' := clk) (hW.1.1.trans hc) ?_
      refine V_aload_n o dX7_tick_49 rfl rfl ?_
      refine V_getR (t := 26) o dX7_tick_50 rfl fl_X7_12 rfl ?_
      refine V_iload_n o dX7_tick_53 rfl rfl ?_
      refine V_cVi o rt dX7_tick_54 ml_X7_108 (c4_spanOf_26 hf hW.2.1 hL hlv) rfl rfl rfl (Nat.le_of_ble_eq_true rfl) rfl ?_
      refine V_topI (v' := nI s) hs ?_
      refine V_cSNi o rt dX7_tick_57 ms_X7_98 (c8_isMultiple hf hs1 hs3) rfl rfl (Nat.le_of_ble_eq_true rfl) rfl ?_
      refine V_if_eq (tgt := 80) o dX7_tick_60 (by decide) (fun c_60 => ?_) (fun c_60 => ?_)
      · refine V_iincV (v := nI (lv)) (ls' := [(1, _), (0, _)]) o dX7_tick_80 rfl (ndec rfl) (by decide) rfl ?_
        refine V_goto (tgt := 41) o dX7_tick_83 (by decide) ?_
        rw [if_neg (bz_0.mp c_60)] at hN2
        subst hN2
        exact V_sub (by simp) (ih τ N (by omega) ho hW hB hF hc hR)
      · refine V_aload_n o dX7_tick_63 rfl rfl ?_
        refine V_iload_n o dX7_tick_64 rfl rfl ?_
        refine V_aload_n o dX7_tick_65 rfl rfl ?_
        refine V_getR (t := 26) o dX7_tick_66 rfl fl_X7_12 rfl ?_
        refine V_iload_n o dX7_tick_69 rfl rfl ?_
        refine V_aload_n o dX7_tick_70 rfl rfl ?_
        refine V_getI o dX7_tick_71 rfl fl_X7_45 rfl ?_
        refine V_topI (v' := clk) (hW.1.1.trans hc) ?_
        refine V_cVi o rt dX7_tick_74 ml_X7_85 (c4_slotFor_26 hf hW.2.1 hF hlv) rfl rfl rfl (Nat.le_of_ble_eq_true rfl) rfl ?_
        refine V_topI (v' := rmI (clk / nI s) (N (1 + (lv + 1)))) (by rw [hs]) ?_
        refine V_callV o rt dX7_tick_77 ml_X7_111 (c7_moveFrom_25 hf hW hB hF hc (lv := lv + 1) (by omega) rfl) rfl rfl rfl (Nat.le_of_ble_eq_true rfl) rfl (fun r_77 σ_77 q_77 => ?_)
        obtain ⟨rfl, ho2, hd2, h4⟩ := q_77
        show V sh0 w x mX7_tick (0, 0) _ _ [] _
        refine V_iincV (v := nI (lv)) (ls' := [(1, _), (0, _)]) o dX7_tick_80 rfl (ndec rfl) (by decide) rfl ?_
        refine V_goto (tgt := 41) o dX7_tick_83 (by decide) ?_
        rw [if_pos (bz_n0.mp c_60)] at hN2
        rw [hN2] at h4
        exact V_sub (by simp) (ih σ_77 N2 (by omega) (ho.tr ho2.off) h4 (Lo_Bo hlo hB) (hlo.wf hF) ((hlo 6 (by omega) (by omega)).trans hc) hR)
  have down : ∀ τ : Mm, Off 25 48 σ τ → WRel 25 TB L τ → V sh0 w x mX7_tick (0, 0) 31 [(0, .ref 25)] [] τ := by
    intro τ ho hW
    refine V_aload_n o dX7_tick_31 rfl rfl ?_
    refine V_getR (t := 26) o dX7_tick_32 rfl fl_X7_12 rfl ?_
    refine V_getIE (v := nI (L - 1 + 1)) o dX7_tick_35 rfl fl_X7_105 rfl (hW.2.1.1.trans (by rw [show L - 1 + 1 = L by omega])) ?_
    refine V_iconst (v := 1) o dX7_tick_38 (by decide) ?_
    refine V_isub o dX7_tick_39 ?_
    refine V_topI (v' := nI (L - 1)) (nI_pred (L - 1)) ?_
    refine V_istore_n (ls' := [(1, _), (0, _)]) o dX7_tick_40 rfl (by decide) rfl ?_
    exact lvl (L - 1) τ TB (by omega) ho hW (Lo_Bo hloB hB1) (hloB.wf hF1) ((hloB 6 (by omega) (by omega)).trans h16) hA0
  obtain ⟨s, hs, hs1, hs2⟩ := Wf_span hF1 L (Nat.le_refl L)
  have hs3 : s < 2147483648 := by
    have : (16 : Nat) ^ L ≤ 16 ^ 4 := Nat.pow_le_pow_right (by omega) (by omega)
    omega
  rw [hs] at hTB
  refine V_aload_n o dX7_tick_0 rfl rfl ?_
  refine V_dup o dX7_tick_1 rfl ?_
  refine V_getI o dX7_tick_2 rfl fl_X7_45 rfl ?_
  refine V_topI (v' := M 6) hW0.1.1 ?_
  refine V_iconst (v := 1) o dX7_tick_5 (by decide) ?_
  refine V_iadd o dX7_tick_6 ?_
  refine V_topI (v' := clk) hclk ?_
  refine V_putI o dX7_tick_7 rfl fl_X7_45 rfl rfl rfl ?_
  refine V_aload_n o dX7_tick_10 rfl rfl ?_
  refine V_getI o dX7_tick_11 rfl fl_X7_45 rfl ?_
  refine V_topI (v' := clk) wI_at ?_
  refine V_aload_n o dX7_tick_14 rfl rfl ?_
  refine V_getR (t := 26) o dX7_tick_15 rfl fl_X7_12 rfl ?_
  refine V_getI o dX7_tick_18 rfl fl_X7_95 rfl ?_
  refine V_topI (v' := nI s) (h1.2.1.2.1.trans hs) ?_
  refine V_cSNi o rt dX7_tick_21 ms_X7_98 (c8_isMultiple hf hs1 hs3) rfl rfl (Nat.le_of_ble_eq_true rfl) rfl ?_
  refine V_if_eq (tgt := 31) o dX7_tick_24 (by decide) (fun c_24 => ?_) (fun c_24 => ?_)
  · rw [if_neg (bz_0.mp c_24)] at hTB
    subst hTB
    exact (down (wI σ 25 3 clk) (Off.rf.wI (by omega) (by omega)) h1)
  · refine V_aload_n o dX7_tick_27 rfl rfl ?_
    refine V_callV o rt dX7_tick_28 ml_X7_102 (c7_bringFar_25 hf h1 hB1 hF1 h16 rfl) rfl rfl rfl (Nat.le_of_ble_eq_true rfl) rfl (fun r_28 σ_28 q_28 => ?_)
    obtain ⟨rfl, ho2, hd2, h4⟩ := q_28
    show V sh0 w x mX7_tick (0, 0) _ _ [] _
    rw [if_pos (bz_n0.mp c_24)] at hTB
    rw [hTB] at h4
    exact (down σ_28 ((Off.rf.wI (by omega) (by omega)).tr ho2.off) h4)
theorem c7_tick_25 {w : Wp} (hf : Fit sh0 w) {σ : Mm} {M : Nat → Int32} {L r : Nat} (hW : WRel 25 M L σ) (hc : Cv M L r) : Ct sh0 w 3 mX7_tick [.ref 25] σ (fun r' σ' => r' = none ∧ Off 25 48 σ σ' ∧ LnR 25 (tkLn M L).1 (tkLn M L).2 σ' ∧ (∀ j, j < (tkLn M L).2 → σ'.1 (25 + 7 + (tkLn M L).1 j) 3 = M (231 + (tkLn M L).1 j)) ∧ WRel 25 (tickM M L r) L σ') := by
  obtain ⟨hI, hB, hr5, hAr⟩ := hc
  obtain ⟨hIA1, hIA2, hIA3, hIA4⟩ := Iv_tkA hI
  have sm : ∀ j, j < 391 → j ≠ 8 → j ≠ 6 → tkA M L j = M j := fun j h1 h8 h6 => Lo6 Lo.tkA h1 h8 h6
  have hsel : ∀ k, k < (tkLn M L).2 → (tkLn M L).1 k < 16 ∧ isG (tkA M L) ((tkLn M L).1 k) := fun k hk => ⟨lineM_lt hk, (of_decide_eq_true (lineM_sel hk)).1⟩
  refine c7_tick0_25 hf hW hI.1 hB (A := tkA M L) rfl (G := (tkLn M L).1) (K := (tkLn M L).2) ?_ lineM_D (fun k hk => ⟨(hsel k hk).1, (hsel k hk).2.2, hIA4 _ (hsel k hk).1 (hsel k hk).2.1⟩) (ring_agree hI.1.2.2.1 hIA2 hIA3 lineM_D (fun k hk => ⟨(hsel k hk).1, (hsel k hk).2.1⟩))
  refine lineC_eq (fun a c ha hc h1 h2 hac => ?_)
  refine aheadC_soon (by rw [sm 5 (by omega) (by omega) (by omega)]; exact hr5) ?_
  rw [sm (247 + a) (by omega) (by omega) (by omega), sm (247 + c) (by omega) (by omega) (by omega)]
  exact hAr a c ha hc ((sm _ (by omega) (by omega) (by omega)).symm.trans (of_decide_eq_true h1).1.1) ((sm _ (by omega) (by omega) (by omega)).symm.trans (of_decide_eq_true h2).1.1) hac
