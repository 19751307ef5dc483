/-- two desks agree in what works hold -/
def Ag (M M' : Nat → Int32) : Prop := ∀ j, j < 423 → (j < 7 ∨ j = 8 ∨ j = 9 ∨ 215 ≤ j) → M' j = M j
theorem Ag.lay {M M' : Nat → Int32} {L t : Nat} (h : Ag M M') (hL : L ≤ 4) (ht : t < 16) : Ag (layM M L t) (layM M' L t) := by
  intro j h1 h2
  have e0 : ∀ j, j < 5 → M' j = M j := fun j hj => h j (by omega) (by omega)
  have e1 : M' (231 + t) = M (231 + t) := h _ (by omega) (by omega)
  have e2 : M' 6 = M 6 := h 6 (by omega) (by omega)
  have e3 : lvF M' (M' (231 + t) - M' 6) L 0 = lvF M (M (231 + t) - M 6) L 0 := by rw [e1, e2]; exact lvF_congr e0 L 0 (by omega)
  unfold layM
  rw [e3, e1, slM_congr hL e0 LvOk_lvF]
  unfold uM
  split
  · rfl
  · split
    · rfl
    · exact h j h1 h2
theorem Ag.layAll {M M' : Nat → Int32} {L : Nat} (h : Ag M M') (hL : L ≤ 4) : Ag (layAllM M L) (layAllM M' L) := by
  unfold layAllM
  have : ∀ n i (M M' : Nat → Int32), i + n = 16 → Ag M M' → Ag (itr (fun t M => if isG M t then layM M L t else M) i n M) (itr (fun t M => if isG M t then layM M L t else M) i n M') := by
    intro n
    induction n with
    | zero => intro i M M' _ h; exact h
    | succ n ih =>
      intro i M M' hi h
      rw [itr_succ, itr_succ]
      refine ih (i + 1) _ _ (by omega) ?_
      have e : isG M' i ↔ isG M i := by
        unfold isG
        rw [h (215 + i) (by omega) (by omega), h (343 + i) (by omega) (by omega)]
      by_cases q : isG M i
      · rw [if_pos q, if_pos (e.mpr q)]
        exact h.lay hL (by omega)
      · rw [if_neg q, if_neg (fun q' => q (e.mp q'))]
        exact h
  exact this 16 0 M M' (by omega) h
/-- as the class leaps -/
def lpC (n : Int32) (t : Nat) (s : (Nat → Int32) × (Nat → Nat) × Nat) : (Nat → Int32) × (Nat → Nat) × Nat :=
  if isG s.1 t then (if s.1 (327 + t) = 1 then (uM s.1 (231 + t) (s.1 (231 + t) + n), s.2) else if s.1 (231 + t) ≤ s.1 6 then (s.1, qG (aheadC s.1 true (s.1 5)) t s.2.2 s.2.1, s.2.2 + 1) else s) else s
theorem lpC_aux {n : Int32} {M0 : Nat → Int32} (hr5 : M0 5 = 0 ∨ M0 5 = 1 ∨ M0 5 = 2) (hA : Ar M0) : ∀ m i (s : (Nat → Int32) × (Nat → Nat) × Nat), i + m = 16 → (∀ j, j < s.2.2 → s.2.1 j < i ∧ isG M0 (s.2.1 j)) → Dg s.2.1 s.2.2 → (∀ j, j < 231 ∨ 247 ≤ j → s.1 j = M0 j) →
    itr (lpC n) i m s = itr (lpF n) i m s ∧ (∀ j, j < (itr (lpF n) i m s).2.2 → (itr (lpF n) i m s).2.1 j < 16 ∧ isG M0 ((itr (lpF n) i m s).2.1 j)) ∧ Dg (itr (lpF n) i m s).2.1 (itr (lpF n) i m s).2.2
  | 0, i, s, h0, h1, h2, _ => ⟨rfl, fun j hj => ⟨Nat.lt_of_lt_of_le (h1 j hj).1 (by omega), (h1 j hj).2⟩, h2⟩
  | m + 1, i, s, h0, h1, h2, h3 => by
    rw [itr_succ, itr_succ]
    have up : ∀ j, j < s.2.2 → s.2.1 j < i + 1 ∧ isG M0 (s.2.1 j) := fun j hj => ⟨by have := (h1 j hj).1; omega, (h1 j hj).2⟩
    unfold lpC lpF
    by_cases hG : isG s.1 i
    · have hG0 : isG M0 i := ⟨(h3 _ (by omega)).symm.trans hG.1, (h3 _ (by omega)).symm.trans hG.2⟩
      rw [if_pos hG, if_pos hG]
      by_cases hS : s.1 (327 + i) = 1
      · rw [if_pos hS, if_pos hS]
        exact lpC_aux hr5 hA m (i + 1) _ (by omega) up h2 (fun j hj => (uM_ne _ _ (by omega)).trans (h3 j hj))
      · rw [if_neg hS, if_neg hS]
        by_cases hD : s.1 (231 + i) ≤ s.1 6
        · rw [if_pos hD, if_pos hD]
          have e : qG (aheadC s.1 true (s.1 5)) i s.2.2 s.2.1 = qG (soonB s.1 true) i s.2.2 s.2.1 := qG_congr s.2.2 s.2.1 (fun j hj => by
            have hj1 := (h1 j hj).1
            refine aheadC_soon (by rw [h3 5 (by omega)]; exact hr5) ?_
            rw [h3 (247 + i) (by omega), h3 (247 + s.2.1 j) (by omega)]
            exact hA i _ (by omega) (by omega) hG0.1 (h1 j hj).2.1 (by omega))
          rw [e]
          refine lpC_aux hr5 hA m (i + 1) _ (by omega) (fun j hj => ?_) ?_ h3
          · exact qG_all (P := fun t => t < i + 1 ∧ isG M0 t) ⟨by omega, hG0⟩ s.2.2 s.2.2 s.2.1 (Nat.le_refl _) (fun k hk hne => up k (by omega)) j hj
          · exact qG_D s.2.2 s.2.2 s.2.1 (Nat.le_refl _) (fun j hj hjk => by have := (h1 j (by omega)).1; omega) (fun a b ha hb hak hbk e => h2 a b (by omega) (by omega) e)
        · rw [if_neg hD, if_neg hD]
          exact lpC_aux hr5 hA m (i + 1) s (by omega) up h2 h3
    · rw [if_neg hG, if_neg hG]
      exact lpC_aux hr5 hA m (i + 1) s (by omega) up h2 h3
theorem lpC_all {n : Int32} {M : Nat → Int32} (hr5 : M 5 = 0 ∨ M 5 = 1 ∨ M 5 = 2) (hA : Ar M) : itr (lpC n) 0 16 (lp0 M n, fun _ => 0, 0) = lpS M n ∧ (∀ j, j < (lpS M n).2.2 → (lpS M n).2.1 j < 16 ∧ isG M ((lpS M n).2.1 j)) ∧ Dg (lpS M n).2.1 (lpS M n).2.2 := by
  have e : ∀ j, 13 ≤ j → lp0 M n j = M j := fun j hj => lp0_ne (by omega) (by omega) (by omega)
  have hA' : Ar (lp0 M n) := fun a b ha hb h1 h2 hab => by
    rw [e _ (by omega), e _ (by omega)]
    exact hA a b ha hb ((e _ (by omega)).symm.trans h1) ((e _ (by omega)).symm.trans h2) hab
  obtain ⟨h1, h2, h3⟩ := lpC_aux (n := n) (M0 := lp0 M n) (by rw [lp0_ne (by omega) (by omega) (by omega)]; exact hr5) hA' 16 0 (lp0 M n, fun _ => 0, 0) (by omega) (fun j hj => absurd hj (Nat.not_lt_zero j)) (fun i j hi => absurd hi (Nat.not_lt_zero i)) (fun _ _ => rfl)
  unfold lpS
  generalize itr (lpF n) 0 16 (lp0 M n, fun _ => 0, 0) = S at h1 h2 h3 ⊢
  exact ⟨h1, fun j hj => ⟨(h2 j hj).1, (e (215 + S.2.1 j) (by omega)).symm.trans (h2 j hj).2.1, (e (343 + S.2.1 j) (by omega)).symm.trans (h2 j hj).2.2⟩, h3⟩
theorem Bo_ringC {M : Nat → Int32} {g : Nat → Nat} {n : Nat} (hg : ∀ k, k < n → g k < 16) (h : Bo M) : Bo (ringC M g n) := by
  unfold ringC
  exact itr_inv (f := fun k M => rgC M (g k)) (fun _ s => Bo s) n 0 M h (fun k s _ h2 hs => Bo_rg (hg k (by omega)) hs)
theorem Wf_ringC {M : Nat → Int32} {L : Nat} {g : Nat → Nat} {n : Nat} (h : Wf M L) : Wf (ringC M g n) L := by
  unfold ringC
  exact itr_inv (f := fun k M => rgC M (g k)) (fun _ s => Wf s L) n 0 M h (fun k s _ h2 hs => Wf_rg hs)
theorem Bo_layC {M : Nat → Int32} {L : Nat} {g : Nat → Nat} {n : Nat} (hg : ∀ k, k < n → g k < 16) (h : Bo M) : Bo (layC M L g n) := by
  unfold layC
  refine itr_inv (f := fun k M => if isT M (g k) then layM M L (g k) else M) (fun _ s => Bo s) n 0 M h (fun k s _ h2 hs => ?_)
  split
  · exact Bo_lay hs
  · exact hs
theorem Wf_layC {M : Nat → Int32} {L : Nat} {g : Nat → Nat} {n : Nat} (h : Wf M L) : Wf (layC M L g n) L := by
  unfold layC
  refine itr_inv (f := fun k M => if isT M (g k) then layM M L (g k) else M) (fun _ s => Wf s L) n 0 M h (fun k s _ h2 hs => ?_)
  split
  · exact Wf_lay hs
  · exact hs
set_option maxRecDepth 20000 in
set_option maxHeartbeats 4000000 in
theorem c7_leap0_2 {w : Wp} (hf : Fit sh0 w) {σ : Mm} {M : Nat → Int32} {L : Nat} (hW0 : WRel 2 M L σ) (hF0 : Wf M L) (hB0 : Bo M) {v : Int32} {A : Nat → Int32} {G : Nat → Nat} {K : Nat} (hS0 : itr (lpC v) 0 16 (lp0 M v, fun _ => 0, 0) = (A, G, K)) (hD : Dg G K) (hFA : Wf A L) (hBA : Bo A) (hg : ∀ k, k < K → G k < 16 ∧ A (343 + G k) = 0 ∧ Pq A (G k)) {R R1 : Nat → Int32} (hR1 : layC (ringC A G K) L G K = R1) (hB1 : Bo R1) (hF1 : Wf R1 L) {R2 : Nat → Int32} (hR2 : layAllM R1 L = R2) (hcg : Ag R2 R) : Ct sh0 w 3 mX7_leap [.ref 2, .int v] σ (fun r' σ' => r' = none ∧ Off 2 25 σ σ' ∧ LnR 2 G K σ' ∧ (∀ j, j < K → σ'.1 (2 + 7 + G j) 3 = A (231 + G j)) ∧ WRel 2 R L σ') := by
  have hL := hF0.2.2.1
  obtain ⟨clk, hclk⟩ : ∃ c, M 6 + v = c := ⟨_, rfl⟩
  have h1 := WRel_clk (v := M 6 + v) hW0 hL
  have h2 : WRel 2 (lp0 M v) L (wI σ 2 3 (M 6 + v)) := h1.cg hL (fun j hj hj2 => by
    unfold lp0
    split <;> exact uM_ne _ _ (by omega))
  have hB2 : Bo (lp0 M v) := Bo_same hB0 (fun j h1 h2 _ => lp0_ne (by omega) (by omega) (by omega))
  generalize lp0 M v = N0 at h2 hB2 hS0
  refine Ct_of hf (by decide) rfl (Nat.le_of_ble_eq_true rfl) (fun x o rt => ?_)
  have jn : ∀ m t (τ : Mm) (N : Nat → Int32) (g : Nat → Nat) (n : Nat), t + m = 16 → n ≤ t → Off 2 25 σ τ → WRel 2 N L τ → Bo N → LnR 2 g n τ → itr (lpC v) t m (N, g, n) = (A, G, K) → V sh0 w x mX7_leap (0, 0) 19 [(2, .int (nI t)), (1, .int v), (0, .ref 2)] [] τ := by
    intro m
    induction m with
    | zero =>
      intro t τ N g n htn hnt ho hW hB hl hR
      have h16 : t = 16 := by omega
      obtain ⟨rfl, hR'⟩ := Prod.mk.inj hR
      obtain ⟨rfl, rfl⟩ := Prod.mk.inj hR'
      refine V_iload_n o dX7_leap_19 rfl rfl ?_
      refine V_bipush (v := 16) o dX7_leap_20 (by decide) ?_
      refine V_icmp_ge (tgt := 89) o dX7_leap_22 (by decide) (fun c_22 => ?_) (fun c_22 => False.elim (c_22 (by rw [h16]; decide)))
      refine V_aload_n o dX7_leap_89 rfl rfl ?_
      refine V_callV o rt dX7_leap_90 ml_X7_122 (c7_ringLine_2 hf hW hFA hBA hl hD hg hR1) rfl rfl rfl (Nat.le_of_ble_eq_true rfl) rfl (fun r_90 σ_90 q_90 => ?_)
      obtain ⟨rfl, ho2, hd2, h4⟩ := q_90
      show V sh0 w x mX7_leap (0, 0) _ _ [] _
      refine V_aload_n o dX7_leap_93 rfl rfl ?_
      refine V_callV o rt dX7_leap_94 ml_X7_128 (c7_layAll_2 hf h4 hB1 hF1 hR2) rfl rfl rfl (Nat.le_of_ble_eq_true rfl) rfl (fun r_94 σ_94 q_94 => ?_)
      obtain ⟨rfl, ho3, hd3, h5⟩ := q_94
      show V sh0 w x mX7_leap (0, 0) _ _ [] _
      refine V_ret o rt dX7_leap_97 rfl ?_
      exact ⟨rfl, (ho.tr ho2.off).tr ho3.off, (hl.offL ho2).offL ho3, fun j hj => (hd3 _ (hg j hj).1).trans (hd2 j hj), h5.cg hL hcg⟩
    | succ m ih =>
      intro t τ N g n htn hnt ho hW hB hl hR
      have ht : t < 16 := by omega
      rw [itr_succ, lpC] at hR
      refine V_iload_n o dX7_leap_19 rfl rfl ?_
      refine V_bipush (v := 16) o dX7_leap_20 (by decide) ?_
      refine V_icmp_ge (tgt := 89) o dX7_leap_22 (by decide) (fun c_22 => False.elim (absurd c_22 (nI_ge (b := 16) (by omega) (by omega)))) (fun c_22 => ?_)
      refine V_aload_n o dX7_leap_25 rfl rfl ?_
      refine V_iload_n o dX7_leap_26 rfl rfl ?_
      by_cases hG : isG N t
      · refine V_cVr o rt dX7_leap_27 ml_X7_69 (c7_run_2 hf hW ht hG) rfl rfl rfl (Nat.le_of_ble_eq_true rfl) rfl ?_
        refine V_astore_n (ls' := [(3, _), (2, _), (1, _), (0, _)]) o dX7_leap_30 rfl (by decide) rfl ?_
        refine V_aload_n o dX7_leap_31 rfl rfl ?_
        refine V_ifnull_r o dX7_leap_32 ?_
        refine V_aload_n o dX7_leap_35 rfl rfl ?_
        refine V_getI o dX7_leap_36 (kT9 t ht) fl_X7_125 (rT9 ht) ?_
        refine V_topI (v' := N (327 + t)) (hW.2.2 t ht).ste ?_
        refine V_if_eq (tgt := 55) o dX7_leap_39 (by decide) (fun c_39 => ?_) (fun c_39 => ?_)
        · refine V_aload_n o dX7_leap_55 rfl rfl ?_
          refine V_ifnull_r o dX7_leap_56 ?_
          refine V_aload_n o dX7_leap_59 rfl rfl ?_
          refine V_getI o dX7_leap_60 (kT9 t ht) fl_X7_72 (rT9 ht) ?_
          refine V_topI (v' := N (231 + t)) (hW.2.2 t ht).due ?_
          refine V_aload_n o dX7_leap_63 rfl rfl ?_
          refine V_getI o dX7_leap_64 rfl fl_X7_45 rfl ?_
          refine V_topI (v' := N 6) hW.1.1 ?_
          refine V_icmp_gt (tgt := 83) o dX7_leap_67 (by decide) (fun c_67 => ?_) (fun c_67 => ?_)
          · refine V_iincV (v := nI (t + 1)) (ls' := [(2, _), (3, _), (1, _), (0, _)]) o dX7_leap_83 rfl (ninc 1 rfl) (by decide) rfl ?_
            refine V_goto (tgt := 19) o dX7_leap_86 (by decide) ?_
            rw [if_pos hG, if_neg (show ¬ N (327 + t) = 1 by rw [c_39]; decide), if_neg (Int32.not_le.mpr c_67)] at hR
            exact V_sub (by simp) (ih (t + 1) τ N g n (by omega) (by omega) ho hW hB hl hR)
          · refine V_aload_n o dX7_leap_70 rfl rfl ?_
            refine V_getR (t := 7) o dX7_leap_71 rfl fl_X7_27 rfl ?_
            refine V_aload_n o dX7_leap_74 rfl rfl ?_
            refine V_iconst (v := 1) o dX7_leap_75 (by decide) ?_
            refine V_aload_n o dX7_leap_76 rfl rfl ?_
            refine V_getI o dX7_leap_77 rfl fl_X7_49 rfl ?_
            refine V_topI (v' := N 5) hW.1.2.1 ?_
            refine V_callV o rt dX7_leap_80 ml_X7_118 (c1_join_2 hf hW hl (by omega) ht (bd := true) rfl (bz_t (by decide)).symm) rfl rfl rfl (Nat.le_of_ble_eq_true rfl) rfl (fun r_80 σ_80 q_80 => ?_)
            obtain ⟨rfl, ho2, h4⟩ := q_80
            show V sh0 w x mX7_leap (0, 0) _ _ [] _
            refine V_iincV (v := nI (t + 1)) (ls' := [(2, _), (3, _), (1, _), (0, _)]) o dX7_leap_83 rfl (ninc 1 rfl) (by decide) rfl ?_
            refine V_goto (tgt := 19) o dX7_leap_86 (by decide) ?_
            rw [if_pos hG, if_neg (show ¬ N (327 + t) = 1 by rw [c_39]; decide), if_pos (Int32.not_lt.mp c_67)] at hR
            exact V_sub (by simp) (ih (t + 1) σ_80 N (qG (aheadC N true (N 5)) t n g) (n + 1) (by omega) (by omega) (ho.tr (ho2.wd (by omega) (by omega))) (hW.ln ho2) hB h4 hR)
        · refine V_aload_n o dX7_leap_42 rfl rfl ?_
          refine V_dup o dX7_leap_43 rfl ?_
          refine V_getI o dX7_leap_44 (kT9 t ht) fl_X7_72 (rT9 ht) ?_
          refine V_topI (v' := N (231 + t)) (hW.2.2 t ht).due ?_
          refine V_iload_n o dX7_leap_47 rfl rfl ?_
          refine V_iadd o dX7_leap_48 ?_
          refine V_putI o dX7_leap_49 (kT9 t ht) fl_X7_72 (rT9 ht) rfl rfl ?_
          refine V_goto (tgt := 83) o dX7_leap_52 (by decide) ?_
          refine V_iincV (v := nI (t + 1)) (ls' := [(2, _), (3, _), (1, _), (0, _)]) o dX7_leap_83 rfl (ninc 1 rfl) (by decide) rfl ?_
          refine V_goto (tgt := 19) o dX7_leap_86 (by decide) ?_
          rw [if_pos hG, if_pos ((hB t ht).2.1.resolve_left c_39)] at hR
          exact V_sub (by simp) (ih (t + 1) (wI τ (9 + t) 2 (N (231 + t) + v)) (uM N (231 + t) (N (231 + t) + v)) g n (by omega) (by omega) (ho.wI (by omega) (by omega)) (WRel_due hW hL ht) (Bo_same hB (fun j h1 h2 h3 => uM_ne _ _ (by omega))) (hl.off (lo := 9) (hi := 25) (Off.rf.wI (by omega) (by omega)) (by omega)) hR)
      · refine V_cVn o rt dX7_leap_27 ml_X7_69 (c7_run_n_2 hf hW hB ht hG) rfl rfl rfl (Nat.le_of_ble_eq_true rfl) rfl ?_
        refine V_astore_nN (ls' := [(3, _), (2, _), (1, _), (0, _)]) o dX7_leap_30 rfl (by decide) rfl ?_
        refine V_aload_nN o dX7_leap_31 rfl rfl ?_
        refine V_ifnull_n (tgt := 55) o dX7_leap_32 (by decide) ?_
        refine V_aload_nN o dX7_leap_55 rfl rfl ?_
        refine V_ifnull_n (tgt := 83) o dX7_leap_56 (by decide) ?_
        refine V_iincV (v := nI (t + 1)) (ls' := [(2, _), (3, _), (1, _), (0, _)]) o dX7_leap_83 rfl (ninc 1 rfl) (by decide) rfl ?_
        refine V_goto (tgt := 19) o dX7_leap_86 (by decide) ?_
        rw [if_neg hG] at hR
        exact V_sub (by simp) (ih (t + 1) τ N g n (by omega) (by omega) ho hW hB hl hR)
  refine V_aload_n o dX7_leap_0 rfl rfl ?_
  refine V_dup o dX7_leap_1 rfl ?_
  refine V_getI o dX7_leap_2 rfl fl_X7_45 rfl ?_
  refine V_topI (v' := M 6) hW0.1.1 ?_
  refine V_iload_n o dX7_leap_5 rfl rfl ?_
  refine V_iadd o dX7_leap_6 ?_
  refine V_putI o dX7_leap_7 rfl fl_X7_45 rfl rfl rfl ?_
  refine V_aload_n o dX7_leap_10 rfl rfl ?_
  refine V_getR (t := 7) o dX7_leap_11 rfl fl_X7_27 rfl ?_
  refine V_cVv o rt dX7_leap_14 ml_X7_115 (c1_empty_2 hf) rfl rfl rfl (Nat.le_of_ble_eq_true rfl) rfl ?_
  refine V_iconst (v := 0) o dX7_leap_17 (by decide) ?_
  refine V_istore_n (ls' := [(2, _), (0, _), (1, _)]) o dX7_leap_18 rfl (by decide) rfl ?_
  exact V_sub (by simp; rfl) (jn 16 0 (wI (wI σ 2 3 (M 6 + v)) 7 1 0) N0 (fun _ => 0) 0 (by omega) (by omega) ((Off.rf.wI (by omega) (by omega)).wI (by omega) (by omega)) (h2.ln (Off.rf.wI (by omega) (by omega))) hB2 LnR_0 hS0)
theorem c7_leap_2 {w : Wp} (hf : Fit sh0 w) {σ : Mm} {M : Nat → Int32} {L r : Nat} (hW : WRel 2 M L σ) (hc : Cv M L r) {v : Int32} : Ct sh0 w 3 mX7_leap [.ref 2, .int v] σ (fun r' σ' => r' = none ∧ Off 2 25 σ σ' ∧ LnR 2 (lpS M v).2.1 (lpS M v).2.2 σ' ∧ (∀ j, j < (lpS M v).2.2 → σ'.1 (2 + 7 + (lpS M v).2.1 j) 3 = (lpS M v).1 (231 + (lpS M v).2.1 j)) ∧ WRel 2 (leapM M L r v) L σ') := by
  obtain ⟨hI, hB, hr5, hAr⟩ := hc
  obtain ⟨hS, hG, hD⟩ := lpC_all (n := v) hr5 hAr
  obtain ⟨hA1, hA2, hA3, hA4⟩ := Iv_lpS (n := v) hI
  have sm : ∀ j, 13 ≤ j → (j < 231 ∨ 247 ≤ j) → (lpS M v).1 j = M j := fun j h1 h2 => (lpS_all.2.2 j h2).trans (lp0_ne (by omega) (by omega) (by omega))
  have hg : ∀ k, k < (lpS M v).2.2 → (lpS M v).2.1 k < 16 ∧ isT (lpS M v).1 ((lpS M v).2.1 k) := fun k hk => by
    have h1 := (hG k hk).1
    exact ⟨h1, (sm _ (by omega) (Or.inl (by omega))).trans (hG k hk).2.1⟩
  have hBA : Bo (lpS M v).1 := Bo_same hB (fun j h1 h2 h3 => sm j (by omega) (by omega))
  have agr := ring_agree (r := r) hI.1.2.2.1 hA2 hA3 hD hg
  unfold leapM
  generalize lpS M v = S at hS hG hD hA1 hA2 hA3 hA4 sm hg hBA agr
  obtain ⟨A, G, K⟩ := S
  have hgG : ∀ k, k < K → G k < 16 := fun k hk => (hG k hk).1
  exact c7_leap0_2 hf hW hI.1 hB hS hD hA1 hBA (fun k hk => ⟨(hG k hk).1, (sm _ (by omega) (Or.inr (by omega))).trans (hG k hk).2.2, hA4 _ (hG k hk).1 (hg k hk).2⟩) rfl (Bo_layC hgG (Bo_ringC hgG hBA)) (Wf_layC (Wf_ringC hA1)) rfl (Ag.layAll agr hI.1.2.2.1)
set_option maxRecDepth 20000 in
set_option maxHeartbeats 4000000 in
theorem c7_leap0_25 {w : Wp} (hf : Fit sh0 w) {σ : Mm} {M : Nat → Int32} {L : Nat} (hW0 : WRel 25 M L σ) (hF0 : Wf M L) (hB0 : Bo M) {v : Int32} {A : Nat → Int32} {G : Nat → Nat} {K : Nat} (hS0 : itr (lpC v) 0 16 (lp0 M v, fun _ => 0, 0) = (A, G, K)) (hD : Dg G K) (hFA : Wf A L) (hBA : Bo A) (hg : ∀ k, k < K → G k < 16 ∧ A (343 + G k) = 0 ∧ Pq A (G k)) {R R1 : Nat → Int32} (hR1 : layC (ringC A G K) L G K = R1) (hB1 : Bo R1) (hF1 : Wf R1 L) {R2 : Nat → Int32} (hR2 : layAllM R1 L = R2) (hcg : Ag R2 R) : Ct sh0 w 3 mX7_leap [.ref 25, .int v] σ (fun r' σ' => r' = none ∧ Off 25 48 σ σ' ∧ LnR 25 G K σ' ∧ (∀ j, j < K → σ'.1 (25 + 7 + G j) 3 = A (231 + G j)) ∧ WRel 25 R L σ') := by
  have hL := hF0.2.2.1
  obtain ⟨clk, hclk⟩ : ∃ c, M 6 + v = c := ⟨_, rfl⟩
  have h1 := WRel_clk (v := M 6 + v) hW0 hL
  have h2 : WRel 25 (lp0 M v) L (wI σ 25 3 (M 6 + v)) := h1.cg hL (fun j hj hj2 => by
    unfold lp0
    split <;> exact uM_ne _ _ (by omega))
  have hB2 : Bo (lp0 M v) := Bo_same hB0 (fun j h1 h2 _ => lp0_ne (by omega) (by omega) (by omega))
  generalize lp0 M v = N0 at h2 hB2 hS0
  refine Ct_of hf (by decide) rfl (Nat.le_of_ble_eq_true rfl) (fun x o rt => ?_)
  have jn : ∀ m t (τ : Mm) (N : Nat → Int32) (g : Nat → Nat) (n : Nat), t + m = 16 → n ≤ t → Off 25 48 σ τ → WRel 25 N L τ → Bo N → LnR 25 g n τ → itr (lpC v) t m (N, g, n) = (A, G, K) → V sh0 w x mX7_leap (0, 0) 19 [(2, .int (nI t)), (1, .int v), (0, .ref 25)] [] τ := by
    intro m
    induction m with
    | zero =>
      intro t τ N g n htn hnt ho hW hB hl hR
      have h16 : t = 16 := by omega
      obtain ⟨rfl, hR'⟩ := Prod.mk.inj hR
      obtain ⟨rfl, rfl⟩ := Prod.mk.inj hR'
      refine V_iload_n o dX7_leap_19 rfl rfl ?_
      refine V_bipush (v := 16) o dX7_leap_20 (by decide) ?_
      refine V_icmp_ge (tgt := 89) o dX7_leap_22 (by decide) (fun c_22 => ?_) (fun c_22 => False.elim (c_22 (by rw [h16]; decide)))
      refine V_aload_n o dX7_leap_89 rfl rfl ?_
      refine V_callV o rt dX7_leap_90 ml_X7_122 (c7_ringLine_25 hf hW hFA hBA hl hD hg hR1) rfl rfl rfl (Nat.le_of_ble_eq_true rfl) rfl (fun r_90 σ_90 q_90 => ?_)
      obtain ⟨rfl, ho2, hd2, h4⟩ := q_90
      show V sh0 w x mX7_leap (0, 0) _ _ [] _
      refine V_aload_n o dX7_leap_93 rfl rfl ?_
      refine V_callV o rt dX7_leap_94 ml_X7_128 (c7_layAll_25 hf h4 hB1 hF1 hR2) rfl rfl rfl (Nat.le_of_ble_eq_true rfl) rfl (fun r_94 σ_94 q_94 => ?_)
      obtain ⟨rfl, ho3, hd3, h5⟩ := q_94
      show V sh0 w x mX7_leap (0, 0) _ _ [] _
      refine V_ret o rt dX7_leap_97 rfl ?_
      exact ⟨rfl, (ho.tr ho2.off).tr ho3.off, (hl.offL ho2).offL ho3, fun j hj => (hd3 _ (hg j hj).1).trans (hd2 j hj), h5.cg hL hcg⟩
    | succ m ih =>
      intro t τ N g n htn hnt ho hW hB hl hR
      have ht : t < 16 := by omega
      rw [itr_succ, lpC] at hR
      refine V_iload_n o dX7_leap_19 rfl rfl ?_
      refine V_bipush (v := 16) o dX7_leap_20 (by decide) ?_
      refine V_icmp_ge (tgt := 89) o dX7_leap_22 (by decide) (fun c_22 => False.elim (absurd c_22 (nI_ge (b := 16) (by omega) (by omega)))) (fun c_22 => ?_)
      refine V_aload_n o dX7_leap_25 rfl rfl ?_
      refine V_iload_n o dX7_leap_26 rfl rfl ?_
      by_cases hG : isG N t
      · refine V_cVr o rt dX7_leap_27 ml_X7_69 (c7_run_25 hf hW ht hG) rfl rfl rfl (Nat.le_of_ble_eq_true rfl) rfl ?_
        refine V_astore_n (ls' := [(3, _), (2, _), (1, _), (0, _)]) o dX7_leap_30 rfl (by decide) rfl ?_
        refine V_aload_n o dX7_leap_31 rfl rfl ?_
        refine V_ifnull_r o dX7_leap_32 ?_
        refine V_aload_n o dX7_leap_35 rfl rfl ?_
        refine V_getI o dX7_leap_36 (kT32 t ht) fl_X7_125 (rT32 ht) ?_
        refine V_topI (v' := N (327 + t)) (hW.2.2 t ht).ste ?_
        refine V_if_eq (tgt := 55) o dX7_leap_39 (by decide) (fun c_39 => ?_) (fun c_39 => ?_)
        · refine V_aload_n o dX7_leap_55 rfl rfl ?_
          refine V_ifnull_r o dX7_leap_56 ?_
          refine V_aload_n o dX7_leap_59 rfl rfl ?_
          refine V_getI o dX7_leap_60 (kT32 t ht) fl_X7_72 (rT32 ht) ?_
          refine V_topI (v' := N (231 + t)) (hW.2.2 t ht).due ?_
          refine V_aload_n o dX7_leap_63 rfl rfl ?_
          refine V_getI o dX7_leap_64 rfl fl_X7_45 rfl ?_
          refine V_topI (v' := N 6) hW.1.1 ?_
          refine V_icmp_gt (tgt := 83) o dX7_leap_67 (by decide) (fun c_67 => ?_) (fun c_67 => ?_)
          · refine V_iincV (v := nI (t + 1)) (ls' := [(2, _), (3, _), (1, _), (0, _)]) o dX7_leap_83 rfl (ninc 1 rfl) (by decide) rfl ?_
            refine V_goto (tgt := 19) o dX7_leap_86 (by decide) ?_
            rw [if_pos hG, if_neg (show ¬ N (327 + t) = 1 by rw [c_39]; decide), if_neg (Int32.not_le.mpr c_67)] at hR
            exact V_sub (by simp) (ih (t + 1) τ N g n (by omega) (by omega) ho hW hB hl hR)
          · refine V_aload_n o dX7_leap_70 rfl rfl ?_
            refine V_getR (t := 30) o dX7_leap_71 rfl fl_X7_27 rfl ?_
            refine V_aload_n o dX7_leap_74 rfl rfl ?_
            refine V_iconst (v := 1) o dX7_leap_75 (by decide) ?_
            refine V_aload_n o dX7_leap_76 rfl rfl ?_
            refine V_getI o dX7_leap_77 rfl fl_X7_49 rfl ?_
            refine V_topI (v' := N 5) hW.1.2.1 ?_
            refine V_callV o rt dX7_leap_80 ml_X7_118 (c1_join_25 hf hW hl (by omega) ht (bd := true) rfl (bz_t (by decide)).symm) rfl rfl rfl (Nat.le_of_ble_eq_true rfl) rfl (fun r_80 σ_80 q_80 => ?_)
            obtain ⟨rfl, ho2, h4⟩ := q_80
            show V sh0 w x mX7_leap (0, 0) _ _ [] _
            refine V_iincV (v := nI (t + 1)) (ls' := [(2, _), (3, _), (1, _), (0, _)]) o dX7_leap_83 rfl (ninc 1 rfl) (by decide) rfl ?_
            refine V_goto (tgt := 19) o dX7_leap_86 (by decide) ?_
            rw [if_pos hG, if_neg (show ¬ N (327 + t) = 1 by rw [c_39]; decide), if_pos (Int32.not_lt.mp c_67)] at hR
            exact V_sub (by simp) (ih (t + 1) σ_80 N (qG (aheadC N true (N 5)) t n g) (n + 1) (by omega) (by omega) (ho.tr (ho2.wd (by omega) (by omega))) (hW.ln ho2) hB h4 hR)
        · refine V_aload_n o dX7_leap_42 rfl rfl ?_
          refine V_dup o dX7_leap_43 rfl ?_
          refine V_getI o dX7_leap_44 (kT32 t ht) fl_X7_72 (rT32 ht) ?_
          refine V_topI (v' := N (231 + t)) (hW.2.2 t ht).due ?_
          refine V_iload_n o dX7_leap_47 rfl rfl ?_
          refine V_iadd o dX7_leap_48 ?_
          refine V_putI o dX7_leap_49 (kT32 t ht) fl_X7_72 (rT32 ht) rfl rfl ?_
          refine V_goto (tgt := 83) o dX7_leap_52 (by decide) ?_
          refine V_iincV (v := nI (t + 1)) (ls' := [(2, _), (3, _), (1, _), (0, _)]) o dX7_leap_83 rfl (ninc 1 rfl) (by decide) rfl ?_
          refine V_goto (tgt := 19) o dX7_leap_86 (by decide) ?_
          rw [if_pos hG, if_pos ((hB t ht).2.1.resolve_left c_39)] at hR
          exact V_sub (by simp) (ih (t + 1) (wI τ (32 + t) 2 (N (231 + t) + v)) (uM N (231 + t) (N (231 + t) + v)) g n (by omega) (by omega) (ho.wI (by omega) (by omega)) (WRel_due hW hL ht) (Bo_same hB (fun j h1 h2 h3 => uM_ne _ _ (by omega))) (hl.off (lo := 32) (hi := 48) (Off.rf.wI (by omega) (by omega)) (by omega)) hR)
      · refine V_cVn o rt dX7_leap_27 ml_X7_69 (c7_run_n_25 hf hW hB ht hG) rfl rfl rfl (Nat.le_of_ble_eq_true rfl) rfl ?_
        refine V_astore_nN (ls' := [(3, _), (2, _), (1, _), (0, _)]) o dX7_leap_30 rfl (by decide) rfl ?_
        refine V_aload_nN o dX7_leap_31 rfl rfl ?_
        refine V_ifnull_n (tgt := 55) o dX7_leap_32 (by decide) ?_
        refine V_aload_nN o dX7_leap_55 rfl rfl ?_
        refine V_ifnull_n (tgt := 83) o dX7_leap_56 (by decide) ?_
        refine V_iincV (v := nI (t + 1)) (ls' := [(2, _), (3, _), (1, _), (0, _)]) o dX7_leap_83 rfl (ninc 1 rfl) (by decide) rfl ?_
        refine V_goto (tgt := 19) o dX7_leap_86 (by decide) ?_
        rw [if_neg hG] at hR
        exact V_sub (by simp) (ih (t + 1) τ N g n (by omega) (by omega) ho hW hB hl hR)
  refine V_aload_n o dX7_leap_0 rfl rfl ?_
  refine V_dup o dX7_leap_1 rfl ?_
  refine V_getI o dX7_leap_2 rfl fl_X7_45 rfl ?_
  refine V_topI (v' := M 6) hW0.1.1 ?_
  refine V_iload_n o dX7_leap_5 rfl rfl ?_
  refine V_iadd o dX7_leap_6 ?_
  refine V_putI o dX7_leap_7 rfl fl_X7_45 rfl rfl rfl ?_
  refine V_aload_n o dX7_leap_10 rfl rfl ?_
  refine V_getR (t := 30) o dX7_leap_11 rfl fl_X7_27 rfl ?_
  refine V_cVv o rt dX7_leap_14 ml_X7_115 (c1_empty_25 hf) rfl rfl rfl (Nat.le_of_ble_eq_true rfl) rfl ?_
  refine V_iconst (v := 0) o dX7_leap_17 (by decide) ?_
  refine V_istore_n (ls' := [(2, _), (0, _), (1, _)]) o dX7_leap_18 rfl (by decide) rfl ?_
  exact V_sub (by simp; rfl) (jn 16 0 (wI (wI σ 25 3 (M 6 + v)) 30 1 0) N0 (fun _ => 0) 0 (by omega) (by omega) ((Off.rf.wI (by omega) (by omega)).wI (by omega) (by omega)) (h2.ln (Off.rf.wI (by omega) (by omega))) hB2 LnR_0 hS0)
theorem c7_leap_25 {w : Wp} (hf : Fit sh0 w) {σ : Mm} {M : Nat → Int32} {L r : Nat} (hW : WRel 25 M L σ) (hc : Cv M L r) {v : Int32} : Ct sh0 w 3 mX7_leap [.ref 25, .int v] σ (fun r' σ' => r' = none ∧ Off 25 48 σ σ' ∧ LnR 25 (lpS M v).2.1 (lpS M v).2.2 σ' ∧ (∀ j, j < (lpS M v).2.2 → σ'.1 (25 + 7 + (lpS M v).2.1 j) 3 = (lpS M v).1 (231 + (lpS M v).2.1 j)) ∧ WRel 25 (leapM M L r v) L σ') := by
  obtain ⟨hI, hB, hr5, hAr⟩ := hc
  obtain ⟨hS, hG, hD⟩ := lpC_all (n := v) hr5 hAr
  obtain ⟨hA1, hA2, hA3, hA4⟩ := Iv_lpS (n := v) hI
  have sm : ∀ j, 13 ≤ j → (j < 231 ∨ 247 ≤ j) → (lpS M v).1 j = M j := fun j h1 h2 => (lpS_all.2.2 j h2).trans (lp0_ne (by omega) (by omega) (by omega))
  have hg : ∀ k, k < (lpS M v).2.2 → (lpS M v).2.1 k < 16 ∧ isT (lpS M v).1 ((lpS M v).2.1 k) := fun k hk => by
    have h1 := (hG k hk).1
    exact ⟨h1, (sm _ (by omega) (Or.inl (by omega))).trans (hG k hk).2.1⟩
  have hBA : Bo (lpS M v).1 := Bo_same hB (fun j h1 h2 h3 => sm j (by omega) (by omega))
  have agr := ring_agree (r := r) hI.1.2.2.1 hA2 hA3 hD hg
  unfold leapM
  generalize lpS M v = S at hS hG hD hA1 hA2 hA3 hA4 sm hg hBA agr
  obtain ⟨A, G, K⟩ := S
  have hgG : ∀ k, k < K → G k < 16 := fun k hk => (hG k hk).1
  exact c7_leap0_25 hf hW hI.1 hB hS hD hA1 hBA (fun k hk => ⟨(hG k hk).1, (sm _ (by omega) (Or.inr (by omega))).trans (hG k hk).2.2, hA4 _ (hG k hk).1 (hg k hk).2⟩) rfl (Bo_layC hgG (Bo_ringC hgG hBA)) (Wf_layC (Wf_ringC hA1)) rfl (Ag.layAll agr hI.1.2.2.1)
