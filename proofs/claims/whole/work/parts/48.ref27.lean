/-- all LEVELS of one SIZE -/
def bW (l sz : Nat) : Nat → Int32 := fun k => if k < l then nI sz else 0
def bUp (l sz : Nat) (k : Nat) (f : Nat → Int32) : Nat → Int32 := upd f k (bW l sz k)
theorem bUp_at (l sz : Nat) (f : Nat → Int32) : ∀ k, k < 4 → itr (bUp l sz) 0 4 f k = bW l sz k := by
  intro k hk
  have h := itr_inv (f := bUp l sz) (fun i s => ∀ j, j < i → s j = bW l sz j) 4 0 f (fun j hj => absurd hj (Nat.not_lt_zero j)) (fun j s _ _ hs i hi => by
    unfold bUp upd
    by_cases e : i = j
    · rw [if_pos e, e]
    · rw [if_neg e]; exact hs i (by omega))
  exact h k (by omega)
theorem wiM_congr {M W W' : Nat → Int32} {N : Nat} (h : ∀ k, k < 4 → W k = W' k) : wiM M W N = wiM M W' N := by
  unfold wiM
  exact itr_congr 4 0 _ (fun j s _ h2 => by rw [h j (by omega)])
theorem Wf_bW {M : Nat → Int32} {l sz : Nat} (h1 : 1 ≤ l) (h2 : l ≤ 4) (h3 : 2 ≤ sz) (h4 : sz ≤ 16) : Wf (wiM M (bW l sz) l) l := by
  refine ⟨by rw [wiM_at, if_pos rfl], h1, h2, fun k hk => ⟨sz, ?_, h3, h4⟩⟩
  rw [wiM_at, if_neg (by omega), if_pos (by omega), Nat.add_sub_cancel_left, bW, if_pos hk]
def beM (l sz : Nat) (M : Nat → Int32) : Nat → Int32 := layAllM (wiM (trM M) (bW l sz) l) l
def beV (l sz : Nat) (M : Nat → Int32) : Int32 := (coS l (beM l sz M)).1 + nI l * nI sz
/-- the desk (the other one was used), the best SIZE, the least cost -/
def beF (l sz : Nat) (s : (Nat → Int32) × Int32 × Int32) : (Nat → Int32) × Int32 × Int32 :=
  (bkM s.1 (beM l sz s.1), if s.2.1 < 0 ∨ beV l sz s.1 < s.2.2 then (nI sz, beV l sz s.1) else s.2)
def beS (l : Nat) (M : Nat → Int32) : (Nat → Int32) × Int32 × Int32 := itr (beF l) 2 15 (M, -1, 0)
/-- what a question may leave behind in the reference's own rows -/
def sQ (σ : Mm) (W fc fl : Nat → Int32) (a b : Int32) : Mm := wI (sCo (sWy (sWi σ W) fc fl) a b) 67 8 0
theorem sWi_sQ {σ : Mm} {W W' fc fl : Nat → Int32} {a b : Int32} : sWi (sQ σ W fc fl a b) W' = sQ σ W' fc fl a b := by
  refine Prod.ext (funext fun x => funext fun j => ?_) rfl
  simp only [sQ, sWi, wI, sCo, sWy, up2]
  by_cases q : x = 74
  · subst q; simp
  · by_cases q2 : x = 76
    · subst q2; simp
    · by_cases q3 : x = 77
      · subst q3; simp
      · simp [q]
theorem sQ_sQ {σ : Mm} {W fc fl fc' fl' : Nat → Int32} {a b a' b' : Int32} : wI (sCo (sWy (sQ σ W fc fl a b) fc' fl') a' b') 67 8 0 = sQ σ W fc' fl' a' b' := by
  refine Prod.ext (funext fun x => funext fun j => ?_) rfl
  simp only [sQ, sWi, wI, sCo, sWy, up2]
  by_cases q : x = 67 ∧ j = 8
  · simp [q]
  · by_cases q4 : x = 67 ∧ j = 18
    · simp [q4]
    · by_cases q5 : x = 67 ∧ j = 19
      · simp [q5]
      · by_cases q2 : x = 76
        · subst q2; simp
        · by_cases q3 : x = 77
          · subst q3; simp
          · simp [q, q2, q3, q4, q5]
theorem sQ_of {σ : Mm} (h : σ.1 67 8 = 0) : sQ σ (σ.1 74) (σ.1 76) (σ.1 77) (σ.1 67 18) (σ.1 67 19) = σ := by
  unfold sQ
  rw [sWi_of]
  rw [show sWy σ (σ.1 76) (σ.1 77) = σ from sWy_of σ, sCo_of]
  refine Prod.ext (funext fun x => funext fun j => ?_) rfl
  simp only [wI, up2]
  split
  · next q => rw [q.1, q.2, h]
  · rfl
set_option maxRecDepth 20000 in
set_option maxHeartbeats 4000000 in
theorem c9_best {w : Wp} (hf : Fit sh0 w) {σ : Mm} {M : Nat → Int32} (hd : σ.1 67 8 = nI 0) {k : Int32} {l : Nat} (hk : k = nI l) (hl1 : 1 ≤ l) (hl4 : l ≤ 4) {R : (Nat → Int32) × Int32 × Int32} (hR0 : beS l M = R) : Ct sh0 w 7 mX9_best [.ref 67, .int k] (sM σ 0 M) (fun r' σ' => ∃ W fc fl a b fr, r' = some (.int R.2.1) ∧ σ' = sM (sRw (sQ (wI σ 67 0 0) W fc fl a b) fr 1) 0 R.1 ∧ RwR fr [R.2.2.toInt64]) := by
  subst hk
  unfold beS at hR0
  refine Ct_of hf (by decide) rfl (Nat.le_of_ble_eq_true rfl) (fun x o rt => ?_)
  have hkr : inR (nI l) 1 4 := ⟨nI_le (a := 1) hl1 (by omega), nI_le (b := 4) hl4 (by omega)⟩
  have loop : ∀ n z (s : (Nat → Int32) × Int32 × Int32) W fc fl a b, z + n = 17 → 2 ≤ z → itr (beF l) z n s = R → V sh0 w x mX9_best (0, 0) 26 [(4, .int (nI z)), (3, .int s.2.2), (2, .int s.2.1), (0, .ref 67), (1, .int (nI l))] [] (sM (sQ (wI σ 67 0 0) W fc fl a b) 0 s.1) := by
    intro n
    induction n with
    | zero =>
      intro z s W fc fl a b hz h2 hR
      have hz7 : z = 17 := by omega
      have hs : s = R := hR
      subst hs
      refine V_iload o dX9_best_26 rfl ?_
      refine V_bipush (v := 16) o dX9_best_28 (by decide) ?_
      refine V_icmp_gt (tgt := 101) o dX9_best_30 (by decide) (fun c_30 => ?_) (fun c_30 => False.elim (c_30 (by rw [hz7]; decide)))
      refine V_aload_n o dX9_best_101 rfl rfl ?_
      refine V_iconst (v := 0) o dX9_best_102 (by decide) ?_
      refine V_putI o dX9_best_103 rfl fl_X9_11 rfl rfl rfl ?_
      rw [wI_sM67]
      rw [wI_sRw0]
      refine V_aload_n o dX9_best_106 rfl rfl ?_
      refine V_iload_n o dX9_best_107 rfl rfl ?_
      refine V_i2l o dX9_best_108 ?_
      refine V_cVv o rt dX9_best_109 ml_X9_153 (c9_enters hf (by omega)) rfl rfl rfl (Nat.le_of_ble_eq_true rfl) rfl ?_
      refine V_iload_n o dX9_best_112 rfl rfl ?_
      refine V_iret o rt dX9_best_113 rfl rfl ?_
      exact ⟨W, fc, fl, a, b, _, rfl, rfl, RwR_push (l := []) rfl RwR_nil⟩
    | succ n ih =>
      intro z s W fc fl a b hz h2 hR
      rw [itr_succ] at hR
      have hwf := Wf_bW (M := trM s.1) hl1 hl4 h2 (show z ≤ 16 by omega)
      generalize hM1 : beM l z s.1 = M1
      generalize hV : beV l z s.1 = V0
      have inner : ∀ m i (f : Nat → Int32), i + m = 4 → (∀ j, j < i → f j = bW l z j) → V sh0 w x mX9_best (0, 0) 36 [(5, .int (nI i)), (4, .int (nI z)), (3, .int s.2.2), (2, .int s.2.1), (0, .ref 67), (1, .int (nI l))] [] (sM (sQ (wI σ 67 0 0) f fc fl a b) 0 s.1) := by
        intro m
        induction m with
        | zero =>
          intro i f him hf4
          have h4 : i = 4 := by omega
          have eW : wiM (trM s.1) f l = wiM (trM s.1) (bW l z) l := wiM_congr (fun j hj => hf4 j (by omega))
          have hm1 : layAllM (wiM (trM s.1) f l) l = M1 := by rw [eW]; exact hM1
          have hw1 : Wf (wiM (trM s.1) f l) l := by rw [eW]; exact hwf
          generalize hS : coS l M1 = S
          have hV2 : S.1 + nI l * nI z = V0 := by rw [← hV, beV, hM1, hS]
          refine V_iload o dX9_best_36 rfl ?_
          refine V_iconst (v := 4) o dX9_best_38 (by decide) ?_
          refine V_icmp_ge (tgt := 67) o dX9_best_39 (by decide) (fun c_39 => ?_) (fun c_39 => False.elim (c_39 (by rw [h4]; exact Int32.le_refl _)))
          refine V_aload_n o dX9_best_67 rfl rfl ?_
          refine V_iload_n o dX9_best_68 rfl rfl ?_
          refine V_callV o rt dX9_best_69 ml_X9_267 (c9_costOf (σ := sQ (wI σ 67 0 0) f fc fl a b) (M := s.1) (N := l) (M1 := M1) (S := S) hf rfl hm1 hw1 hS) rfl rfl rfl (Nat.le_of_ble_eq_true rfl) rfl (fun r_69 σ_69 q_69 => ?_)
          obtain ⟨fc2, fl2, rfl, rfl⟩ := q_69
          rw [sQ_sQ]
          show V sh0 w x mX9_best (0, 0) _ _ (.int S.1 :: []) _
          refine V_iload_n o dX9_best_72 rfl rfl ?_
          refine V_iload o dX9_best_73 rfl ?_
          refine V_imul o dX9_best_75 ?_
          refine V_iadd o dX9_best_76 ?_
          refine V_topI (v' := V0) hV2 ?_
          refine V_istore (ls' := [(5, _), (4, _), (3, _), (2, _), (0, _), (1, _)]) o dX9_best_77 (by decide) rfl ?_
          refine V_iload_n o dX9_best_79 rfl rfl ?_
          refine V_if_lt (tgt := 89) o dX9_best_80 (by decide) (fun c_80 => ?_) (fun c_80 => ?_)
          · refine V_iload o dX9_best_89 rfl ?_
            refine V_istore_n (ls' := [(2, _), (5, _), (4, _), (3, _), (0, _), (1, _)]) o dX9_best_91 rfl (by decide) rfl ?_
            refine V_iload o dX9_best_92 rfl ?_
            refine V_istore_n (ls' := [(3, _), (2, _), (5, _), (4, _), (0, _), (1, _)]) o dX9_best_94 rfl (by decide) rfl ?_
            refine V_iincV (v := nI (z + 1)) (ls' := [(4, _), (3, _), (2, _), (5, _), (0, _), (1, _)]) o dX9_best_95 rfl (ninc 1 rfl) (by decide) rfl ?_
            refine V_goto (tgt := 26) o dX9_best_98 (by decide) ?_
            rw [beF, hM1, hV, if_pos (Or.inl c_80)] at hR
            exact V_sub (by simp) (ih (z + 1) (bkM s.1 M1, nI z, V0) f fc2 fl2 S.2.1 S.2.2 (by omega) (by omega) hR)
          · refine V_iload o dX9_best_83 rfl ?_
            refine V_iload_n o dX9_best_85 rfl rfl ?_
            refine V_icmp_ge (tgt := 95) o dX9_best_86 (by decide) (fun c_86 => ?_) (fun c_86 => ?_)
            · refine V_iincV (v := nI (z + 1)) (ls' := [(4, _), (5, _), (3, _), (2, _), (0, _), (1, _)]) o dX9_best_95 rfl (ninc 1 rfl) (by decide) rfl ?_
              refine V_goto (tgt := 26) o dX9_best_98 (by decide) ?_
              rw [beF, hM1, hV, if_neg (fun q => q.elim c_80 (fun q2 => absurd q2 (Int32.not_lt.mpr c_86)))] at hR
              exact V_sub (by simp) (ih (z + 1) (bkM s.1 M1, s.2) f fc2 fl2 S.2.1 S.2.2 (by omega) (by omega) hR)
            · refine V_iload o dX9_best_89 rfl ?_
              refine V_istore_n (ls' := [(2, _), (5, _), (4, _), (3, _), (0, _), (1, _)]) o dX9_best_91 rfl (by decide) rfl ?_
              refine V_iload o dX9_best_92 rfl ?_
              refine V_istore_n (ls' := [(3, _), (2, _), (5, _), (4, _), (0, _), (1, _)]) o dX9_best_94 rfl (by decide) rfl ?_
              refine V_iincV (v := nI (z + 1)) (ls' := [(4, _), (3, _), (2, _), (5, _), (0, _), (1, _)]) o dX9_best_95 rfl (ninc 1 rfl) (by decide) rfl ?_
              refine V_goto (tgt := 26) o dX9_best_98 (by decide) ?_
              rw [beF, hM1, hV, if_pos (Or.inr (Int32.not_le.mp c_86))] at hR
              exact V_sub (by simp) (ih (z + 1) (bkM s.1 M1, nI z, V0) f fc2 fl2 S.2.1 S.2.2 (by omega) (by omega) hR)
        | succ m ih2 =>
          intro i f him hf4
          have rest : ∀ v, v = bW l z i → V sh0 w x mX9_best (0, 0) 60 [(5, .int (nI i)), (4, .int (nI z)), (3, .int s.2.2), (2, .int s.2.1), (0, .ref 67), (1, .int (nI l))] [.int v, .int (nI i), .ref 74] (sM (sQ (wI σ 67 0 0) f fc fl a b) 0 s.1) := by
            intro v hv
            refine V_iastN 4 o dX9_best_60 rfl rfl rfl (by omega) rfl ?_
            rw [wI_sM74, show wI (sQ (wI σ 67 0 0) f fc fl a b) 74 i v = sQ (wI σ 67 0 0) (upd f i v) fc fl a b from by rw [← sWi_sQ (W := f) (W' := f), wI_sWi, sWi_sQ]]
            refine V_iincV (v := nI (i + 1)) (ls' := [(5, _), (4, _), (3, _), (2, _), (0, _), (1, _)]) o dX9_best_61 rfl (ninc 1 rfl) (by decide) rfl ?_
            refine V_goto (tgt := 36) o dX9_best_64 (by decide) ?_
            exact ih2 (i + 1) (upd f i v) (by omega) (fun j hj => by
              unfold upd
              by_cases e : j = i
              · rw [if_pos e, e, hv]
              · rw [if_neg e]; exact hf4 j (by omega))
          refine V_iload o dX9_best_36 rfl ?_
          refine V_iconst (v := 4) o dX9_best_38 (by decide) ?_
          refine V_icmp_ge (tgt := 67) o dX9_best_39 (by decide) (fun c_39 => False.elim (absurd c_39 (nI_ge (b := 4) (by omega) (by omega)))) (fun c_39 => ?_)
          refine V_aload_n o dX9_best_42 rfl rfl ?_
          refine V_getR (t := 74) o dX9_best_43 rfl fl_X9_61 rfl ?_
          refine V_iload o dX9_best_46 rfl ?_
          refine V_iload o dX9_best_48 rfl ?_
          refine V_iload_n o dX9_best_50 rfl rfl ?_
          refine V_icmp_ge (tgt := 59) o dX9_best_51 (by decide) (fun c_51 => ?_) (fun c_51 => ?_)
          · refine V_iconst (v := 0) o dX9_best_59 (by decide) ?_
            exact rest 0 (by rw [bW, if_neg (Nat.not_lt.mpr ((nI_leI (by omega) (by omega)).mp c_51))])
          · refine V_iload o dX9_best_54 rfl ?_
            refine V_goto (tgt := 60) o dX9_best_56 (by decide) ?_
            exact rest (nI z) (by rw [bW, if_pos (Nat.lt_of_not_le (fun q => c_51 ((nI_leI (by omega) (by omega)).mpr q)))])
      refine V_iload o dX9_best_26 rfl ?_
      refine V_bipush (v := 16) o dX9_best_28 (by decide) ?_
      refine V_icmp_gt (tgt := 101) o dX9_best_30 (by decide) (fun c_30 => False.elim (absurd c_30 (Int32.not_lt.mpr (nI_le (b := 16) (by omega) (by omega))))) (fun c_30 => ?_)
      refine V_iconst (v := 0) o dX9_best_33 (by decide) ?_
      refine V_istore (ls' := [(5, _), (4, _), (3, _), (2, _), (0, _), (1, _)]) o dX9_best_34 (by decide) rfl ?_
      exact inner 4 0 W (by omega) (fun j hj => absurd hj (Nat.not_lt_zero j))
  refine V_aload_n o dX9_best_0 rfl rfl ?_
  refine V_iconst (v := 0) o dX9_best_1 (by decide) ?_
  refine V_putI o dX9_best_2 rfl fl_X9_1 rfl rfl rfl ?_
  rw [wI_sM67]
  refine V_iload_n o dX9_best_5 rfl rfl ?_
  refine V_i2l o dX9_best_6 ?_
  refine V_lconst (v := 1) o dX9_best_7 (by decide) ?_
  refine V_ldc2 o dX9_best_8 kc_X9_270 ?_
  refine V_cSi o rt dX9_best_11 ms_X9_21 (c9_in hf) rfl rfl (Nat.le_of_ble_eq_true rfl) rfl ?_
  refine V_if_ne (tgt := 19) o dX9_best_14 (by decide) (fun c_14 => ?_) (fun c_14 => False.elim (bz_n0.mpr ((in_lo (k := (nI l)) (lo := 1) (hi := 4) (l := 1) (h := 4) (by decide) (by decide)).mpr hkr) c_14))
  refine V_iconst (v := -1) o dX9_best_19 (by decide) ?_
  refine V_istore_n (ls' := [(2, _), (0, _), (1, _)]) o dX9_best_20 rfl (by decide) rfl ?_
  refine V_iconst (v := 0) o dX9_best_21 (by decide) ?_
  refine V_istore_n (ls' := [(3, _), (2, _), (0, _), (1, _)]) o dX9_best_22 rfl (by decide) rfl ?_
  refine V_iconst (v := 2) o dX9_best_23 (by decide) ?_
  refine V_istore (ls' := [(4, _), (3, _), (2, _), (0, _), (1, _)]) o dX9_best_24 (by decide) rfl ?_
  have h0 := loop 15 2 (M, -1, 0) ((wI σ 67 0 0).1 74) ((wI σ 67 0 0).1 76) ((wI σ 67 0 0).1 77) ((wI σ 67 0 0).1 67 18) ((wI σ 67 0 0).1 67 19) (by omega) (by omega) hR0
  rw [sQ_of (σ := wI σ 67 0 0) hd] at h0
  exact h0
set_option maxRecDepth 20000 in
set_option maxHeartbeats 4000000 in
theorem c9_best_no {w : Wp} (hf : Fit sh0 w) {σ : Mm} {M : Nat → Int32} (hd : σ.1 67 8 = nI 0) {k : Int32} (hk : ¬ inR k 1 4) : Cf sh0 w 7 mX9_best [.ref 67, .int k] (sM σ 0 M) (some (.int (-1))) (sM (wI σ 67 0 0) 0 M) := by
  refine Ct_of hf (by decide) rfl (Nat.le_of_ble_eq_true rfl) (fun x o rt => ?_)
  refine V_aload_n o dX9_best_0 rfl rfl ?_
  refine V_iconst (v := 0) o dX9_best_1 (by decide) ?_
  refine V_putI o dX9_best_2 rfl fl_X9_1 rfl rfl rfl ?_
  rw [wI_sM67]
  refine V_iload_n o dX9_best_5 rfl rfl ?_
  refine V_i2l o dX9_best_6 ?_
  refine V_lconst (v := 1) o dX9_best_7 (by decide) ?_
  refine V_ldc2 o dX9_best_8 kc_X9_270 ?_
  refine V_cSi o rt dX9_best_11 ms_X9_21 (c9_in hf) rfl rfl (Nat.le_of_ble_eq_true rfl) rfl ?_
  refine V_if_ne (tgt := 19) o dX9_best_14 (by decide) (fun c_14 => False.elim (hk ((in_lo (k := k) (lo := 1) (hi := 4) (l := 1) (h := 4) (by decide) (by decide)).mp (bz_n0.mp c_14)))) (fun c_14 => ?_)
  refine V_iconst (v := -1) o dX9_best_17 (by decide) ?_
  refine V_iret o rt dX9_best_18 rfl rfl ?_
  exact ⟨rfl, rfl⟩
