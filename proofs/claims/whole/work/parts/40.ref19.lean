set_option maxRecDepth 20000 in
set_option maxHeartbeats 4000000 in
theorem c9_ways {w : Wp} (hf : Fit sh0 w) {σ : Mm} {d : Nat} {M : Nat → Int32} (hd : σ.1 67 8 = nI d) (hd4 : d ≤ 423) {L : Nat} (hW : Wf M L) {due lv : Int32} (hlv : LvOk L lv) {WL : List (Int32 × Int32)} (hWL : wyL M L due 5 lv = WL) : Ct sh0 w 3 mX9_ways [.ref 67, .int due, .int lv] (sM σ d M) (fun r' σ' => ∃ fc fl, r' = some (.int (nI WL.length)) ∧ σ' = sM (sWy σ fc fl) d M ∧ WyR fc fl WL) := by
  refine Ct_of hf (by decide) rfl (Nat.le_of_ble_eq_true rfl) (fun x o rt => ?_)
  have hL4 := hW.2.2.1
  have loop : ∀ (fuel rk : Nat) (its : Int32) (pre : List (Int32 × Int32)) (fc fl : Nat → Int32), rk < fuel → rk ≤ L → ((rk = L ∧ its = -1) ∨ (rk < L ∧ its = nI rk)) → pre.length + fuel ≤ 5 → WyR fc fl pre → pre ++ wyL M L due fuel its = WL → V sh0 w x mX9_ways (0, 0) 5 [(4, .int its), (3, .int (nI pre.length)), (0, .ref 67), (1, .int due), (2, .int lv)] [] (sM (sWy σ fc fl) d M) := by
    intro fuel
    induction fuel with
    | zero => intro rk its pre fc fl h; omega
    | succ n ih =>
      intro rk its pre fc fl hrk hrL hits hlen hF hR
      rw [wyL] at hR
      have step : ∀ by_, by_ = wyBy M L its → by_ = spanM M rk → 1 ≤ rk → ¬ its = 0 → V sh0 w x mX9_ways (0, 0) 28 [(4, .int its), (3, .int (nI pre.length)), (0, .ref 67), (1, .int due), (2, .int lv)] [.int by_] (sM (sWy σ fc fl) d M) := by
        intro by_ hby hbs hrk1 hne
        rw [if_neg hne, ← hby] at hR
        obtain ⟨s, es, s1, s2⟩ := Wf_span hW rk hrL
        have hp := pow16 (Nat.le_trans hrL hL4)
        have hb0 : ¬ by_ = 0 := by rw [hbs]; exact Wf_span0 hW hrL
        have hlt : due - due / by_ * by_ < by_ := by rw [hbs, es]; exact dw_rem_lt due s1 (by omega)
        have hk1 : rk - 1 + 1 = rk := by omega
        obtain ⟨j, -, hj2, hj⟩ := lvF_lt (M := M) (far := due - due / by_ * by_) L 0 (rk - 1) (by omega) (by omega) (by rw [hk1, ← hbs]; exact hlt)
        refine V_istore (ls' := [(5, _), (4, _), (3, _), (0, _), (1, _), (2, _)]) o dX9_ways_28 (by decide) rfl ?_
        refine V_aload_n o dX9_ways_30 rfl rfl ?_
        refine V_getR (t := 76) o dX9_ways_31 rfl fl_X9_67 rfl ?_
        refine V_iload_n o dX9_ways_34 rfl rfl ?_
        refine V_iload_n o dX9_ways_35 rfl rfl ?_
        refine V_iload o dX9_ways_36 rfl ?_
        refine V_idiv o dX9_ways_38 hb0 ?_
        refine V_iload o dX9_ways_39 rfl ?_
        refine V_imul o dX9_ways_41 ?_
        refine V_iastN 8 o dX9_ways_42 rfl rfl rfl (by omega) rfl ?_
        rw [wI_sM76, wI_sWy76]
        refine V_aload_n o dX9_ways_43 rfl rfl ?_
        refine V_iload_n o dX9_ways_44 rfl rfl ?_
        refine V_aload_n o dX9_ways_45 rfl rfl ?_
        refine V_getR (t := 76) o dX9_ways_46 rfl fl_X9_67 rfl ?_
        refine V_iload_n o dX9_ways_49 rfl rfl ?_
        refine V_ialdN 8 o dX9_ways_50 rfl rfl rfl (by omega) rfl ?_
        refine V_topI (v' := due / by_ * by_) (by show upd fc pre.length _ pre.length = _; simp [upd]) ?_
        refine V_isub o dX9_ways_51 ?_
        refine V_cVi o rt dX9_ways_52 ml_X9_96 (c9_levelFor hf (by exact hd) hd4 hW) rfl rfl rfl (Nat.le_of_ble_eq_true rfl) rfl ?_
        refine V_istore (ls' := [(4, _), (5, _), (3, _), (0, _), (1, _), (2, _)]) o dX9_ways_55 (by decide) rfl ?_
        refine V_aload_n o dX9_ways_57 rfl rfl ?_
        refine V_getR (t := 77) o dX9_ways_58 rfl fl_X9_70 rfl ?_
        refine V_iload_n o dX9_ways_61 rfl rfl ?_
        refine V_iload o dX9_ways_62 rfl ?_
        refine V_iastN 8 o dX9_ways_64 rfl rfl rfl (by omega) rfl ?_
        rw [wI_sM77, wI_sWy77]
        refine V_iincV (v := nI (pre.length + 1)) (ls' := [(3, _), (4, _), (5, _), (0, _), (1, _), (2, _)]) o dX9_ways_65 rfl (ninc 1 rfl) (by decide) rfl ?_
        refine V_goto (tgt := 5) o dX9_ways_68 (by decide) ?_
        have h1 := ih j (lvF M (due - due / by_ * by_) L 0) (pre ++ [(due / by_ * by_, lvF M (due - due / by_ * by_) L 0)]) _ _ (by omega) (by omega) (Or.inr ⟨by omega, hj⟩) (by rw [List.length_append]; simp; omega) (WyR_push rfl hF) (by rw [List.append_assoc]; exact hR)
        rw [List.length_append] at h1
        exact V_sub (by simp) h1
      rcases hits with ⟨hrk0, hi⟩ | ⟨hrk0, hi⟩
      · have hL1 := hW.2.1
        refine V_iload o dX9_ways_5 rfl ?_
        refine V_if_eq (tgt := 71) o dX9_ways_7 (by decide) (fun c_7 => False.elim (absurd c_7 (by rw [hi]; decide))) (fun c_7 => ?_)
        refine V_iload o dX9_ways_10 rfl ?_
        refine V_if_ge (tgt := 22) o dX9_ways_12 (by decide) (fun c_12 => False.elim (absurd c_12 (by rw [hi]; decide))) (fun c_12 => ?_)
        refine V_aload_n o dX9_ways_15 rfl rfl ?_
        refine V_cVi o rt dX9_ways_16 ml_X9_135 (c9_whole hf (by exact hd) hd4 hW) rfl rfl rfl (Nat.le_of_ble_eq_true rfl) rfl ?_
        refine V_goto (tgt := 28) o dX9_ways_19 (by decide) ?_
        exact step (spanM M L) (by rw [wyBy, if_pos (by rw [hi]; decide)]) (by rw [hrk0]) (by omega) (by rw [hi]; decide)
      · by_cases hz : rk = 0
        · subst hz
          refine V_iload o dX9_ways_5 rfl ?_
          refine V_if_eq (tgt := 71) o dX9_ways_7 (by decide) (fun c_7 => ?_) (fun c_7 => False.elim (c_7 hi))
          refine V_iload_n o dX9_ways_71 rfl rfl ?_
          refine V_iret o rt dX9_ways_72 rfl rfl ?_
          have hz0 : its = 0 := hi
          rw [if_pos hz0, List.append_nil] at hR
          subst hR
          exact ⟨fc, fl, rfl, rfl, hF⟩
        · have hj : its = nI rk := hi
          refine V_iload o dX9_ways_5 rfl ?_
          refine V_if_eq (tgt := 71) o dX9_ways_7 (by decide) (fun c_7 => False.elim (absurd c_7 (by rw [hi]; exact nI_ne0 (by omega) (by omega)))) (fun c_7 => ?_)
          refine V_iload o dX9_ways_10 rfl ?_
          refine V_if_ge (tgt := 22) o dX9_ways_12 (by decide) (fun c_12 => ?_) (fun c_12 => False.elim (c_12 (by rw [hi]; exact nI_pos' (by omega))))
          refine V_aload_n o dX9_ways_22 rfl rfl ?_
          refine V_iload o dX9_ways_23 rfl ?_
          refine V_cVi o rt dX9_ways_25 ml_X9_93 (c9_span hf (by exact hd) hd4 hj (by omega)) rfl rfl rfl (Nat.le_of_ble_eq_true rfl) rfl ?_
          exact step (spanM M rk) (by rw [wyBy, if_neg (by rw [hi]; exact nI_pos (by omega)), hi, ix_nI (by omega)]) rfl (by omega) (by rw [hi]; exact nI_ne0 (by omega) (by omega))
  rw [show sM σ d M = sM (sWy σ (σ.1 76) (σ.1 77)) d M from by rw [sWy_of]]
  rcases hlv with h | ⟨j, hj1, hj2⟩
  · refine V_iconst (v := 0) o dX9_ways_0 (by decide) ?_
    refine V_istore_n (ls' := [(3, _), (0, _), (1, _), (2, _)]) o dX9_ways_1 rfl (by decide) rfl ?_
    refine V_iload_n o dX9_ways_2 rfl rfl ?_
    refine V_istore (ls' := [(4, _), (3, _), (0, _), (1, _), (2, _)]) o dX9_ways_3 (by decide) rfl ?_
    exact loop 5 L lv [] (σ.1 76) (σ.1 77) (by omega) (Nat.le_refl L) (Or.inl ⟨rfl, h⟩) (Nat.le_refl 5) (fun j hj => absurd hj (Nat.not_lt_zero j)) hWL
  · refine V_iconst (v := 0) o dX9_ways_0 (by decide) ?_
    refine V_istore_n (ls' := [(3, _), (0, _), (1, _), (2, _)]) o dX9_ways_1 rfl (by decide) rfl ?_
    refine V_iload_n o dX9_ways_2 rfl rfl ?_
    refine V_istore (ls' := [(4, _), (3, _), (0, _), (1, _), (2, _)]) o dX9_ways_3 (by decide) rfl ?_
    exact loop 5 j lv [] (σ.1 76) (σ.1 77) (by omega) (by omega) (Or.inr ⟨hj1, hj2⟩) (Nat.le_refl 5) (fun j hj => absurd hj (Nat.not_lt_zero j)) hWL
set_option maxRecDepth 20000 in
set_option maxHeartbeats 4000000 in
theorem c9_movesOf {w : Wp} (hf : Fit sh0 w) {σ : Mm} {d : Nat} {M : Nat → Int32} (hd : σ.1 67 8 = nI d) (hd4 : d ≤ 423) {L : Nat} (hW : Wf M L) {k : Int32} {i : Nat} (hk : k = nI i) (hi : i < 16) (hlv : LvOk L (M (391 + i))) {WL : List (Int32 × Int32)} (hWL : wyL M L (M (231 + i)) 5 (M (391 + i)) = WL) : Ct sh0 w 4 mX9_movesOf [.ref 67, .int k] (sM σ d M) (fun r' σ' => ∃ fc fl, r' = some (.int (nI WL.length)) ∧ σ' = sM (sWy σ fc fl) d M ∧ WyR fc fl WL) := by
  subst hk
  refine Ct_of hf (by decide) rfl (Nat.le_of_ble_eq_true rfl) (fun x o rt => ?_)
  refine V_aload_n o dX9_movesOf_0 rfl rfl ?_
  refine V_aload_n o dX9_movesOf_1 rfl rfl ?_
  refine V_sipush (v := 231) o dX9_movesOf_2 (by decide) ?_
  refine V_iload_n o dX9_movesOf_5 rfl rfl ?_
  refine V_iadd o dX9_movesOf_6 ?_
  refine V_cVi o rt dX9_movesOf_7 ml_X9_85 (c9_of hf (by exact hd) (nadd (show (231 : Int32) = nI 231 from rfl) rfl) (by omega)) rfl rfl rfl (Nat.le_of_ble_eq_true rfl) rfl ?_
  refine V_aload_n o dX9_movesOf_10 rfl rfl ?_
  refine V_sipush (v := 391) o dX9_movesOf_11 (by decide) ?_
  refine V_iload_n o dX9_movesOf_14 rfl rfl ?_
  refine V_iadd o dX9_movesOf_15 ?_
  refine V_cVi o rt dX9_movesOf_16 ml_X9_85 (c9_of hf (by exact hd) (nadd (show (391 : Int32) = nI 391 from rfl) rfl) (by omega)) rfl rfl rfl (Nat.le_of_ble_eq_true rfl) rfl ?_
  refine V_callV o rt dX9_movesOf_19 ml_X9_255 (c9_ways hf (by exact hd) hd4 hW hlv hWL) rfl rfl rfl (Nat.le_of_ble_eq_true rfl) rfl (fun r_19 σ_19 q_19 => ?_)
  obtain ⟨fc, fl, rfl, rfl, hF⟩ := q_19
  show V sh0 w x mX9_movesOf (0, 0) _ _ (.int (nI WL.length) :: []) _
  refine V_iret o rt dX9_movesOf_22 rfl rfl ?_
  exact ⟨fc, fl, rfl, rfl, hF⟩
def rowW (a : Int32) (l : List (Int32 × Int32)) : List Int64 := a.toInt64 :: l.flatMap (fun e => [e.1.toInt64, e.2.toInt64])
theorem rowW_app (a : Int32) (l : List (Int32 × Int32)) (e : Int32 × Int32) : rowW a (l ++ [e]) = rowW a l ++ [e.1.toInt64] ++ [e.2.toInt64] := by simp [rowW]
theorem rowW_len (a : Int32) (l : List (Int32 × Int32)) : (rowW a l).length = 1 + 2 * l.length := by
  induction l with
  | nil => rfl
  | cons b l ih =>
    have : (rowW a (b :: l)).length = (rowW a l).length + 2 := by simp [rowW]
    rw [this, ih, List.length_cons]
    omega
set_option maxRecDepth 20000 in
set_option maxHeartbeats 4000000 in
theorem c9_moves {w : Wp} (hf : Fit sh0 w) {σ : Mm} {M : Nat → Int32} (hd : σ.1 67 8 = nI 0) {L : Nat} (hW : Wf M L) {k : Int32} (hT : isTm M k) (hp : ¬ M (343 + ix k) = 1) (hlv : LvOk L (M (391 + ix k))) {WL : List (Int32 × Int32)} (hWL : wyL M L (M (231 + ix k)) 5 (M (391 + ix k)) = WL) : Ct sh0 w 5 mX9_moves [.ref 67, .int k] (sM σ 0 M) (fun r' σ' => ∃ fc fl, r' = some (.int (nI WL.length)) ∧ σ' = sM (sWy (wI σ 67 0 0) fc fl) 0 M) := by
  refine Ct_of hf (by decide) rfl (Nat.le_of_ble_eq_true rfl) (fun x o rt => ?_)
  have hx := isTm_ix hT.1
  refine V_aload_n o dX9_moves_0 rfl rfl ?_
  refine V_iconst (v := 0) o dX9_moves_1 (by decide) ?_
  refine V_putI o dX9_moves_2 rfl fl_X9_1 rfl rfl rfl ?_
  rw [wI_sM67]
  refine V_aload_n o dX9_moves_5 rfl rfl ?_
  refine V_iload_n o dX9_moves_6 rfl rfl ?_
  refine V_cVi o rt dX9_moves_7 ml_X9_89 (c9_isTm hf (by exact hd) (Nat.zero_le 423)) rfl rfl rfl (Nat.le_of_ble_eq_true rfl) rfl ?_
  refine V_if_ne (tgt := 15) o dX9_moves_10 (by decide) (fun c_10 => ?_) (fun c_10 => False.elim (bz_n0.mpr hT c_10))
  refine V_aload_n o dX9_moves_15 rfl rfl ?_
  refine V_sipush (v := 343) o dX9_moves_16 (by decide) ?_
  refine V_iload_n o dX9_moves_19 rfl rfl ?_
  refine V_iadd o dX9_moves_20 ?_
  refine V_cVi o rt dX9_moves_21 ml_X9_85 (c9_of hf (by exact hd) (nadd (show (343 : Int32) = nI 343 from rfl) hx.1) (by omega)) rfl rfl rfl (Nat.le_of_ble_eq_true rfl) rfl ?_
  refine V_iconst (v := 1) o dX9_moves_24 (by decide) ?_
  refine V_icmp_ne (tgt := 33) o dX9_moves_25 (by decide) (fun c_25 => ?_) (fun c_25 => False.elim (hp c_25))
  refine V_aload_n o dX9_moves_33 rfl rfl ?_
  refine V_iload_n o dX9_moves_34 rfl rfl ?_
  refine V_callV o rt dX9_moves_35 ml_X9_258 (c9_movesOf hf (by exact hd) (Nat.zero_le 423) hW hx.1 hx.2 hlv hWL) rfl rfl rfl (Nat.le_of_ble_eq_true rfl) rfl (fun r_35 σ_35 q_35 => ?_)
  obtain ⟨fc, fl, rfl, rfl, hF⟩ := q_35
  show V sh0 w x mX9_moves (0, 0) _ _ (.int (nI WL.length) :: []) _
  refine V_iret o rt dX9_moves_38 rfl rfl ?_
  exact ⟨fc, fl, rfl, rfl⟩
set_option maxRecDepth 20000 in
set_option maxHeartbeats 4000000 in
theorem c9_moves_pa {w : Wp} (hf : Fit sh0 w) {σ : Mm} {M : Nat → Int32} (hd : σ.1 67 8 = nI 0) {k : Int32} (hT : isTm M k) (hp : M (343 + ix k) = 1) : Cf sh0 w 5 mX9_moves [.ref 67, .int k] (sM σ 0 M) (some (.int (-2))) (sM (wI σ 67 0 0) 0 M) := by
  refine Ct_of hf (by decide) rfl (Nat.le_of_ble_eq_true rfl) (fun x o rt => ?_)
  have hx := isTm_ix hT.1
  refine V_aload_n o dX9_moves_0 rfl rfl ?_
  refine V_iconst (v := 0) o dX9_moves_1 (by decide) ?_
  refine V_putI o dX9_moves_2 rfl fl_X9_1 rfl rfl rfl ?_
  rw [wI_sM67]
  refine V_aload_n o dX9_moves_5 rfl rfl ?_
  refine V_iload_n o dX9_moves_6 rfl rfl ?_
  refine V_cVi o rt dX9_moves_7 ml_X9_89 (c9_isTm hf (by exact hd) (Nat.zero_le 423)) rfl rfl rfl (Nat.le_of_ble_eq_true rfl) rfl ?_
  refine V_if_ne (tgt := 15) o dX9_moves_10 (by decide) (fun c_10 => ?_) (fun c_10 => False.elim (bz_n0.mpr hT c_10))
  refine V_aload_n o dX9_moves_15 rfl rfl ?_
  refine V_sipush (v := 343) o dX9_moves_16 (by decide) ?_
  refine V_iload_n o dX9_moves_19 rfl rfl ?_
  refine V_iadd o dX9_moves_20 ?_
  refine V_cVi o rt dX9_moves_21 ml_X9_85 (c9_of hf (by exact hd) (nadd (show (343 : Int32) = nI 343 from rfl) hx.1) (by omega)) rfl rfl rfl (Nat.le_of_ble_eq_true rfl) rfl ?_
  refine V_iconst (v := 1) o dX9_moves_24 (by decide) ?_
  refine V_icmp_ne (tgt := 33) o dX9_moves_25 (by decide) (fun c_25 => False.elim (absurd hp c_25)) (fun c_25 => ?_)
  refine V_bipush (v := -2) o dX9_moves_28 (by decide) ?_
  refine V_goto (tgt := 38) o dX9_moves_30 (by decide) ?_
  refine V_iret o rt dX9_moves_38 rfl rfl ?_
  exact ⟨rfl, rfl⟩
set_option maxRecDepth 20000 in
set_option maxHeartbeats 4000000 in
theorem c9_moves_no {w : Wp} (hf : Fit sh0 w) {σ : Mm} {M : Nat → Int32} (hd : σ.1 67 8 = nI 0) {k : Int32} (hT : ¬ isTm M k) : Cf sh0 w 5 mX9_moves [.ref 67, .int k] (sM σ 0 M) (some (.int (-1))) (sM (wI σ 67 0 0) 0 M) := by
  refine Ct_of hf (by decide) rfl (Nat.le_of_ble_eq_true rfl) (fun x o rt => ?_)
  refine V_aload_n o dX9_moves_0 rfl rfl ?_
  refine V_iconst (v := 0) o dX9_moves_1 (by decide) ?_
  refine V_putI o dX9_moves_2 rfl fl_X9_1 rfl rfl rfl ?_
  rw [wI_sM67]
  refine V_aload_n o dX9_moves_5 rfl rfl ?_
  refine V_iload_n o dX9_moves_6 rfl rfl ?_
  refine V_cVi o rt dX9_moves_7 ml_X9_89 (c9_isTm hf (by exact hd) (Nat.zero_le 423)) rfl rfl rfl (Nat.le_of_ble_eq_true rfl) rfl ?_
  refine V_if_ne (tgt := 15) o dX9_moves_10 (by decide) (fun c_10 => False.elim (hT (bz_n0.mp c_10))) (fun c_10 => ?_)
  refine V_iconst (v := -1) o dX9_moves_13 (by decide) ?_
  refine V_iret o rt dX9_moves_14 rfl rfl ?_
  exact ⟨rfl, rfl⟩
set_option maxRecDepth 20000 in
set_option maxHeartbeats 4000000 in
theorem c9_way_pa {w : Wp} (hf : Fit sh0 w) {σ : Mm} {M : Nat → Int32} (hd : σ.1 67 8 = nI 0) {k : Int32} (hT : isTm M k) (hp : M (343 + ix k) = 1) : Cf sh0 w 5 mX9_way [.ref 67, .int k] (sM σ 0 M) (some (.int (-2))) (sM (wI σ 67 0 0) 0 M) := by
  refine Ct_of hf (by decide) rfl (Nat.le_of_ble_eq_true rfl) (fun x o rt => ?_)
  have hx := isTm_ix hT.1
  refine V_aload_n o dX9_way_0 rfl rfl ?_
  refine V_iconst (v := 0) o dX9_way_1 (by decide) ?_
  refine V_putI o dX9_way_2 rfl fl_X9_1 rfl rfl rfl ?_
  rw [wI_sM67]
  refine V_aload_n o dX9_way_5 rfl rfl ?_
  refine V_iload_n o dX9_way_6 rfl rfl ?_
  refine V_cVi o rt dX9_way_7 ml_X9_89 (c9_isTm hf (by exact hd) (Nat.zero_le 423)) rfl rfl rfl (Nat.le_of_ble_eq_true rfl) rfl ?_
  refine V_if_ne (tgt := 15) o dX9_way_10 (by decide) (fun c_10 => ?_) (fun c_10 => False.elim (bz_n0.mpr hT c_10))
  refine V_aload_n o dX9_way_15 rfl rfl ?_
  refine V_sipush (v := 343) o dX9_way_16 (by decide) ?_
  refine V_iload_n o dX9_way_19 rfl rfl ?_
  refine V_iadd o dX9_way_20 ?_
  refine V_cVi o rt dX9_way_21 ml_X9_85 (c9_of hf (by exact hd) (nadd (show (343 : Int32) = nI 343 from rfl) hx.1) (by omega)) rfl rfl rfl (Nat.le_of_ble_eq_true rfl) rfl ?_
  refine V_iconst (v := 1) o dX9_way_24 (by decide) ?_
  refine V_icmp_ne (tgt := 31) o dX9_way_25 (by decide) (fun c_25 => False.elim (absurd hp c_25)) (fun c_25 => ?_)
  refine V_bipush (v := -2) o dX9_way_28 (by decide) ?_
  refine V_iret o rt dX9_way_30 rfl rfl ?_
  exact ⟨rfl, rfl⟩
set_option maxRecDepth 20000 in
set_option maxHeartbeats 4000000 in
theorem c9_way_no {w : Wp} (hf : Fit sh0 w) {σ : Mm} {M : Nat → Int32} (hd : σ.1 67 8 = nI 0) {k : Int32} (hT : ¬ isTm M k) : Cf sh0 w 5 mX9_way [.ref 67, .int k] (sM σ 0 M) (some (.int (-1))) (sM (wI σ 67 0 0) 0 M) := by
  refine Ct_of hf (by decide) rfl (Nat.le_of_ble_eq_true rfl) (fun x o rt => ?_)
  refine V_aload_n o dX9_way_0 rfl rfl ?_
  refine V_iconst (v := 0) o dX9_way_1 (by decide) ?_
  refine V_putI o dX9_way_2 rfl fl_X9_1 rfl rfl rfl ?_
  rw [wI_sM67]
  refine V_aload_n o dX9_way_5 rfl rfl ?_
  refine V_iload_n o dX9_way_6 rfl rfl ?_
  refine V_cVi o rt dX9_way_7 ml_X9_89 (c9_isTm hf (by exact hd) (Nat.zero_le 423)) rfl rfl rfl (Nat.le_of_ble_eq_true rfl) rfl ?_
  refine V_if_ne (tgt := 15) o dX9_way_10 (by decide) (fun c_10 => False.elim (hT (bz_n0.mp c_10))) (fun c_10 => ?_)
  refine V_iconst (v := -1) o dX9_way_13 (by decide) ?_
  refine V_iret o rt dX9_way_14 rfl rfl ?_
  exact ⟨rfl, rfl⟩
set_option maxRecDepth 20000 in
set_option maxHeartbeats 4000000 in
theorem c9_way {w : Wp} (hf : Fit sh0 w) {σ : Mm} {M : Nat → Int32} (hd : σ.1 67 8 = nI 0) {L : Nat} (hW : Wf M L) {k : Int32} (hT : isTm M k) (hp : ¬ M (343 + ix k) = 1) (hlv : LvOk L (M (391 + ix k))) {WL : List (Int32 × Int32)} (hWL : wyL M L (M (231 + ix k)) 5 (M (391 + ix k)) = WL) : Ct sh0 w 5 mX9_way [.ref 67, .int k] (sM σ 0 M) (fun r' σ' => ∃ fc fl fr, r' = some (.int (nI WL.length)) ∧ σ' = sM (sRw (sWy (wI σ 67 0 0) fc fl) fr (2 + 2 * WL.length)) 0 M ∧ RwR fr (rowW (M (391 + ix k)) WL ++ [(M (231 + ix k)).toInt64])) := by
  have hl5 : WL.length ≤ 5 := by rw [← hWL]; exact wyL_len _ _ _ _ _
  refine Ct_of hf (by decide) rfl (Nat.le_of_ble_eq_true rfl) (fun x o rt => ?_)
  have hx := isTm_ix hT.1
  have hd4 : 0 ≤ 423 := Nat.zero_le _
  have loop : ∀ fc fl, WyR fc fl WL → ∀ n i (fr : Nat → Int64), i + n = WL.length → RwR fr (rowW (M (391 + ix k)) (WL.take i)) → V sh0 w x mX9_way (0, 0) 58 [(3, .int (nI i)), (2, .int (nI WL.length)), (0, .ref 67), (1, .int k)] [] (sM (sRw (sWy (wI σ 67 0 0) fc fl) fr (1 + 2 * i)) 0 M) := by
    intro fc fl hF n
    induction n with
    | zero =>
      intro i fr hin hR
      have hi : i = WL.length := by omega
      subst hi
      rw [List.take_length] at hR
      refine V_iload_n o dX9_way_58 rfl rfl ?_
      refine V_iload_n o dX9_way_59 rfl rfl ?_
      refine V_icmp_ge (tgt := 91) o dX9_way_60 (by decide) (fun c_60 => ?_) (fun c_60 => False.elim (c_60 (Int32.le_refl _)))
      refine V_aload_n o dX9_way_91 rfl rfl ?_
      refine V_aload_n o dX9_way_92 rfl rfl ?_
      refine V_sipush (v := 231) o dX9_way_93 (by decide) ?_
      refine V_iload_n o dX9_way_96 rfl rfl ?_
      refine V_iadd o dX9_way_97 ?_
      refine V_cVi o rt dX9_way_98 ml_X9_85 (c9_of hf (by exact hd) (nadd (show (231 : Int32) = nI 231 from rfl) hx.1) (by omega)) rfl rfl rfl (Nat.le_of_ble_eq_true rfl) rfl ?_
      refine V_i2l o dX9_way_101 ?_
      refine V_cVv o rt dX9_way_102 ml_X9_153 (c9_enters hf (by omega)) rfl rfl rfl (Nat.le_of_ble_eq_true rfl) rfl ?_
      refine V_iload_n o dX9_way_105 rfl rfl ?_
      refine V_iret o rt dX9_way_106 rfl rfl ?_
      refine ⟨fc, fl, _, rfl, by rw [show 1 + 2 * WL.length + 1 = 2 + 2 * WL.length by omega], RwR_push (rowW_len _ _).symm hR⟩
    | succ n ih =>
      intro i fr hin hR
      have hFi := hF i (by omega)
      refine V_iload_n o dX9_way_58 rfl rfl ?_
      refine V_iload_n o dX9_way_59 rfl rfl ?_
      refine V_icmp_ge (tgt := 91) o dX9_way_60 (by decide) (fun c_60 => False.elim (absurd c_60 (nI_ge (by omega) (by omega)))) (fun c_60 => ?_)
      refine V_aload_n o dX9_way_63 rfl rfl ?_
      refine V_aload_n o dX9_way_64 rfl rfl ?_
      refine V_getR (t := 76) o dX9_way_65 rfl fl_X9_67 rfl ?_
      refine V_iload_n o dX9_way_68 rfl rfl ?_
      refine V_ialdN 8 o dX9_way_69 rfl rfl rfl (by omega) rfl ?_
      refine V_topI (v' := (WL.getD i (0, 0)).1) hFi.1 ?_
      refine V_i2l o dX9_way_70 ?_
      refine V_cVv o rt dX9_way_71 ml_X9_153 (c9_enters hf (by omega)) rfl rfl rfl (Nat.le_of_ble_eq_true rfl) rfl ?_
      refine V_aload_n o dX9_way_74 rfl rfl ?_
      refine V_aload_n o dX9_way_75 rfl rfl ?_
      refine V_getR (t := 77) o dX9_way_76 rfl fl_X9_70 rfl ?_
      refine V_iload_n o dX9_way_79 rfl rfl ?_
      refine V_ialdN 8 o dX9_way_80 rfl rfl rfl (by omega) rfl ?_
      refine V_topI (v' := (WL.getD i (0, 0)).2) hFi.2 ?_
      refine V_i2l o dX9_way_81 ?_
      refine V_cVv o rt dX9_way_82 ml_X9_153 (c9_enters hf (by omega)) rfl rfl rfl (Nat.le_of_ble_eq_true rfl) rfl ?_
      refine V_iincV (v := nI (i + 1)) (ls' := [(3, _), (2, _), (0, _), (1, _)]) o dX9_way_85 rfl (ninc 1 rfl) (by decide) rfl ?_
      refine V_goto (tgt := 58) o dX9_way_88 (by decide) ?_
      have h1 := ih (i + 1) (updL (updL fr (1 + 2 * i) (WL.getD i (0, 0)).1.toInt64) (1 + 2 * i + 1) (WL.getD i (0, 0)).2.toInt64) (by omega) (by
        rw [take_succ_getD WL i (0, 0) (by omega), rowW_app]
        exact RwR_push (by rw [List.length_append, rowW_len, List.length_take]; simp; omega) (RwR_push (by rw [rowW_len, List.length_take]; omega) hR))
      rw [show 1 + 2 * (i + 1) = 1 + 2 * i + 1 + 1 by omega] at h1
      exact h1
  refine V_aload_n o dX9_way_0 rfl rfl ?_
  refine V_iconst (v := 0) o dX9_way_1 (by decide) ?_
  refine V_putI o dX9_way_2 rfl fl_X9_1 rfl rfl rfl ?_
  rw [wI_sM67]
  refine V_aload_n o dX9_way_5 rfl rfl ?_
  refine V_iload_n o dX9_way_6 rfl rfl ?_
  refine V_cVi o rt dX9_way_7 ml_X9_89 (c9_isTm hf (by exact hd) (Nat.zero_le 423)) rfl rfl rfl (Nat.le_of_ble_eq_true rfl) rfl ?_
  refine V_if_ne (tgt := 15) o dX9_way_10 (by decide) (fun c_10 => ?_) (fun c_10 => False.elim (bz_n0.mpr hT c_10))
  refine V_aload_n o dX9_way_15 rfl rfl ?_
  refine V_sipush (v := 343) o dX9_way_16 (by decide) ?_
  refine V_iload_n o dX9_way_19 rfl rfl ?_
  refine V_iadd o dX9_way_20 ?_
  refine V_cVi o rt dX9_way_21 ml_X9_85 (c9_of hf (by exact hd) (nadd (show (343 : Int32) = nI 343 from rfl) hx.1) (by omega)) rfl rfl rfl (Nat.le_of_ble_eq_true rfl) rfl ?_
  refine V_iconst (v := 1) o dX9_way_24 (by decide) ?_
  refine V_icmp_ne (tgt := 31) o dX9_way_25 (by decide) (fun c_25 => ?_) (fun c_25 => False.elim (hp c_25))
  refine V_aload_n o dX9_way_31 rfl rfl ?_
  refine V_iload_n o dX9_way_32 rfl rfl ?_
  refine V_callV o rt dX9_way_33 ml_X9_258 (c9_movesOf hf (by exact hd) (Nat.zero_le 423) hW hx.1 hx.2 hlv hWL) rfl rfl rfl (Nat.le_of_ble_eq_true rfl) rfl (fun r_33 σ_33 q_33 => ?_)
  obtain ⟨fc, fl, rfl, rfl, hF⟩ := q_33
  show V sh0 w x mX9_way (0, 0) _ _ (.int (nI WL.length) :: []) _
  refine V_istore_n (ls' := [(2, _), (0, _), (1, _)]) o dX9_way_36 rfl (by decide) rfl ?_
  refine V_aload_n o dX9_way_37 rfl rfl ?_
  refine V_iconst (v := 0) o dX9_way_38 (by decide) ?_
  refine V_putI o dX9_way_39 rfl fl_X9_11 rfl rfl rfl ?_
  rw [wI_sM67]
  rw [wI_sRw0]
  refine V_aload_n o dX9_way_42 rfl rfl ?_
  refine V_aload_n o dX9_way_43 rfl rfl ?_
  refine V_sipush (v := 391) o dX9_way_44 (by decide) ?_
  refine V_iload_n o dX9_way_47 rfl rfl ?_
  refine V_iadd o dX9_way_48 ?_
  refine V_cVi o rt dX9_way_49 ml_X9_85 (c9_of hf (by exact hd) (nadd (show (391 : Int32) = nI 391 from rfl) hx.1) (by omega)) rfl rfl rfl (Nat.le_of_ble_eq_true rfl) rfl ?_
  refine V_i2l o dX9_way_52 ?_
  refine V_cVv o rt dX9_way_53 ml_X9_153 (c9_enters hf (by omega)) rfl rfl rfl (Nat.le_of_ble_eq_true rfl) rfl ?_
  refine V_iconst (v := 0) o dX9_way_56 (by decide) ?_
  refine V_istore_n (ls' := [(3, _), (2, _), (0, _), (1, _)]) o dX9_way_57 rfl (by decide) rfl ?_
  exact V_sub (by simp; rfl) (loop fc fl hF WL.length 0 _ (by omega) (RwR_push (l := []) rfl RwR_nil))
