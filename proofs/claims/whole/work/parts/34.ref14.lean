theorem itr_and {f : Nat → Bool → Bool} (hf : ∀ k c, f k c = true → c = true) : ∀ n i c, itr f i n c = true → c = true
  | 0, _, _, h => h
  | n + 1, i, c, h => hf i c (itr_and hf n (i + 1) (f i c) h)
theorem wiOk_spec {W : Nat → Int32} (h : wiOk W = true) : 1 ≤ wiN W 4 0 ∧ wiN W 4 0 ≤ 4 ∧ ∀ k, k < wiN W 4 0 → 2 ≤ W k ∧ W k ≤ 16 := by
  have hN := wiN_le W 4 0
  unfold wiOk at h
  generalize wiN W 4 0 = N at h hN
  have hand : ∀ k c, wiF W N k c = true → c = true := fun k c hc => by
    unfold wiF at hc
    exact (Bool.and_eq_true _ _ ▸ hc).1
  have key : ∀ n i c, i + n = 4 → itr (wiF W N) i n c = true → ∀ k, i ≤ k → k < 4 → k < N → 2 ≤ W k ∧ W k ≤ 16 := by
    intro n
    induction n with
    | zero => intro i c hi _ k h1 h2 _; omega
    | succ n ih =>
      intro i c hi hc k h1 h2 h3
      rw [itr_succ] at hc
      by_cases e : k = i
      · subst e
        have h4 := itr_and hand n (k + 1) _ hc
        unfold wiF at h4
        have h5 := (Bool.and_eq_true _ _ ▸ h4).2
        rw [if_pos h3] at h5
        exact of_decide_eq_true h5
      · exact ih (i + 1) _ (by omega) hc k (by omega) h2 h3
  have h0 := itr_and hand 4 0 _ h
  exact ⟨of_decide_eq_true h0, by omega, fun k hk => key 4 0 _ rfl h k (Nat.zero_le k) (by omega) hk⟩
theorem i32_rng {v : Int32} {lo hi : Nat} (hh : hi < 2147483648) (h1 : nI lo ≤ v) (h2 : v ≤ nI hi) (hl : lo < 2147483648) : ∃ s, v = nI s ∧ lo ≤ s ∧ s ≤ hi := by
  have a := Int32.le_iff_toInt_le.mp h1
  have b := Int32.le_iff_toInt_le.mp h2
  rw [nI_toInt hl] at a
  rw [nI_toInt hh] at b
  refine ⟨v.toInt.toNat, ?_, by omega, by omega⟩
  apply Int32.toInt_inj.mp
  rw [nI_toInt (by omega)]
  omega
theorem wiM_at {M W : Nat → Int32} {N j : Nat} : wiM M W N j = if j = 0 then nI N else if j < 5 then W (j - 1) else M j := by
  unfold wiM
  have h := itr_inv (f := fun k (M : Nat → Int32) => uM M (1 + k) (W k)) (fun i s => ∀ j, s j = if j = 0 then nI N else if j < 1 + i then W (j - 1) else M j) 4 0 (uM M 0 (nI N)) (fun j => by
    unfold uM
    by_cases q : j = 0
    · rw [if_pos q, if_pos q]
    · rw [if_neg q, if_neg q, if_neg (by omega)]) (fun k s h1 h2 hs j => by
    unfold uM
    by_cases q : j = 1 + k
    · rw [if_pos q, if_neg (by omega), if_pos (by omega), q, Nat.add_sub_cancel_left]
    · rw [if_neg q, hs j]
      by_cases q0 : j = 0
      · rw [if_pos q0, if_pos q0]
      · rw [if_neg q0, if_neg q0]
        by_cases q1 : j < 1 + k
        · rw [if_pos q1, if_pos (by omega)]
        · rw [if_neg q1, if_neg (by omega)]) j
  exact h
theorem Wf_wiM {M W : Nat → Int32} (h : wiOk W = true) : Wf (wiM M W (wiN W 4 0)) (wiN W 4 0) := by
  obtain ⟨h1, h2, h3⟩ := wiOk_spec h
  refine ⟨by rw [wiM_at, if_pos rfl], h1, h2, fun k hk => ?_⟩
  rw [wiM_at, if_neg (by omega), if_pos (by omega), Nat.add_sub_cancel_left]
  obtain ⟨s, e, g1, g2⟩ := i32_rng (lo := 2) (hi := 16) (by omega) (h3 k hk).1 (h3 k hk).2 (by omega)
  exact ⟨s, e, g1, g2⟩
def wheelsR (M W : Nat → Int32) : Int32 := if wiOk W = true then (if asW M W (wiN W 4 0) = true then -2 else nI (wiN W 4 0)) else -1
def wheelsM (M W : Nat → Int32) : Nat → Int32 := if wiOk W = true ∧ ¬ asW M W (wiN W 4 0) = true then layAllM (wiM M W (wiN W 4 0)) (wiN W 4 0) else M
set_option maxRecDepth 20000 in
set_option maxHeartbeats 4000000 in
theorem c9_wheels {w : Wp} (hf : Fit sh0 w) {σ : Mm} {M : Nat → Int32} (hd : σ.1 67 8 = nI 0) {a b c e : Int32} : Cf sh0 w 6 mX9_wheels [.ref 67, .int a, .int b, .int c, .int e] (sM σ 0 M) (some (.int (wheelsR M (wiW (σ.1 74) a b c e)))) (sM (sWi (wI σ 67 0 0) (wiW (σ.1 74) a b c e)) 0 (wheelsM M (wiW (σ.1 74) a b c e))) := by
  generalize hW : wiW (σ.1 74) a b c e = W
  refine Ct_of hf (by decide) rfl (Nat.le_of_ble_eq_true rfl) (fun x o rt => ?_)
  by_cases hok : wiOk W = true
  · have hwf := Wf_wiM (M := M) hok
    have hsp := wiOk_spec hok
    have hR : wiR W = nI (wiN W 4 0) := if_pos hok
    generalize hN : wiN W 4 0 = N at hwf hsp hR
    refine V_aload_n o dX9_wheels_0 rfl rfl ?_
    refine V_iconst (v := 0) o dX9_wheels_1 (by decide) ?_
    refine V_putI o dX9_wheels_2 rfl fl_X9_1 rfl rfl rfl ?_
    rw [wI_sM67]
    refine V_aload_n o dX9_wheels_5 rfl rfl ?_
    refine V_iload_n o dX9_wheels_6 rfl rfl ?_
    refine V_iload_n o dX9_wheels_7 rfl rfl ?_
    refine V_iload_n o dX9_wheels_8 rfl rfl ?_
    refine V_iload o dX9_wheels_9 rfl ?_
    refine V_cVi o rt dX9_wheels_11 ml_X9_173 (c9_wishes hf) rfl rfl rfl (Nat.le_of_ble_eq_true rfl) rfl ?_
    rw [show wiW ((wI σ 67 0 0).1 74) a b c e = W from hW]
    refine V_topI (v' := nI N) hR ?_
    refine V_istore (ls' := [(5, _), (0, _), (1, _), (2, _), (3, _), (4, _)]) o dX9_wheels_14 (by decide) rfl ?_
    refine V_iload o dX9_wheels_16 rfl ?_
    refine V_if_ge (tgt := 23) o dX9_wheels_18 (by decide) (fun c_18 => ?_) (fun c_18 => False.elim (c_18 (nI_pos' (by omega))))
    refine V_aload_n o dX9_wheels_23 rfl rfl ?_
    refine V_iload o dX9_wheels_24 rfl ?_
    refine V_cVi o rt dX9_wheels_26 ml_X9_177 (c9_isAsWished hf (by exact hd) (Nat.zero_le 423) rfl (by omega)) rfl rfl rfl (Nat.le_of_ble_eq_true rfl) rfl ?_
    refine V_if_eq (tgt := 35) o dX9_wheels_29 (by decide) (fun c_29 => ?_) (fun c_29 => ?_)
    · refine V_aload_n o dX9_wheels_35 rfl rfl ?_
      refine V_iload o dX9_wheels_36 rfl ?_
      refine V_cVv o rt dX9_wheels_38 ml_X9_180 (c9_laysWished hf (by exact hd) (Nat.zero_le 423) rfl hwf) rfl rfl rfl (Nat.le_of_ble_eq_true rfl) rfl ?_
      refine V_iload o dX9_wheels_41 rfl ?_
      refine V_iret o rt dX9_wheels_43 rfl rfl ?_
      have c2 : ¬ asW M W N = true := bz_0.mp c_29
      exact ⟨by rw [wheelsR, if_pos hok, hN, if_neg c2], by rw [wheelsM, if_pos (by rw [hN]; exact ⟨hok, c2⟩), hN]; rfl⟩
    · refine V_bipush (v := -2) o dX9_wheels_32 (by decide) ?_
      refine V_iret o rt dX9_wheels_34 rfl rfl ?_
      have c2 : asW M W N = true := bz_n0.mp c_29
      exact ⟨by rw [wheelsR, if_pos hok, hN, if_pos c2], by rw [wheelsM, if_neg (by rw [hN]; exact fun q => q.2 c2)]⟩
  · have hR : wiR W = -1 := if_neg hok
    refine V_aload_n o dX9_wheels_0 rfl rfl ?_
    refine V_iconst (v := 0) o dX9_wheels_1 (by decide) ?_
    refine V_putI o dX9_wheels_2 rfl fl_X9_1 rfl rfl rfl ?_
    rw [wI_sM67]
    refine V_aload_n o dX9_wheels_5 rfl rfl ?_
    refine V_iload_n o dX9_wheels_6 rfl rfl ?_
    refine V_iload_n o dX9_wheels_7 rfl rfl ?_
    refine V_iload_n o dX9_wheels_8 rfl rfl ?_
    refine V_iload o dX9_wheels_9 rfl ?_
    refine V_cVi o rt dX9_wheels_11 ml_X9_173 (c9_wishes hf) rfl rfl rfl (Nat.le_of_ble_eq_true rfl) rfl ?_
    rw [show wiW ((wI σ 67 0 0).1 74) a b c e = W from hW]
    refine V_topI (v' := -1) hR ?_
    refine V_istore (ls' := [(5, _), (0, _), (1, _), (2, _), (3, _), (4, _)]) o dX9_wheels_14 (by decide) rfl ?_
    refine V_iload o dX9_wheels_16 rfl ?_
    refine V_if_ge (tgt := 23) o dX9_wheels_18 (by decide) (fun c_18 => False.elim (absurd c_18 (by decide))) (fun c_18 => ?_)
    refine V_iconst (v := -1) o dX9_wheels_21 (by decide) ?_
    refine V_iret o rt dX9_wheels_22 rfl rfl ?_
    exact ⟨by rw [wheelsR, if_neg hok], by rw [wheelsM, if_neg (fun q => hok q.1)]⟩
set_option maxRecDepth 20000 in
set_option maxHeartbeats 4000000 in
theorem c9_ticks_no {w : Wp} (hf : Fit sh0 w) {σ : Mm} {M : Nat → Int32} (hd : σ.1 67 8 = nI 0) {k : Int32} (hk : ¬ inR k 1 100) : Cf sh0 w 8 mX9_ticks [.ref 67, .int k] (sM σ 0 M) (some (.int (-1))) (sM (wI σ 67 0 0) 0 M) := by
  refine Ct_of hf (by decide) rfl (Nat.le_of_ble_eq_true rfl) (fun x o rt => ?_)
  refine V_aload_n o dX9_ticks_0 rfl rfl ?_
  refine V_iconst (v := 0) o dX9_ticks_1 (by decide) ?_
  refine V_putI o dX9_ticks_2 rfl fl_X9_1 rfl rfl rfl ?_
  rw [wI_sM67]
  refine V_iload_n o dX9_ticks_5 rfl rfl ?_
  refine V_i2l o dX9_ticks_6 ?_
  refine V_lconst (v := 1) o dX9_ticks_7 (by decide) ?_
  refine V_ldc2 o dX9_ticks_8 kc_X9_183 ?_
  refine V_cSi o rt dX9_ticks_11 ms_X9_21 (c9_in hf) rfl rfl (Nat.le_of_ble_eq_true rfl) rfl ?_
  refine V_if_ne (tgt := 19) o dX9_ticks_14 (by decide) (fun c_14 => False.elim (hk ((in_lo (k := k) (lo := 1) (hi := 100) (l := 1) (h := 100) (by decide) (by decide)).mp (bz_n0.mp c_14)))) (fun c_14 => ?_)
  refine V_iconst (v := -1) o dX9_ticks_17 (by decide) ?_
  refine V_iret o rt dX9_ticks_18 rfl rfl ?_
  exact ⟨rfl, rfl⟩
set_option maxRecDepth 20000 in
set_option maxHeartbeats 4000000 in
theorem c9_ticks_end {w : Wp} (hf : Fit sh0 w) {σ : Mm} {M : Nat → Int32} (hd : σ.1 67 8 = nI 0) {k : Int32} (hk : inR k 1 100) (hc : M 6 + k > 1000000000) : Cf sh0 w 8 mX9_ticks [.ref 67, .int k] (sM σ 0 M) (some (.int (-4))) (sM (wI σ 67 0 0) 0 M) := by
  refine Ct_of hf (by decide) rfl (Nat.le_of_ble_eq_true rfl) (fun x o rt => ?_)
  refine V_aload_n o dX9_ticks_0 rfl rfl ?_
  refine V_iconst (v := 0) o dX9_ticks_1 (by decide) ?_
  refine V_putI o dX9_ticks_2 rfl fl_X9_1 rfl rfl rfl ?_
  rw [wI_sM67]
  refine V_iload_n o dX9_ticks_5 rfl rfl ?_
  refine V_i2l o dX9_ticks_6 ?_
  refine V_lconst (v := 1) o dX9_ticks_7 (by decide) ?_
  refine V_ldc2 o dX9_ticks_8 kc_X9_183 ?_
  refine V_cSi o rt dX9_ticks_11 ms_X9_21 (c9_in hf) rfl rfl (Nat.le_of_ble_eq_true rfl) rfl ?_
  refine V_if_ne (tgt := 19) o dX9_ticks_14 (by decide) (fun c_14 => ?_) (fun c_14 => False.elim (bz_n0.mpr ((in_lo (k := k) (lo := 1) (hi := 100) (l := 1) (h := 100) (by decide) (by decide)).mpr hk) c_14))
  refine V_aload_n o dX9_ticks_19 rfl rfl ?_
  refine V_iload_n o dX9_ticks_20 rfl rfl ?_
  refine V_cVi o rt dX9_ticks_21 ml_X9_185 (c9_ticksOf_no hf (by exact hd) (Nat.zero_le 423) hc) rfl rfl rfl (Nat.le_of_ble_eq_true rfl) rfl ?_
  refine V_istore_n (ls' := [(2, _), (0, _), (1, _)]) o dX9_ticks_24 rfl (by decide) rfl ?_
  refine V_iload_n o dX9_ticks_25 rfl rfl ?_
  refine V_if_lt (tgt := 33) o dX9_ticks_26 (by decide) (fun c_26 => ?_) (fun c_26 => False.elim (c_26 (by decide)))
  refine V_iload_n o dX9_ticks_33 rfl rfl ?_
  refine V_iret o rt dX9_ticks_34 rfl rfl ?_
  exact ⟨rfl, rfl⟩
set_option maxRecDepth 20000 in
set_option maxHeartbeats 4000000 in
theorem c9_ticks {w : Wp} (hf : Fit sh0 w) {σ : Mm} {M : Nat → Int32} (hd : σ.1 67 8 = nI 0) {L r : Nat} (hI : Iv M L r) {k : Int32} {m : Nat} (hm : k = nI m) (hm1 : 1 ≤ m) (hm2 : m ≤ 100) (hc : ¬ M 6 + k > 1000000000) : Ct sh0 w 8 mX9_ticks [.ref 67, .int k] (sM σ 0 M) (fun r' σ' => ∃ fl nl f1 f2 f, r' = some (.int (nI (tks L m (M, r, ([] : List (Nat × Int32)))).2.2.length)) ∧ σ' = sM (sRw (sHd (sLn (wI σ 67 0 0) fl nl) f1 f2 (tks L m (M, r, ([] : List (Nat × Int32)))).2.2.length) f (2 * ((tks L m (M, r, ([] : List (Nat × Int32)))).2.2.drop ((tks L m (M, r, ([] : List (Nat × Int32)))).2.2.length - 20)).length)) 0 (tks L m (M, r, ([] : List (Nat × Int32)))).1 ∧ RwR f (rowH ((tks L m (M, r, ([] : List (Nat × Int32)))).2.2.drop ((tks L m (M, r, ([] : List (Nat × Int32)))).2.2.length - 20)))) := by
  have hlen := (Iv_tks (hl := []) hI m).2
  generalize hS : tks L m (M, r, ([] : List (Nat × Int32))) = S at hlen
  have hlen2 : S.2.2.length ≤ 1600 := by
    have : ([] : List (Nat × Int32)).length = 0 := rfl
    omega
  refine Ct_of hf (by decide) rfl (Nat.le_of_ble_eq_true rfl) (fun x o rt => ?_)
  have hk : inR k 1 100 := by rw [hm]; exact ⟨nI_le (a := 1) hm1 (by omega), nI_le (b := 100) hm2 (by omega)⟩
  refine V_aload_n o dX9_ticks_0 rfl rfl ?_
  refine V_iconst (v := 0) o dX9_ticks_1 (by decide) ?_
  refine V_putI o dX9_ticks_2 rfl fl_X9_1 rfl rfl rfl ?_
  rw [wI_sM67]
  refine V_iload_n o dX9_ticks_5 rfl rfl ?_
  refine V_i2l o dX9_ticks_6 ?_
  refine V_lconst (v := 1) o dX9_ticks_7 (by decide) ?_
  refine V_ldc2 o dX9_ticks_8 kc_X9_183 ?_
  refine V_cSi o rt dX9_ticks_11 ms_X9_21 (c9_in hf) rfl rfl (Nat.le_of_ble_eq_true rfl) rfl ?_
  refine V_if_ne (tgt := 19) o dX9_ticks_14 (by decide) (fun c_14 => ?_) (fun c_14 => False.elim (bz_n0.mpr ((in_lo (k := k) (lo := 1) (hi := 100) (l := 1) (h := 100) (by decide) (by decide)).mpr hk) c_14))
  refine V_aload_n o dX9_ticks_19 rfl rfl ?_
  refine V_iload_n o dX9_ticks_20 rfl rfl ?_
  refine V_callV o rt dX9_ticks_21 ml_X9_185 (c9_ticksOf hf (by exact hd) (Nat.zero_le 423) hI hm hm2 hc) rfl rfl rfl (Nat.le_of_ble_eq_true rfl) rfl (fun r_21 σ_21 q_21 => ?_)
  obtain ⟨fl, nl, f1, f2, rfl, rfl, hH⟩ := q_21
  rw [hS] at hH ⊢
  show V sh0 w x mX9_ticks (0, 0) _ _ (.int (nI S.2.2.length) :: []) _
  refine V_istore_n (ls' := [(2, _), (0, _), (1, _)]) o dX9_ticks_24 rfl (by decide) rfl ?_
  refine V_iload_n o dX9_ticks_25 rfl rfl ?_
  refine V_if_lt (tgt := 33) o dX9_ticks_26 (by decide) (fun c_26 => False.elim (absurd c_26 (nI_pos (by omega)))) (fun c_26 => ?_)
  refine V_aload_n o dX9_ticks_29 rfl rfl ?_
  refine V_callV o rt dX9_ticks_30 ml_X9_188 (c9_tellsLatest (hl := S.2.2) hf rfl (by omega) hH) rfl rfl rfl (Nat.le_of_ble_eq_true rfl) rfl (fun r_30 σ_30 q_30 => ?_)
  obtain ⟨rfl, f, rfl, hRw⟩ := q_30
  show V sh0 w x mX9_ticks (0, 0) _ _ [] _
  refine V_iload_n o dX9_ticks_33 rfl rfl ?_
  refine V_iret o rt dX9_ticks_34 rfl rfl ?_
  exact ⟨fl, nl, f1, f2, f, rfl, rfl, hRw⟩
set_option maxRecDepth 20000 in
set_option maxHeartbeats 4000000 in
theorem c9_leaps_no {w : Wp} (hf : Fit sh0 w) {σ : Mm} {M : Nat → Int32} (hd : σ.1 67 8 = nI 0) {k : Int32} (hk : ¬ (k ≠ 0 ∧ -1000000 ≤ k ∧ k ≤ 1000000)) : Cf sh0 w 8 mX9_leaps [.ref 67, .int k] (sM σ 0 M) (some (.int (-1))) (sM (wI σ 67 0 0) 0 M) := by
  refine Ct_of hf (by decide) rfl (Nat.le_of_ble_eq_true rfl) (fun x o rt => ?_)
  refine V_aload_n o dX9_leaps_0 rfl rfl ?_
  refine V_iconst (v := 0) o dX9_leaps_1 (by decide) ?_
  refine V_putI o dX9_leaps_2 rfl fl_X9_1 rfl rfl rfl ?_
  rw [wI_sM67]
  refine V_iload_n o dX9_leaps_5 rfl rfl ?_
  refine V_cSi o rt dX9_leaps_6 ms_X9_195 (c9_isLeap hf) rfl rfl (Nat.le_of_ble_eq_true rfl) rfl ?_
  refine V_if_ne (tgt := 14) o dX9_leaps_9 (by decide) (fun c_9 => False.elim (hk (bz_n0.mp c_9))) (fun c_9 => ?_)
  refine V_iconst (v := -1) o dX9_leaps_12 (by decide) ?_
  refine V_iret o rt dX9_leaps_13 rfl rfl ?_
  exact ⟨rfl, rfl⟩
set_option maxRecDepth 20000 in
set_option maxHeartbeats 4000000 in
theorem c9_leaps_end {w : Wp} (hf : Fit sh0 w) {σ : Mm} {M : Nat → Int32} (hd : σ.1 67 8 = nI 0) {k : Int32} (hk : (k ≠ 0 ∧ -1000000 ≤ k ∧ k ≤ 1000000)) (hc : ¬ ((0 : Int64) ≤ (M 6).toInt64 + k.toInt64 ∧ (M 6).toInt64 + k.toInt64 ≤ 1000000000)) : Cf sh0 w 8 mX9_leaps [.ref 67, .int k] (sM σ 0 M) (some (.int (-4))) (sM (wI σ 67 0 0) 0 M) := by
  refine Ct_of hf (by decide) rfl (Nat.le_of_ble_eq_true rfl) (fun x o rt => ?_)
  refine V_aload_n o dX9_leaps_0 rfl rfl ?_
  refine V_iconst (v := 0) o dX9_leaps_1 (by decide) ?_
  refine V_putI o dX9_leaps_2 rfl fl_X9_1 rfl rfl rfl ?_
  rw [wI_sM67]
  refine V_iload_n o dX9_leaps_5 rfl rfl ?_
  refine V_cSi o rt dX9_leaps_6 ms_X9_195 (c9_isLeap hf) rfl rfl (Nat.le_of_ble_eq_true rfl) rfl ?_
  refine V_if_ne (tgt := 14) o dX9_leaps_9 (by decide) (fun c_9 => ?_) (fun c_9 => False.elim (bz_n0.mpr hk c_9))
  refine V_aload_n o dX9_leaps_14 rfl rfl ?_
  refine V_iload_n o dX9_leaps_15 rfl rfl ?_
  refine V_cVi o rt dX9_leaps_16 ml_X9_198 (c9_leapsBy_no hf (by exact hd) (Nat.zero_le 423) hc) rfl rfl rfl (Nat.le_of_ble_eq_true rfl) rfl ?_
  refine V_istore_n (ls' := [(2, _), (0, _), (1, _)]) o dX9_leaps_19 rfl (by decide) rfl ?_
  refine V_iload_n o dX9_leaps_20 rfl rfl ?_
  refine V_if_lt (tgt := 28) o dX9_leaps_21 (by decide) (fun c_21 => ?_) (fun c_21 => False.elim (c_21 (by decide)))
  refine V_iload_n o dX9_leaps_28 rfl rfl ?_
  refine V_iret o rt dX9_leaps_29 rfl rfl ?_
  exact ⟨rfl, rfl⟩
set_option maxRecDepth 20000 in
set_option maxHeartbeats 4000000 in
theorem c9_leaps {w : Wp} (hf : Fit sh0 w) {σ : Mm} {M : Nat → Int32} (hd : σ.1 67 8 = nI 0) {L r : Nat} (hI : Iv M L r) {k : Int32} (hk : (k ≠ 0 ∧ -1000000 ≤ k ∧ k ≤ 1000000)) (hc : ((0 : Int64) ≤ (M 6).toInt64 + k.toInt64 ∧ (M 6).toInt64 + k.toInt64 ≤ 1000000000)) {S : (Nat → Int32) × (Nat → Nat) × Nat} (hS : lpS M k = S) : Ct sh0 w 8 mX9_leaps [.ref 67, .int k] (sM σ 0 M) (fun r' σ' => ∃ fl f1 f2 f, r' = some (.int (nI S.2.2)) ∧ σ' = sM (sRw (sHd (sLn (wI σ 67 0 0) fl S.2.2) f1 f2 (0 + S.2.2)) f (2 * ((hl1 S.2.1 (fun j => S.1 (231 + S.2.1 j)) S.2.2).drop ((hl1 S.2.1 (fun j => S.1 (231 + S.2.1 j)) S.2.2).length - 20)).length)) 0 (layAllM (ringM S.1 L r S.2.1 S.2.2) L) ∧ RwR f (rowH ((hl1 S.2.1 (fun j => S.1 (231 + S.2.1 j)) S.2.2).drop ((hl1 S.2.1 (fun j => S.1 (231 + S.2.1 j)) S.2.2).length - 20)))) := by
  have hA := lpS_all (M := M) (n := k)
  rw [hS] at hA
  refine Ct_of hf (by decide) rfl (Nat.le_of_ble_eq_true rfl) (fun x o rt => ?_)
  have hlen : (hl1 S.2.1 (fun j => S.1 (231 + S.2.1 j)) S.2.2).length = S.2.2 := hl1_len _ _ _
  have hH : HdR (hcat ((wI σ 67 0 0).1 72) 0 S.2.2 (fun j => nI (S.2.1 j))) (hcat ((wI σ 67 0 0).1 73) 0 S.2.2 (fun j => S.1 (231 + S.2.1 j))) (hl1 S.2.1 (fun j => S.1 (231 + S.2.1 j)) S.2.2) := HdR_app (hl := []) (fun j hj => absurd hj (Nat.not_lt_zero j))
  refine V_aload_n o dX9_leaps_0 rfl rfl ?_
  refine V_iconst (v := 0) o dX9_leaps_1 (by decide) ?_
  refine V_putI o dX9_leaps_2 rfl fl_X9_1 rfl rfl rfl ?_
  rw [wI_sM67]
  refine V_iload_n o dX9_leaps_5 rfl rfl ?_
  refine V_cSi o rt dX9_leaps_6 ms_X9_195 (c9_isLeap hf) rfl rfl (Nat.le_of_ble_eq_true rfl) rfl ?_
  refine V_if_ne (tgt := 14) o dX9_leaps_9 (by decide) (fun c_9 => ?_) (fun c_9 => False.elim (bz_n0.mpr hk c_9))
  refine V_aload_n o dX9_leaps_14 rfl rfl ?_
  refine V_iload_n o dX9_leaps_15 rfl rfl ?_
  refine V_callV o rt dX9_leaps_16 ml_X9_198 (c9_leapsBy hf (by exact hd) (Nat.zero_le 423) hI hc hS) rfl rfl rfl (Nat.le_of_ble_eq_true rfl) rfl (fun r_16 σ_16 q_16 => ?_)
  obtain ⟨rfl, fl, rfl⟩ := q_16
  show V sh0 w x mX9_leaps (0, 0) _ _ (.int (nI S.2.2) :: []) _
  refine V_istore_n (ls' := [(2, _), (0, _), (1, _)]) o dX9_leaps_19 rfl (by decide) rfl ?_
  refine V_iload_n o dX9_leaps_20 rfl rfl ?_
  refine V_if_lt (tgt := 28) o dX9_leaps_21 (by decide) (fun c_21 => False.elim (absurd c_21 (nI_pos (by have := hA.1; omega)))) (fun c_21 => ?_)
  refine V_aload_n o dX9_leaps_24 rfl rfl ?_
  refine V_callV o rt dX9_leaps_25 ml_X9_188 (c9_tellsLatest (hl := (hl1 S.2.1 (fun j => S.1 (231 + S.2.1 j)) S.2.2)) hf (by rw [hlen]; exact congrArg nI (Nat.zero_add _)) (by have := hA.1; omega) hH) rfl rfl rfl (Nat.le_of_ble_eq_true rfl) rfl (fun r_25 σ_25 q_25 => ?_)
  obtain ⟨rfl, f, rfl, hRw⟩ := q_25
  show V sh0 w x mX9_leaps (0, 0) _ _ [] _
  refine V_iload_n o dX9_leaps_28 rfl rfl ?_
  refine V_iret o rt dX9_leaps_29 rfl rfl ?_
  exact ⟨fl, _, _, f, rfl, rfl, hRw⟩
