theorem ringC_rang {A : Nat → Int32} {L n : Nat} {g : Nat → Nat} (hD : Dg g n) (hg : ∀ k, k < n → g k < 16) (hL : L ≤ 4) {j : Nat} (hj : j < n) : layC (ringC A g n) L g n (375 + g j) = A (375 + g j) + 1 := by
  have hgj := hg j hj
  have h1 : layC (ringC A g n) L g n (375 + g j) = ringC A g n (375 + g j) := by
    unfold layC
    exact itr_inv (f := fun k M => if isT M (g k) then layM M L (g k) else M) (fun _ s => s (375 + g j) = ringC A g n (375 + g j)) n 0 _ rfl (fun k s _ _ h => (layIf_ne (by omega)).trans h)
  rw [h1]
  unfold ringC
  obtain ⟨-, -, c, -⟩ := itr_Loc (f := fun k M => rgC M (g k)) (p := fun k => pcm (g k)) hD (fun k hk => Loc_rg (hg k hk)) n 0 A (by omega)
  refine ((c j (by omega) (by omega)).2 (375 + g j) (by omega) (by omega) (by omega)).trans ?_
  show rgC A (g j) (375 + g j) = _
  unfold rgC
  split
  · rw [uM_ne _ _ (by omega), uM_self]
  · rw [cmS_ne (by omega) (by omega) (by omega), cmT_ne (by omega), uM_self]
theorem bil_sub {m : Nat} (hm : m ≤ 1000000000) : (1000000000 : Int32) - nI m = nI (1000000000 - m) := by
  have e : nI (1000000000 - m) + nI m = 1000000000 := by rw [nI_add, Nat.sub_add_cancel hm]; rfl
  rw [← e, Int32.add_sub_cancel]
theorem leap_rng {c : Nat} {k : Int32} (hc : c ≤ 1000000000) (h1 : -1000000 ≤ k) (h2 : k ≤ 1000000) : (nI c + k).toInt = (c : Int) + k.toInt ∧ ((nI c).toInt64 + k.toInt64).toInt = (c : Int) + k.toInt := by
  have a := Int32.le_iff_toInt_le.mp h1
  have b := Int32.le_iff_toInt_le.mp h2
  have e1 : (-1000000 : Int32).toInt = -1000000 := by decide
  have e2 : (1000000 : Int32).toInt = 1000000 := by decide
  constructor
  · rw [Int32.toInt_add, nI_toInt (by omega)]
    apply Int.bmod_eq_of_le <;> omega
  · rw [Int64.toInt_add, Int32.toInt_toInt64, Int32.toInt_toInt64, nI_toInt (by omega)]
    apply Int.bmod_eq_of_le <;> omega
theorem leap_iff {M : Nat → Int32} {c : Nat} {k : Int32} (h6 : M 6 = nI c) (hc : c ≤ 1000000000) (h1 : -1000000 ≤ k) (h2 : k ≤ 1000000) : inR (M 6 + k) 0 1000000000 ↔ C64 M k := by
  obtain ⟨a, b⟩ := leap_rng hc h1 h2
  unfold inR C64
  rw [h6, Int32.le_iff_toInt_le, Int32.le_iff_toInt_le, Int64.le_iff_toInt_le, Int64.le_iff_toInt_le, a, b]
  have e1 : (0 : Int32).toInt = 0 := by decide
  have e2 : (1000000000 : Int32).toInt = 1000000000 := by decide
  have e3 : (0 : Int64).toInt = 0 := by decide
  have e4 : (1000000000 : Int64).toInt = 1000000000 := by decide
  rw [e1, e2, e3, e4]
set_option maxRecDepth 20000 in
set_option maxHeartbeats 4000000 in
theorem c8_refT {w : Wp} (hf : Fit sh0 w) {σ : Mm} {M : Nat → Int32} {L : Nat} (hW : WRel 2 M L σ) {c m : Nat} (h6 : M 6 = nI c) (hm1 : 1 ≤ m) (hm2 : m ≤ 100) (hc : c + m ≤ 1000000000) : Cf sh0 w 1 mX8_refusalOfTicks [.ref 1, .int (nI m)] σ (some (.int 0)) σ := by
  refine Ct_of hf (by decide) rfl (Nat.le_of_ble_eq_true rfl) (fun x o rt => ?_)
  refine V_iload_n o dX8_refusalOfTicks_0 rfl rfl ?_
  refine V_iconst (v := 1) o dX8_refusalOfTicks_1 (by decide) ?_
  refine V_bipush (v := 100) o dX8_refusalOfTicks_2 (by decide) ?_
  refine V_cSi o rt dX8_refusalOfTicks_4 ms_X8_79 (c8_isWithin hf) rfl rfl (Nat.le_of_ble_eq_true rfl) rfl ?_
  refine V_if_ne (tgt := 12) o dX8_refusalOfTicks_7 (by decide) (fun c_7 => ?_) (fun c_7 => False.elim (bz_0.mp c_7 ⟨nI_le (a := 1) hm1 (by omega), nI_le (b := 100) hm2 (by omega)⟩))
  refine V_aload_n o dX8_refusalOfTicks_12 rfl rfl ?_
  refine V_getR (t := 2) o dX8_refusalOfTicks_13 rfl fl_X8_10 rfl ?_
  refine V_getI o dX8_refusalOfTicks_16 rfl fl_X8_123 rfl ?_
  refine V_topI (v' := nI c) (hW.1.1.trans h6) ?_
  refine V_ldcw o dX8_refusalOfTicks_19 kc_X8_353 ?_
  refine V_iload_n o dX8_refusalOfTicks_22 rfl rfl ?_
  refine V_isub o dX8_refusalOfTicks_23 ?_
  refine V_icmp_le (tgt := 32) o dX8_refusalOfTicks_24 (by decide) (fun c_24 => ?_) (fun c_24 => False.elim (c_24 (by rw [bil_sub (by omega)]; exact nI_le (by omega) (by omega))))
  refine V_iconst (v := 0) o dX8_refusalOfTicks_32 (by decide) ?_
  refine V_iret o rt dX8_refusalOfTicks_33 rfl rfl ?_
  exact ⟨rfl, rfl⟩
set_option maxRecDepth 20000 in
set_option maxHeartbeats 4000000 in
theorem c8_refT_no {w : Wp} (hf : Fit sh0 w) {σ : Mm} {k : Int32} (hk : ¬ inR k 1 100) : Cf sh0 w 1 mX8_refusalOfTicks [.ref 1, .int k] σ (some (.int (-1))) σ := by
  refine Ct_of hf (by decide) rfl (Nat.le_of_ble_eq_true rfl) (fun x o rt => ?_)
  refine V_iload_n o dX8_refusalOfTicks_0 rfl rfl ?_
  refine V_iconst (v := 1) o dX8_refusalOfTicks_1 (by decide) ?_
  refine V_bipush (v := 100) o dX8_refusalOfTicks_2 (by decide) ?_
  refine V_cSi o rt dX8_refusalOfTicks_4 ms_X8_79 (c8_isWithin hf) rfl rfl (Nat.le_of_ble_eq_true rfl) rfl ?_
  refine V_if_ne (tgt := 12) o dX8_refusalOfTicks_7 (by decide) (fun c_7 => False.elim (hk (bz_n0.mp c_7))) (fun c_7 => ?_)
  refine V_iconst (v := -1) o dX8_refusalOfTicks_10 (by decide) ?_
  refine V_iret o rt dX8_refusalOfTicks_11 rfl rfl ?_
  exact ⟨rfl, rfl⟩
set_option maxRecDepth 20000 in
set_option maxHeartbeats 4000000 in
theorem c8_refL {w : Wp} (hf : Fit sh0 w) {σ : Mm} {M : Nat → Int32} {L : Nat} (hW : WRel 2 M L σ) {c : Nat} (h6 : M 6 = nI c) (hc : c ≤ 1000000000) {k : Int32} (hk : k ≠ 0 ∧ -1000000 ≤ k ∧ k ≤ 1000000) : Cf sh0 w 1 mX8_refusalOfLeap [.ref 1, .int k] σ (some (.int (if C64 M k then 0 else -4))) σ := by
  refine Ct_of hf (by decide) rfl (Nat.le_of_ble_eq_true rfl) (fun x o rt => ?_)
  refine V_iload_n o dX8_refusalOfLeap_0 rfl rfl ?_
  refine V_if_eq (tgt := 16) o dX8_refusalOfLeap_1 (by decide) (fun c_1 => False.elim (hk.1 c_1)) (fun c_1 => ?_)
  refine V_iload_n o dX8_refusalOfLeap_4 rfl rfl ?_
  refine V_ldcw o dX8_refusalOfLeap_5 kc_X8_354 ?_
  refine V_ldc o dX8_refusalOfLeap_8 kc_X8_114 ?_
  refine V_cSi o rt dX8_refusalOfLeap_10 ms_X8_79 (c8_isWithin hf) rfl rfl (Nat.le_of_ble_eq_true rfl) rfl ?_
  refine V_if_ne (tgt := 18) o dX8_refusalOfLeap_13 (by decide) (fun c_13 => ?_) (fun c_13 => False.elim (bz_0.mp c_13 hk.2))
  refine V_aload_n o dX8_refusalOfLeap_18 rfl rfl ?_
  refine V_getR (t := 2) o dX8_refusalOfLeap_19 rfl fl_X8_10 rfl ?_
  refine V_getI o dX8_refusalOfLeap_22 rfl fl_X8_123 rfl ?_
  refine V_topI (v' := M 6) hW.1.1 ?_
  refine V_iload_n o dX8_refusalOfLeap_25 rfl rfl ?_
  refine V_iadd o dX8_refusalOfLeap_26 ?_
  refine V_iconst (v := 0) o dX8_refusalOfLeap_27 (by decide) ?_
  refine V_ldcw o dX8_refusalOfLeap_28 kc_X8_353 ?_
  refine V_cSi o rt dX8_refusalOfLeap_31 ms_X8_79 (c8_isWithin hf) rfl rfl (Nat.le_of_ble_eq_true rfl) rfl ?_
  refine V_if_eq (tgt := 41) o dX8_refusalOfLeap_34 (by decide) (fun c_34 => ?_) (fun c_34 => ?_)
  · refine V_bipush (v := -4) o dX8_refusalOfLeap_41 (by decide) ?_
    refine V_iret o rt dX8_refusalOfLeap_43 rfl rfl ?_
    exact ⟨by rw [if_neg (fun q => bz_0.mp c_34 ((leap_iff h6 hc hk.2.1 hk.2.2).mpr q))], rfl⟩
  · refine V_iconst (v := 0) o dX8_refusalOfLeap_37 (by decide) ?_
    refine V_goto (tgt := 43) o dX8_refusalOfLeap_38 (by decide) ?_
    refine V_iret o rt dX8_refusalOfLeap_43 rfl rfl ?_
    exact ⟨by rw [if_pos ((leap_iff h6 hc hk.2.1 hk.2.2).mp (bz_n0.mp c_34))], rfl⟩
set_option maxRecDepth 20000 in
set_option maxHeartbeats 4000000 in
theorem c8_refL_no {w : Wp} (hf : Fit sh0 w) {σ : Mm} {k : Int32} (hk : ¬ (k ≠ 0 ∧ -1000000 ≤ k ∧ k ≤ 1000000)) : Cf sh0 w 1 mX8_refusalOfLeap [.ref 1, .int k] σ (some (.int (-1))) σ := by
  refine Ct_of hf (by decide) rfl (Nat.le_of_ble_eq_true rfl) (fun x o rt => ?_)
  refine V_iload_n o dX8_refusalOfLeap_0 rfl rfl ?_
  refine V_if_eq (tgt := 16) o dX8_refusalOfLeap_1 (by decide) (fun c_1 => ?_) (fun c_1 => ?_)
  · refine V_iconst (v := -1) o dX8_refusalOfLeap_16 (by decide) ?_
    refine V_iret o rt dX8_refusalOfLeap_17 rfl rfl ?_
    exact ⟨rfl, rfl⟩
  · refine V_iload_n o dX8_refusalOfLeap_4 rfl rfl ?_
    refine V_ldcw o dX8_refusalOfLeap_5 kc_X8_354 ?_
    refine V_ldc o dX8_refusalOfLeap_8 kc_X8_114 ?_
    refine V_cSi o rt dX8_refusalOfLeap_10 ms_X8_79 (c8_isWithin hf) rfl rfl (Nat.le_of_ble_eq_true rfl) rfl ?_
    refine V_if_ne (tgt := 18) o dX8_refusalOfLeap_13 (by decide) (fun c_13 => False.elim (hk ⟨c_1, bz_n0.mp c_13⟩)) (fun c_13 => ?_)
    refine V_iconst (v := -1) o dX8_refusalOfLeap_16 (by decide) ?_
    refine V_iret o rt dX8_refusalOfLeap_17 rfl rfl ?_
    exact ⟨rfl, rfl⟩
set_option maxRecDepth 20000 in
set_option maxHeartbeats 4000000 in
theorem c8_keep {w : Wp} (hf : Fit sh0 w) {σ : Mm} {A : Nat → Int32} {r n : Nat} {g : Nat → Nat} (hl : LnR 2 g n σ) (hD : Dg g n) (hLg : LgR A r σ) (h6 : σ.1 2 3 = A 6) (hT : ∀ j, j < n → σ.1 (9 + g j) 0 = nI (g j) ∧ σ.1 (9 + g j) 3 = A (231 + g j) ∧ σ.1 (9 + g j) 5 = A (263 + g j) ∧ σ.1 (9 + g j) 9 = A (375 + g j) + 1) {R : (Nat → Int32) × Nat} (hR0 : tellM A r g n = R) : Ct sh0 w 2 mX8_keepWhatRang [.ref 1] σ (fun r' σ' => r' = some (.int (nI n)) ∧ Off 54 60 σ σ' ∧ LgR R.1 R.2 σ') := by
  have hn16 := hl.2.1
  have hg : ∀ k, k < n → g k < 16 := fun k hk => (hl.2.2 k hk).2
  unfold tellM at hR0
  refine Ct_of hf (by decide) rfl (Nat.le_of_ble_eq_true rfl) (fun x o rt => ?_)
  have loop : ∀ m k (τ : Mm) (T : Nat → Int32) (rr : Nat), k + m = n → Off 54 60 σ τ → LgR T rr τ → (T 6 = A 6 ∧ ∀ j, 231 ≤ j → j < 279 → T j = A j) → (∀ j, k ≤ j → j < n → T (375 + g j) = A (375 + g j)) → itr (fun k s => (rungM s.1 s.2 (g k), kpN s.2)) k m (T, rr) = R → V sh0 w x mX8_keepWhatRang (0, 0) 10 [(2, .int (nI k)), (1, .ref 7), (0, .ref 1)] [] τ := by
    intro m
    induction m with
    | zero =>
      intro k τ T rr hk ho hLg hA h375 hR
      have hkn : k = n := by omega
      subst hkn
      subst hR
      have hl2 : LnR 2 g k τ := hl.off ho (by omega)
      refine V_iload_n o dX8_keepWhatRang_10 rfl rfl ?_
      refine V_aload_n o dX8_keepWhatRang_11 rfl rfl ?_
      refine V_getIE (v := nI (k)) o dX8_keepWhatRang_12 rfl fl_X8_202 rfl hl2.1 ?_
      refine V_icmp_ge (tgt := 49) o dX8_keepWhatRang_15 (by decide) (fun c_15 => ?_) (fun c_15 => False.elim (c_15 (Int32.le_refl _)))
      refine V_aload_n o dX8_keepWhatRang_49 rfl rfl ?_
      refine V_getIE (v := nI (k)) o dX8_keepWhatRang_50 rfl fl_X8_202 rfl hl2.1 ?_
      refine V_iret o rt dX8_keepWhatRang_53 rfl rfl ?_
      exact ⟨rfl, ho, hLg⟩
    | succ m ih =>
      intro k τ T rr hkm ho hLg hA h375 hR
      have hk : k < n := by omega
      have hgk := hg k hk
      have hl2 : LnR 2 g n τ := hl.off ho (by omega)
      have e9 : τ.1 (9 + g k) = σ.1 (9 + g k) := (ho _ (by omega)).1
      obtain ⟨t1, t2, t3, t4⟩ := hT k hk
      rw [itr_succ] at hR
      refine V_iload_n o dX8_keepWhatRang_10 rfl rfl ?_
      refine V_aload_n o dX8_keepWhatRang_11 rfl rfl ?_
      refine V_getIE (v := nI (n)) o dX8_keepWhatRang_12 rfl fl_X8_202 rfl hl2.1 ?_
      refine V_icmp_ge (tgt := 49) o dX8_keepWhatRang_15 (by decide) (fun c_15 => False.elim (absurd c_15 (nI_ge hk (by omega)))) (fun c_15 => ?_)
      refine V_aload_n o dX8_keepWhatRang_18 rfl rfl ?_
      refine V_iload_n o dX8_keepWhatRang_19 rfl rfl ?_
      refine V_cVr o rt dX8_keepWhatRang_20 ml_X8_297 (c1_at_2 hf hl2 hk) rfl rfl rfl (Nat.le_of_ble_eq_true rfl) rfl ?_
      refine V_astore_n (ls' := [(3, _), (2, _), (1, _), (0, _)]) o dX8_keepWhatRang_23 rfl (by decide) rfl ?_
      refine V_aload_n o dX8_keepWhatRang_24 rfl rfl ?_
      refine V_ifnull_r o dX8_keepWhatRang_25 ?_
      refine V_aload_n o dX8_keepWhatRang_28 rfl rfl ?_
      refine V_getR (t := 54) o dX8_keepWhatRang_29 rfl fl_X8_40 rfl ?_
      refine V_aload_n o dX8_keepWhatRang_32 rfl rfl ?_
      refine V_aload_n o dX8_keepWhatRang_33 rfl rfl ?_
      refine V_getR (t := 2) o dX8_keepWhatRang_34 rfl fl_X8_10 rfl ?_
      refine V_getI o dX8_keepWhatRang_37 rfl fl_X8_123 rfl ?_
      refine V_topI (v' := T 6) ((congrFun (ho 2 (by omega)).1 3).trans (h6.trans hA.1.symm)) ?_
      refine V_callV o rt dX8_keepWhatRang_40 ml_X8_355 (c2_keep hf hLg hgk (clk := T 6) (by rw [e9]; exact t1) rfl (by rw [e9, hA.2 _ (by omega) (by omega)]; exact t2) (by rw [e9, hA.2 _ (by omega) (by omega)]; exact t3) (by rw [e9, h375 k (Nat.le_refl k) hk]; exact t4)) rfl rfl rfl (Nat.le_of_ble_eq_true rfl) rfl (fun r_40 σ_40 q_40 => ?_)
      obtain ⟨rfl, ho2, h4⟩ := q_40
      show V sh0 w x mX8_keepWhatRang (0, 0) _ _ [] _
      refine V_iincV (v := nI (k + 1)) (ls' := [(2, _), (3, _), (1, _), (0, _)]) o dX8_keepWhatRang_43 rfl (ninc 1 rfl) (by decide) rfl ?_
      refine V_goto (tgt := 10) o dX8_keepWhatRang_46 (by decide) ?_
      have hrr := hLg.2.2.1
      refine V_sub (by simp) (ih (k + 1) σ_40 (rungM T rr (g k)) (kpN rr) (by omega) (ho.tr ho2) h4 ⟨(rungM_ne hrr (by omega) (by omega) (by omega)).trans hA.1, fun j h1 h2 => (rungM_ne hrr (by omega) (by omega) (by omega)).trans (hA.2 j h1 h2)⟩ (fun j h1 h2 => ?_) hR)
      have hgj := hg j h2
      have : g j ≠ g k := fun q => by have := hD j k h2 hk q; omega
      exact (rungM_ne hrr (by omega) (by omega) (by omega)).trans (h375 j (by omega) h2)
  refine V_aload_n o dX8_keepWhatRang_0 rfl rfl ?_
  refine V_getR (t := 2) o dX8_keepWhatRang_1 rfl fl_X8_10 rfl ?_
  refine V_getR (t := 7) o dX8_keepWhatRang_4 rfl fl_X8_189 rfl ?_
  refine V_astore_n (ls' := [(1, _), (0, _)]) o dX8_keepWhatRang_7 rfl (by decide) rfl ?_
  refine V_iconst (v := 0) o dX8_keepWhatRang_8 (by decide) ?_
  refine V_istore_n (ls' := [(2, _), (1, _), (0, _)]) o dX8_keepWhatRang_9 rfl (by decide) rfl ?_
  exact V_sub (by simp; rfl) (loop n 0 σ A r (by omega) Off.rf hLg ⟨rfl, fun _ _ _ => rfl⟩ (fun _ _ _ => rfl) hR0)
set_option maxRecDepth 20000 in
set_option maxHeartbeats 4000000 in
theorem c8_tellLatest {w : Wp} (hf : Fit sh0 w) {σ : Mm} {T : Nat → Int32} {r c : Nat} {hl : List (Nat × Int32)} (hLg : LgR T r σ) (hc : c = 1 ∨ c = 2) (hH : HL T r hl c) (hh : hl.length ≤ 2000) : Ct sh0 w 2 mX8_tellLatest [.ref 1, .int (nI hl.length), .int (bz (c = 2))] σ (fun r' σ' => r' = none ∧ Off 52 54 σ σ' ∧ RwC (rowH (hl.drop (hl.length - 20))) σ') := by
  obtain ⟨l1, l2, l3, q, l4, l5, l6, l7⟩ := hLg
  obtain ⟨w0, hw⟩ : ∃ w0, w0 = min hl.length 20 := ⟨_, rfl⟩
  have hwr : w0 ≤ r := by
    by_cases e : w0 = 0
    · omega
    · have := (hH (w0 - 1) (by omega) (by omega)).1
      omega
  have hdl : (hl.drop (hl.length - 20)).length = w0 := by rw [List.length_drop]; omega
  refine Ct_of hf (by decide) rfl (Nat.le_of_ble_eq_true rfl) (fun x o rt => ?_)
  have loop : ∀ m i (tv : Int32) (τ : Mm), i + m = r → r - w0 ≤ i → Off 52 54 σ τ → RwC (rowH ((hl.drop (hl.length - 20)).take (i - (r - w0)))) τ → V sh0 w x mX8_tellLatest (0, 0) 25 [(4, .int (nI i)), (3, .int tv), (0, .ref 1), (1, .int (nI hl.length)), (2, .int (bz (c = 2)))] [] τ := by
    intro m
    induction m with
    | zero =>
      intro i tv τ hi hi2 ho hR
      have hir : i = r := by omega
      subst hir
      rw [show i - (i - w0) = w0 by omega, ← hdl, List.take_length] at hR
      refine V_iload o dX8_tellLatest_25 rfl ?_
      refine V_aload_n o dX8_tellLatest_27 rfl rfl ?_
      refine V_getR (t := 54) o dX8_tellLatest_28 rfl fl_X8_40 rfl ?_
      refine V_getIE (v := nI (i)) o dX8_tellLatest_31 rfl fl_X8_346 rfl ((congrFun (ho 54 (by omega)).1 5).trans l1) ?_
      refine V_icmp_ge (tgt := 119) o dX8_tellLatest_34 (by decide) (fun c_34 => ?_) (fun c_34 => False.elim (c_34 (Int32.le_refl _)))
      refine V_ret o rt dX8_tellLatest_119 rfl ?_
      exact ⟨rfl, ho, hR⟩
    | succ m ih =>
      intro i tv τ hi hi2 ho_0 hR_0
      have hir : i < r := by omega
      have hP : LgP q r i < 40 := Nat.mod_lt _ (by omega)
      obtain ⟨P, hPe⟩ : ∃ P, LgP q r i = P := ⟨_, rfl⟩
      rw [hPe] at hP
      have l8 : ∀ cc, cc < 5 → σ.1 (55 + cc) P = T (15 + 5 * i + cc) := fun cc hcc => by rw [← hPe]; exact l7 i hir cc hcc
      have hlen : (rowH ((hl.drop (hl.length - 20)).take (i - (r - w0)))).length ≤ 2 * (i - (r - w0)) := by rw [rowH_len, List.length_take]; omega
      obtain ⟨-, hh1, hh2⟩ := hH (r - 1 - i) (by omega) (by omega)
      rw [show r - 1 - (r - 1 - i) = i by omega] at hh1 hh2
      have hnx : (hl.drop (hl.length - 20)).take (i + 1 - (r - w0)) = (hl.drop (hl.length - 20)).take (i - (r - w0)) ++ [hl.getD (hl.length - 1 - (r - 1 - i)) (0, 0)] := by
        rw [show i + 1 - (r - w0) = (i - (r - w0)) + 1 by omega, List.take_succ]
        congr 1
        rw [List.getElem?_drop, List.getD_eq_getElem?_getD, show hl.length - 20 + (i - (r - w0)) = hl.length - 1 - (r - 1 - i) by omega]
        rw [List.getElem?_eq_getElem (by omega)]
        rfl
      refine V_iload o dX8_tellLatest_25 rfl ?_
      refine V_aload_n o dX8_tellLatest_27 rfl rfl ?_
      refine V_getR (t := 54) o dX8_tellLatest_28 rfl fl_X8_40 rfl ?_
      refine V_getIE (v := nI (r)) o dX8_tellLatest_31 rfl fl_X8_346 rfl ((congrFun (ho_0 54 (by omega)).1 5).trans l1) ?_
      refine V_icmp_ge (tgt := 119) o dX8_tellLatest_34 (by decide) (fun c_34 => False.elim (absurd c_34 (nI_ge hir (by omega)))) (fun c_34 => ?_)
      refine V_aload_n o dX8_tellLatest_37 rfl rfl ?_
      refine V_getR (t := 54) o dX8_tellLatest_38 rfl fl_X8_40 rfl ?_
      refine V_iload o dX8_tellLatest_41 rfl ?_
      refine V_cVi o rt dX8_tellLatest_43 ml_X8_319 (c2_placeOf hf ((congrFun (ho_0 54 (by omega)).1 5).trans l1) l3 ((congrFun (ho_0 54 (by omega)).1 7).trans l5) l4 hir) rfl rfl rfl (Nat.le_of_ble_eq_true rfl) rfl ?_
      refine V_topI (v' := nI P) (by rw [hPe]) ?_
      refine V_istore (ls' := [(5, _), (4, _), (3, _), (0, _), (1, _), (2, _)]) o dX8_tellLatest_46 (by decide) rfl ?_
      refine V_iload o dX8_tellLatest_48 rfl ?_
      refine V_iconst (v := 0) o dX8_tellLatest_50 (by decide) ?_
      refine V_bipush (v := 39) o dX8_tellLatest_51 (by decide) ?_
      refine V_cSi o rt dX8_tellLatest_53 ms_X8_79 (c8_isWithin hf) rfl rfl (Nat.le_of_ble_eq_true rfl) rfl ?_
      refine V_if_eq (tgt := 113) o dX8_tellLatest_56 (by decide) (fun c_56 => False.elim (bz_0.mp c_56 ⟨nI_le (a := 0) (Nat.zero_le _) (by omega), nI_le (b := 39) (by omega) (by omega)⟩)) (fun c_56 => ?_)
      refine V_aload_n o dX8_tellLatest_59 rfl rfl ?_
      refine V_getR (t := 52) o dX8_tellLatest_60 rfl fl_X8_33 rfl ?_
      refine V_aload_n o dX8_tellLatest_63 rfl rfl ?_
      refine V_getR (t := 54) o dX8_tellLatest_64 rfl fl_X8_40 rfl ?_
      refine V_getR (t := 55) o dX8_tellLatest_67 rfl fl_X8_334 rfl ?_
      refine V_iload o dX8_tellLatest_70 rfl ?_
      refine V_ialdN 40 o dX8_tellLatest_72 rfl rfl rfl (by omega) rfl ?_
      refine V_topI (v' := T (15 + 5 * i)) ((congrFun (ho_0 55 (by omega)).1 P).trans (l8 0 (by omega))) ?_
      refine V_i2l o dX8_tellLatest_73 ?_
      refine V_callV o rt dX8_tellLatest_74 ml_X8_210 (c3_put hf hR_0 (by omega)) rfl rfl rfl (Nat.le_of_ble_eq_true rfl) rfl (fun r_74 σ_74 q_74 => ?_)
      obtain ⟨rfl, hp_74, hR_74⟩ := q_74
      have ho_74 := ho_0.tr hp_74
      show V sh0 w x mX8_tellLatest (0, 0) _ _ [] _
      refine V_aload_n o dX8_tellLatest_77 rfl rfl ?_
      refine V_getR (t := 52) o dX8_tellLatest_78 rfl fl_X8_33 rfl ?_
      refine V_iload_n o dX8_tellLatest_81 rfl rfl ?_
      refine V_if_eq (tgt := 99) o dX8_tellLatest_82 (by decide) (fun c_82 => ?_) (fun c_82 => ?_)
      · refine V_aload_n o dX8_tellLatest_99 rfl rfl ?_
        refine V_getR (t := 54) o dX8_tellLatest_100 rfl fl_X8_40 rfl ?_
        refine V_getR (t := 56) o dX8_tellLatest_103 rfl fl_X8_322 rfl ?_
        refine V_iload o dX8_tellLatest_106 rfl ?_
        refine V_ialdN 40 o dX8_tellLatest_108 rfl rfl rfl (by omega) rfl ?_
        refine V_topI (v' := T (15 + 5 * i + 1)) ((congrFun (ho_74 56 (by omega)).1 P).trans (l8 1 (by omega))) ?_
        refine V_i2l o dX8_tellLatest_109 ?_
        refine V_callV o rt dX8_tellLatest_110 ml_X8_210 (c3_put hf hR_74 (by rw [List.length_append]; simp; omega)) rfl rfl rfl (Nat.le_of_ble_eq_true rfl) rfl (fun r_110 σ_110 q_110 => ?_)
        obtain ⟨rfl, hp_110, hR_110⟩ := q_110
        have ho_110 := ho_74.tr hp_110
        show V sh0 w x mX8_tellLatest (0, 0) _ _ [] _
        refine V_iincV (v := nI (i + 1)) (ls' := [(4, _), (5, _), (3, _), (0, _), (1, _), (2, _)]) o dX8_tellLatest_113 rfl (ninc 1 rfl) (by decide) rfl ?_
        refine V_goto (tgt := 25) o dX8_tellLatest_116 (by decide) ?_
        have hcc : c = 1 := hc.resolve_right (bz_0.mp c_82)
        refine V_sub (by simp) (ih (i + 1) tv σ_110 (by omega) (by omega) ho_110 ?_)
        rw [hnx, rowH_app, ← hh1, ← hh2, hcc]
        exact hR_110
      · refine V_aload_n o dX8_tellLatest_85 rfl rfl ?_
        refine V_getR (t := 54) o dX8_tellLatest_86 rfl fl_X8_40 rfl ?_
        refine V_getR (t := 57) o dX8_tellLatest_89 rfl fl_X8_325 rfl ?_
        refine V_iload o dX8_tellLatest_92 rfl ?_
        refine V_ialdN 40 o dX8_tellLatest_94 rfl rfl rfl (by omega) rfl ?_
        refine V_topI (v' := T (15 + 5 * i + 2)) ((congrFun (ho_74 57 (by omega)).1 P).trans (l8 2 (by omega))) ?_
        refine V_i2l o dX8_tellLatest_95 ?_
        refine V_goto (tgt := 110) o dX8_tellLatest_96 (by decide) ?_
        refine V_callV o rt dX8_tellLatest_110 ml_X8_210 (c3_put hf hR_74 (by rw [List.length_append]; simp; omega)) rfl rfl rfl (Nat.le_of_ble_eq_true rfl) rfl (fun r_110 σ_110 q_110 => ?_)
        obtain ⟨rfl, hp_110, hR_110⟩ := q_110
        have ho_110 := ho_74.tr hp_110
        show V sh0 w x mX8_tellLatest (0, 0) _ _ [] _
        refine V_iincV (v := nI (i + 1)) (ls' := [(4, _), (5, _), (3, _), (0, _), (1, _), (2, _)]) o dX8_tellLatest_113 rfl (ninc 1 rfl) (by decide) rfl ?_
        refine V_goto (tgt := 25) o dX8_tellLatest_116 (by decide) ?_
        have hcc : c = 2 := bz_n0.mp c_82
        refine V_sub (by simp) (ih (i + 1) tv σ_110 (by omega) (by omega) ho_110 ?_)
        rw [hnx, rowH_app, ← hh1, ← hh2, hcc]
        exact hR_110
  refine V_aload_n o dX8_tellLatest_0 rfl rfl ?_
  refine V_getR (t := 52) o dX8_tellLatest_1 rfl fl_X8_33 rfl ?_
  refine V_callV o rt dX8_tellLatest_4 ml_X8_209 (c3_empty hf) rfl rfl rfl (Nat.le_of_ble_eq_true rfl) rfl (fun r_4 σ_4 q_4 => ?_)
  obtain ⟨rfl, ho_4, hR_4⟩ := q_4
  show V sh0 w x mX8_tellLatest (0, 0) _ _ [] _
  refine V_iload_n o dX8_tellLatest_7 rfl rfl ?_
  refine V_bipush (v := 20) o dX8_tellLatest_8 (by decide) ?_
  refine V_cSi o rt dX8_tellLatest_10 ms_X8_359 (cJ_min hf) rfl rfl (Nat.le_of_ble_eq_true rfl) rfl ?_
  refine V_topI (v' := nI w0) (by rw [hw]; exact mnI_nI (b := 20) (by omega) (by omega)) ?_
  refine V_istore_n (ls' := [(3, _), (0, _), (1, _), (2, _)]) o dX8_tellLatest_13 rfl (by decide) rfl ?_
  refine V_aload_n o dX8_tellLatest_14 rfl rfl ?_
  refine V_getR (t := 54) o dX8_tellLatest_15 rfl fl_X8_40 rfl ?_
  refine V_getIE (v := nI (r - w0 + w0)) o dX8_tellLatest_18 rfl fl_X8_346 rfl ((congrFun (ho_4 54 (by omega)).1 5).trans (by rw [l1, show r - w0 + w0 = r by omega])) ?_
  refine V_iload_n o dX8_tellLatest_21 rfl rfl ?_
  refine V_isub o dX8_tellLatest_22 ?_
  refine V_topI (v' := nI (r - w0)) (show nI (r - w0 + w0) - nI w0 = nI (r - w0) by rw [← nI_add, Int32.add_sub_cancel]) ?_
  refine V_istore (ls' := [(4, _), (3, _), (0, _), (1, _), (2, _)]) o dX8_tellLatest_23 (by decide) rfl ?_
  exact V_sub (by simp) (loop w0 (r - w0) (nI w0) σ_4 (by omega) (Nat.le_refl _) ho_4 (by rw [Nat.sub_self]; exact hR_4))
theorem KR_tick {M : Nat → Int32} {L r n : Nat} {l : List Int64} {T : Nat → Int32} {σ τ ρ : Mm} (hK : KR M L r l T n σ) (hC : Cv M L r) (ho : Off 2 25 σ τ) (hW : WRel 2 (tickM M L r) L τ) (ho2 : Off 54 60 τ ρ) (hLg : LgR (tellM (tkA M L) r (tkLn M L).1 (tkLn M L).2).1 (tkR M L r) ρ) : KR (tickM M L r) L (tkR M L r) l T n ρ := by
  have hL := hC.1.1.2.2.1
  have hA := Iv_tkA hC.1
  have e : ∀ j, 10 ≤ j → j < 14 → tickM M L r j = M j := fun j h1 h2 => by
    unfold tickM
    rw [(ring_kp (L := L) (g := (tkLn M L).1) (n := (tkLn M L).2) hA.2.1 hA.2.2.1 (fun k hk => lineM_lt hk)).1 j (by unfold Kp; omega)]
    exact Lo6 Lo.tkA (by omega) (by omega) (by omega)
  refine ⟨hW.off hL (fun _ _ _ => rfl) ho2 (by omega), ((hK.2.1.off ho (by omega)).cg e).off ho2 (by omega), hLg.cg (fun j hj => ?_), (hK.2.2.2.1.off ho (by omega)).off ho2 (by omega), (hK.2.2.2.2.1.off ho (by omega)).off ho2 (by omega), (hK.2.2.2.2.2.off ho (by omega)).off ho2 (by omega)⟩
  unfold tickM
  exact ring_log (by omega) (by omega)
/-- what keeping what rang by a tick needs -/
theorem tick_hT {M : Nat → Int32} {L r : Nat} {τ : Mm} (hC : Cv M L r) (hW : WRel 2 (tickM M L r) L τ) (hd : ∀ j, j < (tkLn M L).2 → τ.1 (2 + 7 + (tkLn M L).1 j) 3 = M (231 + (tkLn M L).1 j)) : τ.1 2 3 = tkA M L 6 ∧ ∀ j, j < (tkLn M L).2 → τ.1 (9 + (tkLn M L).1 j) 0 = nI ((tkLn M L).1 j) ∧ τ.1 (9 + (tkLn M L).1 j) 3 = tkA M L (231 + (tkLn M L).1 j) ∧ τ.1 (9 + (tkLn M L).1 j) 5 = tkA M L (263 + (tkLn M L).1 j) ∧ τ.1 (9 + (tkLn M L).1 j) 9 = tkA M L (375 + (tkLn M L).1 j) + 1 := by
  have hA := Iv_tkA hC.1
  obtain ⟨k1, k2⟩ := ring_kp (L := L) (g := (tkLn M L).1) (n := (tkLn M L).2) hA.2.1 hA.2.2.1 (fun k hk => lineM_lt hk)
  refine ⟨hW.1.1.trans (k1 6 (by unfold Kp; omega)), fun j hj => ?_⟩
  have hg : (tkLn M L).1 j < 16 := lineM_lt hj
  have ht := hW.2.2 _ hg
  refine ⟨ht.no, (hd j hj).trans (Lo6 Lo.tkA (by omega) (by omega) (by omega)).symm, ht.grp.trans (k1 _ (by unfold Kp; omega)), ht.rang.trans ?_⟩
  have hD : Dg (tkLn M L).1 (tkLn M L).2 := lineM_D
  have a := ring_agree (L := L) hC.1.1.2.2.1 hA.2.1 hA.2.2.1 hD (fun k hk => ⟨lineM_lt hk, tkSel_T (lineM_sel hk)⟩) (375 + (tkLn M L).1 j) (by omega) (by omega)
  exact a.trans (ringC_rang hD (fun k hk => lineM_lt hk) hC.1.1.2.2.1 hj)
set_option maxRecDepth 20000 in
set_option maxHeartbeats 4000000 in
theorem c8_ticks {w : Wp} (hf : Fit sh0 w) {σ : Mm} {M : Nat → Int32} {L r n : Nat} {l : List Int64} {T : Nat → Int32} (hK : KR M L r l T n σ) (hF : Wf M L) (hB : Bo M) (hC : Cv M L r) {c m0 : Nat} (h6 : M 6 = nI c) (hm1 : 1 ≤ m0) (hm2 : m0 ≤ 100) (hc : c + m0 ≤ 1000000000) {S : ((Nat → Int32) × Nat × List (Nat × Int32))} (hS : tks L m0 (M, r, ([] : List (Nat × Int32))) = S) : Ct sh0 w 4 mX8_ticks [.ref 1, .int (nI m0)] σ (fun r' σ' => r' = some (.int (nI S.2.2.length)) ∧ Off 1 62 σ σ' ∧ KR (S.1) (L) S.2.1 (rowH (S.2.2.drop (S.2.2.length - 20))) (T) (n) σ') := by
  have hL := hF.2.2.1
  have hW := hK.1
  unfold tks at hS
  refine Ct_of hf (by decide) rfl (Nat.le_of_ble_eq_true rfl) (fun x o rt => ?_)
  have loop : ∀ m i (h : ((Nat → Int32) × Nat × List (Nat × Int32))) (τ : Mm), i + m = m0 → h.2.2.length ≤ 16 * i → Off 1 62 σ τ → Cv h.1 L h.2.1 → KR h.1 L h.2.1 l T n τ → HL h.1 h.2.1 h.2.2 1 → itr (fun _ s => tk1 L s) i m h = S → V sh0 w x mX8_ticks (0, 0) 17 [(4, .int (nI i)), (3, .int (nI h.2.2.length)), (2, .int 0), (0, .ref 1), (1, .int (nI m0))] [] τ := by
    intro m
    induction m with
    | zero =>
      intro i h τ hi hlen ho hCh hKh hH hR
      have him : i = m0 := by omega
      have hs : h = S := hR
      subst hs
      refine V_iload o dX8_ticks_17 rfl ?_
      refine V_iload_n o dX8_ticks_19 rfl rfl ?_
      refine V_icmp_ge (tgt := 43) o dX8_ticks_20 (by decide) (fun c_20 => ?_) (fun c_20 => False.elim (c_20 (by rw [him]; exact Int32.le_refl _)))
      refine V_aload_n o dX8_ticks_43 rfl rfl ?_
      refine V_iload_n o dX8_ticks_44 rfl rfl ?_
      refine V_iconst (v := 0) o dX8_ticks_45 (by decide) ?_
      refine V_topI (v' := bz (1 = 2)) (bz_f (by decide)).symm ?_
      refine V_callV o rt dX8_ticks_46 ml_X8_97 (c8_tellLatest hf hKh.2.2.1 (Or.inl rfl) hH (by omega)) rfl rfl rfl (Nat.le_of_ble_eq_true rfl) rfl (fun r_46 σ_46 q_46 => ?_)
      obtain ⟨rfl, ho3, hR3⟩ := q_46
      show V sh0 w x mX8_ticks (0, 0) _ _ [] _
      refine V_iload_n o dX8_ticks_49 rfl rfl ?_
      refine V_iret o rt dX8_ticks_50 rfl rfl ?_
      exact ⟨rfl, ho.tr (ho3.wd (by omega) (by omega)), hKh.rw hL ho3 hR3⟩
    | succ m ih =>
      intro i h τ hi hlen ho hCh hKh hH hR
      rw [itr_succ] at hR
      obtain ⟨N, rr, hl⟩ := h
      have hCh' : Cv N L rr := hCh
      have hA := Iv_tkA hCh'.1
      have hle : (tkLn N L).2 ≤ 16 := lineM_le
      have hlen2 : (tk1 L (N, rr, hl)).2.2.length = hl.length + (tkLn N L).2 := by
        show (hl ++ hl1 _ _ _).length = _
        rw [List.length_append, hl1_len]
      refine V_iload o dX8_ticks_17 rfl ?_
      refine V_iload_n o dX8_ticks_19 rfl rfl ?_
      refine V_icmp_ge (tgt := 43) o dX8_ticks_20 (by decide) (fun c_20 => False.elim (absurd c_20 (nI_ge (by omega) (by omega)))) (fun c_20 => ?_)
      refine V_aload_n o dX8_ticks_23 rfl rfl ?_
      refine V_getR (t := 2) o dX8_ticks_24 rfl fl_X8_10 rfl ?_
      refine V_callV o rt dX8_ticks_27 ml_X8_90 (c7_tick_2 hf hKh.1 hCh') rfl rfl rfl (Nat.le_of_ble_eq_true rfl) rfl (fun r_27 σ_27 q_27 => ?_)
      obtain ⟨rfl, ho2, hln, hd2, hW2⟩ := q_27
      obtain ⟨g6, gT⟩ := tick_hT hCh' hW2 hd2
      have hLgA : LgR (tkA N L) rr σ_27 := (hKh.2.2.1.off ho2 (by omega)).cg (fun j hj => Lo6 Lo.tkA (by omega) (by omega) (by omega))
      show V sh0 w x mX8_ticks (0, 0) _ _ [] _
      refine V_iload_n o dX8_ticks_30 rfl rfl ?_
      refine V_aload_n o dX8_ticks_31 rfl rfl ?_
      refine V_callV o rt dX8_ticks_32 ml_X8_93 (c8_keep hf hln lineM_D hLgA g6 gT rfl) rfl rfl rfl (Nat.le_of_ble_eq_true rfl) rfl (fun r_32 σ_32 q_32 => ?_)
      obtain ⟨rfl, ho3, hLg3⟩ := q_32
      show V sh0 w x mX8_ticks (0, 0) _ _ (.int (nI (tkLn N L).2) :: _) _
      refine V_iadd o dX8_ticks_35 ?_
      refine V_istore_n (ls' := [(3, _), (4, _), (2, _), (0, _), (1, _)]) o dX8_ticks_36 rfl (by decide) rfl ?_
      refine V_iincV (v := nI (i + 1)) (ls' := [(4, _), (3, _), (2, _), (0, _), (1, _)]) o dX8_ticks_37 rfl (ninc 1 rfl) (by decide) rfl ?_
      refine V_goto (tgt := 17) o dX8_ticks_40 (by decide) ?_
      refine V_sub ?_ (ih (i + 1) (tk1 L (N, rr, hl)) σ_32 (by omega) (by rw [hlen2]; show _ + _ ≤ _; simp at hlen; omega) (ho.tr ((ho2.wd (by omega) (by omega)).tr (ho3.wd (by omega) (by omega)))) (Cv_tick hCh') (KR_tick hKh hCh' ho2 hW2 ho3 hLg3) ?_ hR)
      · rw [hlen2]
        simp
        exact (nI_add _ _).symm
      · refine HL.cg (T := (tellM (tkA N L) rr (tkLn N L).1 (tkLn N L).2).1) ?_ (by omega) (Cv_tick hCh').1.2.2.1 (fun j h1 h2 => ring_log (by omega) (by omega))
        refine HL_tell hA.2.1 hA.2.2.1 (Or.inl rfl) (HL.cg hH (by omega) hCh'.1.2.2.1 (fun j h1 h2 => Lo6 Lo.tkA (by omega) (by omega) (by omega))) _ (fun k hk => ⟨lineM_lt hk, ?_⟩)
        show N 6 + 1 = tkA N L 6
        rw [Lo.tkA 6 (by omega) (by omega), uM_self]
  refine V_aload_n o dX8_ticks_0 rfl rfl ?_
  refine V_iload_n o dX8_ticks_1 rfl rfl ?_
  refine V_cVi o rt dX8_ticks_2 ml_X8_86 (c8_refT hf hW h6 hm1 hm2 hc) rfl rfl rfl (Nat.le_of_ble_eq_true rfl) rfl ?_
  refine V_istore_n (ls' := [(2, _), (0, _), (1, _)]) o dX8_ticks_5 rfl (by decide) rfl ?_
  refine V_iload_n o dX8_ticks_6 rfl rfl ?_
  refine V_if_ge (tgt := 12) o dX8_ticks_7 (by decide) (fun c_7 => ?_) (fun c_7 => False.elim (absurd (Int32.le_refl 0) c_7))
  refine V_iconst (v := 0) o dX8_ticks_12 (by decide) ?_
  refine V_istore_n (ls' := [(3, _), (2, _), (0, _), (1, _)]) o dX8_ticks_13 rfl (by decide) rfl ?_
  refine V_iconst (v := 0) o dX8_ticks_14 (by decide) ?_
  refine V_istore (ls' := [(4, _), (3, _), (2, _), (0, _), (1, _)]) o dX8_ticks_15 (by decide) rfl ?_
  exact V_sub (by simp; rfl) (loop m0 0 (M, r, []) σ (by omega) (Nat.zero_le _) Off.rf hC hK HL_nil hS)
set_option maxRecDepth 20000 in
set_option maxHeartbeats 4000000 in
theorem c8_ticks_no {w : Wp} (hf : Fit sh0 w) {σ : Mm} {M : Nat → Int32} {L r n : Nat} {l : List Int64} {T : Nat → Int32} (hK : KR M L r l T n σ) (hF : Wf M L) (hB : Bo M) {k : Int32} (hk : ¬ inR k 1 100) : Ct sh0 w 4 mX8_ticks [.ref 1, .int k] σ (fun r' σ' => r' = some (.int (-1)) ∧ Off 1 62 σ σ' ∧ KR (M) (L) r (l) (T) (n) σ') := by
  have hL := hF.2.2.1
  have hW := hK.1
  refine Ct_of hf (by decide) rfl (Nat.le_of_ble_eq_true rfl) (fun x o rt => ?_)
  refine V_aload_n o dX8_ticks_0 rfl rfl ?_
  refine V_iload_n o dX8_ticks_1 rfl rfl ?_
  refine V_cVi o rt dX8_ticks_2 ml_X8_86 (c8_refT_no hf hk) rfl rfl rfl (Nat.le_of_ble_eq_true rfl) rfl ?_
  refine V_istore_n (ls' := [(2, _), (0, _), (1, _)]) o dX8_ticks_5 rfl (by decide) rfl ?_
  refine V_iload_n o dX8_ticks_6 rfl rfl ?_
  refine V_if_ge (tgt := 12) o dX8_ticks_7 (by decide) (fun c_7 => False.elim (absurd c_7 (by decide))) (fun c_7 => ?_)
  refine V_iload_n o dX8_ticks_10 rfl rfl ?_
  refine V_iret o rt dX8_ticks_11 rfl rfl ?_
  exact ⟨rfl, Off.rf, hK⟩
