theorem sLn_dk {σ : Mm} {M : Nat → Int32} {v : Int32} {f : Nat → Int32} {n : Nat} : sLn (wI (sM σ 0 M) 67 8 v) f n = wI (sM (sLn σ f n) 0 M) 67 8 v := by
  refine Prod.ext (funext fun a => funext fun j => ?_) rfl
  simp only [sLn, wI, sM, up2]
  by_cases h1 : a = 70
  · subst h1; simp
  · by_cases h2 : a = 71
    · subst h2; simp
    · by_cases h3 : a = 67
      · subst h3
        by_cases h4 : j = 8
        · subst h4; simp
        · by_cases h5 : j = 10
          · subst h5; simp
          · simp [h4, h5]
      · simp [h1, h2, h3]
theorem sHd_dk {σ : Mm} {M : Nat → Int32} {v : Int32} {f1 f2 : Nat → Int32} {n : Nat} : sHd (wI (sM σ 0 M) 67 8 v) f1 f2 n = wI (sM (sHd σ f1 f2 n) 0 M) 67 8 v := by
  refine Prod.ext (funext fun a => funext fun j => ?_) rfl
  simp only [sHd, wI, sM, up2]
  by_cases h1 : a = 70
  · subst h1; simp
  · by_cases h2 : a = 72
    · subst h2; simp
    · by_cases h2b : a = 73
      · subst h2b; simp
      · by_cases h3 : a = 67
        · subst h3
          by_cases h4 : j = 8
          · subst h4; simp
          · by_cases h5 : j = 13
            · subst h5; simp
            · simp [h4, h5]
        · simp [h1, h2, h2b, h3]
def faSel (M : Nat → Int32) (t : Nat) : Bool := decide (isG M t ∧ M (391 + t) = -1)
def faM (M : Nat → Int32) : Nat → Int32 := uM (trM M) 5 0
set_option maxRecDepth 20000 in
set_option maxHeartbeats 4000000 in
theorem c9_far {w : Wp} (hf : Fit sh0 w) {σ : Mm} {M : Nat → Int32} {M1 : Nat → Int32} (hM1 : faM M = M1) {LN : (Nat → Nat) × Nat} (hLN : lineM M1 true (faSel M1) = LN) : Ct sh0 w 4 mX9_far [.ref 67] (sM σ 0 M) (fun r' σ' => ∃ fl fr, r' = some (.int (nI LN.2)) ∧ σ' = sM (sRw (wI (sLn (wI σ 67 0 0) fl LN.2) 67 8 0) fr LN.2) 0 (bkM M M1) ∧ RwR fr (rowG LN.1 LN.2)) := by
  have hle : LN.2 ≤ 16 := by rw [← hLN]; exact lineM_le
  unfold lineM at hLN
  have hd : (wI (sM (wI σ 67 0 0) 0 M) 67 8 423).1 67 8 = nI 423 := rfl
  have hd4 : 423 ≤ 423 := Nat.le_refl _
  refine Ct_of hf (by decide) rfl (Nat.le_of_ble_eq_true rfl) (fun x o rt => ?_)
  have line : ∀ n t (f : Nat → Int32) (s : (Nat → Nat) × Nat), t + n = 16 → s.2 ≤ t → (∀ j, j < s.2 → f j = nI (s.1 j) ∧ s.1 j < 16) → itr (lnF M1 true (faSel M1)) t n s = LN → V sh0 w x mX9_far (0, 0) 22 [(1, .int (nI t)), (0, .ref 67)] [] (sM (sLn (wI (sM (wI σ 67 0 0) 0 M) 67 8 423) f s.2) 423 M1) := by
    intro n
    induction n with
    | zero =>
      intro t f s htn hst hfg hR
      have ht : t = 16 := by omega
      have hs : s = LN := hR
      subst hs
      refine V_iload_n o dX9_far_22 rfl rfl ?_
      refine V_bipush (v := 16) o dX9_far_23 (by decide) ?_
      refine V_icmp_ge (tgt := 61) o dX9_far_25 (by decide) (fun c_25 => ?_) (fun c_25 => False.elim (c_25 (by rw [ht]; exact Int32.le_refl _)))
      refine V_drop ?_
      rw [sLn_dk]
      refine V_aload_n o dX9_far_61 rfl rfl ?_
      refine V_cVv o rt dX9_far_62 ml_X9_249 (c9_isBack hf) rfl rfl rfl (Nat.le_of_ble_eq_true rfl) rfl ?_
      refine V_aload_n o dX9_far_65 rfl rfl ?_
      refine V_callV o rt dX9_far_66 ml_X9_243 (c9_tellsLine (n := s.2) (g := s.1) hf hle rfl (fun j hj => (hfg j hj).1)) rfl rfl rfl (Nat.le_of_ble_eq_true rfl) rfl (fun r_66 σ_66 q_66 => ?_)
      obtain ⟨rfl, fr, rfl, hRw⟩ := q_66
      show V sh0 w x mX9_far (0, 0) _ _ [] _
      refine V_aload_n o dX9_far_69 rfl rfl ?_
      refine V_getIE (v := nI (s.2)) o dX9_far_70 rfl fl_X9_109 rfl rfl ?_
      refine V_iret o rt dX9_far_73 rfl rfl ?_
      exact ⟨f, fr, rfl, rfl, hRw⟩
    | succ n ih =>
      intro t f s htn hst hfg hR
      rw [itr_succ] at hR
      refine V_iload_n o dX9_far_22 rfl rfl ?_
      refine V_bipush (v := 16) o dX9_far_23 (by decide) ?_
      refine V_icmp_ge (tgt := 61) o dX9_far_25 (by decide) (fun c_25 => False.elim (absurd c_25 (nI_ge (b := 16) (by omega) (by omega)))) (fun c_25 => ?_)
      refine V_aload_n o dX9_far_28 rfl rfl ?_
      refine V_iload_n o dX9_far_29 rfl rfl ?_
      refine V_cVi o rt dX9_far_30 ml_X9_99 (c9_goes hf (by exact hd) hd4 rfl (by omega)) rfl rfl rfl (Nat.le_of_ble_eq_true rfl) rfl ?_
      refine V_if_eq (tgt := 55) o dX9_far_33 (by decide) (fun c_33 => ?_) (fun c_33 => ?_)
      · refine V_iincV (v := nI (t + 1)) (ls' := [(1, _), (0, _)]) o dX9_far_55 rfl (ninc 1 rfl) (by decide) rfl ?_
        refine V_goto (tgt := 22) o dX9_far_58 (by decide) ?_
        rw [lnF, if_neg (by rw [faSel, decide_eq_true_eq]; exact fun h => bz_0.mp c_33 h.1)] at hR
        exact V_sub (by simp) (ih (t + 1) f s (by omega) (by omega) hfg hR)
      · refine V_aload_n o dX9_far_36 rfl rfl ?_
        refine V_sipush (v := 391) o dX9_far_37 (by decide) ?_
        refine V_iload_n o dX9_far_40 rfl rfl ?_
        refine V_iadd o dX9_far_41 ?_
        refine V_cVi o rt dX9_far_42 ml_X9_85 (c9_of hf (by exact hd) (nadd (show (391 : Int32) = nI 391 from rfl) rfl) (by omega)) rfl rfl rfl (Nat.le_of_ble_eq_true rfl) rfl ?_
        refine V_iconst (v := -1) o dX9_far_45 (by decide) ?_
        refine V_icmp_ne (tgt := 55) o dX9_far_46 (by decide) (fun c_46 => ?_) (fun c_46 => ?_)
        · refine V_iincV (v := nI (t + 1)) (ls' := [(1, _), (0, _)]) o dX9_far_55 rfl (ninc 1 rfl) (by decide) rfl ?_
          refine V_goto (tgt := 22) o dX9_far_58 (by decide) ?_
          rw [lnF, if_neg (by rw [faSel, decide_eq_true_eq]; exact fun h => c_46 h.2)] at hR
          exact V_sub (by simp) (ih (t + 1) f s (by omega) (by omega) hfg hR)
        · refine V_aload_n o dX9_far_49 rfl rfl ?_
          refine V_iload_n o dX9_far_50 rfl rfl ?_
          refine V_iconst (v := 1) o dX9_far_51 (by decide) ?_
          refine V_callV o rt dX9_far_52 ml_X9_142 (c9_queues (n := s.2) (g := s.1) hf (by exact hd) hd4 rfl (by omega) true rfl rfl (by omega) (fun j hj => ⟨(hfg j hj).1, (hfg j hj).2⟩)) rfl rfl rfl (Nat.le_of_ble_eq_true rfl) rfl (fun r_52 σ_52 q_52 => ?_)
          obtain ⟨rfl, f1, rfl, hf1⟩ := q_52
          rw [sLn_sLn]
          refine V_iincV (v := nI (t + 1)) (ls' := [(1, _), (0, _)]) o dX9_far_55 rfl (ninc 1 rfl) (by decide) rfl ?_
          refine V_goto (tgt := 22) o dX9_far_58 (by decide) ?_
          rw [lnF, if_pos (by rw [faSel, decide_eq_true_eq]; exact ⟨bz_n0.mp c_33, c_46⟩)] at hR
          exact V_sub (by simp) (ih (t + 1) f1 (qG (soonB M1 true) t s.2 s.1, s.2 + 1) (by omega) (Nat.succ_le_succ hst) (fun j hj => ⟨hf1 j hj, qG_lt (by omega) s.2 s.2 s.1 (Nat.le_refl _) (fun k hk hne => (hfg k (by omega)).2) j hj⟩) hR)
  refine V_aload_n o dX9_far_0 rfl rfl ?_
  refine V_iconst (v := 0) o dX9_far_1 (by decide) ?_
  refine V_putI o dX9_far_2 rfl fl_X9_1 rfl rfl rfl ?_
  rw [wI_sM67]
  refine V_aload_n o dX9_far_5 rfl rfl ?_
  refine V_cVv o rt dX9_far_6 ml_X9_246 (c9_tries hf) rfl rfl rfl (Nat.le_of_ble_eq_true rfl) rfl ?_
  refine V_aload_n o dX9_far_9 rfl rfl ?_
  refine V_iconst (v := 5) o dX9_far_10 (by decide) ?_
  refine V_iconst (v := 0) o dX9_far_11 (by decide) ?_
  refine V_cVv o rt dX9_far_12 ml_X9_76 (c9_puts hf (by exact hd) (show (5 : Int32) = nI 5 from rfl) (by omega)) rfl rfl rfl (Nat.le_of_ble_eq_true rfl) rfl ?_
  rw [show uM (trM M) 5 0 = M1 from hM1]
  refine V_aload_n o dX9_far_15 rfl rfl ?_
  refine V_iconst (v := 0) o dX9_far_16 (by decide) ?_
  refine V_putI o dX9_far_17 rfl fl_X9_109 rfl rfl rfl ?_
  rw [wI_sM67]
  rw [wI_sLn0]
  refine V_iconst (v := 0) o dX9_far_20 (by decide) ?_
  refine V_istore_n (ls' := [(1, _), (0, _)]) o dX9_far_21 rfl (by decide) rfl ?_
  exact line 16 0 ((wI (sM (wI σ 67 0 0) 0 M) 67 8 423).1 71) (fun _ => 0, 0) (by omega) (Nat.le_refl 0) (fun j hj => absurd hj (Nat.not_lt_zero j)) hLN
def gpF (M : Nat → Int32) (k : Int32) (t : Nat) (l : List Nat) : List Nat := if isT M t ∧ M (263 + t) = k then l ++ [t] else l
def gpL (M : Nat → Int32) (k : Int32) : List Nat := itr (gpF M k) 0 16 []
def rowN (l : List Nat) : List Int64 := l.map (fun t => (nI t).toInt64)
theorem rowN_app (l : List Nat) (t : Nat) : rowN (l ++ [t]) = rowN l ++ [(nI t).toInt64] := by simp [rowN]
theorem rowN_len (l : List Nat) : (rowN l).length = l.length := by simp [rowN]
set_option maxRecDepth 20000 in
set_option maxHeartbeats 4000000 in
theorem c9_group {w : Wp} (hf : Fit sh0 w) {σ : Mm} {M : Nat → Int32} (hd : σ.1 67 8 = nI 0) {k : Int32} (hk : inR k 0 7) {G : List Nat} (hG : gpL M k = G) : Ct sh0 w 2 mX9_group [.ref 67, .int k] (sM σ 0 M) (fun r' σ' => ∃ fr, r' = some (.int (nI G.length)) ∧ σ' = sM (sRw (wI σ 67 0 0) fr G.length) 0 M ∧ RwR fr (rowN G)) := by
  have hd4 : 0 ≤ 423 := Nat.zero_le _
  unfold gpL at hG
  refine Ct_of hf (by decide) rfl (Nat.le_of_ble_eq_true rfl) (fun x o rt => ?_)
  have loop : ∀ n t (l : List Nat) (f : Nat → Int64), t + n = 16 → l.length ≤ t → RwR f (rowN l) → itr (gpF M k) t n l = G → V sh0 w x mX9_group (0, 0) 26 [(2, .int (nI t)), (0, .ref 67), (1, .int k)] [] (sM (sRw (wI σ 67 0 0) f l.length) 0 M) := by
    intro n
    induction n with
    | zero =>
      intro t l f htn hl hF hR
      have ht : t = 16 := by omega
      have hs : l = G := hR
      subst hs
      refine V_iload_n o dX9_group_26 rfl rfl ?_
      refine V_bipush (v := 16) o dX9_group_27 (by decide) ?_
      refine V_icmp_ge (tgt := 65) o dX9_group_29 (by decide) (fun c_29 => ?_) (fun c_29 => False.elim (c_29 (by rw [ht]; exact Int32.le_refl _)))
      refine V_aload_n o dX9_group_65 rfl rfl ?_
      refine V_getIE (v := nI (l.length)) o dX9_group_66 rfl fl_X9_11 rfl rfl ?_
      refine V_iret o rt dX9_group_69 rfl rfl ?_
      exact ⟨f, rfl, rfl, hF⟩
    | succ n ih =>
      intro t l f htn hl hF hR
      rw [itr_succ] at hR
      refine V_iload_n o dX9_group_26 rfl rfl ?_
      refine V_bipush (v := 16) o dX9_group_27 (by decide) ?_
      refine V_icmp_ge (tgt := 65) o dX9_group_29 (by decide) (fun c_29 => False.elim (absurd c_29 (nI_ge (b := 16) (by omega) (by omega)))) (fun c_29 => ?_)
      refine V_aload_n o dX9_group_32 rfl rfl ?_
      refine V_iload_n o dX9_group_33 rfl rfl ?_
      refine V_cVi o rt dX9_group_34 ml_X9_89 (c9_isTimer hf (by exact hd) hd4 rfl (by omega)) rfl rfl rfl (Nat.le_of_ble_eq_true rfl) rfl ?_
      refine V_if_eq (tgt := 59) o dX9_group_37 (by decide) (fun c_37 => ?_) (fun c_37 => ?_)
      · refine V_iincV (v := nI (t + 1)) (ls' := [(2, _), (0, _), (1, _)]) o dX9_group_59 rfl (ninc 1 rfl) (by decide) rfl ?_
        refine V_goto (tgt := 26) o dX9_group_62 (by decide) ?_
        rw [gpF, if_neg (fun h => bz_0.mp c_37 h.1)] at hR
        exact V_sub (by simp) (ih (t + 1) l f (by omega) (by omega) hF hR)
      · refine V_aload_n o dX9_group_40 rfl rfl ?_
        refine V_sipush (v := 263) o dX9_group_41 (by decide) ?_
        refine V_iload_n o dX9_group_44 rfl rfl ?_
        refine V_iadd o dX9_group_45 ?_
        refine V_cVi o rt dX9_group_46 ml_X9_85 (c9_of hf (by exact hd) (nadd (show (263 : Int32) = nI 263 from rfl) rfl) (by omega)) rfl rfl rfl (Nat.le_of_ble_eq_true rfl) rfl ?_
        refine V_iload_n o dX9_group_49 rfl rfl ?_
        refine V_icmp_ne (tgt := 59) o dX9_group_50 (by decide) (fun c_50 => ?_) (fun c_50 => ?_)
        · refine V_iincV (v := nI (t + 1)) (ls' := [(2, _), (0, _), (1, _)]) o dX9_group_59 rfl (ninc 1 rfl) (by decide) rfl ?_
          refine V_goto (tgt := 26) o dX9_group_62 (by decide) ?_
          rw [gpF, if_neg (fun h => c_50 h.2)] at hR
          exact V_sub (by simp) (ih (t + 1) l f (by omega) (by omega) hF hR)
        · refine V_aload_n o dX9_group_53 rfl rfl ?_
          refine V_iload_n o dX9_group_54 rfl rfl ?_
          refine V_i2l o dX9_group_55 ?_
          refine V_cVv o rt dX9_group_56 ml_X9_153 (c9_enters hf (by omega)) rfl rfl rfl (Nat.le_of_ble_eq_true rfl) rfl ?_
          refine V_iincV (v := nI (t + 1)) (ls' := [(2, _), (0, _), (1, _)]) o dX9_group_59 rfl (ninc 1 rfl) (by decide) rfl ?_
          refine V_goto (tgt := 26) o dX9_group_62 (by decide) ?_
          rw [gpF, if_pos ⟨bz_n0.mp c_37, c_50⟩] at hR
          have h1 := ih (t + 1) (l ++ [t]) (updL f l.length (nI t).toInt64) (by omega) (by simp; omega) (by rw [rowN_app]; exact RwR_push (rowN_len l).symm hF) hR
          rw [List.length_append] at h1
          exact V_sub (by simp) h1
  refine V_aload_n o dX9_group_0 rfl rfl ?_
  refine V_iconst (v := 0) o dX9_group_1 (by decide) ?_
  refine V_putI o dX9_group_2 rfl fl_X9_1 rfl rfl rfl ?_
  rw [wI_sM67]
  refine V_iload_n o dX9_group_5 rfl rfl ?_
  refine V_i2l o dX9_group_6 ?_
  refine V_lconst (v := 0) o dX9_group_7 (by decide) ?_
  refine V_ldc2 o dX9_group_8 kc_X9_201 ?_
  refine V_cSi o rt dX9_group_11 ms_X9_21 (c9_in hf) rfl rfl (Nat.le_of_ble_eq_true rfl) rfl ?_
  refine V_if_ne (tgt := 19) o dX9_group_14 (by decide) (fun c_14 => ?_) (fun c_14 => False.elim (bz_n0.mpr ((in_lo (k := k) (lo := 0) (hi := 7) (l := 0) (h := 7) (by decide) (by decide)).mpr hk) c_14))
  refine V_aload_n o dX9_group_19 rfl rfl ?_
  refine V_iconst (v := 0) o dX9_group_20 (by decide) ?_
  refine V_putI o dX9_group_21 rfl fl_X9_11 rfl rfl rfl ?_
  rw [wI_sM67]
  rw [wI_sRw0]
  refine V_iconst (v := 0) o dX9_group_24 (by decide) ?_
  refine V_istore_n (ls' := [(2, _), (0, _), (1, _)]) o dX9_group_25 rfl (by decide) rfl ?_
  exact loop 16 0 [] _ (by omega) (Nat.le_refl 0) RwR_nil hG
set_option maxRecDepth 20000 in
set_option maxHeartbeats 4000000 in
theorem c9_group_no {w : Wp} (hf : Fit sh0 w) {σ : Mm} {M : Nat → Int32} (hd : σ.1 67 8 = nI 0) {k : Int32} (hk : ¬ inR k 0 7) : Cf sh0 w 2 mX9_group [.ref 67, .int k] (sM σ 0 M) (some (.int (-1))) (sM (wI σ 67 0 0) 0 M) := by
  refine Ct_of hf (by decide) rfl (Nat.le_of_ble_eq_true rfl) (fun x o rt => ?_)
  refine V_aload_n o dX9_group_0 rfl rfl ?_
  refine V_iconst (v := 0) o dX9_group_1 (by decide) ?_
  refine V_putI o dX9_group_2 rfl fl_X9_1 rfl rfl rfl ?_
  rw [wI_sM67]
  refine V_iload_n o dX9_group_5 rfl rfl ?_
  refine V_i2l o dX9_group_6 ?_
  refine V_lconst (v := 0) o dX9_group_7 (by decide) ?_
  refine V_ldc2 o dX9_group_8 kc_X9_201 ?_
  refine V_cSi o rt dX9_group_11 ms_X9_21 (c9_in hf) rfl rfl (Nat.le_of_ble_eq_true rfl) rfl ?_
  refine V_if_ne (tgt := 19) o dX9_group_14 (by decide) (fun c_14 => False.elim (hk ((in_lo (k := k) (lo := 0) (hi := 7) (l := 0) (h := 7) (by decide) (by decide)).mp (bz_n0.mp c_14)))) (fun c_14 => ?_)
  refine V_iconst (v := -1) o dX9_group_17 (by decide) ?_
  refine V_iret o rt dX9_group_18 rfl rfl ?_
  exact ⟨rfl, rfl⟩
def fuB (M : Nat → Int32) (lv : Int32) (t : Nat) : Bool := decide (isG M t ∧ M (391 + t) = lv)
def fuF (M : Nat → Int32) (lv : Int32) (t : Nat) (s : Int32 × Int32) : Int32 × Int32 := if fuB M lv t = true then (s.1 ||| ((1 : Int32) <<< (M (407 + t) &&& 31)), s.2 + 1) else (s.1 ||| 0, s.2 + 0)
def fuS (M : Nat → Int32) (lv : Int32) : Int32 × Int32 := itr (fuF M lv) 0 16 (0, 0)
def fuG (b : Int32) (i : Nat) (l : List Nat) : List Nat := if (b >>> (nI i &&& 31)) &&& 1 = 1 then l ++ [i] else l
def fuL (b : Int32) : List Nat := itr (fuG b) 0 16 []
set_option maxRecDepth 20000 in
set_option maxHeartbeats 4000000 in
theorem c9_full {w : Wp} (hf : Fit sh0 w) {σ : Mm} {M : Nat → Int32} (hd : σ.1 67 8 = nI 0) {L : Nat} (hW : Wf M L) {lv : Int32} (hc : inR lv 0 (M 0 - 1)) {S : Int32 × Int32} (hS : fuS M lv = S) {G : List Nat} (hG : fuL S.1 = G) : Ct sh0 w 3 mX9_full [.ref 67, .int lv] (sM σ 0 M) (fun r' σ' => ∃ fr, r' = some (.int (nI G.length)) ∧ σ' = sM (sRw (wI σ 67 0 0) fr (G.length + 1)) 0 M ∧ RwR fr (rowN G ++ [S.2.toInt64])) := by
  have hd4 : 0 ≤ 423 := Nat.zero_le _
  unfold fuS at hS
  unfold fuL at hG
  refine Ct_of hf (by decide) rfl (Nat.le_of_ble_eq_true rfl) (fun x o rt => ?_)
  have loop2 : ∀ n t (l : List Nat) (f : Nat → Int64), t + n = 16 → l.length ≤ t → RwR f (rowN l) → itr (fuG S.1) t n l = G → V sh0 w x mX9_full (0, 0) 114 [(4, .int (nI t)), (3, .int S.2), (2, .int S.1), (0, .ref 67), (1, .int lv)] [] (sM (sRw (wI σ 67 0 0) f l.length) 0 M) := by
    intro n
    induction n with
    | zero =>
      intro t l f htn hl hF hR
      have ht : t = 16 := by omega
      have hs : l = G := hR
      subst hs
      refine V_iload o dX9_full_114 rfl ?_
      refine V_bipush (v := 16) o dX9_full_116 (by decide) ?_
      refine V_icmp_ge (tgt := 144) o dX9_full_118 (by decide) (fun c_118 => ?_) (fun c_118 => False.elim (c_118 (by rw [ht]; exact Int32.le_refl _)))
      refine V_aload_n o dX9_full_144 rfl rfl ?_
      refine V_getIE (v := nI (l.length)) o dX9_full_145 rfl fl_X9_11 rfl rfl ?_
      refine V_istore (ls' := [(4, _), (3, _), (2, _), (0, _), (1, _)]) o dX9_full_148 (by decide) rfl ?_
      refine V_aload_n o dX9_full_150 rfl rfl ?_
      refine V_iload_n o dX9_full_151 rfl rfl ?_
      refine V_i2l o dX9_full_152 ?_
      refine V_cVv o rt dX9_full_153 ml_X9_153 (c9_enters hf (by omega)) rfl rfl rfl (Nat.le_of_ble_eq_true rfl) rfl ?_
      refine V_iload o dX9_full_156 rfl ?_
      refine V_iret o rt dX9_full_158 rfl rfl ?_
      exact ⟨_, rfl, rfl, RwR_push (rowN_len l).symm hF⟩
    | succ n ih =>
      intro t l f htn hl hF hR
      rw [itr_succ] at hR
      refine V_iload o dX9_full_114 rfl ?_
      refine V_bipush (v := 16) o dX9_full_116 (by decide) ?_
      refine V_icmp_ge (tgt := 144) o dX9_full_118 (by decide) (fun c_118 => False.elim (absurd c_118 (nI_ge (b := 16) (by omega) (by omega)))) (fun c_118 => ?_)
      refine V_iload_n o dX9_full_121 rfl rfl ?_
      refine V_iload o dX9_full_122 rfl ?_
      refine V_ishr o dX9_full_124 ?_
      refine V_iconst (v := 1) o dX9_full_125 (by decide) ?_
      refine V_iand o dX9_full_126 ?_
      refine V_iconst (v := 1) o dX9_full_127 (by decide) ?_
      refine V_icmp_ne (tgt := 138) o dX9_full_128 (by decide) (fun c_128 => ?_) (fun c_128 => ?_)
      · refine V_iincV (v := nI (t + 1)) (ls' := [(4, _), (3, _), (2, _), (0, _), (1, _)]) o dX9_full_138 rfl (ninc 1 rfl) (by decide) rfl ?_
        refine V_goto (tgt := 114) o dX9_full_141 (by decide) ?_
        rw [fuG, if_neg c_128] at hR
        exact ih (t + 1) l f (by omega) (by omega) hF hR
      · refine V_aload_n o dX9_full_131 rfl rfl ?_
        refine V_iload o dX9_full_132 rfl ?_
        refine V_i2l o dX9_full_134 ?_
        refine V_cVv o rt dX9_full_135 ml_X9_153 (c9_enters hf (by omega)) rfl rfl rfl (Nat.le_of_ble_eq_true rfl) rfl ?_
        refine V_iincV (v := nI (t + 1)) (ls' := [(4, _), (3, _), (2, _), (0, _), (1, _)]) o dX9_full_138 rfl (ninc 1 rfl) (by decide) rfl ?_
        refine V_goto (tgt := 114) o dX9_full_141 (by decide) ?_
        rw [fuG, if_pos c_128] at hR
        have h1 := ih (t + 1) (l ++ [t]) (updL f l.length (nI t).toInt64) (by omega) (by simp; omega) (by rw [rowN_app]; exact RwR_push (rowN_len l).symm hF) hR
        rw [List.length_append] at h1
        exact h1
  have loop : ∀ n t (s : Int32 × Int32), t + n = 16 → itr (fuF M lv) t n s = S → V sh0 w x mX9_full (0, 0) 31 [(4, .int (nI t)), (3, .int s.2), (2, .int s.1), (0, .ref 67), (1, .int lv)] [] (sM (wI σ 67 0 0) 0 M) := by
    intro n
    induction n with
    | zero =>
      intro t s htn hR
      have ht : t = 16 := by omega
      have hs : s = S := hR
      subst hs
      refine V_iload o dX9_full_31 rfl ?_
      refine V_bipush (v := 16) o dX9_full_33 (by decide) ?_
      refine V_icmp_ge (tgt := 106) o dX9_full_35 (by decide) (fun c_35 => ?_) (fun c_35 => False.elim (c_35 (by rw [ht]; exact Int32.le_refl _)))
      refine V_aload_n o dX9_full_106 rfl rfl ?_
      refine V_iconst (v := 0) o dX9_full_107 (by decide) ?_
      refine V_putI o dX9_full_108 rfl fl_X9_11 rfl rfl rfl ?_
      rw [wI_sM67]
      rw [wI_sRw0]
      refine V_iconst (v := 0) o dX9_full_111 (by decide) ?_
      refine V_istore (ls' := [(4, _), (3, _), (2, _), (0, _), (1, _)]) o dX9_full_112 (by decide) rfl ?_
      exact loop2 16 0 [] _ (by omega) (Nat.le_refl 0) RwR_nil hG
    | succ n ih =>
      intro t s htn hR
      rw [itr_succ] at hR
      have rest : ∀ v, v = bz (fuB M lv t = true) → V sh0 w x mX9_full (0, 0) 66 [(4, .int (nI t)), (3, .int s.2), (2, .int s.1), (0, .ref 67), (1, .int lv)] [.int v] (sM (wI σ 67 0 0) 0 M) := by
        intro v hv
        refine V_istore (ls' := [(5, _), (4, _), (3, _), (2, _), (0, _), (1, _)]) o dX9_full_66 (by decide) rfl ?_
        refine V_iload_n o dX9_full_68 rfl rfl ?_
        refine V_iload o dX9_full_69 rfl ?_
        refine V_if_eq (tgt := 89) o dX9_full_71 (by decide) (fun c_71 => ?_) (fun c_71 => ?_)
        · refine V_iconst (v := 0) o dX9_full_89 (by decide) ?_
          refine V_ior o dX9_full_90 ?_
          refine V_istore_n (ls' := [(2, _), (5, _), (4, _), (3, _), (0, _), (1, _)]) o dX9_full_91 rfl (by decide) rfl ?_
          refine V_iload_n o dX9_full_92 rfl rfl ?_
          refine V_iload o dX9_full_93 rfl ?_
          refine V_cSi o rt dX9_full_95 ms_X9_31 (c9_flag hf (by rw [hv]; unfold bz; split <;> simp)) rfl rfl (Nat.le_of_ble_eq_true rfl) rfl ?_
          refine V_iadd o dX9_full_98 ?_
          refine V_istore_n (ls' := [(3, _), (2, _), (5, _), (4, _), (0, _), (1, _)]) o dX9_full_99 rfl (by decide) rfl ?_
          refine V_iincV (v := nI (t + 1)) (ls' := [(4, _), (3, _), (2, _), (5, _), (0, _), (1, _)]) o dX9_full_100 rfl (ninc 1 rfl) (by decide) rfl ?_
          refine V_goto (tgt := 31) o dX9_full_103 (by decide) ?_
          have hb : ¬ fuB M lv t = true := bz_0.mp (hv ▸ c_71)
          rw [fuF, if_neg hb] at hR
          have h0 : v = 0 := hv.trans (bz_f hb)
          rw [h0]
          exact V_sub (by simp) (ih (t + 1) (s.1 ||| 0, s.2 + 0) (by omega) hR)
        · refine V_iconst (v := 1) o dX9_full_74 (by decide) ?_
          refine V_aload_n o dX9_full_75 rfl rfl ?_
          refine V_sipush (v := 407) o dX9_full_76 (by decide) ?_
          refine V_iload o dX9_full_79 rfl ?_
          refine V_iadd o dX9_full_81 ?_
          refine V_cVi o rt dX9_full_82 ml_X9_85 (c9_of hf (by exact hd) (nadd (show (407 : Int32) = nI 407 from rfl) rfl) (by omega)) rfl rfl rfl (Nat.le_of_ble_eq_true rfl) rfl ?_
          refine V_ishl o dX9_full_85 ?_
          refine V_goto (tgt := 90) o dX9_full_86 (by decide) ?_
          refine V_ior o dX9_full_90 ?_
          refine V_istore_n (ls' := [(2, _), (5, _), (4, _), (3, _), (0, _), (1, _)]) o dX9_full_91 rfl (by decide) rfl ?_
          refine V_iload_n o dX9_full_92 rfl rfl ?_
          refine V_iload o dX9_full_93 rfl ?_
          refine V_cSi o rt dX9_full_95 ms_X9_31 (c9_flag hf (by rw [hv]; unfold bz; split <;> simp)) rfl rfl (Nat.le_of_ble_eq_true rfl) rfl ?_
          refine V_iadd o dX9_full_98 ?_
          refine V_istore_n (ls' := [(3, _), (2, _), (5, _), (4, _), (0, _), (1, _)]) o dX9_full_99 rfl (by decide) rfl ?_
          refine V_iincV (v := nI (t + 1)) (ls' := [(4, _), (3, _), (2, _), (5, _), (0, _), (1, _)]) o dX9_full_100 rfl (ninc 1 rfl) (by decide) rfl ?_
          refine V_goto (tgt := 31) o dX9_full_103 (by decide) ?_
          have hb : fuB M lv t = true := bz_n0.mp (hv ▸ c_71)
          rw [fuF, if_pos hb] at hR
          have h0 : v = 1 := hv.trans (bz_t hb)
          rw [h0]
          exact V_sub (by simp) (ih (t + 1) (s.1 ||| ((1 : Int32) <<< (M (407 + t) &&& 31)), s.2 + 1) (by omega) hR)
      refine V_iload o dX9_full_31 rfl ?_
      refine V_bipush (v := 16) o dX9_full_33 (by decide) ?_
      refine V_icmp_ge (tgt := 106) o dX9_full_35 (by decide) (fun c_35 => False.elim (absurd c_35 (nI_ge (b := 16) (by omega) (by omega)))) (fun c_35 => ?_)
      refine V_aload_n o dX9_full_38 rfl rfl ?_
      refine V_iload o dX9_full_39 rfl ?_
      refine V_cVi o rt dX9_full_41 ml_X9_99 (c9_goes hf (by exact hd) hd4 rfl (by omega)) rfl rfl rfl (Nat.le_of_ble_eq_true rfl) rfl ?_
      refine V_if_eq (tgt := 65) o dX9_full_44 (by decide) (fun c_44 => ?_) (fun c_44 => ?_)
      · refine V_iconst (v := 0) o dX9_full_65 (by decide) ?_
        exact rest 0 (by rw [bz_f]; rw [fuB, decide_eq_true_eq]; exact fun h => bz_0.mp c_44 h.1)
      · refine V_aload_n o dX9_full_47 rfl rfl ?_
        refine V_sipush (v := 391) o dX9_full_48 (by decide) ?_
        refine V_iload o dX9_full_51 rfl ?_
        refine V_iadd o dX9_full_53 ?_
        refine V_cVi o rt dX9_full_54 ml_X9_85 (c9_of hf (by exact hd) (nadd (show (391 : Int32) = nI 391 from rfl) rfl) (by omega)) rfl rfl rfl (Nat.le_of_ble_eq_true rfl) rfl ?_
        refine V_iload_n o dX9_full_57 rfl rfl ?_
        refine V_icmp_ne (tgt := 65) o dX9_full_58 (by decide) (fun c_58 => ?_) (fun c_58 => ?_)
        · refine V_iconst (v := 0) o dX9_full_65 (by decide) ?_
          exact rest 0 (by rw [bz_f]; rw [fuB, decide_eq_true_eq]; exact fun h => c_58 h.2)
        · refine V_iconst (v := 1) o dX9_full_61 (by decide) ?_
          refine V_goto (tgt := 66) o dX9_full_62 (by decide) ?_
          exact rest 1 (by rw [bz_t]; rw [fuB, decide_eq_true_eq]; exact ⟨bz_n0.mp c_44, c_58⟩)
  refine V_aload_n o dX9_full_0 rfl rfl ?_
  refine V_iconst (v := 0) o dX9_full_1 (by decide) ?_
  refine V_putI o dX9_full_2 rfl fl_X9_1 rfl rfl rfl ?_
  rw [wI_sM67]
  refine V_iload_n o dX9_full_5 rfl rfl ?_
  refine V_i2l o dX9_full_6 ?_
  refine V_lconst (v := 0) o dX9_full_7 (by decide) ?_
  refine V_aload_n o dX9_full_8 rfl rfl ?_
  refine V_iconst (v := 0) o dX9_full_9 (by decide) ?_
  refine V_cVi o rt dX9_full_10 ml_X9_85 (c9_of hf (by exact hd) (show (0 : Int32) = nI 0 from rfl) (by omega)) rfl rfl rfl (Nat.le_of_ble_eq_true rfl) rfl ?_
  refine V_iconst (v := 1) o dX9_full_13 (by decide) ?_
  refine V_isub o dX9_full_14 ?_
  refine V_i2l o dX9_full_15 ?_
  refine V_cSi o rt dX9_full_16 ms_X9_21 (c9_in hf) rfl rfl (Nat.le_of_ble_eq_true rfl) rfl ?_
  refine V_if_ne (tgt := 24) o dX9_full_19 (by decide) (fun c_19 => ?_) (fun c_19 => False.elim (bz_n0.mpr ((in_lo (k := lv) (lo := 0) (hi := M 0 - 1) (by decide) rfl).mpr hc) c_19))
  refine V_iconst (v := 0) o dX9_full_24 (by decide) ?_
  refine V_istore_n (ls' := [(2, _), (0, _), (1, _)]) o dX9_full_25 rfl (by decide) rfl ?_
  refine V_iconst (v := 0) o dX9_full_26 (by decide) ?_
  refine V_istore_n (ls' := [(3, _), (2, _), (0, _), (1, _)]) o dX9_full_27 rfl (by decide) rfl ?_
  refine V_iconst (v := 0) o dX9_full_28 (by decide) ?_
  refine V_istore (ls' := [(4, _), (3, _), (2, _), (0, _), (1, _)]) o dX9_full_29 (by decide) rfl ?_
  exact loop 16 0 (0, 0) (by omega) hS
set_option maxRecDepth 20000 in
set_option maxHeartbeats 4000000 in
theorem c9_full_no {w : Wp} (hf : Fit sh0 w) {σ : Mm} {M : Nat → Int32} (hd : σ.1 67 8 = nI 0) {lv : Int32} (hc : ¬ inR lv 0 (M 0 - 1)) : Cf sh0 w 3 mX9_full [.ref 67, .int lv] (sM σ 0 M) (some (.int (-1))) (sM (wI σ 67 0 0) 0 M) := by
  refine Ct_of hf (by decide) rfl (Nat.le_of_ble_eq_true rfl) (fun x o rt => ?_)
  refine V_aload_n o dX9_full_0 rfl rfl ?_
  refine V_iconst (v := 0) o dX9_full_1 (by decide) ?_
  refine V_putI o dX9_full_2 rfl fl_X9_1 rfl rfl rfl ?_
  rw [wI_sM67]
  refine V_iload_n o dX9_full_5 rfl rfl ?_
  refine V_i2l o dX9_full_6 ?_
  refine V_lconst (v := 0) o dX9_full_7 (by decide) ?_
  refine V_aload_n o dX9_full_8 rfl rfl ?_
  refine V_iconst (v := 0) o dX9_full_9 (by decide) ?_
  refine V_cVi o rt dX9_full_10 ml_X9_85 (c9_of hf (by exact hd) (show (0 : Int32) = nI 0 from rfl) (by omega)) rfl rfl rfl (Nat.le_of_ble_eq_true rfl) rfl ?_
  refine V_iconst (v := 1) o dX9_full_13 (by decide) ?_
  refine V_isub o dX9_full_14 ?_
  refine V_i2l o dX9_full_15 ?_
  refine V_cSi o rt dX9_full_16 ms_X9_21 (c9_in hf) rfl rfl (Nat.le_of_ble_eq_true rfl) rfl ?_
  refine V_if_ne (tgt := 24) o dX9_full_19 (by decide) (fun c_19 => False.elim (hc ((in_lo (k := lv) (lo := 0) (hi := M 0 - 1) (by decide) rfl).mp (bz_n0.mp c_19)))) (fun c_19 => ?_)
  refine V_iconst (v := -1) o dX9_full_22 (by decide) ?_
  refine V_iret o rt dX9_full_23 rfl rfl ?_
  exact ⟨rfl, rfl⟩
