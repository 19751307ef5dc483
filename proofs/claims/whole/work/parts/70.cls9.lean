def cntO (M : Nat → Int32) (v : Int32) : Int32 := itr (fun t n => n + bz (isT M t ∧ cLv M t = v)) 0 16 0
def cntI (M : Nat → Int32) (v s : Int32) : Int32 := itr (fun t n => n + bz (isT M t ∧ cLv M t = v ∧ cSl M t = s)) 0 16 0
/-- the first that is due, as the class finds it -/
def fdF (M : Nat → Int32) (t : Nat) (o : Option Nat) : Option Nat := if isG M t then (match o with | none => some t | some u => if M (231 + t) < M (231 + u) then some t else some u) else o
theorem fdF_n {M : Nat → Int32} {t : Nat} {f : Option Nat} (h : ¬ isG M t) : fdF M t f = f := if_neg h
theorem fdF_0 {M : Nat → Int32} {t : Nat} (h : isG M t) : fdF M t none = some t := if_pos h
theorem fdF_lt {M : Nat → Int32} {t u : Nat} (h : isG M t) (h2 : M (231 + t) < M (231 + u)) : fdF M t (some u) = some t := (if_pos h).trans (if_pos h2)
theorem fdF_ge {M : Nat → Int32} {t u : Nat} (h : isG M t) (h2 : ¬ M (231 + t) < M (231 + u)) : fdF M t (some u) = some u := (if_pos h).trans (if_neg h2)
def fdM (M : Nat → Int32) : Option Nat := itr (fdF M) 0 16 none
def vO (a : Nat) : Option Nat → Value
  | none => .null
  | some u => .ref (a + u)
theorem TmR_cp {M : Nat → Int32} {t : Nat} {g g' : Nat → Int32} (h : TmR M t g) (h0 : g' 0 = nI t) (hg : ∀ j, 1 ≤ j → j ≤ 14 → g' j = g j) : TmR M t g' := by
  unfold TmR at h ⊢
  rw [hg 1 (by omega) (by omega), hg 2 (by omega) (by omega), hg 4 (by omega) (by omega), hg 5 (by omega) (by omega), hg 6 (by omega) (by omega), hg 7 (by omega) (by omega), hg 8 (by omega) (by omega), hg 9 (by omega) (by omega), hg 10 (by omega) (by omega), hg 11 (by omega) (by omega), hg 12 (by omega) (by omega), hg 13 (by omega) (by omega), hg 14 (by omega) (by omega), h0]
  exact ⟨⟨rfl, h.1.2⟩, h.2⟩
def cpSg (t : Nat) (σ : Mm) : Mm := wI (wI (wI (wI (wI (wI (wI (wI (wI (wI (wI (wI (wI (wI (σ) (32 + t) 1 (σ.1 (9 + t) 1)) (32 + t) 2 (σ.1 (9 + t) 2)) (32 + t) 3 (σ.1 (9 + t) 3)) (32 + t) 4 (σ.1 (9 + t) 4)) (32 + t) 5 (σ.1 (9 + t) 5)) (32 + t) 6 (σ.1 (9 + t) 6)) (32 + t) 7 (σ.1 (9 + t) 7)) (32 + t) 8 (σ.1 (9 + t) 8)) (32 + t) 9 (σ.1 (9 + t) 9)) (32 + t) 10 (σ.1 (9 + t) 10)) (32 + t) 11 (σ.1 (9 + t) 11)) (32 + t) 12 (σ.1 (9 + t) 12)) (32 + t) 13 (σ.1 (9 + t) 13)) (32 + t) 14 (σ.1 (9 + t) 14)
theorem cpSg_ne {t a : Nat} {σ : Mm} (h : a ≠ 32 + t) : (cpSg t σ).1 a = σ.1 a := by unfold cpSg; rw [wI_ne h, wI_ne h, wI_ne h, wI_ne h, wI_ne h, wI_ne h, wI_ne h, wI_ne h, wI_ne h, wI_ne h, wI_ne h, wI_ne h, wI_ne h, wI_ne h]
theorem cpSg_0 {t : Nat} {σ : Mm} : (cpSg t σ).1 (32 + t) 0 = σ.1 (32 + t) 0 := by unfold cpSg; rw [wI_nj (by decide), wI_nj (by decide), wI_nj (by decide), wI_nj (by decide), wI_nj (by decide), wI_nj (by decide), wI_nj (by decide), wI_nj (by decide), wI_nj (by decide), wI_nj (by decide), wI_nj (by decide), wI_nj (by decide), wI_nj (by decide), wI_nj (by decide)]
theorem cpSg_at {t j : Nat} {σ : Mm} (h1 : 1 ≤ j) (h2 : j ≤ 14) : (cpSg t σ).1 (32 + t) j = σ.1 (9 + t) j := by
  have : j = 1 ∨ j = 2 ∨ j = 3 ∨ j = 4 ∨ j = 5 ∨ j = 6 ∨ j = 7 ∨ j = 8 ∨ j = 9 ∨ j = 10 ∨ j = 11 ∨ j = 12 ∨ j = 13 ∨ j = 14 := by omega
  unfold cpSg
  rcases this with e | e | e | e | e | e | e | e | e | e | e | e | e | e <;> subst e
  · rw [wI_nj (by decide), wI_nj (by decide), wI_nj (by decide), wI_nj (by decide), wI_nj (by decide), wI_nj (by decide), wI_nj (by decide), wI_nj (by decide), wI_nj (by decide), wI_nj (by decide), wI_nj (by decide), wI_nj (by decide), wI_nj (by decide), wI_at]
  · rw [wI_nj (by decide), wI_nj (by decide), wI_nj (by decide), wI_nj (by decide), wI_nj (by decide), wI_nj (by decide), wI_nj (by decide), wI_nj (by decide), wI_nj (by decide), wI_nj (by decide), wI_nj (by decide), wI_nj (by decide), wI_at]
  · rw [wI_nj (by decide), wI_nj (by decide), wI_nj (by decide), wI_nj (by decide), wI_nj (by decide), wI_nj (by decide), wI_nj (by decide), wI_nj (by decide), wI_nj (by decide), wI_nj (by decide), wI_nj (by decide), wI_at]
  · rw [wI_nj (by decide), wI_nj (by decide), wI_nj (by decide), wI_nj (by decide), wI_nj (by decide), wI_nj (by decide), wI_nj (by decide), wI_nj (by decide), wI_nj (by decide), wI_nj (by decide), wI_at]
  · rw [wI_nj (by decide), wI_nj (by decide), wI_nj (by decide), wI_nj (by decide), wI_nj (by decide), wI_nj (by decide), wI_nj (by decide), wI_nj (by decide), wI_nj (by decide), wI_at]
  · rw [wI_nj (by decide), wI_nj (by decide), wI_nj (by decide), wI_nj (by decide), wI_nj (by decide), wI_nj (by decide), wI_nj (by decide), wI_nj (by decide), wI_at]
  · rw [wI_nj (by decide), wI_nj (by decide), wI_nj (by decide), wI_nj (by decide), wI_nj (by decide), wI_nj (by decide), wI_nj (by decide), wI_at]
  · rw [wI_nj (by decide), wI_nj (by decide), wI_nj (by decide), wI_nj (by decide), wI_nj (by decide), wI_nj (by decide), wI_at]
  · rw [wI_nj (by decide), wI_nj (by decide), wI_nj (by decide), wI_nj (by decide), wI_nj (by decide), wI_at]
  · rw [wI_nj (by decide), wI_nj (by decide), wI_nj (by decide), wI_nj (by decide), wI_at]
  · rw [wI_nj (by decide), wI_nj (by decide), wI_nj (by decide), wI_at]
  · rw [wI_nj (by decide), wI_nj (by decide), wI_at]
  · rw [wI_nj (by decide), wI_at]
  · exact wI_at
theorem Off_cp {t lo hi : Nat} {σ τ : Mm} (h : Off lo hi σ τ) (h1 : lo ≤ 32 + t) (h2 : 32 + t < hi) : Off lo hi σ (cpSg t τ) := ((((((((((((((h.wI h1 h2).wI h1 h2).wI h1 h2).wI h1 h2).wI h1 h2).wI h1 h2).wI h1 h2).wI h1 h2).wI h1 h2).wI h1 h2).wI h1 h2).wI h1 h2).wI h1 h2).wI h1 h2)
set_option maxRecDepth 20000 in
set_option maxHeartbeats 4000000 in
theorem c6_copy {w : Wp} (hf : Fit sh0 w) {σ : Mm} {M : Nat → Int32} {t : Nat} (ht : t < 16) (hT : TmR M t (σ.1 (9 + t))) (hB : Bo M) : Cf sh0 w 0 mX6_copy [.ref (32 + t), .ref (9 + t)] σ none (cpSg t σ) := by
  have b1 : σ.1 (9 + t) 1 = 0 ∨ σ.1 (9 + t) 1 = 1 := by rw [hT.live]; exact (hB t ht).1
  have b10 : σ.1 (9 + t) 10 = 0 ∨ σ.1 (9 + t) 10 = 1 := by rw [hT.ste]; exact (hB t ht).2.1
  have b11 : σ.1 (9 + t) 11 = 0 ∨ σ.1 (9 + t) 11 = 1 := by rw [hT.pau]; exact (hB t ht).2.2
  refine Ct_of hf (by decide) rfl (Nat.le_of_ble_eq_true rfl) (fun x o rt => ?_)
  refine V_aload_n o dX6_copy_0 rfl rfl ?_
  refine V_aload_n o dX6_copy_1 rfl rfl ?_
  refine V_getI o dX6_copy_2 (kT9 t ht) fl_X6_13 (rT9 ht) ?_
  refine V_topI (v' := σ.1 (9 + t) 1) rfl ?_
  refine V_putZ o dX6_copy_5 (kT32 t ht) fl_X6_13 (rT32 ht) rfl rfl b1 ?_
  refine V_aload_n o dX6_copy_8 rfl rfl ?_
  refine V_aload_n o dX6_copy_9 rfl rfl ?_
  refine V_getI o dX6_copy_10 (kT9 t ht) fl_X6_17 (rT9 ht) ?_
  refine V_topI (v' := σ.1 (9 + t) 2) ((congrFun (wI_ne (by omega)) 2).trans (rfl)) ?_
  refine V_putI o dX6_copy_13 (kT32 t ht) fl_X6_17 (rT32 ht) rfl rfl ?_
  refine V_aload_n o dX6_copy_16 rfl rfl ?_
  refine V_aload_n o dX6_copy_17 rfl rfl ?_
  refine V_getI o dX6_copy_18 (kT9 t ht) fl_X6_35 (rT9 ht) ?_
  refine V_topI (v' := σ.1 (9 + t) 3) ((congrFun (wI_ne (by omega)) 3).trans ((congrFun (wI_ne (by omega)) 3).trans (rfl))) ?_
  refine V_putI o dX6_copy_21 (kT32 t ht) fl_X6_35 (rT32 ht) rfl rfl ?_
  refine V_aload_n o dX6_copy_24 rfl rfl ?_
  refine V_aload_n o dX6_copy_25 rfl rfl ?_
  refine V_getI o dX6_copy_26 (kT9 t ht) fl_X6_20 (rT9 ht) ?_
  refine V_topI (v' := σ.1 (9 + t) 4) ((congrFun (wI_ne (by omega)) 4).trans ((congrFun (wI_ne (by omega)) 4).trans ((congrFun (wI_ne (by omega)) 4).trans (rfl)))) ?_
  refine V_putI o dX6_copy_29 (kT32 t ht) fl_X6_20 (rT32 ht) rfl rfl ?_
  refine V_aload_n o dX6_copy_32 rfl rfl ?_
  refine V_aload_n o dX6_copy_33 rfl rfl ?_
  refine V_getI o dX6_copy_34 (kT9 t ht) fl_X6_38 (rT9 ht) ?_
  refine V_topI (v' := σ.1 (9 + t) 5) ((congrFun (wI_ne (by omega)) 5).trans ((congrFun (wI_ne (by omega)) 5).trans ((congrFun (wI_ne (by omega)) 5).trans ((congrFun (wI_ne (by omega)) 5).trans (rfl))))) ?_
  refine V_putI o dX6_copy_37 (kT32 t ht) fl_X6_38 (rT32 ht) rfl rfl ?_
  refine V_aload_n o dX6_copy_40 rfl rfl ?_
  refine V_aload_n o dX6_copy_41 rfl rfl ?_
  refine V_getI o dX6_copy_42 (kT9 t ht) fl_X6_41 (rT9 ht) ?_
  refine V_topI (v' := σ.1 (9 + t) 6) ((congrFun (wI_ne (by omega)) 6).trans ((congrFun (wI_ne (by omega)) 6).trans ((congrFun (wI_ne (by omega)) 6).trans ((congrFun (wI_ne (by omega)) 6).trans ((congrFun (wI_ne (by omega)) 6).trans (rfl)))))) ?_
  refine V_putI o dX6_copy_45 (kT32 t ht) fl_X6_41 (rT32 ht) rfl rfl ?_
  refine V_aload_n o dX6_copy_48 rfl rfl ?_
  refine V_aload_n o dX6_copy_49 rfl rfl ?_
  refine V_getI o dX6_copy_50 (kT9 t ht) fl_X6_44 (rT9 ht) ?_
  refine V_topI (v' := σ.1 (9 + t) 7) ((congrFun (wI_ne (by omega)) 7).trans ((congrFun (wI_ne (by omega)) 7).trans ((congrFun (wI_ne (by omega)) 7).trans ((congrFun (wI_ne (by omega)) 7).trans ((congrFun (wI_ne (by omega)) 7).trans ((congrFun (wI_ne (by omega)) 7).trans (rfl))))))) ?_
  refine V_putI o dX6_copy_53 (kT32 t ht) fl_X6_44 (rT32 ht) rfl rfl ?_
  refine V_aload_n o dX6_copy_56 rfl rfl ?_
  refine V_aload_n o dX6_copy_57 rfl rfl ?_
  refine V_getI o dX6_copy_58 (kT9 t ht) fl_X6_47 (rT9 ht) ?_
  refine V_topI (v' := σ.1 (9 + t) 8) ((congrFun (wI_ne (by omega)) 8).trans ((congrFun (wI_ne (by omega)) 8).trans ((congrFun (wI_ne (by omega)) 8).trans ((congrFun (wI_ne (by omega)) 8).trans ((congrFun (wI_ne (by omega)) 8).trans ((congrFun (wI_ne (by omega)) 8).trans ((congrFun (wI_ne (by omega)) 8).trans (rfl)))))))) ?_
  refine V_putI o dX6_copy_61 (kT32 t ht) fl_X6_47 (rT32 ht) rfl rfl ?_
  refine V_aload_n o dX6_copy_64 rfl rfl ?_
  refine V_aload_n o dX6_copy_65 rfl rfl ?_
  refine V_getI o dX6_copy_66 (kT9 t ht) fl_X6_23 (rT9 ht) ?_
  refine V_topI (v' := σ.1 (9 + t) 9) ((congrFun (wI_ne (by omega)) 9).trans ((congrFun (wI_ne (by omega)) 9).trans ((congrFun (wI_ne (by omega)) 9).trans ((congrFun (wI_ne (by omega)) 9).trans ((congrFun (wI_ne (by omega)) 9).trans ((congrFun (wI_ne (by omega)) 9).trans ((congrFun (wI_ne (by omega)) 9).trans ((congrFun (wI_ne (by omega)) 9).trans (rfl))))))))) ?_
  refine V_putI o dX6_copy_69 (kT32 t ht) fl_X6_23 (rT32 ht) rfl rfl ?_
  refine V_aload_n o dX6_copy_72 rfl rfl ?_
  refine V_aload_n o dX6_copy_73 rfl rfl ?_
  refine V_getI o dX6_copy_74 (kT9 t ht) fl_X6_26 (rT9 ht) ?_
  refine V_topI (v' := σ.1 (9 + t) 10) ((congrFun (wI_ne (by omega)) 10).trans ((congrFun (wI_ne (by omega)) 10).trans ((congrFun (wI_ne (by omega)) 10).trans ((congrFun (wI_ne (by omega)) 10).trans ((congrFun (wI_ne (by omega)) 10).trans ((congrFun (wI_ne (by omega)) 10).trans ((congrFun (wI_ne (by omega)) 10).trans ((congrFun (wI_ne (by omega)) 10).trans ((congrFun (wI_ne (by omega)) 10).trans (rfl)))))))))) ?_
  refine V_putZ o dX6_copy_77 (kT32 t ht) fl_X6_26 (rT32 ht) rfl rfl b10 ?_
  refine V_aload_n o dX6_copy_80 rfl rfl ?_
  refine V_aload_n o dX6_copy_81 rfl rfl ?_
  refine V_getI o dX6_copy_82 (kT9 t ht) fl_X6_29 (rT9 ht) ?_
  refine V_topI (v' := σ.1 (9 + t) 11) ((congrFun (wI_ne (by omega)) 11).trans ((congrFun (wI_ne (by omega)) 11).trans ((congrFun (wI_ne (by omega)) 11).trans ((congrFun (wI_ne (by omega)) 11).trans ((congrFun (wI_ne (by omega)) 11).trans ((congrFun (wI_ne (by omega)) 11).trans ((congrFun (wI_ne (by omega)) 11).trans ((congrFun (wI_ne (by omega)) 11).trans ((congrFun (wI_ne (by omega)) 11).trans ((congrFun (wI_ne (by omega)) 11).trans (rfl))))))))))) ?_
  refine V_putZ o dX6_copy_85 (kT32 t ht) fl_X6_29 (rT32 ht) rfl rfl b11 ?_
  refine V_aload_n o dX6_copy_88 rfl rfl ?_
  refine V_aload_n o dX6_copy_89 rfl rfl ?_
  refine V_getI o dX6_copy_90 (kT9 t ht) fl_X6_32 (rT9 ht) ?_
  refine V_topI (v' := σ.1 (9 + t) 12) ((congrFun (wI_ne (by omega)) 12).trans ((congrFun (wI_ne (by omega)) 12).trans ((congrFun (wI_ne (by omega)) 12).trans ((congrFun (wI_ne (by omega)) 12).trans ((congrFun (wI_ne (by omega)) 12).trans ((congrFun (wI_ne (by omega)) 12).trans ((congrFun (wI_ne (by omega)) 12).trans ((congrFun (wI_ne (by omega)) 12).trans ((congrFun (wI_ne (by omega)) 12).trans ((congrFun (wI_ne (by omega)) 12).trans ((congrFun (wI_ne (by omega)) 12).trans (rfl)))))))))))) ?_
  refine V_putI o dX6_copy_93 (kT32 t ht) fl_X6_32 (rT32 ht) rfl rfl ?_
  refine V_aload_n o dX6_copy_96 rfl rfl ?_
  refine V_aload_n o dX6_copy_97 rfl rfl ?_
  refine V_getI o dX6_copy_98 (kT9 t ht) fl_X6_50 (rT9 ht) ?_
  refine V_topI (v' := σ.1 (9 + t) 13) ((congrFun (wI_ne (by omega)) 13).trans ((congrFun (wI_ne (by omega)) 13).trans ((congrFun (wI_ne (by omega)) 13).trans ((congrFun (wI_ne (by omega)) 13).trans ((congrFun (wI_ne (by omega)) 13).trans ((congrFun (wI_ne (by omega)) 13).trans ((congrFun (wI_ne (by omega)) 13).trans ((congrFun (wI_ne (by omega)) 13).trans ((congrFun (wI_ne (by omega)) 13).trans ((congrFun (wI_ne (by omega)) 13).trans ((congrFun (wI_ne (by omega)) 13).trans ((congrFun (wI_ne (by omega)) 13).trans (rfl))))))))))))) ?_
  refine V_putI o dX6_copy_101 (kT32 t ht) fl_X6_50 (rT32 ht) rfl rfl ?_
  refine V_aload_n o dX6_copy_104 rfl rfl ?_
  refine V_aload_n o dX6_copy_105 rfl rfl ?_
  refine V_getI o dX6_copy_106 (kT9 t ht) fl_X6_53 (rT9 ht) ?_
  refine V_topI (v' := σ.1 (9 + t) 14) ((congrFun (wI_ne (by omega)) 14).trans ((congrFun (wI_ne (by omega)) 14).trans ((congrFun (wI_ne (by omega)) 14).trans ((congrFun (wI_ne (by omega)) 14).trans ((congrFun (wI_ne (by omega)) 14).trans ((congrFun (wI_ne (by omega)) 14).trans ((congrFun (wI_ne (by omega)) 14).trans ((congrFun (wI_ne (by omega)) 14).trans ((congrFun (wI_ne (by omega)) 14).trans ((congrFun (wI_ne (by omega)) 14).trans ((congrFun (wI_ne (by omega)) 14).trans ((congrFun (wI_ne (by omega)) 14).trans ((congrFun (wI_ne (by omega)) 14).trans (rfl)))))))))))))) ?_
  refine V_putI o dX6_copy_109 (kT32 t ht) fl_X6_53 (rT32 ht) rfl rfl ?_
  refine V_ret o rt dX6_copy_112 rfl ?_
  exact ⟨rfl, rfl⟩
set_option maxRecDepth 20000 in
set_option maxHeartbeats 4000000 in
theorem c7_copy {w : Wp} (hf : Fit sh0 w) {σ : Mm} {M : Nat → Int32} {L : Nat} (hW : WRel 2 M L σ) (hF : Wf M L) (hZ : Z0 M L) (hB : Bo M) (hN : ∀ u, u < 16 → σ.1 (32 + u) 0 = nI u) : Ct sh0 w 2 mX7_copy [.ref 25, .ref 2] σ (fun r' σ' => r' = none ∧ Off 25 48 σ σ' ∧ WRel 25 M L σ') := by
  refine Ct_of hf (by decide) rfl (Nat.le_of_ble_eq_true rfl) (fun x o rt => ?_)
  have loop : ∀ n t (τ : Mm), t + n = 16 → Off 25 48 σ τ → ShR 26 M L τ → (∀ u, u < 16 → τ.1 (32 + u) 0 = nI u) → (∀ u, u < t → TmR M u (τ.1 (32 + u))) → V sh0 w x mX7_copy (0, 0) 13 [(2, .int (nI t)), (0, .ref 25), (1, .ref 2)] [] τ := by
    intro n
    induction n with
    | zero =>
      intro t τ htn ho hS h0 hT
      have h16 : t = 16 := by omega
      have e2 : τ.1 2 = σ.1 2 := (ho 2 (by omega)).1
      refine V_iload_n o dX7_copy_13 rfl rfl ?_
      refine V_bipush (v := 16) o dX7_copy_14 (by decide) ?_
      refine V_icmp_ge (tgt := 55) o dX7_copy_16 (by decide) (fun c_16 => ?_) (fun c_16 => False.elim (c_16 (by rw [h16]; decide)))
      refine V_aload_n o dX7_copy_55 rfl rfl ?_
      refine V_aload_n o dX7_copy_56 rfl rfl ?_
      refine V_getI o dX7_copy_57 rfl fl_X7_45 rfl ?_
      refine V_topI (v' := M 6) ((congrFun e2 3).trans hW.1.1) ?_
      refine V_putI o dX7_copy_60 rfl fl_X7_45 rfl rfl rfl ?_
      refine V_aload_n o dX7_copy_63 rfl rfl ?_
      refine V_aload_n o dX7_copy_64 rfl rfl ?_
      refine V_getI o dX7_copy_65 rfl fl_X7_49 rfl ?_
      refine V_topI (v' := M 5) ((congrFun (wI_ne (by omega)) 4).trans ((congrFun e2 4).trans hW.1.2.1)) ?_
      refine V_putI o dX7_copy_68 rfl fl_X7_49 rfl rfl rfl ?_
      refine V_aload_n o dX7_copy_71 rfl rfl ?_
      refine V_aload_n o dX7_copy_72 rfl rfl ?_
      refine V_getI o dX7_copy_73 rfl fl_X7_52 rfl ?_
      refine V_topI (v' := M 8) ((congrFun (wI_ne (by omega)) 5).trans ((congrFun (wI_ne (by omega)) 5).trans ((congrFun e2 5).trans hW.1.2.2.1))) ?_
      refine V_putI o dX7_copy_76 rfl fl_X7_52 rfl rfl rfl ?_
      refine V_aload_n o dX7_copy_79 rfl rfl ?_
      refine V_aload_n o dX7_copy_80 rfl rfl ?_
      refine V_getI o dX7_copy_81 rfl fl_X7_55 rfl ?_
      refine V_topI (v' := M 9) ((congrFun (wI_ne (by omega)) 6).trans ((congrFun (wI_ne (by omega)) 6).trans ((congrFun (wI_ne (by omega)) 6).trans ((congrFun e2 6).trans hW.1.2.2.2)))) ?_
      refine V_putI o dX7_copy_84 rfl fl_X7_55 rfl rfl rfl ?_
      refine V_ret o rt dX7_copy_87 rfl ?_
      refine ⟨rfl, (((ho.wI (by omega) (by omega)).wI (by omega) (by omega)).wI (by omega) (by omega)).wI (by omega) (by omega), ⟨?_, ?_, ?_, wI_at⟩, hS.off (a := 26) hF.2.2.1 (fun _ _ => rfl) ?_ ?_ ?_, fun u hu => ?_⟩
      · rw [wI_nj (by decide), wI_nj (by decide), wI_nj (by decide), wI_at]
      · rw [wI_nj (by decide), wI_nj (by decide), wI_at]
      · rw [wI_nj (by decide), wI_at]
      · rw [wI_ne (by omega), wI_ne (by omega), wI_ne (by omega), wI_ne (by omega)]
      · rw [wI_ne (by omega), wI_ne (by omega), wI_ne (by omega), wI_ne (by omega)]
      · rw [wI_ne (by omega), wI_ne (by omega), wI_ne (by omega), wI_ne (by omega)]
      · rw [wI_ne (by omega), wI_ne (by omega), wI_ne (by omega), wI_ne (by omega)]
        exact hT u (by omega)
    | succ n ih =>
      intro t τ htn ho hS h0 hT
      have ht : t < 16 := by omega
      have e9 : τ.1 (9 + t) = σ.1 (9 + t) := (ho (9 + t) (by omega)).1
      have hT9 : TmR M t (τ.1 (9 + t)) := by rw [e9]; exact hW.2.2 t ht
      refine V_iload_n o dX7_copy_13 rfl rfl ?_
      refine V_bipush (v := 16) o dX7_copy_14 (by decide) ?_
      refine V_icmp_ge (tgt := 55) o dX7_copy_16 (by decide) (fun c_16 => False.elim (absurd c_16 (nI_ge (b := 16) (by omega) (by omega)))) (fun c_16 => ?_)
      refine V_aload_n o dX7_copy_19 rfl rfl ?_
      refine V_getR (t := 29) o dX7_copy_20 rfl fl_X7_20 rfl ?_
      refine V_iload_n o dX7_copy_23 rfl rfl ?_
      refine V_aaldSN 16 o dX7_copy_24 (Or.inr rfl) rfl rfl (by omega) rfl rfl ?_
      refine V_astore_n (ls' := [(3, _), (2, _), (0, _), (1, _)]) o dX7_copy_25 rfl (by decide) rfl ?_
      refine V_aload_n o dX7_copy_26 rfl rfl ?_
      refine V_getR (t := 6) o dX7_copy_27 rfl fl_X7_20 rfl ?_
      refine V_iload_n o dX7_copy_30 rfl rfl ?_
      refine V_aaldSN 16 o dX7_copy_31 (Or.inr rfl) rfl rfl (by omega) rfl rfl ?_
      refine V_astore (ls' := [(4, _), (3, _), (2, _), (0, _), (1, _)]) o dX7_copy_32 (by decide) rfl ?_
      refine V_aload_n o dX7_copy_34 rfl rfl ?_
      refine V_ifnull_r o dX7_copy_35 ?_
      refine V_aload o dX7_copy_38 rfl ?_
      refine V_ifnull_r o dX7_copy_40 ?_
      refine V_aload_n o dX7_copy_43 rfl rfl ?_
      refine V_aload o dX7_copy_44 rfl ?_
      refine V_cVv o rt dX7_copy_46 ml_X7_42 (c6_copy hf ht hT9 hB) (kT32 t ht) rfl rfl (Nat.le_of_ble_eq_true rfl) rfl ?_
      refine V_iincV (v := nI (t + 1)) (ls' := [(2, _), (4, _), (3, _), (0, _), (1, _)]) o dX7_copy_49 rfl (ninc 1 rfl) (by decide) rfl ?_
      refine V_goto (tgt := 13) o dX7_copy_52 (by decide) ?_
      refine V_sub (by simp) (ih (t + 1) (cpSg t τ) (by omega) (Off_cp ho (by omega) (by omega)) (hS.off (a := 26) hF.2.2.1 (fun _ _ => rfl) (cpSg_ne (by omega)) (cpSg_ne (by omega)) (cpSg_ne (by omega))) (fun u hu => ?_) (fun u hu => ?_))
      · by_cases e : u = t
        · subst e
          exact cpSg_0.trans (h0 u hu)
        · rw [cpSg_ne (by omega)]
          exact h0 u hu
      · by_cases e : u = t
        · subst e
          exact TmR_cp hT9 (cpSg_0.trans (h0 u ht)) (fun j h1 h2 => cpSg_at h1 h2)
        · rw [cpSg_ne (by omega)]
          exact hT u (by omega)
  refine V_aload_n o dX7_copy_0 rfl rfl ?_
  refine V_getR (t := 26) o dX7_copy_1 rfl fl_X7_12 rfl ?_
  refine V_aload_n o dX7_copy_4 rfl rfl ?_
  refine V_getR (t := 3) o dX7_copy_5 rfl fl_X7_12 rfl ?_
  refine V_callV o rt dX7_copy_8 ml_X7_38 (c4_copy hf hW.2.1 hF hZ) rfl rfl rfl (Nat.le_of_ble_eq_true rfl) rfl (fun r_8 σ_8 q_8 => ?_)
  obtain ⟨rfl, ho2, h4⟩ := q_8
  show V sh0 w x mX7_copy (0, 0) _ _ [] _
  refine V_iconst (v := 0) o dX7_copy_11 (by decide) ?_
  refine V_istore_n (ls' := [(2, _), (0, _), (1, _)]) o dX7_copy_12 rfl (by decide) rfl ?_
  exact V_sub (by simp; rfl) (loop 16 0 σ_8 (by omega) (ho2.wd (by omega) (by omega)) h4 (fun u hu => by rw [(ho2 (32 + u) (by omega)).1]; exact hN u hu) (fun u hu => absurd hu (Nat.not_lt_zero u)))
set_option maxRecDepth 20000 in
set_option maxHeartbeats 4000000 in
theorem c7_countSet {w : Wp} (hf : Fit sh0 w) {σ : Mm} {M : Nat → Int32} {L : Nat} (hW : WRel 2 M L σ) (hB : Bo M) {R : Int32} (hR0 : manyM M = R) : Cf sh0 w 1 mX7_countSet [.ref 2] σ (some (.int R)) σ := by
  unfold manyM at hR0
  refine Ct_of hf (by decide) rfl (Nat.le_of_ble_eq_true rfl) (fun x o rt => ?_)
  have loop : ∀ m t (n : Int32), t + m = 16 → itr (fun t n => n + M (215 + t)) t m n = R → V sh0 w x mX7_countSet (0, 0) 4 [(1, .int n), (2, .int (nI t)), (0, .ref 2)] [] σ := by
    intro m
    induction m with
    | zero =>
      intro t n htn hR
      have h16 : t = 16 := by omega
      have hs : n = R := hR
      subst hs
      refine V_iload_n o dX7_countSet_4 rfl rfl ?_
      refine V_bipush (v := 16) o dX7_countSet_5 (by decide) ?_
      refine V_icmp_ge (tgt := 32) o dX7_countSet_7 (by decide) (fun c_7 => ?_) (fun c_7 => False.elim (c_7 (by rw [h16]; decide)))
      refine V_iload_n o dX7_countSet_32 rfl rfl ?_
      refine V_iret o rt dX7_countSet_33 rfl rfl ?_
      exact ⟨rfl, rfl⟩
    | succ m ih =>
      intro t n htn hR
      have ht : t < 16 := by omega
      rw [itr_succ] at hR
      refine V_iload_n o dX7_countSet_4 rfl rfl ?_
      refine V_bipush (v := 16) o dX7_countSet_5 (by decide) ?_
      refine V_icmp_ge (tgt := 32) o dX7_countSet_7 (by decide) (fun c_7 => False.elim (absurd c_7 (nI_ge (b := 16) (by omega) (by omega)))) (fun c_7 => ?_)
      refine V_iload_n o dX7_countSet_10 rfl rfl ?_
      refine V_aload_n o dX7_countSet_11 rfl rfl ?_
      refine V_iload_n o dX7_countSet_12 rfl rfl ?_
      rcases (hB t ht).1 with hG0 | hG
      · refine V_cVn o rt dX7_countSet_13 ml_X7_62 (c7_find_n_2 hf hW ht hG0) rfl rfl rfl (Nat.le_of_ble_eq_true rfl) rfl ?_
        refine V_ifnonnull_n o dX7_countSet_16 ?_
        refine V_iconst (v := 0) o dX7_countSet_19 (by decide) ?_
        refine V_goto (tgt := 24) o dX7_countSet_20 (by decide) ?_
        refine V_iadd o dX7_countSet_24 ?_
        refine V_istore_n (ls' := [(1, _), (2, _), (0, _)]) o dX7_countSet_25 rfl (by decide) rfl ?_
        refine V_iincV (v := nI (t + 1)) (ls' := [(2, _), (1, _), (0, _)]) o dX7_countSet_26 rfl (ninc 1 rfl) (by decide) rfl ?_
        refine V_goto (tgt := 4) o dX7_countSet_29 (by decide) ?_
        rw [hG0] at hR
        exact V_sub (by simp) (ih (t + 1) (n + 0) (by omega) hR)
      · refine V_cVr o rt dX7_countSet_13 ml_X7_62 (c7_find_2 hf hW ht hG) rfl rfl rfl (Nat.le_of_ble_eq_true rfl) rfl ?_
        refine V_ifnonnull_r (tgt := 23) o dX7_countSet_16 (by decide) ?_
        refine V_iconst (v := 1) o dX7_countSet_23 (by decide) ?_
        refine V_iadd o dX7_countSet_24 ?_
        refine V_istore_n (ls' := [(1, _), (2, _), (0, _)]) o dX7_countSet_25 rfl (by decide) rfl ?_
        refine V_iincV (v := nI (t + 1)) (ls' := [(2, _), (1, _), (0, _)]) o dX7_countSet_26 rfl (ninc 1 rfl) (by decide) rfl ?_
        refine V_goto (tgt := 4) o dX7_countSet_29 (by decide) ?_
        rw [show M (215 + t) = 1 from hG] at hR
        exact V_sub (by simp) (ih (t + 1) (n + 1) (by omega) hR)
  refine V_iconst (v := 0) o dX7_countSet_0 (by decide) ?_
  refine V_istore_n (ls' := [(1, _), (0, _)]) o dX7_countSet_1 rfl (by decide) rfl ?_
  refine V_iconst (v := 0) o dX7_countSet_2 (by decide) ?_
  refine V_istore_n (ls' := [(2, _), (1, _), (0, _)]) o dX7_countSet_3 rfl (by decide) rfl ?_
  exact V_sub (by simp; rfl) (loop 16 0 0 (by omega) hR0)
set_option maxRecDepth 20000 in
set_option maxHeartbeats 4000000 in
theorem c7_countOn {w : Wp} (hf : Fit sh0 w) {σ : Mm} {M : Nat → Int32} {L : Nat} (hW : WRel 2 M L σ) (hB : Bo M) {v : Int32} {R : Int32} (hR0 : cntO M v = R) : Cf sh0 w 1 mX7_countOn [.ref 2, .int v] σ (some (.int R)) σ := by
  unfold cntO at hR0
  refine Ct_of hf (by decide) rfl (Nat.le_of_ble_eq_true rfl) (fun x o rt => ?_)
  have loop : ∀ m t (n : Int32), t + m = 16 → itr (fun t n => n + bz (isT M t ∧ cLv M t = v)) t m n = R → V sh0 w x mX7_countOn (0, 0) 4 [(2, .int n), (3, .int (nI t)), (0, .ref 2), (1, .int v)] [] σ := by
    intro m
    induction m with
    | zero =>
      intro t n htn hR
      have h16 : t = 16 := by omega
      have hs : n = R := hR
      subst hs
      refine V_iload_n o dX7_countOn_4 rfl rfl ?_
      refine V_bipush (v := 16) o dX7_countOn_5 (by decide) ?_
      refine V_icmp_ge (tgt := 45) o dX7_countOn_7 (by decide) (fun c_7 => ?_) (fun c_7 => False.elim (c_7 (by rw [h16]; decide)))
      refine V_iload_n o dX7_countOn_45 rfl rfl ?_
      refine V_iret o rt dX7_countOn_46 rfl rfl ?_
      exact ⟨rfl, rfl⟩
    | succ m ih =>
      intro t n htn hR
      have ht : t < 16 := by omega
      rw [itr_succ] at hR
      refine V_iload_n o dX7_countOn_4 rfl rfl ?_
      refine V_bipush (v := 16) o dX7_countOn_5 (by decide) ?_
      refine V_icmp_ge (tgt := 45) o dX7_countOn_7 (by decide) (fun c_7 => False.elim (absurd c_7 (nI_ge (b := 16) (by omega) (by omega)))) (fun c_7 => ?_)
      refine V_aload_n o dX7_countOn_10 rfl rfl ?_
      refine V_iload_n o dX7_countOn_11 rfl rfl ?_
      rcases (hB t ht).1 with hG0 | hG
      · refine V_cVn o rt dX7_countOn_12 ml_X7_62 (c7_find_n_2 hf hW ht hG0) rfl rfl rfl (Nat.le_of_ble_eq_true rfl) rfl ?_
        refine V_astoreN (ls' := [(4, _), (2, _), (3, _), (0, _), (1, _)]) o dX7_countOn_15 (by decide) rfl ?_
        refine V_iload_n o dX7_countOn_17 rfl rfl ?_
        refine V_aloadN o dX7_countOn_18 rfl ?_
        refine V_ifnull_n (tgt := 36) o dX7_countOn_20 (by decide) ?_
        refine V_iconst (v := 0) o dX7_countOn_36 (by decide) ?_
        refine V_iadd o dX7_countOn_37 ?_
        refine V_istore_n (ls' := [(2, _), (4, _), (3, _), (0, _), (1, _)]) o dX7_countOn_38 rfl (by decide) rfl ?_
        refine V_iincV (v := nI (t + 1)) (ls' := [(3, _), (2, _), (4, _), (0, _), (1, _)]) o dX7_countOn_39 rfl (ninc 1 rfl) (by decide) rfl ?_
        refine V_goto (tgt := 4) o dX7_countOn_42 (by decide) ?_
        rw [bz_f (fun q => absurd (hG0.symm.trans q.1) (by decide))] at hR
        exact V_sub (by simp) (ih (t + 1) (n + 0) (by omega) hR)
      · refine V_cVr o rt dX7_countOn_12 ml_X7_62 (c7_find_2 hf hW ht hG) rfl rfl rfl (Nat.le_of_ble_eq_true rfl) rfl ?_
        refine V_astore (ls' := [(4, _), (2, _), (3, _), (0, _), (1, _)]) o dX7_countOn_15 (by decide) rfl ?_
        refine V_iload_n o dX7_countOn_17 rfl rfl ?_
        refine V_aload o dX7_countOn_18 rfl ?_
        refine V_ifnull_r o dX7_countOn_20 ?_
        refine V_aload o dX7_countOn_23 rfl ?_
        refine V_getI o dX7_countOn_25 (kT9 t ht) fl_X7_75 (rT9 ht) ?_
        refine V_topI (v' := cLv M t) ((hW.2.2 t ht).lv (hB t ht).2.2) ?_
        refine V_iload_n o dX7_countOn_28 rfl rfl ?_
        refine V_icmp_ne (tgt := 36) o dX7_countOn_29 (by decide) (fun c_29 => ?_) (fun c_29 => ?_)
        · refine V_iconst (v := 0) o dX7_countOn_36 (by decide) ?_
          refine V_iadd o dX7_countOn_37 ?_
          refine V_istore_n (ls' := [(2, _), (4, _), (3, _), (0, _), (1, _)]) o dX7_countOn_38 rfl (by decide) rfl ?_
          refine V_iincV (v := nI (t + 1)) (ls' := [(3, _), (2, _), (4, _), (0, _), (1, _)]) o dX7_countOn_39 rfl (ninc 1 rfl) (by decide) rfl ?_
          refine V_goto (tgt := 4) o dX7_countOn_42 (by decide) ?_
          rw [bz_f (fun q => c_29 q.2)] at hR
          exact V_sub (by simp) (ih (t + 1) (n + 0) (by omega) hR)
        · refine V_iconst (v := 1) o dX7_countOn_32 (by decide) ?_
          refine V_goto (tgt := 37) o dX7_countOn_33 (by decide) ?_
          refine V_iadd o dX7_countOn_37 ?_
          refine V_istore_n (ls' := [(2, _), (4, _), (3, _), (0, _), (1, _)]) o dX7_countOn_38 rfl (by decide) rfl ?_
          refine V_iincV (v := nI (t + 1)) (ls' := [(3, _), (2, _), (4, _), (0, _), (1, _)]) o dX7_countOn_39 rfl (ninc 1 rfl) (by decide) rfl ?_
          refine V_goto (tgt := 4) o dX7_countOn_42 (by decide) ?_
          rw [bz_t ⟨hG, c_29⟩] at hR
          exact V_sub (by simp) (ih (t + 1) (n + 1) (by omega) hR)
  refine V_iconst (v := 0) o dX7_countOn_0 (by decide) ?_
  refine V_istore_n (ls' := [(2, _), (0, _), (1, _)]) o dX7_countOn_1 rfl (by decide) rfl ?_
  refine V_iconst (v := 0) o dX7_countOn_2 (by decide) ?_
  refine V_istore_n (ls' := [(3, _), (2, _), (0, _), (1, _)]) o dX7_countOn_3 rfl (by decide) rfl ?_
  exact V_sub (by simp; rfl) (loop 16 0 0 (by omega) hR0)
set_option maxRecDepth 20000 in
set_option maxHeartbeats 4000000 in
theorem c7_countIn {w : Wp} (hf : Fit sh0 w) {σ : Mm} {M : Nat → Int32} {L : Nat} (hW : WRel 2 M L σ) (hB : Bo M) {v s : Int32} {R : Int32} (hR0 : cntI M v s = R) : Cf sh0 w 1 mX7_countIn [.ref 2, .int v, .int s] σ (some (.int R)) σ := by
  unfold cntI at hR0
  refine Ct_of hf (by decide) rfl (Nat.le_of_ble_eq_true rfl) (fun x o rt => ?_)
  have loop : ∀ m t (n : Int32), t + m = 16 → itr (fun t n => n + bz (isT M t ∧ cLv M t = v ∧ cSl M t = s)) t m n = R → V sh0 w x mX7_countIn (0, 0) 5 [(3, .int n), (4, .int (nI t)), (0, .ref 2), (1, .int v), (2, .int s)] [] σ := by
    intro m
    induction m with
    | zero =>
      intro t n htn hR
      have h16 : t = 16 := by omega
      have hs : n = R := hR
      subst hs
      refine V_iload o dX7_countIn_5 rfl ?_
      refine V_bipush (v := 16) o dX7_countIn_7 (by decide) ?_
      refine V_icmp_ge (tgt := 57) o dX7_countIn_9 (by decide) (fun c_9 => ?_) (fun c_9 => False.elim (c_9 (by rw [h16]; decide)))
      refine V_iload_n o dX7_countIn_57 rfl rfl ?_
      refine V_iret o rt dX7_countIn_58 rfl rfl ?_
      exact ⟨rfl, rfl⟩
    | succ m ih =>
      intro t n htn hR
      have ht : t < 16 := by omega
      rw [itr_succ] at hR
      refine V_iload o dX7_countIn_5 rfl ?_
      refine V_bipush (v := 16) o dX7_countIn_7 (by decide) ?_
      refine V_icmp_ge (tgt := 57) o dX7_countIn_9 (by decide) (fun c_9 => False.elim (absurd c_9 (nI_ge (b := 16) (by omega) (by omega)))) (fun c_9 => ?_)
      refine V_aload_n o dX7_countIn_12 rfl rfl ?_
      refine V_iload o dX7_countIn_13 rfl ?_
      rcases (hB t ht).1 with hG0 | hG
      · refine V_cVn o rt dX7_countIn_15 ml_X7_62 (c7_find_n_2 hf hW ht hG0) rfl rfl rfl (Nat.le_of_ble_eq_true rfl) rfl ?_
        refine V_astoreN (ls' := [(5, _), (3, _), (4, _), (0, _), (1, _), (2, _)]) o dX7_countIn_18 (by decide) rfl ?_
        refine V_iload_n o dX7_countIn_20 rfl rfl ?_
        refine V_aloadN o dX7_countIn_21 rfl ?_
        refine V_ifnull_n (tgt := 48) o dX7_countIn_23 (by decide) ?_
        refine V_iconst (v := 0) o dX7_countIn_48 (by decide) ?_
        refine V_iadd o dX7_countIn_49 ?_
        refine V_istore_n (ls' := [(3, _), (5, _), (4, _), (0, _), (1, _), (2, _)]) o dX7_countIn_50 rfl (by decide) rfl ?_
        refine V_iincV (v := nI (t + 1)) (ls' := [(4, _), (3, _), (5, _), (0, _), (1, _), (2, _)]) o dX7_countIn_51 rfl (ninc 1 rfl) (by decide) rfl ?_
        refine V_goto (tgt := 5) o dX7_countIn_54 (by decide) ?_
        rw [bz_f (fun q => absurd (hG0.symm.trans q.1) (by decide))] at hR
        exact V_sub (by simp) (ih (t + 1) (n + 0) (by omega) hR)
      · refine V_cVr o rt dX7_countIn_15 ml_X7_62 (c7_find_2 hf hW ht hG) rfl rfl rfl (Nat.le_of_ble_eq_true rfl) rfl ?_
        refine V_astore (ls' := [(5, _), (3, _), (4, _), (0, _), (1, _), (2, _)]) o dX7_countIn_18 (by decide) rfl ?_
        refine V_iload_n o dX7_countIn_20 rfl rfl ?_
        refine V_aload o dX7_countIn_21 rfl ?_
        refine V_ifnull_r o dX7_countIn_23 ?_
        refine V_aload o dX7_countIn_26 rfl ?_
        refine V_getI o dX7_countIn_28 (kT9 t ht) fl_X7_75 (rT9 ht) ?_
        refine V_topI (v' := cLv M t) ((hW.2.2 t ht).lv (hB t ht).2.2) ?_
        refine V_iload_n o dX7_countIn_31 rfl rfl ?_
        refine V_icmp_ne (tgt := 48) o dX7_countIn_32 (by decide) (fun c_32 => ?_) (fun c_32 => ?_)
        · refine V_iconst (v := 0) o dX7_countIn_48 (by decide) ?_
          refine V_iadd o dX7_countIn_49 ?_
          refine V_istore_n (ls' := [(3, _), (5, _), (4, _), (0, _), (1, _), (2, _)]) o dX7_countIn_50 rfl (by decide) rfl ?_
          refine V_iincV (v := nI (t + 1)) (ls' := [(4, _), (3, _), (5, _), (0, _), (1, _), (2, _)]) o dX7_countIn_51 rfl (ninc 1 rfl) (by decide) rfl ?_
          refine V_goto (tgt := 5) o dX7_countIn_54 (by decide) ?_
          rw [bz_f (fun q => c_32 q.2.1)] at hR
          exact V_sub (by simp) (ih (t + 1) (n + 0) (by omega) hR)
        · refine V_aload o dX7_countIn_35 rfl ?_
          refine V_getI o dX7_countIn_37 (kT9 t ht) fl_X7_78 (rT9 ht) ?_
          refine V_topI (v' := cSl M t) ((hW.2.2 t ht).sl (hB t ht).2.2) ?_
          refine V_iload_n o dX7_countIn_40 rfl rfl ?_
          refine V_icmp_ne (tgt := 48) o dX7_countIn_41 (by decide) (fun c_41 => ?_) (fun c_41 => ?_)
          · refine V_iconst (v := 0) o dX7_countIn_48 (by decide) ?_
            refine V_iadd o dX7_countIn_49 ?_
            refine V_istore_n (ls' := [(3, _), (5, _), (4, _), (0, _), (1, _), (2, _)]) o dX7_countIn_50 rfl (by decide) rfl ?_
            refine V_iincV (v := nI (t + 1)) (ls' := [(4, _), (3, _), (5, _), (0, _), (1, _), (2, _)]) o dX7_countIn_51 rfl (ninc 1 rfl) (by decide) rfl ?_
            refine V_goto (tgt := 5) o dX7_countIn_54 (by decide) ?_
            rw [bz_f (fun q => c_41 q.2.2)] at hR
            exact V_sub (by simp) (ih (t + 1) (n + 0) (by omega) hR)
          · refine V_iconst (v := 1) o dX7_countIn_44 (by decide) ?_
            refine V_goto (tgt := 49) o dX7_countIn_45 (by decide) ?_
            refine V_iadd o dX7_countIn_49 ?_
            refine V_istore_n (ls' := [(3, _), (5, _), (4, _), (0, _), (1, _), (2, _)]) o dX7_countIn_50 rfl (by decide) rfl ?_
            refine V_iincV (v := nI (t + 1)) (ls' := [(4, _), (3, _), (5, _), (0, _), (1, _), (2, _)]) o dX7_countIn_51 rfl (ninc 1 rfl) (by decide) rfl ?_
            refine V_goto (tgt := 5) o dX7_countIn_54 (by decide) ?_
            rw [bz_t ⟨hG, c_32, c_41⟩] at hR
            exact V_sub (by simp) (ih (t + 1) (n + 1) (by omega) hR)
  refine V_iconst (v := 0) o dX7_countIn_0 (by decide) ?_
  refine V_istore_n (ls' := [(3, _), (0, _), (1, _), (2, _)]) o dX7_countIn_1 rfl (by decide) rfl ?_
  refine V_iconst (v := 0) o dX7_countIn_2 (by decide) ?_
  refine V_istore (ls' := [(4, _), (3, _), (0, _), (1, _), (2, _)]) o dX7_countIn_3 (by decide) rfl ?_
  exact V_sub (by simp; rfl) (loop 16 0 0 (by omega) hR0)
set_option maxRecDepth 20000 in
set_option maxHeartbeats 4000000 in
theorem c7_leastFree {w : Wp} (hf : Fit sh0 w) {σ : Mm} {M : Nat → Int32} {L : Nat} (hW : WRel 2 M L σ) (hB : Bo M) {k : Nat} (hk0 : frM M 16 0 = k) : Cf sh0 w 0 mX7_leastFree [.ref 2] σ (some (vO 9 (if k = 16 then none else some k))) σ := by
  refine Ct_of hf (by decide) rfl (Nat.le_of_ble_eq_true rfl) (fun x o rt => ?_)
  have loop : ∀ m t, t + m = 16 → frM M m t = k → V sh0 w x mX7_leastFree (0, 0) 2 [(1, .int (nI t)), (0, .ref 2)] [] σ := by
    intro m
    induction m with
    | zero =>
      intro t htn hR
      have h16 : t = 16 := by omega
      have hs : t = k := hR
      rw [if_pos (hs.symm.trans h16)] at rt
      refine V_iload_n o dX7_leastFree_2 rfl rfl ?_
      refine V_bipush (v := 16) o dX7_leastFree_3 (by decide) ?_
      refine V_icmp_ge (tgt := 34) o dX7_leastFree_5 (by decide) (fun c_5 => ?_) (fun c_5 => False.elim (c_5 (by rw [h16]; decide)))
      refine V_null o dX7_leastFree_34 ?_
      refine V_aretN o rt dX7_leastFree_35 rfl ?_
      exact ⟨rfl, rfl⟩
    | succ m ih =>
      intro t htn hR
      have ht : t < 16 := by omega
      rw [frM] at hR
      refine V_iload_n o dX7_leastFree_2 rfl rfl ?_
      refine V_bipush (v := 16) o dX7_leastFree_3 (by decide) ?_
      refine V_icmp_ge (tgt := 34) o dX7_leastFree_5 (by decide) (fun c_5 => False.elim (absurd c_5 (nI_ge (b := 16) (by omega) (by omega)))) (fun c_5 => ?_)
      refine V_aload_n o dX7_leastFree_8 rfl rfl ?_
      refine V_getR (t := 6) o dX7_leastFree_9 rfl fl_X7_20 rfl ?_
      refine V_iload_n o dX7_leastFree_12 rfl rfl ?_
      refine V_aaldSN 16 o dX7_leastFree_13 (Or.inr rfl) rfl rfl (by omega) rfl rfl ?_
      refine V_astore_n (ls' := [(2, _), (1, _), (0, _)]) o dX7_leastFree_14 rfl (by decide) rfl ?_
      refine V_aload_n o dX7_leastFree_15 rfl rfl ?_
      refine V_ifnull_r o dX7_leastFree_16 ?_
      refine V_aload_n o dX7_leastFree_19 rfl rfl ?_
      refine V_getI o dX7_leastFree_20 (kT9 t ht) fl_X7_58 (rT9 ht) ?_
      refine V_topI (v' := M (215 + t)) (hW.2.2 t ht).live ?_
      refine V_if_ne (tgt := 28) o dX7_leastFree_23 (by decide) (fun c_23 => ?_) (fun c_23 => ?_)
      · refine V_iincV (v := nI (t + 1)) (ls' := [(1, _), (2, _), (0, _)]) o dX7_leastFree_28 rfl (ninc 1 rfl) (by decide) rfl ?_
        refine V_goto (tgt := 2) o dX7_leastFree_31 (by decide) ?_
        rw [if_pos ((hB t ht).1.resolve_left c_23)] at hR
        exact V_sub (by simp) (ih (t + 1) (by omega) hR)
      · refine V_aload_n o dX7_leastFree_26 rfl rfl ?_
        refine V_aretR o rt dX7_leastFree_27 rfl ?_
        rw [if_neg (fun q => absurd (c_23.symm.trans q) (by decide))] at hR
        exact ⟨by rw [← hR, if_neg (by omega)]; rfl, rfl⟩
  refine V_iconst (v := 0) o dX7_leastFree_0 (by decide) ?_
  refine V_istore_n (ls' := [(1, _), (0, _)]) o dX7_leastFree_1 rfl (by decide) rfl ?_
  exact V_sub (by simp; rfl) (loop 16 0 (by omega) hk0)
set_option maxRecDepth 20000 in
set_option maxHeartbeats 4000000 in
theorem c7_firstDue {w : Wp} (hf : Fit sh0 w) {σ : Mm} {M : Nat → Int32} {L : Nat} (hW : WRel 2 M L σ) (hB : Bo M) {fo : Option Nat} (ho0 : fdM M = fo) : Cf sh0 w 2 mX7_firstDue [.ref 2] σ (some (vO 9 fo)) σ := by
  unfold fdM at ho0
  refine Ct_of hf (by decide) rfl (Nat.le_of_ble_eq_true rfl) (fun x o rt => ?_)
  have loop : ∀ m t (f : Option Nat), t + m = 16 → (∀ u, f = some u → u < 16) → itr (fdF M) t m f = fo → V sh0 w x mX7_firstDue (0, 0) 4 [(1, vO 9 f), (2, .int (nI t)), (0, .ref 2)] [] σ := by
    intro m
    induction m with
    | zero =>
      intro t f htn hu hR
      have h16 : t = 16 := by omega
      have hs : f = fo := hR
      subst hs
      cases f with
      | none =>
        show V sh0 w x mX7_firstDue (0, 0) 4 [(1, .null), (2, .int (nI t)), (0, .ref 2)] [] σ
        refine V_iload_n o dX7_firstDue_4 rfl rfl ?_
        refine V_bipush (v := 16) o dX7_firstDue_5 (by decide) ?_
        refine V_icmp_ge (tgt := 43) o dX7_firstDue_7 (by decide) (fun c_7 => ?_) (fun c_7 => False.elim (c_7 (by rw [h16]; decide)))
        refine V_aload_nN o dX7_firstDue_43 rfl rfl ?_
        refine V_aretN o rt dX7_firstDue_44 rfl ?_
        exact ⟨rfl, rfl⟩
      | some u =>
        show V sh0 w x mX7_firstDue (0, 0) 4 [(1, .ref (9 + u)), (2, .int (nI t)), (0, .ref 2)] [] σ
        refine V_iload_n o dX7_firstDue_4 rfl rfl ?_
        refine V_bipush (v := 16) o dX7_firstDue_5 (by decide) ?_
        refine V_icmp_ge (tgt := 43) o dX7_firstDue_7 (by decide) (fun c_7 => ?_) (fun c_7 => False.elim (c_7 (by rw [h16]; decide)))
        refine V_aload_n o dX7_firstDue_43 rfl rfl ?_
        refine V_aretR o rt dX7_firstDue_44 rfl ?_
        exact ⟨rfl, rfl⟩
    | succ m ih =>
      intro t f htn hu hR
      have ht : t < 16 := by omega
      rw [itr_succ] at hR
      cases f with
      | none =>
        show V sh0 w x mX7_firstDue (0, 0) 4 [(1, .null), (2, .int (nI t)), (0, .ref 2)] [] σ
        refine V_iload_n o dX7_firstDue_4 rfl rfl ?_
        refine V_bipush (v := 16) o dX7_firstDue_5 (by decide) ?_
        refine V_icmp_ge (tgt := 43) o dX7_firstDue_7 (by decide) (fun c_7 => False.elim (absurd c_7 (nI_ge (b := 16) (by omega) (by omega)))) (fun c_7 => ?_)
        refine V_aload_n o dX7_firstDue_10 rfl rfl ?_
        refine V_iload_n o dX7_firstDue_11 rfl rfl ?_
        by_cases hG : isG M t
        · refine V_cVr o rt dX7_firstDue_12 ml_X7_69 (c7_run_2 hf hW ht hG) rfl rfl rfl (Nat.le_of_ble_eq_true rfl) rfl ?_
          refine V_astore_n (ls' := [(3, _), (1, _), (2, _), (0, _)]) o dX7_firstDue_15 rfl (by decide) rfl ?_
          refine V_aload_n o dX7_firstDue_16 rfl rfl ?_
          refine V_ifnull_r o dX7_firstDue_17 ?_
          refine V_aload_nN o dX7_firstDue_20 rfl rfl ?_
          refine V_ifnull_n (tgt := 35) o dX7_firstDue_21 (by decide) ?_
          refine V_aload_n o dX7_firstDue_35 rfl rfl ?_
          refine V_astore_n (ls' := [(1, _), (3, _), (2, _), (0, _)]) o dX7_firstDue_36 rfl (by decide) rfl ?_
          refine V_iincV (v := nI (t + 1)) (ls' := [(2, _), (1, _), (3, _), (0, _)]) o dX7_firstDue_37 rfl (ninc 1 rfl) (by decide) rfl ?_
          refine V_goto (tgt := 4) o dX7_firstDue_40 (by decide) ?_
          rw [fdF_0 hG] at hR
          exact V_sub (by simp; rfl) (ih (t + 1) (some t) (by omega) (fun u q => by cases q; exact ht) hR)
        · refine V_cVn o rt dX7_firstDue_12 ml_X7_69 (c7_run_n_2 hf hW hB ht hG) rfl rfl rfl (Nat.le_of_ble_eq_true rfl) rfl ?_
          refine V_astore_nN (ls' := [(3, _), (1, _), (2, _), (0, _)]) o dX7_firstDue_15 rfl (by decide) rfl ?_
          refine V_aload_nN o dX7_firstDue_16 rfl rfl ?_
          refine V_ifnull_n (tgt := 37) o dX7_firstDue_17 (by decide) ?_
          refine V_iincV (v := nI (t + 1)) (ls' := [(2, _), (3, _), (1, _), (0, _)]) o dX7_firstDue_37 rfl (ninc 1 rfl) (by decide) rfl ?_
          refine V_goto (tgt := 4) o dX7_firstDue_40 (by decide) ?_
          rw [fdF_n hG] at hR
          exact V_sub (by simp; rfl) (ih (t + 1) none (by omega) hu hR)
      | some u =>
        show V sh0 w x mX7_firstDue (0, 0) 4 [(1, .ref (9 + u)), (2, .int (nI t)), (0, .ref 2)] [] σ
        refine V_iload_n o dX7_firstDue_4 rfl rfl ?_
        refine V_bipush (v := 16) o dX7_firstDue_5 (by decide) ?_
        refine V_icmp_ge (tgt := 43) o dX7_firstDue_7 (by decide) (fun c_7 => False.elim (absurd c_7 (nI_ge (b := 16) (by omega) (by omega)))) (fun c_7 => ?_)
        refine V_aload_n o dX7_firstDue_10 rfl rfl ?_
        refine V_iload_n o dX7_firstDue_11 rfl rfl ?_
        by_cases hG : isG M t
        · refine V_cVr o rt dX7_firstDue_12 ml_X7_69 (c7_run_2 hf hW ht hG) rfl rfl rfl (Nat.le_of_ble_eq_true rfl) rfl ?_
          refine V_astore_n (ls' := [(3, _), (1, _), (2, _), (0, _)]) o dX7_firstDue_15 rfl (by decide) rfl ?_
          refine V_aload_n o dX7_firstDue_16 rfl rfl ?_
          refine V_ifnull_r o dX7_firstDue_17 ?_
          refine V_aload_n o dX7_firstDue_20 rfl rfl ?_
          refine V_ifnull_r o dX7_firstDue_21 ?_
          refine V_aload_n o dX7_firstDue_24 rfl rfl ?_
          refine V_getI o dX7_firstDue_25 (kT9 t ht) fl_X7_72 (rT9 ht) ?_
          refine V_topI (v' := M (231 + t)) (hW.2.2 t ht).due ?_
          refine V_aload_n o dX7_firstDue_28 rfl rfl ?_
          refine V_getI o dX7_firstDue_29 (kT9 u (hu u rfl)) fl_X7_72 (rT9 (hu u rfl)) ?_
          refine V_topI (v' := M (231 + u)) (hW.2.2 u (hu u rfl)).due ?_
          refine V_icmp_ge (tgt := 37) o dX7_firstDue_32 (by decide) (fun c_32 => ?_) (fun c_32 => ?_)
          · refine V_iincV (v := nI (t + 1)) (ls' := [(2, _), (3, _), (1, _), (0, _)]) o dX7_firstDue_37 rfl (ninc 1 rfl) (by decide) rfl ?_
            refine V_goto (tgt := 4) o dX7_firstDue_40 (by decide) ?_
            rw [fdF_ge hG (Int32.not_lt.mpr c_32)] at hR
            exact V_sub (by simp; rfl) (ih (t + 1) (some u) (by omega) hu hR)
          · refine V_aload_n o dX7_firstDue_35 rfl rfl ?_
            refine V_astore_n (ls' := [(1, _), (3, _), (2, _), (0, _)]) o dX7_firstDue_36 rfl (by decide) rfl ?_
            refine V_iincV (v := nI (t + 1)) (ls' := [(2, _), (1, _), (3, _), (0, _)]) o dX7_firstDue_37 rfl (ninc 1 rfl) (by decide) rfl ?_
            refine V_goto (tgt := 4) o dX7_firstDue_40 (by decide) ?_
            rw [fdF_lt hG (Int32.not_le.mp c_32)] at hR
            exact V_sub (by simp; rfl) (ih (t + 1) (some t) (by omega) (fun u q => by cases q; exact ht) hR)
        · refine V_cVn o rt dX7_firstDue_12 ml_X7_69 (c7_run_n_2 hf hW hB ht hG) rfl rfl rfl (Nat.le_of_ble_eq_true rfl) rfl ?_
          refine V_astore_nN (ls' := [(3, _), (1, _), (2, _), (0, _)]) o dX7_firstDue_15 rfl (by decide) rfl ?_
          refine V_aload_nN o dX7_firstDue_16 rfl rfl ?_
          refine V_ifnull_n (tgt := 37) o dX7_firstDue_17 (by decide) ?_
          refine V_iincV (v := nI (t + 1)) (ls' := [(2, _), (3, _), (1, _), (0, _)]) o dX7_firstDue_37 rfl (ninc 1 rfl) (by decide) rfl ?_
          refine V_goto (tgt := 4) o dX7_firstDue_40 (by decide) ?_
          rw [fdF_n hG] at hR
          exact V_sub (by simp; rfl) (ih (t + 1) (some u) (by omega) hu hR)
  refine V_null o dX7_firstDue_0 ?_
  refine V_astore_nN (ls' := [(1, _), (0, _)]) o dX7_firstDue_1 rfl (by decide) rfl ?_
  refine V_iconst (v := 0) o dX7_firstDue_2 (by decide) ?_
  refine V_istore_n (ls' := [(2, _), (1, _), (0, _)]) o dX7_firstDue_3 rfl (by decide) rfl ?_
  exact V_sub (by simp; exact ⟨rfl, rfl⟩) (loop 16 0 none (by omega) (fun u q => by cases q) ho0)
