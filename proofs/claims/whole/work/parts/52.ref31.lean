abbrev C64 (M : Nat → Int32) (k : Int32) : Prop := (0 : Int64) ≤ (M 6).toInt64 + k.toInt64 ∧ (M 6).toInt64 + k.toInt64 ≤ 1000000000
/-- an act done: the desk, how many logged, how many rang; none: it can't -/
def doA (L : Nat) (a : Act) (M : Nat → Int32) (r : Nat) : Option ((Nat → Int32) × Nat × Nat) :=
  if a.1 = 0 then (if frM M 16 0 = 16 then none else some (setM M L (frM M 16 0) a.2.1 0 a.2.2.1 a.2.2.2 0, r, 0))
  else if a.1 = 1 then (if M 6 + a.2.1 > 1000000000 then none else some ((tks L (ix a.2.1) (M, r, [])).1, (tks L (ix a.2.1) (M, r, [])).2.1, (tks L (ix a.2.1) (M, r, [])).2.2.length))
  else if a.1 = 2 then (if C64 M a.2.1 then some (leapM M L r a.2.1, (tellM (lpS M a.2.1).1 r (lpS M a.2.1).2.1 (lpS M a.2.1).2.2).2, (lpS M a.2.1).2.2) else none)
  else (if isTm M a.2.1 then some (caM M (ix a.2.1), r, 0) else none)
def Lv01 (M : Nat → Int32) : Prop := ∀ t, t < 16 → M (215 + t) = 0 ∨ M (215 + t) = 1
theorem manyM_nn {M : Nat → Int32} (h : Lv01 M) : 0 ≤ manyM M := by
  unfold manyM
  obtain ⟨q, hq, hle⟩ := itr_inv (f := fun t n => n + M (215 + t)) (fun i s => ∃ q : Nat, s = nI q ∧ q ≤ i) 16 0 0 ⟨0, rfl, Nat.le_refl 0⟩ (fun j s _ hj hs => by
    obtain ⟨q, e, hq⟩ := hs
    rcases h j (by omega) with h0 | h1
    · exact ⟨q, by rw [e, h0]; exact Int32.add_zero _, by omega⟩
    · exact ⟨q + 1, by rw [e, h1]; exact nI_1 q, by omega⟩)
  rw [hq]
  exact nI_le (a := 0) (Nat.zero_le _) (by omega)
theorem Lv01_ca {M : Nat → Int32} {t : Nat} (h : Lv01 M) : Lv01 (caM M t) := fun u hu => by
  unfold caM
  rw [uM_ne _ _ (by omega)]
  by_cases e : u = t
  · subst e; rw [uM_self]; exact Or.inl rfl
  · rw [uM_ne _ _ (by omega)]; exact h u hu
theorem inR_nat {k : Int32} {lo hi : Nat} (h : inR k (nI lo) (nI hi)) (hh : hi < 2147483648) (hlo : lo ≤ hi) : k = nI (ix k) ∧ lo ≤ ix k ∧ ix k ≤ hi := by
  have h0 : inR k 0 (nI hi) := ⟨Int32.le_trans (nI_le (a := 0) (b := lo) (Nat.zero_le _) (by omega)) h.1, h.2⟩
  have h1 := inR_nI hh h0
  refine ⟨h1.1, ?_, h1.2⟩
  have h2 := h.1
  rw [h1.1] at h2
  exact (nI_leI (by omega) (by omega)).mp h2
def dPost (σ : Mm) (M : Nat → Int32) (D : Option ((Nat → Int32) × Nat × Nat)) (r' : Option Value) (σ' : Mm) : Prop :=
  ∃ v fl nl f1 f2 h, r' = some (.int v) ∧ match D with
    | none => v < 0 ∧ σ' = sM (sHd (sLn σ fl nl) f1 f2 h) 0 M
    | some s => 0 ≤ v ∧ h = s.2.2 ∧ σ' = sM (sHd (sLn σ fl nl) f1 f2 s.2.2) 0 s.1
theorem c9_setsOne2 {w : Wp} (hf : Fit sh0 w) {σ : Mm} {d : Nat} {M : Nat → Int32} (hd : σ.1 67 8 = nI d) (hd4 : d ≤ 423) {L : Nat} (hW : Wf M L) {dl gr so pe ti v : Int32} {M' : Nat → Int32} (hv : setR M = v) (hM : (if frM M 16 0 = 16 then M else setM M L (frM M 16 0) dl gr so pe ti) = M') : Cf sh0 w 4 mX9_setsOne [.ref 67, .int dl, .int gr, .int so, .int pe, .int ti] (sM σ d M) (some (.int v)) (sM σ d M') := by
  subst hv
  subst hM
  exact c9_setsOne hf hd hd4 hW
set_option maxRecDepth 20000 in
set_option maxHeartbeats 4000000 in
theorem c9_doesAct0n {w : Wp} (hf : Fit sh0 w) {σ : Mm} {M : Nat → Int32} (hd : σ.1 67 8 = nI 0) {L r k : Nat} (hI : Iv M L r) (hk : k < 100) {a : Act} (hA : AcE (σ.1 75) k a) (hK : a.1 = 0 ∧ True) {v : Int32} {M2 : Nat → Int32} (hv : setR M = v) (hv0 : v < 0) (hM : (if frM M 16 0 = 16 then M else setM M L (frM M 16 0) a.2.1 0 a.2.2.1 a.2.2.2 0) = M2) (hM2 : M2 = M) : Ct sh0 w 8 mX9_doesAct [.ref 67, .int (nI k)] (sM σ 0 M) (dPost σ M (none)) := by
  obtain ⟨nl, hnl⟩ := ex_nI (σ.1 67 10)
  have eL : sLn σ (σ.1 71) nl = σ := sLn_of hnl
  refine Ct_of hf (by decide) rfl (Nat.le_of_ble_eq_true rfl) (fun x o rt => ?_)
  refine V_iconst (v := 4) o dX9_doesAct_0 (by decide) ?_
  refine V_iload_n o dX9_doesAct_1 rfl rfl ?_
  refine V_imul o dX9_doesAct_2 ?_
  refine V_istore_n (ls' := [(2, _), (0, _), (1, _)]) o dX9_doesAct_3 rfl (by decide) rfl ?_
  refine V_aload_n o dX9_doesAct_4 rfl rfl ?_
  refine V_iconst (v := 0) o dX9_doesAct_5 (by decide) ?_
  refine V_putI o dX9_doesAct_6 rfl fl_X9_129 rfl rfl rfl ?_
  rw [wI_sM67]
  rw [wI_sHd0]
  refine V_aload_n o dX9_doesAct_9 rfl rfl ?_
  refine V_getR (t := 75) o dX9_doesAct_10 rfl fl_X9_64 rfl ?_
  refine V_iload_n o dX9_doesAct_13 rfl rfl ?_
  refine V_ialdN 400 o dX9_doesAct_14 rfl rfl (nmul (show (4 : Int32) = nI 4 from rfl) rfl) (by omega) rfl ?_
  refine V_topI (v' := 0) (hA.1.trans hK.1) ?_
  refine V_tableIn (off := 25) (tgt := 40) o dX9_doesAct_15 (by decide) (by decide) (by decide) (by decide) ?_
  refine V_aload_n o dX9_doesAct_40 rfl rfl ?_
  refine V_aload_n o dX9_doesAct_41 rfl rfl ?_
  refine V_getR (t := 75) o dX9_doesAct_42 rfl fl_X9_64 rfl ?_
  refine V_iload_n o dX9_doesAct_45 rfl rfl ?_
  refine V_iconst (v := 1) o dX9_doesAct_46 (by decide) ?_
  refine V_iadd o dX9_doesAct_47 ?_
  refine V_ialdN 400 o dX9_doesAct_48 rfl rfl (nadd (nmul (show (4 : Int32) = nI 4 from rfl) rfl) (show (1 : Int32) = nI 1 from rfl)) (by omega) rfl ?_
  refine V_topI (v' := a.2.1) hA.2.1 ?_
  refine V_iconst (v := 0) o dX9_doesAct_49 (by decide) ?_
  refine V_aload_n o dX9_doesAct_50 rfl rfl ?_
  refine V_getR (t := 75) o dX9_doesAct_51 rfl fl_X9_64 rfl ?_
  refine V_iload_n o dX9_doesAct_54 rfl rfl ?_
  refine V_iconst (v := 2) o dX9_doesAct_55 (by decide) ?_
  refine V_iadd o dX9_doesAct_56 ?_
  refine V_ialdN 400 o dX9_doesAct_57 rfl rfl (nadd (nmul (show (4 : Int32) = nI 4 from rfl) rfl) (show (2 : Int32) = nI 2 from rfl)) (by omega) rfl ?_
  refine V_topI (v' := a.2.2.1) (hA.2.2 hK.1).1 ?_
  refine V_aload_n o dX9_doesAct_58 rfl rfl ?_
  refine V_getR (t := 75) o dX9_doesAct_59 rfl fl_X9_64 rfl ?_
  refine V_iload_n o dX9_doesAct_62 rfl rfl ?_
  refine V_iconst (v := 3) o dX9_doesAct_63 (by decide) ?_
  refine V_iadd o dX9_doesAct_64 ?_
  refine V_ialdN 400 o dX9_doesAct_65 rfl rfl (nadd (nmul (show (4 : Int32) = nI 4 from rfl) rfl) (show (3 : Int32) = nI 3 from rfl)) (by omega) rfl ?_
  refine V_topI (v' := a.2.2.2) (hA.2.2 hK.1).2 ?_
  refine V_iconst (v := 0) o dX9_doesAct_66 (by decide) ?_
  refine V_cVi o rt dX9_doesAct_67 ml_X9_209 (c9_setsOne2 hf (by exact hd) (Nat.zero_le 423) hI.1 hv hM) rfl rfl rfl (Nat.le_of_ble_eq_true rfl) rfl ?_
  refine V_iret o rt dX9_doesAct_70 rfl rfl ?_
  exact ⟨_, σ.1 71, nl, σ.1 72, σ.1 73, 0, rfl, hv0, by rw [eL, hM2]⟩
set_option maxRecDepth 20000 in
set_option maxHeartbeats 4000000 in
theorem c9_doesAct0 {w : Wp} (hf : Fit sh0 w) {σ : Mm} {M : Nat → Int32} (hd : σ.1 67 8 = nI 0) {L r k : Nat} (hI : Iv M L r) (hk : k < 100) {a : Act} (hA : AcE (σ.1 75) k a) (hK : a.1 = 0 ∧ True) {v : Int32} {M2 : Nat → Int32} (hv : setR M = v) (hv0 : 0 ≤ v) (hM : (if frM M 16 0 = 16 then M else setM M L (frM M 16 0) a.2.1 0 a.2.2.1 a.2.2.2 0) = M2) : Ct sh0 w 8 mX9_doesAct [.ref 67, .int (nI k)] (sM σ 0 M) (dPost σ M (some (M2, r, 0))) := by
  obtain ⟨nl, hnl⟩ := ex_nI (σ.1 67 10)
  have eL : sLn σ (σ.1 71) nl = σ := sLn_of hnl
  refine Ct_of hf (by decide) rfl (Nat.le_of_ble_eq_true rfl) (fun x o rt => ?_)
  refine V_iconst (v := 4) o dX9_doesAct_0 (by decide) ?_
  refine V_iload_n o dX9_doesAct_1 rfl rfl ?_
  refine V_imul o dX9_doesAct_2 ?_
  refine V_istore_n (ls' := [(2, _), (0, _), (1, _)]) o dX9_doesAct_3 rfl (by decide) rfl ?_
  refine V_aload_n o dX9_doesAct_4 rfl rfl ?_
  refine V_iconst (v := 0) o dX9_doesAct_5 (by decide) ?_
  refine V_putI o dX9_doesAct_6 rfl fl_X9_129 rfl rfl rfl ?_
  rw [wI_sM67]
  rw [wI_sHd0]
  refine V_aload_n o dX9_doesAct_9 rfl rfl ?_
  refine V_getR (t := 75) o dX9_doesAct_10 rfl fl_X9_64 rfl ?_
  refine V_iload_n o dX9_doesAct_13 rfl rfl ?_
  refine V_ialdN 400 o dX9_doesAct_14 rfl rfl (nmul (show (4 : Int32) = nI 4 from rfl) rfl) (by omega) rfl ?_
  refine V_topI (v' := 0) (hA.1.trans hK.1) ?_
  refine V_tableIn (off := 25) (tgt := 40) o dX9_doesAct_15 (by decide) (by decide) (by decide) (by decide) ?_
  refine V_aload_n o dX9_doesAct_40 rfl rfl ?_
  refine V_aload_n o dX9_doesAct_41 rfl rfl ?_
  refine V_getR (t := 75) o dX9_doesAct_42 rfl fl_X9_64 rfl ?_
  refine V_iload_n o dX9_doesAct_45 rfl rfl ?_
  refine V_iconst (v := 1) o dX9_doesAct_46 (by decide) ?_
  refine V_iadd o dX9_doesAct_47 ?_
  refine V_ialdN 400 o dX9_doesAct_48 rfl rfl (nadd (nmul (show (4 : Int32) = nI 4 from rfl) rfl) (show (1 : Int32) = nI 1 from rfl)) (by omega) rfl ?_
  refine V_topI (v' := a.2.1) hA.2.1 ?_
  refine V_iconst (v := 0) o dX9_doesAct_49 (by decide) ?_
  refine V_aload_n o dX9_doesAct_50 rfl rfl ?_
  refine V_getR (t := 75) o dX9_doesAct_51 rfl fl_X9_64 rfl ?_
  refine V_iload_n o dX9_doesAct_54 rfl rfl ?_
  refine V_iconst (v := 2) o dX9_doesAct_55 (by decide) ?_
  refine V_iadd o dX9_doesAct_56 ?_
  refine V_ialdN 400 o dX9_doesAct_57 rfl rfl (nadd (nmul (show (4 : Int32) = nI 4 from rfl) rfl) (show (2 : Int32) = nI 2 from rfl)) (by omega) rfl ?_
  refine V_topI (v' := a.2.2.1) (hA.2.2 hK.1).1 ?_
  refine V_aload_n o dX9_doesAct_58 rfl rfl ?_
  refine V_getR (t := 75) o dX9_doesAct_59 rfl fl_X9_64 rfl ?_
  refine V_iload_n o dX9_doesAct_62 rfl rfl ?_
  refine V_iconst (v := 3) o dX9_doesAct_63 (by decide) ?_
  refine V_iadd o dX9_doesAct_64 ?_
  refine V_ialdN 400 o dX9_doesAct_65 rfl rfl (nadd (nmul (show (4 : Int32) = nI 4 from rfl) rfl) (show (3 : Int32) = nI 3 from rfl)) (by omega) rfl ?_
  refine V_topI (v' := a.2.2.2) (hA.2.2 hK.1).2 ?_
  refine V_iconst (v := 0) o dX9_doesAct_66 (by decide) ?_
  refine V_cVi o rt dX9_doesAct_67 ml_X9_209 (c9_setsOne2 hf (by exact hd) (Nat.zero_le 423) hI.1 hv hM) rfl rfl rfl (Nat.le_of_ble_eq_true rfl) rfl ?_
  refine V_iret o rt dX9_doesAct_70 rfl rfl ?_
  exact ⟨_, σ.1 71, nl, σ.1 72, σ.1 73, 0, rfl, hv0, rfl, by rw [eL]⟩
set_option maxRecDepth 20000 in
set_option maxHeartbeats 4000000 in
theorem c9_doesAct1n {w : Wp} (hf : Fit sh0 w) {σ : Mm} {M : Nat → Int32} (hd : σ.1 67 8 = nI 0) {L r k : Nat} (hI : Iv M L r) (hk : k < 100) {a : Act} (hA : AcE (σ.1 75) k a) (hK : a.1 = 1 ∧ True) (hc : M 6 + a.2.1 > 1000000000) : Ct sh0 w 8 mX9_doesAct [.ref 67, .int (nI k)] (sM σ 0 M) (dPost σ M (none)) := by
  obtain ⟨nl, hnl⟩ := ex_nI (σ.1 67 10)
  have eL : sLn σ (σ.1 71) nl = σ := sLn_of hnl
  refine Ct_of hf (by decide) rfl (Nat.le_of_ble_eq_true rfl) (fun x o rt => ?_)
  refine V_iconst (v := 4) o dX9_doesAct_0 (by decide) ?_
  refine V_iload_n o dX9_doesAct_1 rfl rfl ?_
  refine V_imul o dX9_doesAct_2 ?_
  refine V_istore_n (ls' := [(2, _), (0, _), (1, _)]) o dX9_doesAct_3 rfl (by decide) rfl ?_
  refine V_aload_n o dX9_doesAct_4 rfl rfl ?_
  refine V_iconst (v := 0) o dX9_doesAct_5 (by decide) ?_
  refine V_putI o dX9_doesAct_6 rfl fl_X9_129 rfl rfl rfl ?_
  rw [wI_sM67]
  rw [wI_sHd0]
  refine V_aload_n o dX9_doesAct_9 rfl rfl ?_
  refine V_getR (t := 75) o dX9_doesAct_10 rfl fl_X9_64 rfl ?_
  refine V_iload_n o dX9_doesAct_13 rfl rfl ?_
  refine V_ialdN 400 o dX9_doesAct_14 rfl rfl (nmul (show (4 : Int32) = nI 4 from rfl) rfl) (by omega) rfl ?_
  refine V_topI (v' := 1) (hA.1.trans hK.1) ?_
  refine V_tableIn (off := 56) (tgt := 71) o dX9_doesAct_15 (by decide) (by decide) (by decide) (by decide) ?_
  refine V_aload_n o dX9_doesAct_71 rfl rfl ?_
  refine V_aload_n o dX9_doesAct_72 rfl rfl ?_
  refine V_getR (t := 75) o dX9_doesAct_73 rfl fl_X9_64 rfl ?_
  refine V_iload_n o dX9_doesAct_76 rfl rfl ?_
  refine V_iconst (v := 1) o dX9_doesAct_77 (by decide) ?_
  refine V_iadd o dX9_doesAct_78 ?_
  refine V_ialdN 400 o dX9_doesAct_79 rfl rfl (nadd (nmul (show (4 : Int32) = nI 4 from rfl) rfl) (show (1 : Int32) = nI 1 from rfl)) (by omega) rfl ?_
  refine V_topI (v' := a.2.1) hA.2.1 ?_
  refine V_cVi o rt dX9_doesAct_80 ml_X9_185 (c9_ticksOf_no hf (by exact hd) (Nat.zero_le 423) hc) rfl rfl rfl (Nat.le_of_ble_eq_true rfl) rfl ?_
  refine V_iret o rt dX9_doesAct_83 rfl rfl ?_
  exact ⟨_, σ.1 71, nl, σ.1 72, σ.1 73, 0, rfl, by decide, by rw [eL]⟩
set_option maxRecDepth 20000 in
set_option maxHeartbeats 4000000 in
theorem c9_doesAct1 {w : Wp} (hf : Fit sh0 w) {σ : Mm} {M : Nat → Int32} (hd : σ.1 67 8 = nI 0) {L r k : Nat} (hI : Iv M L r) (hk : k < 100) {a : Act} (hA : AcE (σ.1 75) k a) (hK : a.1 = 1 ∧ True) {m : Nat} (hm : a.2.1 = nI m) (hm9 : m ≤ 9) (hc : ¬ M 6 + a.2.1 > 1000000000) {S : (Nat → Int32) × Nat × List (Nat × Int32)} (hS : tks L m (M, r, ([] : List (Nat × Int32))) = S) (hln : S.2.2.length ≤ 144) : Ct sh0 w 8 mX9_doesAct [.ref 67, .int (nI k)] (sM σ 0 M) (dPost σ M (some (S.1, S.2.1, S.2.2.length))) := by
  obtain ⟨nl, hnl⟩ := ex_nI (σ.1 67 10)
  have eL : sLn σ (σ.1 71) nl = σ := sLn_of hnl
  refine Ct_of hf (by decide) rfl (Nat.le_of_ble_eq_true rfl) (fun x o rt => ?_)
  refine V_iconst (v := 4) o dX9_doesAct_0 (by decide) ?_
  refine V_iload_n o dX9_doesAct_1 rfl rfl ?_
  refine V_imul o dX9_doesAct_2 ?_
  refine V_istore_n (ls' := [(2, _), (0, _), (1, _)]) o dX9_doesAct_3 rfl (by decide) rfl ?_
  refine V_aload_n o dX9_doesAct_4 rfl rfl ?_
  refine V_iconst (v := 0) o dX9_doesAct_5 (by decide) ?_
  refine V_putI o dX9_doesAct_6 rfl fl_X9_129 rfl rfl rfl ?_
  rw [wI_sM67]
  rw [wI_sHd0]
  refine V_aload_n o dX9_doesAct_9 rfl rfl ?_
  refine V_getR (t := 75) o dX9_doesAct_10 rfl fl_X9_64 rfl ?_
  refine V_iload_n o dX9_doesAct_13 rfl rfl ?_
  refine V_ialdN 400 o dX9_doesAct_14 rfl rfl (nmul (show (4 : Int32) = nI 4 from rfl) rfl) (by omega) rfl ?_
  refine V_topI (v' := 1) (hA.1.trans hK.1) ?_
  refine V_tableIn (off := 56) (tgt := 71) o dX9_doesAct_15 (by decide) (by decide) (by decide) (by decide) ?_
  refine V_aload_n o dX9_doesAct_71 rfl rfl ?_
  refine V_aload_n o dX9_doesAct_72 rfl rfl ?_
  refine V_getR (t := 75) o dX9_doesAct_73 rfl fl_X9_64 rfl ?_
  refine V_iload_n o dX9_doesAct_76 rfl rfl ?_
  refine V_iconst (v := 1) o dX9_doesAct_77 (by decide) ?_
  refine V_iadd o dX9_doesAct_78 ?_
  refine V_ialdN 400 o dX9_doesAct_79 rfl rfl (nadd (nmul (show (4 : Int32) = nI 4 from rfl) rfl) (show (1 : Int32) = nI 1 from rfl)) (by omega) rfl ?_
  refine V_topI (v' := a.2.1) hA.2.1 ?_
  refine V_callV o rt dX9_doesAct_80 ml_X9_185 (c9_ticksOf hf (by exact hd) (Nat.zero_le 423) hI (m := m) hm (by omega) hc) rfl rfl rfl (Nat.le_of_ble_eq_true rfl) rfl (fun r_80 σ_80 q_80 => ?_)
  rw [hS] at q_80
  obtain ⟨fl, nl, f1, f2, rfl, rfl, -⟩ := q_80
  rw [sLn_sHd, sHd_sHd]
  show V sh0 w x mX9_doesAct (0, 0) _ _ (.int (nI S.2.2.length) :: []) _
  refine V_iret o rt dX9_doesAct_83 rfl rfl ?_
  exact ⟨_, fl, nl, f1, f2, S.2.2.length, rfl, nI_le (a := 0) (Nat.zero_le _) (by omega), rfl, rfl⟩
set_option maxRecDepth 20000 in
set_option maxHeartbeats 4000000 in
theorem c9_doesAct2 {w : Wp} (hf : Fit sh0 w) {σ : Mm} {M : Nat → Int32} (hd : σ.1 67 8 = nI 0) {L r k : Nat} (hI : Iv M L r) (hk : k < 100) {a : Act} (hA : AcE (σ.1 75) k a) (hK : a.1 = 2 ∧ True) (hc : C64 M a.2.1) {S : (Nat → Int32) × (Nat → Nat) × Nat} (hS : lpS M a.2.1 = S) (h16 : S.2.2 ≤ 16) {M2 : Nat → Int32} (hM2 : layAllM (ringM S.1 L r S.2.1 S.2.2) L = M2) {r2 : Nat} : Ct sh0 w 8 mX9_doesAct [.ref 67, .int (nI k)] (sM σ 0 M) (dPost σ M (some (M2, r2, S.2.2))) := by
  obtain ⟨nl, hnl⟩ := ex_nI (σ.1 67 10)
  have eL : sLn σ (σ.1 71) nl = σ := sLn_of hnl
  refine Ct_of hf (by decide) rfl (Nat.le_of_ble_eq_true rfl) (fun x o rt => ?_)
  refine V_iconst (v := 4) o dX9_doesAct_0 (by decide) ?_
  refine V_iload_n o dX9_doesAct_1 rfl rfl ?_
  refine V_imul o dX9_doesAct_2 ?_
  refine V_istore_n (ls' := [(2, _), (0, _), (1, _)]) o dX9_doesAct_3 rfl (by decide) rfl ?_
  refine V_aload_n o dX9_doesAct_4 rfl rfl ?_
  refine V_iconst (v := 0) o dX9_doesAct_5 (by decide) ?_
  refine V_putI o dX9_doesAct_6 rfl fl_X9_129 rfl rfl rfl ?_
  rw [wI_sM67]
  rw [wI_sHd0]
  refine V_aload_n o dX9_doesAct_9 rfl rfl ?_
  refine V_getR (t := 75) o dX9_doesAct_10 rfl fl_X9_64 rfl ?_
  refine V_iload_n o dX9_doesAct_13 rfl rfl ?_
  refine V_ialdN 400 o dX9_doesAct_14 rfl rfl (nmul (show (4 : Int32) = nI 4 from rfl) rfl) (by omega) rfl ?_
  refine V_topI (v' := 2) (hA.1.trans hK.1) ?_
  refine V_tableIn (off := 69) (tgt := 84) o dX9_doesAct_15 (by decide) (by decide) (by decide) (by decide) ?_
  refine V_aload_n o dX9_doesAct_84 rfl rfl ?_
  refine V_aload_n o dX9_doesAct_85 rfl rfl ?_
  refine V_getR (t := 75) o dX9_doesAct_86 rfl fl_X9_64 rfl ?_
  refine V_iload_n o dX9_doesAct_89 rfl rfl ?_
  refine V_iconst (v := 1) o dX9_doesAct_90 (by decide) ?_
  refine V_iadd o dX9_doesAct_91 ?_
  refine V_ialdN 400 o dX9_doesAct_92 rfl rfl (nadd (nmul (show (4 : Int32) = nI 4 from rfl) rfl) (show (1 : Int32) = nI 1 from rfl)) (by omega) rfl ?_
  refine V_topI (v' := a.2.1) hA.2.1 ?_
  refine V_callV o rt dX9_doesAct_93 ml_X9_198 (c9_leapsBy hf (by exact hd) (Nat.zero_le 423) hI hc hS) rfl rfl rfl (Nat.le_of_ble_eq_true rfl) rfl (fun r_93 σ_93 q_93 => ?_)
  rw [hM2] at q_93
  obtain ⟨rfl, fl, rfl⟩ := q_93
  rw [sLn_sHd, sHd_sHd, Nat.zero_add]
  show V sh0 w x mX9_doesAct (0, 0) _ _ (.int (nI S.2.2) :: []) _
  refine V_iret o rt dX9_doesAct_96 rfl rfl ?_
  exact ⟨_, _, _, _, _, _, rfl, nI_le (a := 0) (Nat.zero_le _) (by omega), rfl, rfl⟩
set_option maxRecDepth 20000 in
set_option maxHeartbeats 4000000 in
theorem c9_doesAct2n {w : Wp} (hf : Fit sh0 w) {σ : Mm} {M : Nat → Int32} (hd : σ.1 67 8 = nI 0) {L r k : Nat} (hI : Iv M L r) (hk : k < 100) {a : Act} (hA : AcE (σ.1 75) k a) (hK : a.1 = 2 ∧ True) (hc : ¬ C64 M a.2.1) : Ct sh0 w 8 mX9_doesAct [.ref 67, .int (nI k)] (sM σ 0 M) (dPost σ M (none)) := by
  obtain ⟨nl, hnl⟩ := ex_nI (σ.1 67 10)
  have eL : sLn σ (σ.1 71) nl = σ := sLn_of hnl
  refine Ct_of hf (by decide) rfl (Nat.le_of_ble_eq_true rfl) (fun x o rt => ?_)
  refine V_iconst (v := 4) o dX9_doesAct_0 (by decide) ?_
  refine V_iload_n o dX9_doesAct_1 rfl rfl ?_
  refine V_imul o dX9_doesAct_2 ?_
  refine V_istore_n (ls' := [(2, _), (0, _), (1, _)]) o dX9_doesAct_3 rfl (by decide) rfl ?_
  refine V_aload_n o dX9_doesAct_4 rfl rfl ?_
  refine V_iconst (v := 0) o dX9_doesAct_5 (by decide) ?_
  refine V_putI o dX9_doesAct_6 rfl fl_X9_129 rfl rfl rfl ?_
  rw [wI_sM67]
  rw [wI_sHd0]
  refine V_aload_n o dX9_doesAct_9 rfl rfl ?_
  refine V_getR (t := 75) o dX9_doesAct_10 rfl fl_X9_64 rfl ?_
  refine V_iload_n o dX9_doesAct_13 rfl rfl ?_
  refine V_ialdN 400 o dX9_doesAct_14 rfl rfl (nmul (show (4 : Int32) = nI 4 from rfl) rfl) (by omega) rfl ?_
  refine V_topI (v' := 2) (hA.1.trans hK.1) ?_
  refine V_tableIn (off := 69) (tgt := 84) o dX9_doesAct_15 (by decide) (by decide) (by decide) (by decide) ?_
  refine V_aload_n o dX9_doesAct_84 rfl rfl ?_
  refine V_aload_n o dX9_doesAct_85 rfl rfl ?_
  refine V_getR (t := 75) o dX9_doesAct_86 rfl fl_X9_64 rfl ?_
  refine V_iload_n o dX9_doesAct_89 rfl rfl ?_
  refine V_iconst (v := 1) o dX9_doesAct_90 (by decide) ?_
  refine V_iadd o dX9_doesAct_91 ?_
  refine V_ialdN 400 o dX9_doesAct_92 rfl rfl (nadd (nmul (show (4 : Int32) = nI 4 from rfl) rfl) (show (1 : Int32) = nI 1 from rfl)) (by omega) rfl ?_
  refine V_topI (v' := a.2.1) hA.2.1 ?_
  refine V_cVi o rt dX9_doesAct_93 ml_X9_198 (c9_leapsBy_no hf (by exact hd) (Nat.zero_le 423) hc) rfl rfl rfl (Nat.le_of_ble_eq_true rfl) rfl ?_
  refine V_iret o rt dX9_doesAct_96 rfl rfl ?_
  exact ⟨_, σ.1 71, nl, σ.1 72, σ.1 73, 0, rfl, by decide, by rw [eL]⟩
set_option maxRecDepth 20000 in
set_option maxHeartbeats 4000000 in
theorem c9_doesAct3 {w : Wp} (hf : Fit sh0 w) {σ : Mm} {M : Nat → Int32} (hd : σ.1 67 8 = nI 0) {L r k : Nat} (hI : Iv M L r) (hk : k < 100) {a : Act} (hA : AcE (σ.1 75) k a) (hK : a.1 = 3 ∧ True) {i : Nat} (hi : a.2.1 = nI i) (hi6 : i < 16) (hc : isT M i) (hL : Lv01 M) : Ct sh0 w 8 mX9_doesAct [.ref 67, .int (nI k)] (sM σ 0 M) (dPost σ M (some (caM M i, r, 0))) := by
  obtain ⟨nl, hnl⟩ := ex_nI (σ.1 67 10)
  have eL : sLn σ (σ.1 71) nl = σ := sLn_of hnl
  refine Ct_of hf (by decide) rfl (Nat.le_of_ble_eq_true rfl) (fun x o rt => ?_)
  refine V_iconst (v := 4) o dX9_doesAct_0 (by decide) ?_
  refine V_iload_n o dX9_doesAct_1 rfl rfl ?_
  refine V_imul o dX9_doesAct_2 ?_
  refine V_istore_n (ls' := [(2, _), (0, _), (1, _)]) o dX9_doesAct_3 rfl (by decide) rfl ?_
  refine V_aload_n o dX9_doesAct_4 rfl rfl ?_
  refine V_iconst (v := 0) o dX9_doesAct_5 (by decide) ?_
  refine V_putI o dX9_doesAct_6 rfl fl_X9_129 rfl rfl rfl ?_
  rw [wI_sM67]
  rw [wI_sHd0]
  refine V_aload_n o dX9_doesAct_9 rfl rfl ?_
  refine V_getR (t := 75) o dX9_doesAct_10 rfl fl_X9_64 rfl ?_
  refine V_iload_n o dX9_doesAct_13 rfl rfl ?_
  refine V_ialdN 400 o dX9_doesAct_14 rfl rfl (nmul (show (4 : Int32) = nI 4 from rfl) rfl) (by omega) rfl ?_
  refine V_topI (v' := 3) (hA.1.trans hK.1) ?_
  refine V_tableOut (tgt := 97) o dX9_doesAct_15 (Or.inr (by decide)) (by decide) ?_
  refine V_aload_n o dX9_doesAct_97 rfl rfl ?_
  refine V_aload_n o dX9_doesAct_98 rfl rfl ?_
  refine V_getR (t := 75) o dX9_doesAct_99 rfl fl_X9_64 rfl ?_
  refine V_iload_n o dX9_doesAct_102 rfl rfl ?_
  refine V_iconst (v := 1) o dX9_doesAct_103 (by decide) ?_
  refine V_iadd o dX9_doesAct_104 ?_
  refine V_ialdN 400 o dX9_doesAct_105 rfl rfl (nadd (nmul (show (4 : Int32) = nI 4 from rfl) rfl) (show (1 : Int32) = nI 1 from rfl)) (by omega) rfl ?_
  refine V_topI (v' := a.2.1) hA.2.1 ?_
  refine V_cVi o rt dX9_doesAct_106 ml_X9_216 (c9_cancelsOne hf (by exact hd) (Nat.zero_le 423) hi hi6 hc) rfl rfl rfl (Nat.le_of_ble_eq_true rfl) rfl ?_
  refine V_iret o rt dX9_doesAct_109 rfl rfl ?_
  exact ⟨_, σ.1 71, nl, σ.1 72, σ.1 73, 0, rfl, manyM_nn (Lv01_ca hL), rfl, by rw [eL]⟩
set_option maxRecDepth 20000 in
set_option maxHeartbeats 4000000 in
theorem c9_doesAct3n {w : Wp} (hf : Fit sh0 w) {σ : Mm} {M : Nat → Int32} (hd : σ.1 67 8 = nI 0) {L r k : Nat} (hI : Iv M L r) (hk : k < 100) {a : Act} (hA : AcE (σ.1 75) k a) (hK : a.1 = 3 ∧ True) (hc : ¬ isTm M a.2.1) : Ct sh0 w 8 mX9_doesAct [.ref 67, .int (nI k)] (sM σ 0 M) (dPost σ M (none)) := by
  obtain ⟨nl, hnl⟩ := ex_nI (σ.1 67 10)
  have eL : sLn σ (σ.1 71) nl = σ := sLn_of hnl
  have hno : Cf sh0 w 2 mX9_cancelsOne [.ref 67, .int a.2.1] (sM (sHd σ (σ.1 72) (σ.1 73) 0) 0 M) (some (.int (-1))) (sM (sHd σ (σ.1 72) (σ.1 73) 0) 0 M) := by
    by_cases h2 : inR a.2.1 0 15
    · have hx := isTm_ix h2
      exact c9_cancelsOne_no hf (by exact hd) (Nat.zero_le 423) hx.1 hx.2 (fun q => hc ⟨h2, q⟩)
    · exact c9_cancelsOne_out hf (by exact hd) (Nat.zero_le 423) h2
  refine Ct_of hf (by decide) rfl (Nat.le_of_ble_eq_true rfl) (fun x o rt => ?_)
  refine V_iconst (v := 4) o dX9_doesAct_0 (by decide) ?_
  refine V_iload_n o dX9_doesAct_1 rfl rfl ?_
  refine V_imul o dX9_doesAct_2 ?_
  refine V_istore_n (ls' := [(2, _), (0, _), (1, _)]) o dX9_doesAct_3 rfl (by decide) rfl ?_
  refine V_aload_n o dX9_doesAct_4 rfl rfl ?_
  refine V_iconst (v := 0) o dX9_doesAct_5 (by decide) ?_
  refine V_putI o dX9_doesAct_6 rfl fl_X9_129 rfl rfl rfl ?_
  rw [wI_sM67]
  rw [wI_sHd0]
  refine V_aload_n o dX9_doesAct_9 rfl rfl ?_
  refine V_getR (t := 75) o dX9_doesAct_10 rfl fl_X9_64 rfl ?_
  refine V_iload_n o dX9_doesAct_13 rfl rfl ?_
  refine V_ialdN 400 o dX9_doesAct_14 rfl rfl (nmul (show (4 : Int32) = nI 4 from rfl) rfl) (by omega) rfl ?_
  refine V_topI (v' := 3) (hA.1.trans hK.1) ?_
  refine V_tableOut (tgt := 97) o dX9_doesAct_15 (Or.inr (by decide)) (by decide) ?_
  refine V_aload_n o dX9_doesAct_97 rfl rfl ?_
  refine V_aload_n o dX9_doesAct_98 rfl rfl ?_
  refine V_getR (t := 75) o dX9_doesAct_99 rfl fl_X9_64 rfl ?_
  refine V_iload_n o dX9_doesAct_102 rfl rfl ?_
  refine V_iconst (v := 1) o dX9_doesAct_103 (by decide) ?_
  refine V_iadd o dX9_doesAct_104 ?_
  refine V_ialdN 400 o dX9_doesAct_105 rfl rfl (nadd (nmul (show (4 : Int32) = nI 4 from rfl) rfl) (show (1 : Int32) = nI 1 from rfl)) (by omega) rfl ?_
  refine V_topI (v' := a.2.1) hA.2.1 ?_
  refine V_cVi o rt dX9_doesAct_106 ml_X9_216 hno rfl rfl rfl (Nat.le_of_ble_eq_true rfl) rfl ?_
  refine V_iret o rt dX9_doesAct_109 rfl rfl ?_
  exact ⟨_, σ.1 71, nl, σ.1 72, σ.1 73, 0, rfl, by decide, by rw [eL]⟩
set_option maxRecDepth 20000 in
set_option maxHeartbeats 4000000 in
theorem c9_doesAct {w : Wp} (hf : Fit sh0 w) {σ : Mm} {M : Nat → Int32} (hd : σ.1 67 8 = nI 0) {L r k : Nat} (hI : Iv M L r) (hL : Lv01 M) (hk : k < 100) {kk : Int32} (hkk : kk = nI k) {a : Act} (hA : AcE (σ.1 75) k a) (hO : AcOk a) {D : Option ((Nat → Int32) × Nat × Nat)} (hD : doA L a M r = D) : Ct sh0 w 8 mX9_doesAct [.ref 67, .int kk] (sM σ 0 M) (dPost σ M D) := by
  subst hkk
  rcases hO with hK | hK | hK | hK
  · rw [doA, if_pos hK.1] at hD
    by_cases hfr : frM M 16 0 = 16
    · rw [if_pos hfr] at hD
      subst hD
      exact c9_doesAct0n hf hd hI hk hA ⟨hK.1, trivial⟩ (v := -3) (M2 := M) (by rw [setR, if_pos hfr]) (by decide) (by rw [if_pos hfr]) rfl
    · rw [if_neg hfr] at hD
      subst hD
      refine c9_doesAct0 hf hd hI hk hA ⟨hK.1, trivial⟩ (v := nI (frM M 16 0)) (by rw [setR, if_neg hfr]) ?_ (by rw [if_neg hfr])
      have := (frM_le M 16 0).2
      exact nI_le (a := 0) (Nat.zero_le _) (by omega)
  · rw [doA, if_neg (by rw [hK.1]; decide), if_pos hK.1] at hD
    have hx := inR_nat (lo := 1) (hi := 9) hK.2 (by omega) (by omega)
    by_cases hc : M 6 + a.2.1 > 1000000000
    · rw [if_pos hc] at hD
      subst hD
      exact c9_doesAct1n hf hd hI hk hA ⟨hK.1, trivial⟩ hc
    · rw [if_neg hc] at hD
      have hln := (Iv_tks (hl := []) hI (ix a.2.1)).2
      generalize hS : tks L (ix a.2.1) (M, r, ([] : List (Nat × Int32))) = S at hD hln
      have hln2 : S.2.2.length ≤ 144 := by
        have : ([] : List (Nat × Int32)).length = 0 := rfl
        omega
      subst hD
      exact c9_doesAct1 hf hd hI hk hA ⟨hK.1, trivial⟩ hx.1 hx.2.2 hc hS hln2
  · rw [doA, if_neg (by rw [hK.1]; decide), if_neg (by rw [hK.1]; decide), if_pos hK.1] at hD
    by_cases hc : C64 M a.2.1
    · rw [if_pos hc] at hD
      unfold leapM at hD
      have hl16 := (lpS_all (M := M) (n := a.2.1)).1
      generalize hS : lpS M a.2.1 = S at hD hl16
      generalize hM2 : layAllM (ringM S.1 L r S.2.1 S.2.2) L = M2 at hD
      subst hD
      exact c9_doesAct2 hf hd hI hk hA ⟨hK.1, trivial⟩ hc hS hl16 hM2
    · rw [if_neg hc] at hD
      subst hD
      exact c9_doesAct2n hf hd hI hk hA ⟨hK.1, trivial⟩ hc
  · rw [doA, if_neg (by rw [hK.1]; decide), if_neg (by rw [hK.1]; decide), if_neg (by rw [hK.1]; decide)] at hD
    by_cases hc : isTm M a.2.1
    · rw [if_pos hc] at hD
      have hx := isTm_ix hc.1
      subst hD
      exact c9_doesAct3 hf hd hI hk hA ⟨hK.1, trivial⟩ hx.1 hx.2 hc.2 hL
    · rw [if_neg hc] at hD
      subst hD
      exact c9_doesAct3n hf hd hI hk hA ⟨hK.1, trivial⟩ hc
