/-- the class's ROW -/
def RwC (l : List Int64) (σ : Mm) : Prop := σ.1 52 1 = nI l.length ∧ l.length ≤ 40 ∧ ∀ j, j < l.length → σ.2.1 53 j = l.getD j 0
theorem RwC.off {l : List Int64} {lo hi : Nat} {σ τ : Mm} (h : RwC l σ) (ho : Off lo hi σ τ) (hd : 53 < lo ∨ hi ≤ 52) : RwC l τ :=
  ⟨by rw [(ho 52 (by omega)).1]; exact h.1, h.2.1, fun j hj => by rw [(ho 53 (by omega)).2.1]; exact h.2.2 j hj⟩
theorem bvsh (x : BitVec 32) (s : Nat) (h : s ≤ 24) : x >>> s &&& 255#32 = x.sshiftRight s &&& 255#32 := by
  apply BitVec.eq_of_getLsbD_eq
  intro i hi
  simp only [BitVec.getLsbD_and, BitVec.getLsbD_ushiftRight, BitVec.getLsbD_sshiftRight]
  by_cases h8 : i < 8
  · have h1 : s + i < 32 := by omega
    have h2 : ¬ 32 ≤ i := by omega
    simp [h1, h2]
  · have : (255#32).getLsbD i = false := by
      have : ∀ i : Fin 32, ¬ i.val < 8 → (255#32).getLsbD i.val = false := by decide
      exact this ⟨i, hi⟩ h8
    rw [this, Bool.and_false, Bool.and_false]
theorem shV (v : Int32) {k : Nat} (hk : k < 4) : (v.toUInt32 >>> ((24 - 8 * nI k).toUInt32 &&& Int32.toUInt32 31)).toInt32 &&& 255 = sgV v k := by
  unfold sgV
  have : k = 0 ∨ k = 1 ∨ k = 2 ∨ k = 3 := by omega
  apply Int32.toBitVec_inj.mp
  rcases this with e | e | e | e <;> subst e
  · exact bvsh v.toBitVec 24 (by omega)
  · exact bvsh v.toBitVec 16 (by omega)
  · exact bvsh v.toBitVec 8 (by omega)
  · exact bvsh v.toBitVec 0 (by omega)
def fmI (a : Int32) : Int32 := if 0 ≤ a ^^^ 40 then a - a / 40 * 40 else if a - a / 40 * 40 = 0 then a - a / 40 * 40 else a - a / 40 * 40 + 40
theorem fm_all : ∀ k, k < 120 → fmI (nI k - 40) = nI (k % 40) := by decide +kernel
theorem fm_arg {q r i : Nat} (hr : r ≤ 40) : nI q - nI r + nI i = nI (q + 40 - r + i) - 40 := by
  have e : nI (q + 40 - r + i) + nI r = nI (q + 40) + nI i := by rw [nI_add, nI_add]; congr 1; omega
  have e2 : nI (q + 40) = nI q + 40 := (nadd (b := 40) rfl rfl).symm
  rw [e2] at e
  have e3 : nI (q + 40 - r + i) = nI q + 40 + nI i - nI r := by rw [← e, Int32.add_sub_cancel]
  rw [e3]
  have h0 : (40 : Int32) + -40 = 0 := by decide
  simp only [Int32.sub_eq_add_neg]
  calc nI q + -nI r + nI i = nI q + -nI r + nI i + (40 + -40) := by rw [h0, Int32.add_zero]
    _ = _ := by ac_rfl
set_option maxRecDepth 20000 in
set_option maxHeartbeats 4000000 in
theorem cJ_floorMod {w : Wp} (hf : Fit sh0 w) {σ : Mm} {a : Int32} : Cf sh0 w 0 mJ9_floorMod_7cf53 [.int a, .int 40] σ (some (.int (fmI a))) σ := by
  refine Ct_ofF hf (by decide +kernel) rfl (Nat.le_of_ble_eq_true rfl) (fun x o rt => ?_)
  refine V_iload_n o dJ9_floorMod_7cf53_0 rfl rfl ?_
  refine V_iload_n o dJ9_floorMod_7cf53_1 rfl rfl ?_
  refine V_irem o dJ9_floorMod_7cf53_2 (by decide) ?_
  refine V_istore_n (ls' := [(2, _), (0, _), (1, _)]) o dJ9_floorMod_7cf53_3 rfl (by decide) rfl ?_
  refine V_iload_n o dJ9_floorMod_7cf53_4 rfl rfl ?_
  refine V_iload_n o dJ9_floorMod_7cf53_5 rfl rfl ?_
  refine V_ixor o dJ9_floorMod_7cf53_6 ?_
  refine V_if_ge (tgt := 18) o dJ9_floorMod_7cf53_7 (by decide) (fun c_7 => ?_) (fun c_7 => ?_)
  · refine V_iload_n o dJ9_floorMod_7cf53_18 rfl rfl ?_
    refine V_iret o rt dJ9_floorMod_7cf53_19 rfl rfl ?_
    exact ⟨by rw [fmI, if_pos c_7], rfl⟩
  · refine V_iload_n o dJ9_floorMod_7cf53_10 rfl rfl ?_
    refine V_if_eq (tgt := 18) o dJ9_floorMod_7cf53_11 (by decide) (fun c_11 => ?_) (fun c_11 => ?_)
    · refine V_iload_n o dJ9_floorMod_7cf53_18 rfl rfl ?_
      refine V_iret o rt dJ9_floorMod_7cf53_19 rfl rfl ?_
      exact ⟨by rw [fmI, if_neg c_7, if_pos c_11], rfl⟩
    · refine V_iload_n o dJ9_floorMod_7cf53_14 rfl rfl ?_
      refine V_iload_n o dJ9_floorMod_7cf53_15 rfl rfl ?_
      refine V_iadd o dJ9_floorMod_7cf53_16 ?_
      refine V_iret o rt dJ9_floorMod_7cf53_17 rfl rfl ?_
      exact ⟨by rw [fmI, if_neg c_7, if_neg c_11], rfl⟩
set_option maxRecDepth 20000 in
set_option maxHeartbeats 4000000 in
theorem cJ_fill {w : Wp} (hf : Fit sh0 w) {σ : Mm} {v : Int32} : Ct sh0 w 0 mJ7_fill_53178 [.ref 51, .int v] σ (fun r' σ' => r' = none ∧ Off 51 52 σ σ' ∧ ∀ j, j < 8 → σ'.1 51 j = v) := by
  refine Ct_ofF hf (by decide +kernel) rfl (Nat.le_of_ble_eq_true rfl) (fun x o rt => ?_)
  have loop : ∀ m k (τ : Mm), k + m = 8 → Off 51 52 σ τ → (∀ j, j < k → τ.1 51 j = v) → V sh0 w x mJ7_fill_53178 (0, 0) 5 [(2, .int (nI k)), (3, .int 8), (0, .ref 51), (1, .int v)] [] τ := by
    intro m
    induction m with
    | zero =>
      intro k τ hk ho hv
      have h8 : k = 8 := by omega
      refine V_iload_n o dJ7_fill_53178_5 rfl rfl ?_
      refine V_iload_n o dJ7_fill_53178_6 rfl rfl ?_
      refine V_icmp_ge (tgt := 20) o dJ7_fill_53178_7 (by decide) (fun c_7 => ?_) (fun c_7 => False.elim (c_7 (by rw [h8]; decide)))
      refine V_ret o rt dJ7_fill_53178_20 rfl ?_
      exact ⟨rfl, ho, fun j hj => hv j (by omega)⟩
    | succ m ih =>
      intro k τ hk ho hv
      refine V_iload_n o dJ7_fill_53178_5 rfl rfl ?_
      refine V_iload_n o dJ7_fill_53178_6 rfl rfl ?_
      refine V_icmp_ge (tgt := 20) o dJ7_fill_53178_7 (by decide) (fun c_7 => False.elim (absurd c_7 (nI_ge (b := 8) (by omega) (by omega)))) (fun c_7 => ?_)
      refine V_aload_n o dJ7_fill_53178_10 rfl rfl ?_
      refine V_iload_n o dJ7_fill_53178_11 rfl rfl ?_
      refine V_iload_n o dJ7_fill_53178_12 rfl rfl ?_
      refine V_iastN 8 o dJ7_fill_53178_13 rfl rfl rfl (by omega) rfl ?_
      refine V_iincV (v := nI (k + 1)) (ls' := [(2, _), (3, _), (0, _), (1, _)]) o dJ7_fill_53178_14 rfl (ninc 1 rfl) (by decide) rfl ?_
      refine V_goto (tgt := 5) o dJ7_fill_53178_17 (by decide) ?_
      refine V_sub (by simp) (ih (k + 1) (wI τ 51 k v) (by omega) (ho.wI (by omega) (by omega)) (fun j hj => ?_))
      by_cases e : j = k
      · rw [e]; exact wI_at
      · rw [wI_nj e]; exact hv j (by omega)
  refine V_iconst (v := 0) o dJ7_fill_53178_0 (by decide) ?_
  refine V_istore_n (ls' := [(2, _), (0, _), (1, _)]) o dJ7_fill_53178_1 rfl (by decide) rfl ?_
  refine V_aload_n o dJ7_fill_53178_2 rfl rfl ?_
  refine V_alen (v := 8) o dJ7_fill_53178_3 (by decide) (by decide) ?_
  refine V_istore_n (ls' := [(3, _), (2, _), (0, _), (1, _)]) o dJ7_fill_53178_4 rfl (by decide) rfl ?_
  exact V_sub (by simp; rfl) (loop 8 0 σ (by omega) Off.rf (fun j hj => absurd hj (Nat.not_lt_zero j)))
set_option maxRecDepth 20000 in
set_option maxHeartbeats 4000000 in
theorem c3_empty {w : Wp} (hf : Fit sh0 w) {σ : Mm} : Ct sh0 w 0 mX3_empty [.ref 52] σ (fun r' σ' => r' = none ∧ Off 52 54 σ σ' ∧ RwC [] σ') := by
  refine Ct_of hf (by decide) rfl (Nat.le_of_ble_eq_true rfl) (fun x o rt => ?_)
  refine V_aload_n o dX3_empty_0 rfl rfl ?_
  refine V_iconst (v := 0) o dX3_empty_1 (by decide) ?_
  refine V_putI o dX3_empty_2 rfl fl_X3_15 rfl rfl rfl ?_
  refine V_ret o rt dX3_empty_5 rfl ?_
  exact ⟨rfl, Off.rf.wI (by omega) (by omega), wI_at.trans rfl, Nat.zero_le _, fun j hj => absurd hj (Nat.not_lt_zero j)⟩
set_option maxRecDepth 20000 in
set_option maxHeartbeats 4000000 in
theorem c3_put {w : Wp} (hf : Fit sh0 w) {σ : Mm} {l : List Int64} (h : RwC l σ) (hl : l.length < 40) {v : Int64} : Ct sh0 w 0 mX3_put [.ref 52, .long v] σ (fun r' σ' => r' = none ∧ Off 52 54 σ σ' ∧ RwC (l ++ [v]) σ') := by
  refine Ct_of hf (by decide) rfl (Nat.le_of_ble_eq_true rfl) (fun x o rt => ?_)
  refine V_aload_n o dX3_put_0 rfl rfl ?_
  refine V_getIE (v := nI (l.length)) o dX3_put_1 rfl fl_X3_15 rfl h.1 ?_
  refine V_if_lt (tgt := 39) o dX3_put_4 (by decide) (fun c_4 => False.elim (absurd c_4 (Int32.not_lt.mpr (nI_le (a := 0) (Nat.zero_le _) (by omega))))) (fun c_4 => ?_)
  refine V_aload_n o dX3_put_7 rfl rfl ?_
  refine V_getIE (v := nI (l.length)) o dX3_put_8 rfl fl_X3_15 rfl h.1 ?_
  refine V_aload_n o dX3_put_11 rfl rfl ?_
  refine V_getR (t := 53) o dX3_put_12 rfl fl_X3_9 rfl ?_
  refine V_alen (v := 40) o dX3_put_15 (by decide) (by decide) ?_
  refine V_icmp_ge (tgt := 39) o dX3_put_16 (by decide) (fun c_16 => False.elim (absurd c_16 (nI_ge (b := 40) hl (by omega)))) (fun c_16 => ?_)
  refine V_aload_n o dX3_put_19 rfl rfl ?_
  refine V_getR (t := 53) o dX3_put_20 rfl fl_X3_9 rfl ?_
  refine V_aload_n o dX3_put_23 rfl rfl ?_
  refine V_getIE (v := nI (l.length)) o dX3_put_24 rfl fl_X3_15 rfl h.1 ?_
  refine V_lload_n o dX3_put_27 rfl rfl ?_
  refine V_lastN 40 o dX3_put_28 rfl rfl rfl (by omega) rfl ?_
  refine V_aload_n o dX3_put_29 rfl rfl ?_
  refine V_dup o dX3_put_30 rfl ?_
  refine V_getIE (v := nI (l.length)) o dX3_put_31 rfl fl_X3_15 rfl h.1 ?_
  refine V_iconst (v := 1) o dX3_put_34 (by decide) ?_
  refine V_iadd o dX3_put_35 ?_
  refine V_putI o dX3_put_36 rfl fl_X3_15 rfl rfl rfl ?_
  refine V_ret o rt dX3_put_39 rfl ?_
  refine ⟨rfl, (Off.rf.wL (by omega) (by omega)).wI (by omega) (by omega), ?_, by rw [List.length_append]; simp; omega, fun j hj => ?_⟩
  · rw [wI_at, List.length_append]; exact nI_1 _
  · show up2 σ.2.1 53 l.length v 53 j = _
    rw [List.length_append] at hj
    by_cases e : j = l.length
    · rw [e, up2_self, List.getD_eq_getElem?_getD, List.getElem?_append_right (Nat.le_refl _)]
      simp
    · have hj2 : j < l.length := by simp at hj; omega
      rw [up2_ne _ _ (Or.inr e), h.2.2 j hj2, List.getD_eq_getElem?_getD, List.getD_eq_getElem?_getD, List.getElem?_append_left hj2]
/-- the class's TEXT -/
def TxR (T : Nat → Int32) (n : Nat) (σ : Mm) : Prop := σ.1 60 1 = nI n ∧ n ≤ 100 ∧ ∀ j, j < n → σ.1 61 j = T j
theorem TxR.off {T : Nat → Int32} {n lo hi : Nat} {σ τ : Mm} (h : TxR T n σ) (ho : Off lo hi σ τ) (hd : 61 < lo ∨ hi ≤ 60) : TxR T n τ :=
  ⟨by rw [(ho 60 (by omega)).1]; exact h.1, h.2.1, fun j hj => by rw [(ho 61 (by omega)).1]; exact h.2.2 j hj⟩
def apT (v : Int32) (n : Nat) (m : Nat) (T : Nat → Int32) : Nat → Int32 := itr (sgF v n) 0 m T
set_option maxRecDepth 20000 in
set_option maxHeartbeats 4000000 in
theorem c5_append {w : Wp} (hf : Fit sh0 w) {σ : Mm} {T : Nat → Int32} {n : Nat} (h : TxR T n σ) (hn : n ≤ 96) {v : Int32} {T2 : Nat → Int32} (hT2 : itr (sgF v n) 0 4 T = T2) : Ct sh0 w 0 mX5_append [.ref 60, .int v] σ (fun r' σ' => r' = some (.int 1) ∧ Off 60 62 σ σ' ∧ TxR T2 (n + 4) σ') := by
  refine Ct_of hf (by decide) rfl (Nat.le_of_ble_eq_true rfl) (fun x o rt => ?_)
  have loop : ∀ m k (τ : Mm) (T : Nat → Int32), k + m = 4 → Off 60 62 σ τ → τ.1 60 1 = nI n → (∀ j, j < n + k → τ.1 61 j = T j) → itr (sgF v n) k m T = T2 → V sh0 w x mX5_append (0, 0) 20 [(2, .int (nI k)), (0, .ref 60), (1, .int v)] [] τ := by
    intro m
    induction m with
    | zero =>
      intro k τ T hk ho hl ht hR
      have h4 : k = 4 := by omega
      have hs : T = T2 := hR
      subst hs
      refine V_iload_n o dX5_append_20 rfl rfl ?_
      refine V_iconst (v := 4) o dX5_append_21 (by decide) ?_
      refine V_icmp_ge (tgt := 55) o dX5_append_22 (by decide) (fun c_22 => ?_) (fun c_22 => False.elim (c_22 (by rw [h4]; decide)))
      refine V_aload_n o dX5_append_55 rfl rfl ?_
      refine V_dup o dX5_append_56 rfl ?_
      refine V_getIE (v := nI (n)) o dX5_append_57 rfl fl_X5_15 rfl hl ?_
      refine V_iconst (v := 4) o dX5_append_60 (by decide) ?_
      refine V_iadd o dX5_append_61 ?_
      refine V_putI o dX5_append_62 rfl fl_X5_15 rfl rfl rfl ?_
      refine V_iconst (v := 1) o dX5_append_65 (by decide) ?_
      refine V_iret o rt dX5_append_66 rfl (by first | rfl | exact bz_z) ?_
      refine ⟨rfl, ho.wI (by omega) (by omega), ?_, by omega, fun j hj => ?_⟩
      · rw [wI_at]; exact nadd rfl rfl
      · rw [wI_ne (by omega)]; exact ht j (by omega)
    | succ m ih =>
      intro k τ T hk ho hl ht hR
      have hk4 : k < 4 := by omega
      rw [itr_succ] at hR
      refine V_iload_n o dX5_append_20 rfl rfl ?_
      refine V_iconst (v := 4) o dX5_append_21 (by decide) ?_
      refine V_icmp_ge (tgt := 55) o dX5_append_22 (by decide) (fun c_22 => False.elim (absurd c_22 (nI_ge (b := 4) (by omega) (by omega)))) (fun c_22 => ?_)
      refine V_aload_n o dX5_append_25 rfl rfl ?_
      refine V_getR (t := 61) o dX5_append_26 rfl fl_X5_9 rfl ?_
      refine V_aload_n o dX5_append_29 rfl rfl ?_
      refine V_getIE (v := nI (n)) o dX5_append_30 rfl fl_X5_15 rfl hl ?_
      refine V_iload_n o dX5_append_33 rfl rfl ?_
      refine V_iadd o dX5_append_34 ?_
      refine V_iload_n o dX5_append_35 rfl rfl ?_
      refine V_bipush (v := 24) o dX5_append_36 (by decide) ?_
      refine V_bipush (v := 8) o dX5_append_38 (by decide) ?_
      refine V_iload_n o dX5_append_40 rfl rfl ?_
      refine V_imul o dX5_append_41 ?_
      refine V_isub o dX5_append_42 ?_
      refine V_iushr o dX5_append_43 ?_
      refine V_sipush (v := 255) o dX5_append_44 (by decide) ?_
      refine V_iand o dX5_append_47 ?_
      refine V_topI (v' := sgV v k) (shV v hk4) ?_
      refine V_iastN 100 o dX5_append_48 rfl rfl (nadd rfl rfl) (by omega) rfl ?_
      refine V_iincV (v := nI (k + 1)) (ls' := [(2, _), (0, _), (1, _)]) o dX5_append_49 rfl (ninc 1 rfl) (by decide) rfl ?_
      refine V_goto (tgt := 20) o dX5_append_52 (by decide) ?_
      refine V_sub (by simp) (ih (k + 1) (wI τ 61 (n + k) (sgV v k)) (sgF v n k T) (by omega) (ho.wI (by omega) (by omega)) ?_ (fun j hj => ?_) hR)
      · rw [wI_ne (by omega)]; exact hl
      · unfold sgF
        by_cases e : j = n + k
        · rw [e, wI_at, upd, if_pos rfl]
        · rw [wI_nj e, upd, if_neg e]
          exact ht j (by omega)
  refine V_aload_n o dX5_append_0 rfl rfl ?_
  refine V_getIE (v := nI (n)) o dX5_append_1 rfl fl_X5_15 rfl h.1 ?_
  refine V_if_lt (tgt := 16) o dX5_append_4 (by decide) (fun c_4 => False.elim (absurd c_4 (Int32.not_lt.mpr (nI_le (a := 0) (Nat.zero_le _) (by omega))))) (fun c_4 => ?_)
  refine V_aload_n o dX5_append_7 rfl rfl ?_
  refine V_getIE (v := nI (n)) o dX5_append_8 rfl fl_X5_15 rfl h.1 ?_
  refine V_bipush (v := 96) o dX5_append_11 (by decide) ?_
  refine V_icmp_le (tgt := 18) o dX5_append_13 (by decide) (fun c_13 => ?_) (fun c_13 => False.elim (c_13 (nI_le (b := 96) hn (by omega))))
  refine V_iconst (v := 0) o dX5_append_18 (by decide) ?_
  refine V_istore_n (ls' := [(2, _), (0, _), (1, _)]) o dX5_append_19 rfl (by decide) rfl ?_
  exact V_sub (by simp; rfl) (loop 4 0 σ T (by omega) Off.rf h.1 (fun j hj => h.2.2 j (by omega)) hT2)
set_option maxRecDepth 20000 in
set_option maxHeartbeats 4000000 in
theorem c5_append_no {w : Wp} (hf : Fit sh0 w) {σ : Mm} {T : Nat → Int32} {n : Nat} (h : TxR T n σ) (hn : 96 < n) {v : Int32} : Cf sh0 w 0 mX5_append [.ref 60, .int v] σ (some (.int 0)) σ := by
  have hn2 := h.2.1
  refine Ct_of hf (by decide) rfl (Nat.le_of_ble_eq_true rfl) (fun x o rt => ?_)
  refine V_aload_n o dX5_append_0 rfl rfl ?_
  refine V_getIE (v := nI (n)) o dX5_append_1 rfl fl_X5_15 rfl h.1 ?_
  refine V_if_lt (tgt := 16) o dX5_append_4 (by decide) (fun c_4 => False.elim (absurd c_4 (Int32.not_lt.mpr (nI_le (a := 0) (Nat.zero_le _) (by omega))))) (fun c_4 => ?_)
  refine V_aload_n o dX5_append_7 rfl rfl ?_
  refine V_getIE (v := nI (n)) o dX5_append_8 rfl fl_X5_15 rfl h.1 ?_
  refine V_bipush (v := 96) o dX5_append_11 (by decide) ?_
  refine V_icmp_le (tgt := 18) o dX5_append_13 (by decide) (fun c_13 => False.elim (absurd c_13 (Int32.not_le.mpr (nI_lt (a := 96) hn (by omega))))) (fun c_13 => ?_)
  refine V_iconst (v := 0) o dX5_append_16 (by decide) ?_
  refine V_iret o rt dX5_append_17 rfl (by first | rfl | exact bz_z) ?_
  exact ⟨rfl, rfl⟩
set_option maxRecDepth 20000 in
set_option maxHeartbeats 4000000 in
theorem c5_shorten {w : Wp} (hf : Fit sh0 w) {σ : Mm} {v : Int32} : Cf sh0 w 0 mX5_shorten [.ref 60, .int v] σ none (wI σ 60 1 v) := by
  refine Ct_of hf (by decide) rfl (Nat.le_of_ble_eq_true rfl) (fun x o rt => ?_)
  refine V_aload_n o dX5_shorten_0 rfl rfl ?_
  refine V_iload_n o dX5_shorten_1 rfl rfl ?_
  refine V_putI o dX5_shorten_2 rfl fl_X5_15 rfl rfl rfl ?_
  refine V_ret o rt dX5_shorten_5 rfl ?_
  exact ⟨rfl, rfl⟩
set_option maxRecDepth 20000 in
set_option maxHeartbeats 4000000 in
theorem c5_at {w : Wp} (hf : Fit sh0 w) {σ : Mm} {T : Nat → Int32} {n : Nat} (h : TxR T n σ) {p : Nat} (hp : p < 2147483648) : Cf sh0 w 0 mX5_at [.ref 60, .int (nI p)] σ (some (.int (if p < n then T p else -1))) σ := by
  have hn2 := h.2.1
  refine Ct_of hf (by decide) rfl (Nat.le_of_ble_eq_true rfl) (fun x o rt => ?_)
  refine V_iload_n o dX5_at_0 rfl rfl ?_
  refine V_if_lt (tgt := 18) o dX5_at_1 (by decide) (fun c_1 => False.elim (absurd c_1 (Int32.not_lt.mpr (nI_le (a := 0) (Nat.zero_le _) hp)))) (fun c_1 => ?_)
  refine V_iload_n o dX5_at_4 rfl rfl ?_
  refine V_aload_n o dX5_at_5 rfl rfl ?_
  refine V_getIE (v := nI (n)) o dX5_at_6 rfl fl_X5_15 rfl h.1 ?_
  refine V_icmp_ge (tgt := 18) o dX5_at_9 (by decide) (fun c_9 => ?_) (fun c_9 => ?_)
  · refine V_iconst (v := -1) o dX5_at_18 (by decide) ?_
    refine V_goto (tgt := 28) o dX5_at_19 (by decide) ?_
    refine V_iret o rt dX5_at_28 rfl rfl ?_
    exact ⟨by rw [if_neg (fun q => absurd ((nI_leI (by omega) (by omega)).mp c_9) (by omega))], rfl⟩
  · refine V_iload_n o dX5_at_12 rfl rfl ?_
    refine V_bipush (v := 100) o dX5_at_13 (by decide) ?_
    refine V_icmp_lt (tgt := 22) o dX5_at_15 (by decide) (fun c_15 => ?_) (fun c_15 => ?_)
    · refine V_aload_n o dX5_at_22 rfl rfl ?_
      refine V_getR (t := 61) o dX5_at_23 rfl fl_X5_9 rfl ?_
      refine V_iload_n o dX5_at_26 rfl rfl ?_
      refine V_ialdN 100 o dX5_at_27 rfl rfl rfl (by have := (nI_ltI (by omega) (by omega)).mp (Int32.not_le.mp c_9); omega) rfl ?_
      refine V_iret o rt dX5_at_28 rfl rfl ?_
      have h9 := (nI_ltI (by omega) (by omega)).mp (Int32.not_le.mp c_9)
      exact ⟨by rw [if_pos h9, ← h.2.2 p h9], rfl⟩
    · refine V_iconst (v := -1) o dX5_at_18 (by decide) ?_
      refine V_goto (tgt := 28) o dX5_at_19 (by decide) ?_
      refine V_iret o rt dX5_at_28 rfl rfl ?_
      have h9 := (nI_ltI (by omega) (by omega)).mp (Int32.not_le.mp c_9)
      exact absurd (nI_lt (b := 100) (by omega) (by omega)) c_15
