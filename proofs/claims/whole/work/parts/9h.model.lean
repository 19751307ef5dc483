section
/-! addresses in a row -/
def ixL : List Nat → Nat → Nat
  | [], _ => 0
  | q :: qs, a => if a = q then 0 else ixL qs a + 1
def adL (p0 : Nat) (qs : List Nat) : Nat → Nat := fun a => qs.getD (a - p0) (qs.getD 0 0)
def unL (p0 : Nat) (qs : List Nat) : Nat → Nat := fun q => p0 + ixL qs q
theorem getD_mem {d : Nat} : ∀ (qs : List Nat) (i : Nat), i < qs.length → qs.getD i d ∈ qs
  | [], _, h => absurd h (Nat.not_lt_zero _)
  | q :: qs, 0, _ => List.mem_cons_self
  | q :: qs, i + 1, h => List.mem_cons_of_mem _ (getD_mem qs i (Nat.lt_of_succ_lt_succ h))
theorem ixL_get {d : Nat} : ∀ (qs : List Nat), qs.Nodup → ∀ i, i < qs.length → ixL qs (qs.getD i d) = i
  | [], _, _, h => absurd h (Nat.not_lt_zero _)
  | q :: qs, _, 0, _ => if_pos rfl
  | q :: qs, hn, i + 1, h => by
    have hi : i < qs.length := Nat.lt_of_succ_lt_succ h
    have hm := getD_mem (d := d) qs i hi
    have hne : qs.getD i d ≠ q := fun e => (List.nodup_cons.mp hn).1 (e ▸ hm)
    show (if qs.getD i d = q then 0 else ixL qs (qs.getD i d) + 1) = i + 1
    rw [if_neg hne, ixL_get qs (List.nodup_cons.mp hn).2 i hi]
theorem unL_adL {p0 a : Nat} {qs : List Nat} (hn : qs.Nodup) (h1 : p0 ≤ a) (h2 : a < p0 + qs.length) : unL p0 qs (adL p0 qs a) = a := by
  unfold unL adL
  rw [ixL_get qs hn (a - p0) (by omega)]
  omega
theorem nd_of {A : Nat → Prop} {ws : va_W} (h : va_D A ws) : (ws.map Prod.fst).Nodup := by
  unfold List.Nodup
  rw [List.pairwise_iff_getElem]
  intro i j hi hj hij e
  rw [List.length_map] at hi hj
  rw [List.getElem_map, List.getElem_map] at e
  have := h.1 i j ws[i] ws[j] (List.getElem?_eq_getElem hi) (List.getElem?_eq_getElem hj) e
  omega
/-- the reference alone -/
def kdM (a : Nat) : Nat := if a < 67 then 99 else kd0 a
def shM : Sh := ([67, 68, 69, 70, 71, 72, 73, 74, 75, 76, 77, 78], kdM, ln0, rc0)
theorem fitM {w : Wp} {qs : List Nat} (hl : qs.length = 12) (hn : qs.Nodup) : Fit shM (wA w (adL 67 qs) (unL 67 qs)) := by
  refine ⟨by decide, fun a h => ?_, fun a h => ⟨?_, Nat.zero_le _⟩⟩
  · change (if a < 67 then 99 else kd0 a) < 14 at h
    by_cases e : a < 67
    · rw [if_pos e] at h; omega
    · rw [if_neg e] at h
      by_cases e2 : a < 79
      · rcases (show a = 67 ∨ a = 68 ∨ a = 69 ∨ a = 70 ∨ a = 71 ∨ a = 72 ∨ a = 73 ∨ a = 74 ∨ a = 75 ∨ a = 76 ∨ a = 77 ∨ a = 78 by omega) with rfl | rfl | rfl | rfl | rfl | rfl | rfl | rfl | rfl | rfl | rfl | rfl <;> decide
      · have hk : kd0 a = 99 := by
          unfold kd0
          rw [List.getD_eq_getElem?_getD, List.getElem?_eq_none (show kdl.length ≤ a by have : kdl.length = 79 := rfl; omega)]
          rfl
        rw [hk] at h
        omega
  · change unL 67 qs (adL 67 qs a) = a
    have h' : 67 ≤ a ∧ a < 79 := by
      have h2 : a = 67 ∨ a = 68 ∨ a = 69 ∨ a = 70 ∨ a = 71 ∨ a = 72 ∨ a = 73 ∨ a = 74 ∨ a = 75 ∨ a = 76 ∨ a = 77 ∨ a = 78 := by simpa [shM] using h
      omega
    exact unL_adL hn h'.1 (by omega)
theorem adL_A {qs : List Nat} (hl : qs.length = 12) : ∀ q, adL 67 qs (unL 67 qs q) = q → ∃ b ∈ shM.1, adL 67 qs b = q := fun q h => by
  have mem : ∀ i, i < 12 → 67 + i ∈ shM.1 := by decide
  by_cases e : ixL qs q < 12
  · exact ⟨67 + ixL qs q, mem _ e, h⟩
  · refine ⟨67 + 0, mem 0 (by decide), ?_⟩
    unfold adL unL at h
    rw [List.getD_eq_getElem?_getD, List.getElem?_eq_none (by omega)] at h
    unfold adL
    rw [show 67 + 0 - 67 = 0 from rfl]
    cases qs with
    | nil => cases hl
    | cons a r => exact h
theorem cM_puts {w : Wp} (hf : Fit shM w) {σ : Mm} (hd : σ.1 67 8 = nI 0) {k v : Int32} {n : Nat} (hk : k = nI n) (hn : 0 + n < 846) : Ct shM w 0 mX9_puts [.ref 67, .int k, .int v] σ (fun r' σ' => r' = none ∧ σ' = wI σ 70 (0 + n) v) := by
  refine Ct_of hf (by decide) rfl (Nat.le_of_ble_eq_true rfl) (fun x o rt => ?_)
  refine V_aload_n o dX9_puts_0 rfl rfl ?_
  refine V_getR (t := 70) o dX9_puts_1 rfl fl_X9_49 rfl ?_
  refine V_aload_n o dX9_puts_4 rfl rfl ?_
  refine V_getI o dX9_puts_5 rfl fl_X9_80 rfl ?_
  refine V_iload_n o dX9_puts_8 rfl rfl ?_
  refine V_iadd o dX9_puts_9 ?_
  refine V_iload_n o dX9_puts_10 rfl rfl ?_
  refine V_iastN 846 o dX9_puts_11 rfl rfl (nadd hd hk) hn rfl ?_
  refine V_ret o rt dX9_puts_12 rfl ?_
  exact ⟨rfl, rfl⟩
theorem U_iadd {w : Wp} {A : Nat → Prop} {x : Cx} {own : String} {M : Md} {cn : Nat × Nat} {pc : Nat} {ls : List (Nat × Value)} {st : List Value} {ws : va_W} {a b v : Int32} (o : Ou w A x own M) (hd : decode M.2.1 pc = .ok (.iadd, 1)) (hv : a + b = v) (k : U w A x M cn (pc + 1) ls (.int v :: st) ws) : U w A x M cn pc ls (.int b :: .int a :: st) ws := fun H locs la h1 h2 h3 h4 => lv_iadd o.1.1 o.1.2.1 hd (by rw [hv]; exact k H locs la h1 h2 h3 h4)
def sgM : Mm := (wI (wI (wI (wI Mz0 70 (0 + 0) 3) 70 (0 + 1) 4) 70 (0 + 2) 4) 70 (0 + 3) 4)
theorem lo_X9_43 : Lo0 RX9 43 := gw_at 874 (by decide +kernel) rfl
set_option maxRecDepth 20000 in
set_option maxHeartbeats 4000000 in
theorem ci_X9 {w : Wp} {h0 : Nat}  : Ci w 2 mX9_init h0 [] (.inr (9, [.int 0, .int 0, .null, .null, .int 0, .int 0, .int 0, .null, .int 0, .null, .int 0, .null, .null, .int 0, .null, .null, .null, .null, .int 0, .int 0, .null])) 11 5454 (fun ws => ∃ q1 q2 q3 q4 q5 q6 q7 q8 q9 q10 q11, ws = WL shM (wA w (adL 67 [h0, q1, q2, q3, q4, q5, q6, q7, q8, q9, q10, q11]) (unL 67 [h0, q1, q2, q3, q4, q5, q6, q7, q8, q9, q10, q11])) sgM) := by
  refine Ci_of (ls := [(0, .ref h0)]) (by decide) rfl rfl (Nat.le_of_ble_eq_true rfl) (fun A x o hR hm ret => ?_)
  refine U_aload_n o dX9_init_0 rfl rfl ?_
  refine U_obj o dX9_init_1 lo_X9_43 (Nat.le_of_ble_eq_true rfl) (by rw [hR]; exact ⟨Nat.le_of_ble_eq_true rfl, Nat.le_of_ble_eq_true rfl⟩) ?_
  refine U_aload_n o dX9_init_4 rfl rfl ?_
  refine U_bipush (v := 64) o dX9_init_5 (by decide) ?_
  refine U_newL (N := 64) o dX9_init_7 (by decide) (by decide) (by decide) (by rw [hR]; exact ⟨Nat.le_of_ble_eq_true rfl, Nat.le_of_ble_eq_true rfl⟩) (fun q1 => ?_)
  show U w A x mX9_init (1, 64) 9 [(0, .ref h0)] [.ref q1, .ref h0] [(h0, .inr (9, [.int 0, .int 0, .null, .null, .int 0, .int 0, .int 0, .null, .int 0, .null, .int 0, .null, .null, .int 0, .null, .null, .null, .null, .int 0, .int 0, .null])), (q1, .inl (w.2.2.2.2.2.2.1, 64, .inr (.inl (fun _ => 0))))]
  refine U_putF (ci := 9) (q0 := 0) (fs := [.int 0, .int 0, .null, .null, .int 0, .int 0, .int 0, .null, .int 0, .null, .int 0, .null, .null, .int 0, .null, .null, .null, .null, .int 0, .int 0, .null]) (ws' := [(h0, .inr (9, [.int 0, .int 0, .ref q1, .null, .int 0, .int 0, .int 0, .null, .int 0, .null, .int 0, .null, .null, .int 0, .null, .null, .null, .null, .int 0, .int 0, .null])), (q1, .inl (w.2.2.2.2.2.2.1, 64, .inr (.inl (fun _ => 0))))]) o hm dX9_init_9 fl_X9_7 rfl rfl rfl rfl rfl (Nat.le_of_ble_eq_true rfl) rfl ?_
  refine U_aload_n o dX9_init_12 rfl rfl ?_
  refine U_bipush (v := 100) o dX9_init_13 (by decide) ?_
  refine U_newI (N := 100) o dX9_init_15 (by decide) (by decide) (by decide) (by rw [hR]; exact ⟨Nat.le_of_ble_eq_true rfl, Nat.le_of_ble_eq_true rfl⟩) (fun q2 => ?_)
  show U w A x mX9_init (2, 164) 17 [(0, .ref h0)] [.ref q2, .ref h0] [(h0, .inr (9, [.int 0, .int 0, .ref q1, .null, .int 0, .int 0, .int 0, .null, .int 0, .null, .int 0, .null, .null, .int 0, .null, .null, .null, .null, .int 0, .int 0, .null])), (q1, .inl (w.2.2.2.2.2.2.1, 64, .inr (.inl (fun _ => 0)))), (q2, .inl (w.2.2.2.2.2.1, 100, .inl (fun _ => 0)))]
  refine U_putF (ci := 9) (q0 := 0) (fs := [.int 0, .int 0, .ref q1, .null, .int 0, .int 0, .int 0, .null, .int 0, .null, .int 0, .null, .null, .int 0, .null, .null, .null, .null, .int 0, .int 0, .null]) (ws' := [(h0, .inr (9, [.int 0, .int 0, .ref q1, .ref q2, .int 0, .int 0, .int 0, .null, .int 0, .null, .int 0, .null, .null, .int 0, .null, .null, .null, .null, .int 0, .int 0, .null])), (q1, .inl (w.2.2.2.2.2.2.1, 64, .inr (.inl (fun _ => 0)))), (q2, .inl (w.2.2.2.2.2.1, 100, .inl (fun _ => 0)))]) o hm dX9_init_17 fl_X9_17 rfl rfl rfl rfl rfl (Nat.le_of_ble_eq_true rfl) rfl ?_
  refine U_aload_n o dX9_init_20 rfl rfl ?_
  refine U_sipush (v := 846) o dX9_init_21 (by decide) ?_
  refine U_newI (N := 846) o dX9_init_24 (by decide) (by decide) (by decide) (by rw [hR]; exact ⟨Nat.le_of_ble_eq_true rfl, Nat.le_of_ble_eq_true rfl⟩) (fun q3 => ?_)
  show U w A x mX9_init (3, 1010) 26 [(0, .ref h0)] [.ref q3, .ref h0] [(h0, .inr (9, [.int 0, .int 0, .ref q1, .ref q2, .int 0, .int 0, .int 0, .null, .int 0, .null, .int 0, .null, .null, .int 0, .null, .null, .null, .null, .int 0, .int 0, .null])), (q1, .inl (w.2.2.2.2.2.2.1, 64, .inr (.inl (fun _ => 0)))), (q2, .inl (w.2.2.2.2.2.1, 100, .inl (fun _ => 0))), (q3, .inl (w.2.2.2.2.2.1, 846, .inl (fun _ => 0)))]
  refine U_putF (ci := 9) (q0 := 0) (fs := [.int 0, .int 0, .ref q1, .ref q2, .int 0, .int 0, .int 0, .null, .int 0, .null, .int 0, .null, .null, .int 0, .null, .null, .null, .null, .int 0, .int 0, .null]) (ws' := [(h0, .inr (9, [.int 0, .int 0, .ref q1, .ref q2, .int 0, .int 0, .int 0, .ref q3, .int 0, .null, .int 0, .null, .null, .int 0, .null, .null, .null, .null, .int 0, .int 0, .null])), (q1, .inl (w.2.2.2.2.2.2.1, 64, .inr (.inl (fun _ => 0)))), (q2, .inl (w.2.2.2.2.2.1, 100, .inl (fun _ => 0))), (q3, .inl (w.2.2.2.2.2.1, 846, .inl (fun _ => 0)))]) o hm dX9_init_26 fl_X9_49 rfl rfl rfl rfl rfl (Nat.le_of_ble_eq_true rfl) rfl ?_
  refine U_aload_n o dX9_init_29 rfl rfl ?_
  refine U_bipush (v := 16) o dX9_init_30 (by decide) ?_
  refine U_newI (N := 16) o dX9_init_32 (by decide) (by decide) (by decide) (by rw [hR]; exact ⟨Nat.le_of_ble_eq_true rfl, Nat.le_of_ble_eq_true rfl⟩) (fun q4 => ?_)
  show U w A x mX9_init (4, 1026) 34 [(0, .ref h0)] [.ref q4, .ref h0] [(h0, .inr (9, [.int 0, .int 0, .ref q1, .ref q2, .int 0, .int 0, .int 0, .ref q3, .int 0, .null, .int 0, .null, .null, .int 0, .null, .null, .null, .null, .int 0, .int 0, .null])), (q1, .inl (w.2.2.2.2.2.2.1, 64, .inr (.inl (fun _ => 0)))), (q2, .inl (w.2.2.2.2.2.1, 100, .inl (fun _ => 0))), (q3, .inl (w.2.2.2.2.2.1, 846, .inl (fun _ => 0))), (q4, .inl (w.2.2.2.2.2.1, 16, .inl (fun _ => 0)))]
  refine U_putF (ci := 9) (q0 := 0) (fs := [.int 0, .int 0, .ref q1, .ref q2, .int 0, .int 0, .int 0, .ref q3, .int 0, .null, .int 0, .null, .null, .int 0, .null, .null, .null, .null, .int 0, .int 0, .null]) (ws' := [(h0, .inr (9, [.int 0, .int 0, .ref q1, .ref q2, .int 0, .int 0, .int 0, .ref q3, .int 0, .ref q4, .int 0, .null, .null, .int 0, .null, .null, .null, .null, .int 0, .int 0, .null])), (q1, .inl (w.2.2.2.2.2.2.1, 64, .inr (.inl (fun _ => 0)))), (q2, .inl (w.2.2.2.2.2.1, 100, .inl (fun _ => 0))), (q3, .inl (w.2.2.2.2.2.1, 846, .inl (fun _ => 0))), (q4, .inl (w.2.2.2.2.2.1, 16, .inl (fun _ => 0)))]) o hm dX9_init_34 fl_X9_52 rfl rfl rfl rfl rfl (Nat.le_of_ble_eq_true rfl) rfl ?_
  refine U_aload_n o dX9_init_37 rfl rfl ?_
  refine U_sipush (v := 2000) o dX9_init_38 (by decide) ?_
  refine U_newI (N := 2000) o dX9_init_41 (by decide) (by decide) (by decide) (by rw [hR]; exact ⟨Nat.le_of_ble_eq_true rfl, Nat.le_of_ble_eq_true rfl⟩) (fun q5 => ?_)
  show U w A x mX9_init (5, 3026) 43 [(0, .ref h0)] [.ref q5, .ref h0] [(h0, .inr (9, [.int 0, .int 0, .ref q1, .ref q2, .int 0, .int 0, .int 0, .ref q3, .int 0, .ref q4, .int 0, .null, .null, .int 0, .null, .null, .null, .null, .int 0, .int 0, .null])), (q1, .inl (w.2.2.2.2.2.2.1, 64, .inr (.inl (fun _ => 0)))), (q2, .inl (w.2.2.2.2.2.1, 100, .inl (fun _ => 0))), (q3, .inl (w.2.2.2.2.2.1, 846, .inl (fun _ => 0))), (q4, .inl (w.2.2.2.2.2.1, 16, .inl (fun _ => 0))), (q5, .inl (w.2.2.2.2.2.1, 2000, .inl (fun _ => 0)))]
  refine U_putF (ci := 9) (q0 := 0) (fs := [.int 0, .int 0, .ref q1, .ref q2, .int 0, .int 0, .int 0, .ref q3, .int 0, .ref q4, .int 0, .null, .null, .int 0, .null, .null, .null, .null, .int 0, .int 0, .null]) (ws' := [(h0, .inr (9, [.int 0, .int 0, .ref q1, .ref q2, .int 0, .int 0, .int 0, .ref q3, .int 0, .ref q4, .int 0, .ref q5, .null, .int 0, .null, .null, .null, .null, .int 0, .int 0, .null])), (q1, .inl (w.2.2.2.2.2.2.1, 64, .inr (.inl (fun _ => 0)))), (q2, .inl (w.2.2.2.2.2.1, 100, .inl (fun _ => 0))), (q3, .inl (w.2.2.2.2.2.1, 846, .inl (fun _ => 0))), (q4, .inl (w.2.2.2.2.2.1, 16, .inl (fun _ => 0))), (q5, .inl (w.2.2.2.2.2.1, 2000, .inl (fun _ => 0)))]) o hm dX9_init_43 fl_X9_55 rfl rfl rfl rfl rfl (Nat.le_of_ble_eq_true rfl) rfl ?_
  refine U_aload_n o dX9_init_46 rfl rfl ?_
  refine U_sipush (v := 2000) o dX9_init_47 (by decide) ?_
  refine U_newI (N := 2000) o dX9_init_50 (by decide) (by decide) (by decide) (by rw [hR]; exact ⟨Nat.le_of_ble_eq_true rfl, Nat.le_of_ble_eq_true rfl⟩) (fun q6 => ?_)
  show U w A x mX9_init (6, 5026) 52 [(0, .ref h0)] [.ref q6, .ref h0] [(h0, .inr (9, [.int 0, .int 0, .ref q1, .ref q2, .int 0, .int 0, .int 0, .ref q3, .int 0, .ref q4, .int 0, .ref q5, .null, .int 0, .null, .null, .null, .null, .int 0, .int 0, .null])), (q1, .inl (w.2.2.2.2.2.2.1, 64, .inr (.inl (fun _ => 0)))), (q2, .inl (w.2.2.2.2.2.1, 100, .inl (fun _ => 0))), (q3, .inl (w.2.2.2.2.2.1, 846, .inl (fun _ => 0))), (q4, .inl (w.2.2.2.2.2.1, 16, .inl (fun _ => 0))), (q5, .inl (w.2.2.2.2.2.1, 2000, .inl (fun _ => 0))), (q6, .inl (w.2.2.2.2.2.1, 2000, .inl (fun _ => 0)))]
  refine U_putF (ci := 9) (q0 := 0) (fs := [.int 0, .int 0, .ref q1, .ref q2, .int 0, .int 0, .int 0, .ref q3, .int 0, .ref q4, .int 0, .ref q5, .null, .int 0, .null, .null, .null, .null, .int 0, .int 0, .null]) (ws' := [(h0, .inr (9, [.int 0, .int 0, .ref q1, .ref q2, .int 0, .int 0, .int 0, .ref q3, .int 0, .ref q4, .int 0, .ref q5, .ref q6, .int 0, .null, .null, .null, .null, .int 0, .int 0, .null])), (q1, .inl (w.2.2.2.2.2.2.1, 64, .inr (.inl (fun _ => 0)))), (q2, .inl (w.2.2.2.2.2.1, 100, .inl (fun _ => 0))), (q3, .inl (w.2.2.2.2.2.1, 846, .inl (fun _ => 0))), (q4, .inl (w.2.2.2.2.2.1, 16, .inl (fun _ => 0))), (q5, .inl (w.2.2.2.2.2.1, 2000, .inl (fun _ => 0))), (q6, .inl (w.2.2.2.2.2.1, 2000, .inl (fun _ => 0)))]) o hm dX9_init_52 fl_X9_58 rfl rfl rfl rfl rfl (Nat.le_of_ble_eq_true rfl) rfl ?_
  refine U_aload_n o dX9_init_55 rfl rfl ?_
  refine U_iconst (v := 4) o dX9_init_56 (by decide) ?_
  refine U_newI (N := 4) o dX9_init_57 (by decide) (by decide) (by decide) (by rw [hR]; exact ⟨Nat.le_of_ble_eq_true rfl, Nat.le_of_ble_eq_true rfl⟩) (fun q7 => ?_)
  show U w A x mX9_init (7, 5030) 59 [(0, .ref h0)] [.ref q7, .ref h0] [(h0, .inr (9, [.int 0, .int 0, .ref q1, .ref q2, .int 0, .int 0, .int 0, .ref q3, .int 0, .ref q4, .int 0, .ref q5, .ref q6, .int 0, .null, .null, .null, .null, .int 0, .int 0, .null])), (q1, .inl (w.2.2.2.2.2.2.1, 64, .inr (.inl (fun _ => 0)))), (q2, .inl (w.2.2.2.2.2.1, 100, .inl (fun _ => 0))), (q3, .inl (w.2.2.2.2.2.1, 846, .inl (fun _ => 0))), (q4, .inl (w.2.2.2.2.2.1, 16, .inl (fun _ => 0))), (q5, .inl (w.2.2.2.2.2.1, 2000, .inl (fun _ => 0))), (q6, .inl (w.2.2.2.2.2.1, 2000, .inl (fun _ => 0))), (q7, .inl (w.2.2.2.2.2.1, 4, .inl (fun _ => 0)))]
  refine U_putF (ci := 9) (q0 := 0) (fs := [.int 0, .int 0, .ref q1, .ref q2, .int 0, .int 0, .int 0, .ref q3, .int 0, .ref q4, .int 0, .ref q5, .ref q6, .int 0, .null, .null, .null, .null, .int 0, .int 0, .null]) (ws' := [(h0, .inr (9, [.int 0, .int 0, .ref q1, .ref q2, .int 0, .int 0, .int 0, .ref q3, .int 0, .ref q4, .int 0, .ref q5, .ref q6, .int 0, .ref q7, .null, .null, .null, .int 0, .int 0, .null])), (q1, .inl (w.2.2.2.2.2.2.1, 64, .inr (.inl (fun _ => 0)))), (q2, .inl (w.2.2.2.2.2.1, 100, .inl (fun _ => 0))), (q3, .inl (w.2.2.2.2.2.1, 846, .inl (fun _ => 0))), (q4, .inl (w.2.2.2.2.2.1, 16, .inl (fun _ => 0))), (q5, .inl (w.2.2.2.2.2.1, 2000, .inl (fun _ => 0))), (q6, .inl (w.2.2.2.2.2.1, 2000, .inl (fun _ => 0))), (q7, .inl (w.2.2.2.2.2.1, 4, .inl (fun _ => 0)))]) o hm dX9_init_59 fl_X9_61 rfl rfl rfl rfl rfl (Nat.le_of_ble_eq_true rfl) rfl ?_
  refine U_aload_n o dX9_init_62 rfl rfl ?_
  refine U_sipush (v := 400) o dX9_init_63 (by decide) ?_
  refine U_newI (N := 400) o dX9_init_66 (by decide) (by decide) (by decide) (by rw [hR]; exact ⟨Nat.le_of_ble_eq_true rfl, Nat.le_of_ble_eq_true rfl⟩) (fun q8 => ?_)
  show U w A x mX9_init (8, 5430) 68 [(0, .ref h0)] [.ref q8, .ref h0] [(h0, .inr (9, [.int 0, .int 0, .ref q1, .ref q2, .int 0, .int 0, .int 0, .ref q3, .int 0, .ref q4, .int 0, .ref q5, .ref q6, .int 0, .ref q7, .null, .null, .null, .int 0, .int 0, .null])), (q1, .inl (w.2.2.2.2.2.2.1, 64, .inr (.inl (fun _ => 0)))), (q2, .inl (w.2.2.2.2.2.1, 100, .inl (fun _ => 0))), (q3, .inl (w.2.2.2.2.2.1, 846, .inl (fun _ => 0))), (q4, .inl (w.2.2.2.2.2.1, 16, .inl (fun _ => 0))), (q5, .inl (w.2.2.2.2.2.1, 2000, .inl (fun _ => 0))), (q6, .inl (w.2.2.2.2.2.1, 2000, .inl (fun _ => 0))), (q7, .inl (w.2.2.2.2.2.1, 4, .inl (fun _ => 0))), (q8, .inl (w.2.2.2.2.2.1, 400, .inl (fun _ => 0)))]
  refine U_putF (ci := 9) (q0 := 0) (fs := [.int 0, .int 0, .ref q1, .ref q2, .int 0, .int 0, .int 0, .ref q3, .int 0, .ref q4, .int 0, .ref q5, .ref q6, .int 0, .ref q7, .null, .null, .null, .int 0, .int 0, .null]) (ws' := [(h0, .inr (9, [.int 0, .int 0, .ref q1, .ref q2, .int 0, .int 0, .int 0, .ref q3, .int 0, .ref q4, .int 0, .ref q5, .ref q6, .int 0, .ref q7, .ref q8, .null, .null, .int 0, .int 0, .null])), (q1, .inl (w.2.2.2.2.2.2.1, 64, .inr (.inl (fun _ => 0)))), (q2, .inl (w.2.2.2.2.2.1, 100, .inl (fun _ => 0))), (q3, .inl (w.2.2.2.2.2.1, 846, .inl (fun _ => 0))), (q4, .inl (w.2.2.2.2.2.1, 16, .inl (fun _ => 0))), (q5, .inl (w.2.2.2.2.2.1, 2000, .inl (fun _ => 0))), (q6, .inl (w.2.2.2.2.2.1, 2000, .inl (fun _ => 0))), (q7, .inl (w.2.2.2.2.2.1, 4, .inl (fun _ => 0))), (q8, .inl (w.2.2.2.2.2.1, 400, .inl (fun _ => 0)))]) o hm dX9_init_68 fl_X9_64 rfl rfl rfl rfl rfl (Nat.le_of_ble_eq_true rfl) rfl ?_
  refine U_aload_n o dX9_init_71 rfl rfl ?_
  refine U_bipush (v := 8) o dX9_init_72 (by decide) ?_
  refine U_newI (N := 8) o dX9_init_74 (by decide) (by decide) (by decide) (by rw [hR]; exact ⟨Nat.le_of_ble_eq_true rfl, Nat.le_of_ble_eq_true rfl⟩) (fun q9 => ?_)
  show U w A x mX9_init (9, 5438) 76 [(0, .ref h0)] [.ref q9, .ref h0] [(h0, .inr (9, [.int 0, .int 0, .ref q1, .ref q2, .int 0, .int 0, .int 0, .ref q3, .int 0, .ref q4, .int 0, .ref q5, .ref q6, .int 0, .ref q7, .ref q8, .null, .null, .int 0, .int 0, .null])), (q1, .inl (w.2.2.2.2.2.2.1, 64, .inr (.inl (fun _ => 0)))), (q2, .inl (w.2.2.2.2.2.1, 100, .inl (fun _ => 0))), (q3, .inl (w.2.2.2.2.2.1, 846, .inl (fun _ => 0))), (q4, .inl (w.2.2.2.2.2.1, 16, .inl (fun _ => 0))), (q5, .inl (w.2.2.2.2.2.1, 2000, .inl (fun _ => 0))), (q6, .inl (w.2.2.2.2.2.1, 2000, .inl (fun _ => 0))), (q7, .inl (w.2.2.2.2.2.1, 4, .inl (fun _ => 0))), (q8, .inl (w.2.2.2.2.2.1, 400, .inl (fun _ => 0))), (q9, .inl (w.2.2.2.2.2.1, 8, .inl (fun _ => 0)))]
  refine U_putF (ci := 9) (q0 := 0) (fs := [.int 0, .int 0, .ref q1, .ref q2, .int 0, .int 0, .int 0, .ref q3, .int 0, .ref q4, .int 0, .ref q5, .ref q6, .int 0, .ref q7, .ref q8, .null, .null, .int 0, .int 0, .null]) (ws' := [(h0, .inr (9, [.int 0, .int 0, .ref q1, .ref q2, .int 0, .int 0, .int 0, .ref q3, .int 0, .ref q4, .int 0, .ref q5, .ref q6, .int 0, .ref q7, .ref q8, .ref q9, .null, .int 0, .int 0, .null])), (q1, .inl (w.2.2.2.2.2.2.1, 64, .inr (.inl (fun _ => 0)))), (q2, .inl (w.2.2.2.2.2.1, 100, .inl (fun _ => 0))), (q3, .inl (w.2.2.2.2.2.1, 846, .inl (fun _ => 0))), (q4, .inl (w.2.2.2.2.2.1, 16, .inl (fun _ => 0))), (q5, .inl (w.2.2.2.2.2.1, 2000, .inl (fun _ => 0))), (q6, .inl (w.2.2.2.2.2.1, 2000, .inl (fun _ => 0))), (q7, .inl (w.2.2.2.2.2.1, 4, .inl (fun _ => 0))), (q8, .inl (w.2.2.2.2.2.1, 400, .inl (fun _ => 0))), (q9, .inl (w.2.2.2.2.2.1, 8, .inl (fun _ => 0)))]) o hm dX9_init_76 fl_X9_67 rfl rfl rfl rfl rfl (Nat.le_of_ble_eq_true rfl) rfl ?_
  refine U_aload_n o dX9_init_79 rfl rfl ?_
  refine U_bipush (v := 8) o dX9_init_80 (by decide) ?_
  refine U_newI (N := 8) o dX9_init_82 (by decide) (by decide) (by decide) (by rw [hR]; exact ⟨Nat.le_of_ble_eq_true rfl, Nat.le_of_ble_eq_true rfl⟩) (fun q10 => ?_)
  show U w A x mX9_init (10, 5446) 84 [(0, .ref h0)] [.ref q10, .ref h0] [(h0, .inr (9, [.int 0, .int 0, .ref q1, .ref q2, .int 0, .int 0, .int 0, .ref q3, .int 0, .ref q4, .int 0, .ref q5, .ref q6, .int 0, .ref q7, .ref q8, .ref q9, .null, .int 0, .int 0, .null])), (q1, .inl (w.2.2.2.2.2.2.1, 64, .inr (.inl (fun _ => 0)))), (q2, .inl (w.2.2.2.2.2.1, 100, .inl (fun _ => 0))), (q3, .inl (w.2.2.2.2.2.1, 846, .inl (fun _ => 0))), (q4, .inl (w.2.2.2.2.2.1, 16, .inl (fun _ => 0))), (q5, .inl (w.2.2.2.2.2.1, 2000, .inl (fun _ => 0))), (q6, .inl (w.2.2.2.2.2.1, 2000, .inl (fun _ => 0))), (q7, .inl (w.2.2.2.2.2.1, 4, .inl (fun _ => 0))), (q8, .inl (w.2.2.2.2.2.1, 400, .inl (fun _ => 0))), (q9, .inl (w.2.2.2.2.2.1, 8, .inl (fun _ => 0))), (q10, .inl (w.2.2.2.2.2.1, 8, .inl (fun _ => 0)))]
  refine U_putF (ci := 9) (q0 := 0) (fs := [.int 0, .int 0, .ref q1, .ref q2, .int 0, .int 0, .int 0, .ref q3, .int 0, .ref q4, .int 0, .ref q5, .ref q6, .int 0, .ref q7, .ref q8, .ref q9, .null, .int 0, .int 0, .null]) (ws' := [(h0, .inr (9, [.int 0, .int 0, .ref q1, .ref q2, .int 0, .int 0, .int 0, .ref q3, .int 0, .ref q4, .int 0, .ref q5, .ref q6, .int 0, .ref q7, .ref q8, .ref q9, .ref q10, .int 0, .int 0, .null])), (q1, .inl (w.2.2.2.2.2.2.1, 64, .inr (.inl (fun _ => 0)))), (q2, .inl (w.2.2.2.2.2.1, 100, .inl (fun _ => 0))), (q3, .inl (w.2.2.2.2.2.1, 846, .inl (fun _ => 0))), (q4, .inl (w.2.2.2.2.2.1, 16, .inl (fun _ => 0))), (q5, .inl (w.2.2.2.2.2.1, 2000, .inl (fun _ => 0))), (q6, .inl (w.2.2.2.2.2.1, 2000, .inl (fun _ => 0))), (q7, .inl (w.2.2.2.2.2.1, 4, .inl (fun _ => 0))), (q8, .inl (w.2.2.2.2.2.1, 400, .inl (fun _ => 0))), (q9, .inl (w.2.2.2.2.2.1, 8, .inl (fun _ => 0))), (q10, .inl (w.2.2.2.2.2.1, 8, .inl (fun _ => 0)))]) o hm dX9_init_84 fl_X9_70 rfl rfl rfl rfl rfl (Nat.le_of_ble_eq_true rfl) rfl ?_
  refine U_aload_n o dX9_init_87 rfl rfl ?_
  refine U_bipush (v := 8) o dX9_init_88 (by decide) ?_
  refine U_newI (N := 8) o dX9_init_90 (by decide) (by decide) (by decide) (by rw [hR]; exact ⟨Nat.le_of_ble_eq_true rfl, Nat.le_of_ble_eq_true rfl⟩) (fun q11 => ?_)
  show U w A x mX9_init (11, 5454) 92 [(0, .ref h0)] [.ref q11, .ref h0] [(h0, .inr (9, [.int 0, .int 0, .ref q1, .ref q2, .int 0, .int 0, .int 0, .ref q3, .int 0, .ref q4, .int 0, .ref q5, .ref q6, .int 0, .ref q7, .ref q8, .ref q9, .ref q10, .int 0, .int 0, .null])), (q1, .inl (w.2.2.2.2.2.2.1, 64, .inr (.inl (fun _ => 0)))), (q2, .inl (w.2.2.2.2.2.1, 100, .inl (fun _ => 0))), (q3, .inl (w.2.2.2.2.2.1, 846, .inl (fun _ => 0))), (q4, .inl (w.2.2.2.2.2.1, 16, .inl (fun _ => 0))), (q5, .inl (w.2.2.2.2.2.1, 2000, .inl (fun _ => 0))), (q6, .inl (w.2.2.2.2.2.1, 2000, .inl (fun _ => 0))), (q7, .inl (w.2.2.2.2.2.1, 4, .inl (fun _ => 0))), (q8, .inl (w.2.2.2.2.2.1, 400, .inl (fun _ => 0))), (q9, .inl (w.2.2.2.2.2.1, 8, .inl (fun _ => 0))), (q10, .inl (w.2.2.2.2.2.1, 8, .inl (fun _ => 0))), (q11, .inl (w.2.2.2.2.2.1, 8, .inl (fun _ => 0)))]
  refine U_putF (ci := 9) (q0 := 0) (fs := [.int 0, .int 0, .ref q1, .ref q2, .int 0, .int 0, .int 0, .ref q3, .int 0, .ref q4, .int 0, .ref q5, .ref q6, .int 0, .ref q7, .ref q8, .ref q9, .ref q10, .int 0, .int 0, .null]) (ws' := [(h0, .inr (9, [.int 0, .int 0, .ref q1, .ref q2, .int 0, .int 0, .int 0, .ref q3, .int 0, .ref q4, .int 0, .ref q5, .ref q6, .int 0, .ref q7, .ref q8, .ref q9, .ref q10, .int 0, .int 0, .ref q11])), (q1, .inl (w.2.2.2.2.2.2.1, 64, .inr (.inl (fun _ => 0)))), (q2, .inl (w.2.2.2.2.2.1, 100, .inl (fun _ => 0))), (q3, .inl (w.2.2.2.2.2.1, 846, .inl (fun _ => 0))), (q4, .inl (w.2.2.2.2.2.1, 16, .inl (fun _ => 0))), (q5, .inl (w.2.2.2.2.2.1, 2000, .inl (fun _ => 0))), (q6, .inl (w.2.2.2.2.2.1, 2000, .inl (fun _ => 0))), (q7, .inl (w.2.2.2.2.2.1, 4, .inl (fun _ => 0))), (q8, .inl (w.2.2.2.2.2.1, 400, .inl (fun _ => 0))), (q9, .inl (w.2.2.2.2.2.1, 8, .inl (fun _ => 0))), (q10, .inl (w.2.2.2.2.2.1, 8, .inl (fun _ => 0))), (q11, .inl (w.2.2.2.2.2.1, 8, .inl (fun _ => 0)))]) o hm dX9_init_92 fl_X9_73 rfl rfl rfl rfl rfl (Nat.le_of_ble_eq_true rfl) rfl ?_
  refine U_aload_n o dX9_init_95 rfl rfl ?_
  refine U_iconst (v := 0) o dX9_init_96 (by decide) ?_
  refine U_iconst (v := 3) o dX9_init_97 (by decide) ?_
  refine U_ct (S := shM) (ad := adL 67 [h0, q1, q2, q3, q4, q5, q6, q7, q8, q9, q10, q11]) (un := unL 67 [h0, q1, q2, q3, q4, q5, q6, q7, q8, q9, q10, q11]) (σ := Mz0) (a := 67) (As := [.int 0, .int 3]) (wr := []) o dX9_init_98 ml_X9_76 (fun hD => fitM rfl (nd_of hD)) (adL_A rfl) (fun hf => cM_puts hf (σ := Mz0) (n := 0) rfl rfl (by decide)) rfl rfl rfl rfl (Nat.le_of_ble_eq_true rfl) (by rw [hR]; exact ⟨Nat.le_of_ble_eq_true rfl, Nat.le_of_ble_eq_true rfl⟩) (by rw [hR]; exact ⟨Nat.le_of_ble_eq_true rfl, Nat.le_of_ble_eq_true rfl⟩) (fun r σq hq => ?_)
  obtain ⟨rfl, rfl⟩ := hq
  show U w A x mX9_init (11, 5454) 101 [(0, .ref h0)] [] ([] ++ WL shM (wA w (adL 67 [h0, q1, q2, q3, q4, q5, q6, q7, q8, q9, q10, q11]) (unL 67 [h0, q1, q2, q3, q4, q5, q6, q7, q8, q9, q10, q11])) (wI Mz0 70 (0 + 0) 3))
  refine U_iconst (v := 0) o dX9_init_101 (by decide) ?_
  refine U_istore_n (ls' := [(1, .int 0), (0, .ref h0)]) o dX9_init_102 rfl (by decide) rfl ?_
  refine U_iload_n o dX9_init_103 rfl rfl ?_
  refine U_iconst (v := 3) o dX9_init_104 (by decide) ?_
  refine U_icmp_ge (tgt := 122) o dX9_init_105 (by decide) (fun c => absurd c (by decide)) (fun _ => ?_)
  refine U_aload_n o dX9_init_108 rfl rfl ?_
  refine U_iconst (v := 1) o dX9_init_109 (by decide) ?_
  refine U_iload_n o dX9_init_110 rfl rfl ?_
  refine U_iadd (v := 1) o dX9_init_111 (by decide) ?_
  refine U_iconst (v := 4) o dX9_init_112 (by decide) ?_
  refine U_ct (S := shM) (ad := adL 67 [h0, q1, q2, q3, q4, q5, q6, q7, q8, q9, q10, q11]) (un := unL 67 [h0, q1, q2, q3, q4, q5, q6, q7, q8, q9, q10, q11]) (σ := (wI Mz0 70 (0 + 0) 3)) (a := 67) (As := [.int 1, .int 4]) (wr := []) o dX9_init_113 ml_X9_76 (fun hD => fitM rfl (nd_of hD)) (adL_A rfl) (fun hf => cM_puts hf (σ := (wI Mz0 70 (0 + 0) 3)) (n := 1) rfl rfl (by decide)) rfl rfl rfl rfl (Nat.le_of_ble_eq_true rfl) (by rw [hR]; exact ⟨Nat.le_of_ble_eq_true rfl, Nat.le_of_ble_eq_true rfl⟩) (by rw [hR]; exact ⟨Nat.le_of_ble_eq_true rfl, Nat.le_of_ble_eq_true rfl⟩) (fun r σq hq => ?_)
  obtain ⟨rfl, rfl⟩ := hq
  show U w A x mX9_init (11, 5454) 116 [(1, .int 0), (0, .ref h0)] [] ([] ++ WL shM (wA w (adL 67 [h0, q1, q2, q3, q4, q5, q6, q7, q8, q9, q10, q11]) (unL 67 [h0, q1, q2, q3, q4, q5, q6, q7, q8, q9, q10, q11])) (wI (wI Mz0 70 (0 + 0) 3) 70 (0 + 1) 4))
  refine U_iinc (v := 1) (ls' := [(1, .int 1), (0, .ref h0)]) o dX9_init_116 rfl (by decide) (by decide) rfl ?_
  refine U_goto (tgt := 103) o dX9_init_119 (by decide) ?_
  refine U_iload_n o dX9_init_103 rfl rfl ?_
  refine U_iconst (v := 3) o dX9_init_104 (by decide) ?_
  refine U_icmp_ge (tgt := 122) o dX9_init_105 (by decide) (fun c => absurd c (by decide)) (fun _ => ?_)
  refine U_aload_n o dX9_init_108 rfl rfl ?_
  refine U_iconst (v := 1) o dX9_init_109 (by decide) ?_
  refine U_iload_n o dX9_init_110 rfl rfl ?_
  refine U_iadd (v := 2) o dX9_init_111 (by decide) ?_
  refine U_iconst (v := 4) o dX9_init_112 (by decide) ?_
  refine U_ct (S := shM) (ad := adL 67 [h0, q1, q2, q3, q4, q5, q6, q7, q8, q9, q10, q11]) (un := unL 67 [h0, q1, q2, q3, q4, q5, q6, q7, q8, q9, q10, q11]) (σ := (wI (wI Mz0 70 (0 + 0) 3) 70 (0 + 1) 4)) (a := 67) (As := [.int 2, .int 4]) (wr := []) o dX9_init_113 ml_X9_76 (fun hD => fitM rfl (nd_of hD)) (adL_A rfl) (fun hf => cM_puts hf (σ := (wI (wI Mz0 70 (0 + 0) 3) 70 (0 + 1) 4)) (n := 2) rfl rfl (by decide)) rfl rfl rfl rfl (Nat.le_of_ble_eq_true rfl) (by rw [hR]; exact ⟨Nat.le_of_ble_eq_true rfl, Nat.le_of_ble_eq_true rfl⟩) (by rw [hR]; exact ⟨Nat.le_of_ble_eq_true rfl, Nat.le_of_ble_eq_true rfl⟩) (fun r σq hq => ?_)
  obtain ⟨rfl, rfl⟩ := hq
  show U w A x mX9_init (11, 5454) 116 [(1, .int 1), (0, .ref h0)] [] ([] ++ WL shM (wA w (adL 67 [h0, q1, q2, q3, q4, q5, q6, q7, q8, q9, q10, q11]) (unL 67 [h0, q1, q2, q3, q4, q5, q6, q7, q8, q9, q10, q11])) (wI (wI (wI Mz0 70 (0 + 0) 3) 70 (0 + 1) 4) 70 (0 + 2) 4))
  refine U_iinc (v := 2) (ls' := [(1, .int 2), (0, .ref h0)]) o dX9_init_116 rfl (by decide) (by decide) rfl ?_
  refine U_goto (tgt := 103) o dX9_init_119 (by decide) ?_
  refine U_iload_n o dX9_init_103 rfl rfl ?_
  refine U_iconst (v := 3) o dX9_init_104 (by decide) ?_
  refine U_icmp_ge (tgt := 122) o dX9_init_105 (by decide) (fun c => absurd c (by decide)) (fun _ => ?_)
  refine U_aload_n o dX9_init_108 rfl rfl ?_
  refine U_iconst (v := 1) o dX9_init_109 (by decide) ?_
  refine U_iload_n o dX9_init_110 rfl rfl ?_
  refine U_iadd (v := 3) o dX9_init_111 (by decide) ?_
  refine U_iconst (v := 4) o dX9_init_112 (by decide) ?_
  refine U_ct (S := shM) (ad := adL 67 [h0, q1, q2, q3, q4, q5, q6, q7, q8, q9, q10, q11]) (un := unL 67 [h0, q1, q2, q3, q4, q5, q6, q7, q8, q9, q10, q11]) (σ := (wI (wI (wI Mz0 70 (0 + 0) 3) 70 (0 + 1) 4) 70 (0 + 2) 4)) (a := 67) (As := [.int 3, .int 4]) (wr := []) o dX9_init_113 ml_X9_76 (fun hD => fitM rfl (nd_of hD)) (adL_A rfl) (fun hf => cM_puts hf (σ := (wI (wI (wI Mz0 70 (0 + 0) 3) 70 (0 + 1) 4) 70 (0 + 2) 4)) (n := 3) rfl rfl (by decide)) rfl rfl rfl rfl (Nat.le_of_ble_eq_true rfl) (by rw [hR]; exact ⟨Nat.le_of_ble_eq_true rfl, Nat.le_of_ble_eq_true rfl⟩) (by rw [hR]; exact ⟨Nat.le_of_ble_eq_true rfl, Nat.le_of_ble_eq_true rfl⟩) (fun r σq hq => ?_)
  obtain ⟨rfl, rfl⟩ := hq
  show U w A x mX9_init (11, 5454) 116 [(1, .int 2), (0, .ref h0)] [] ([] ++ WL shM (wA w (adL 67 [h0, q1, q2, q3, q4, q5, q6, q7, q8, q9, q10, q11]) (unL 67 [h0, q1, q2, q3, q4, q5, q6, q7, q8, q9, q10, q11])) (wI (wI (wI (wI Mz0 70 (0 + 0) 3) 70 (0 + 1) 4) 70 (0 + 2) 4) 70 (0 + 3) 4))
  refine U_iinc (v := 3) (ls' := [(1, .int 3), (0, .ref h0)]) o dX9_init_116 rfl (by decide) (by decide) rfl ?_
  refine U_goto (tgt := 103) o dX9_init_119 (by decide) ?_
  refine U_iload_n o dX9_init_103 rfl rfl ?_
  refine U_iconst (v := 3) o dX9_init_104 (by decide) ?_
  refine U_icmp_ge (tgt := 122) o dX9_init_105 (by decide) (fun _ => ?_) (fun c => absurd (by decide) c)
  exact ret 122 _ _ (11, 5454) dX9_init_122 ⟨q1, q2, q3, q4, q5, q6, q7, q8, q9, q10, q11, rfl⟩ (Nat.le_refl _) (Nat.le_refl _)
end
