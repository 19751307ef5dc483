section
theorem fs_X0 : ∀ j, j < nf 0 → defaultValue (tyXn 0 j) = vp_V [.null, .null, .null, .null, .int 0, .int 0, .int 0, .int 0] j := fun j hj => by
  have hj : j < 8 := hj
  match j, hj with
  | 0, _ => rfl
  | 1, _ => rfl
  | 2, _ => rfl
  | 3, _ => rfl
  | 4, _ => rfl
  | 5, _ => rfl
  | 6, _ => rfl
  | 7, _ => rfl
  | j + 8, h => exact absurd h (by omega)
theorem fs_X1 : ∀ j, j < nf 1 → defaultValue (tyXn 1 j) = vp_V [.null, .int 0] j := fun j hj => by
  have hj : j < 2 := hj
  match j, hj with
  | 0, _ => rfl
  | 1, _ => rfl
  | j + 2, h => exact absurd h (by omega)
theorem fs_X2 : ∀ j, j < nf 2 → defaultValue (tyXn 2 j) = vp_V [.null, .null, .null, .null, .null, .int 0, .int 0, .int 0] j := fun j hj => by
  have hj : j < 8 := hj
  match j, hj with
  | 0, _ => rfl
  | 1, _ => rfl
  | 2, _ => rfl
  | 3, _ => rfl
  | 4, _ => rfl
  | 5, _ => rfl
  | 6, _ => rfl
  | 7, _ => rfl
  | j + 8, h => exact absurd h (by omega)
theorem fs_X3 : ∀ j, j < nf 3 → defaultValue (tyXn 3 j) = vp_V [.null, .int 0] j := fun j hj => by
  have hj : j < 2 := hj
  match j, hj with
  | 0, _ => rfl
  | 1, _ => rfl
  | j + 2, h => exact absurd h (by omega)
theorem fs_X4 : ∀ j, j < nf 4 → defaultValue (tyXn 4 j) = vp_V [.null, .null, .int 0, .int 0] j := fun j hj => by
  have hj : j < 4 := hj
  match j, hj with
  | 0, _ => rfl
  | 1, _ => rfl
  | 2, _ => rfl
  | 3, _ => rfl
  | j + 4, h => exact absurd h (by omega)
theorem fs_X5 : ∀ j, j < nf 5 → defaultValue (tyXn 5 j) = vp_V [.null, .int 0] j := fun j hj => by
  have hj : j < 2 := hj
  match j, hj with
  | 0, _ => rfl
  | 1, _ => rfl
  | j + 2, h => exact absurd h (by omega)
theorem fs_X6 : ∀ j, j < nf 6 → defaultValue (tyXn 6 j) = vp_V [.int 0, .int 0, .int 0, .int 0, .int 0, .int 0, .int 0, .int 0, .int 0, .int 0, .int 0, .int 0, .int 0, .int 0, .int 0] j := fun j hj => by
  have hj : j < 15 := hj
  match j, hj with
  | 0, _ => rfl
  | 1, _ => rfl
  | 2, _ => rfl
  | 3, _ => rfl
  | 4, _ => rfl
  | 5, _ => rfl
  | 6, _ => rfl
  | 7, _ => rfl
  | 8, _ => rfl
  | 9, _ => rfl
  | 10, _ => rfl
  | 11, _ => rfl
  | 12, _ => rfl
  | 13, _ => rfl
  | 14, _ => rfl
  | j + 15, h => exact absurd h (by omega)
theorem fs_X7 : ∀ j, j < nf 7 → defaultValue (tyXn 7 j) = vp_V [.null, .null, .null, .int 0, .int 0, .int 0, .int 0] j := fun j hj => by
  have hj : j < 7 := hj
  match j, hj with
  | 0, _ => rfl
  | 1, _ => rfl
  | 2, _ => rfl
  | 3, _ => rfl
  | 4, _ => rfl
  | 5, _ => rfl
  | 6, _ => rfl
  | j + 7, h => exact absurd h (by omega)
theorem fs_X8 : ∀ j, j < nf 8 → defaultValue (tyXn 8 j) = vp_V [.null, .null, .null, .null, .null, .null, .null, .null, .int 0, .int 0, .int 0, .int 0] j := fun j hj => by
  have hj : j < 12 := hj
  match j, hj with
  | 0, _ => rfl
  | 1, _ => rfl
  | 2, _ => rfl
  | 3, _ => rfl
  | 4, _ => rfl
  | 5, _ => rfl
  | 6, _ => rfl
  | 7, _ => rfl
  | 8, _ => rfl
  | 9, _ => rfl
  | 10, _ => rfl
  | 11, _ => rfl
  | j + 12, h => exact absurd h (by omega)
theorem fs_X9 : ∀ j, j < nf 9 → defaultValue (tyXn 9 j) = vp_V [.int 0, .int 0, .null, .null, .int 0, .int 0, .int 0, .null, .int 0, .null, .int 0, .null, .null, .int 0, .null, .null, .null, .null, .int 0, .int 0, .null] j := fun j hj => by
  have hj : j < 21 := hj
  match j, hj with
  | 0, _ => rfl
  | 1, _ => rfl
  | 2, _ => rfl
  | 3, _ => rfl
  | 4, _ => rfl
  | 5, _ => rfl
  | 6, _ => rfl
  | 7, _ => rfl
  | 8, _ => rfl
  | 9, _ => rfl
  | 10, _ => rfl
  | 11, _ => rfl
  | 12, _ => rfl
  | 13, _ => rfl
  | 14, _ => rfl
  | 15, _ => rfl
  | 16, _ => rfl
  | 17, _ => rfl
  | 18, _ => rfl
  | 19, _ => rfl
  | 20, _ => rfl
  | j + 21, h => exact absurd h (by omega)
theorem lo_X0_3 : Lo0 RX0 3 := gw_at 262 (by decide +kernel) rfl
theorem lo_X1_3 : Lo0 RX1 3 := gw_at 62 (by decide +kernel) rfl
theorem la_X1_9 : Cond.classLink RX1 9 RX6 ∈ gw := gw_at 63 (by decide +kernel) rfl
theorem lo_X2_3 : Lo0 RX2 3 := gw_at 209 (by decide +kernel) rfl
theorem lo_X3_3 : Lo0 RX3 3 := gw_at 193 (by decide +kernel) rfl
theorem lo_X4_3 : Lo0 RX4 3 := gw_at 36 (by decide +kernel) rfl
theorem lo_X5_3 : Lo0 RX5 3 := gw_at 247 (by decide +kernel) rfl
theorem lo_X6_1 : Lo0 RX6 1 := gw_at 77 (by decide +kernel) rfl
set_option maxRecDepth 20000 in
set_option maxHeartbeats 4000000 in
theorem ci_X0 {w : Wp} {h0 : Nat}  : Ci w 1 mX0_init h0 [] (.inr (0, [.null, .null, .null, .null, .int 0, .int 0, .int 0, .int 0])) 4 136 (fun ws => ∃ q1 q2 q3 q4, ws = [(h0, .inr (0, [.ref q1, .ref q2, .ref q3, .ref q4, .int 0, .int 0, .int 0, .int 0])), (q1, .inl (w.2.2.2.2.2.1, 34, .inl (fun _ => 0))), (q2, .inl (w.2.2.2.2.2.1, 34, .inl (fun _ => 0))), (q3, .inl (w.2.2.2.2.2.1, 34, .inl (fun _ => 0))), (q4, .inl (w.2.2.2.2.2.1, 34, .inl (fun _ => 0)))]) := by
  refine Ci_of (ls := [(0, .ref h0)]) (by decide) rfl rfl (Nat.le_of_ble_eq_true rfl) (fun A x o hR hm ret => ?_)
  refine U_aload_n o dX0_init_0 rfl rfl ?_
  refine U_obj o dX0_init_1 lo_X0_3 (Nat.le_of_ble_eq_true rfl) (by rw [hR]; exact ⟨Nat.le_of_ble_eq_true rfl, Nat.le_of_ble_eq_true rfl⟩) ?_
  refine U_aload_n o dX0_init_4 rfl rfl ?_
  refine U_bipush (v := 34) o dX0_init_5 (by decide) ?_
  refine U_newI (N := 34) o dX0_init_7 (by decide) (by decide) (by decide) (by rw [hR]; exact ⟨Nat.le_of_ble_eq_true rfl, Nat.le_of_ble_eq_true rfl⟩) (fun q1 => ?_)
  show U w A x mX0_init (1, 34) 9 [(0, .ref h0)] [.ref q1, .ref h0] [(h0, .inr (0, [.null, .null, .null, .null, .int 0, .int 0, .int 0, .int 0])), (q1, .inl (w.2.2.2.2.2.1, 34, .inl (fun _ => 0)))]
  refine U_putF (ci := 0) (q0 := 0) (fs := [.null, .null, .null, .null, .int 0, .int 0, .int 0, .int 0]) (ws' := [(h0, .inr (0, [.ref q1, .null, .null, .null, .int 0, .int 0, .int 0, .int 0])), (q1, .inl (w.2.2.2.2.2.1, 34, .inl (fun _ => 0)))]) o hm dX0_init_9 fl_X0_9 rfl rfl rfl rfl rfl (Nat.le_of_ble_eq_true rfl) rfl ?_
  refine U_aload_n o dX0_init_12 rfl rfl ?_
  refine U_bipush (v := 34) o dX0_init_13 (by decide) ?_
  refine U_newI (N := 34) o dX0_init_15 (by decide) (by decide) (by decide) (by rw [hR]; exact ⟨Nat.le_of_ble_eq_true rfl, Nat.le_of_ble_eq_true rfl⟩) (fun q2 => ?_)
  show U w A x mX0_init (2, 68) 17 [(0, .ref h0)] [.ref q2, .ref h0] [(h0, .inr (0, [.ref q1, .null, .null, .null, .int 0, .int 0, .int 0, .int 0])), (q1, .inl (w.2.2.2.2.2.1, 34, .inl (fun _ => 0))), (q2, .inl (w.2.2.2.2.2.1, 34, .inl (fun _ => 0)))]
  refine U_putF (ci := 0) (q0 := 0) (fs := [.ref q1, .null, .null, .null, .int 0, .int 0, .int 0, .int 0]) (ws' := [(h0, .inr (0, [.ref q1, .ref q2, .null, .null, .int 0, .int 0, .int 0, .int 0])), (q1, .inl (w.2.2.2.2.2.1, 34, .inl (fun _ => 0))), (q2, .inl (w.2.2.2.2.2.1, 34, .inl (fun _ => 0)))]) o hm dX0_init_17 fl_X0_15 rfl rfl rfl rfl rfl (Nat.le_of_ble_eq_true rfl) rfl ?_
  refine U_aload_n o dX0_init_20 rfl rfl ?_
  refine U_bipush (v := 34) o dX0_init_21 (by decide) ?_
  refine U_newI (N := 34) o dX0_init_23 (by decide) (by decide) (by decide) (by rw [hR]; exact ⟨Nat.le_of_ble_eq_true rfl, Nat.le_of_ble_eq_true rfl⟩) (fun q3 => ?_)
  show U w A x mX0_init (3, 102) 25 [(0, .ref h0)] [.ref q3, .ref h0] [(h0, .inr (0, [.ref q1, .ref q2, .null, .null, .int 0, .int 0, .int 0, .int 0])), (q1, .inl (w.2.2.2.2.2.1, 34, .inl (fun _ => 0))), (q2, .inl (w.2.2.2.2.2.1, 34, .inl (fun _ => 0))), (q3, .inl (w.2.2.2.2.2.1, 34, .inl (fun _ => 0)))]
  refine U_putF (ci := 0) (q0 := 0) (fs := [.ref q1, .ref q2, .null, .null, .int 0, .int 0, .int 0, .int 0]) (ws' := [(h0, .inr (0, [.ref q1, .ref q2, .ref q3, .null, .int 0, .int 0, .int 0, .int 0])), (q1, .inl (w.2.2.2.2.2.1, 34, .inl (fun _ => 0))), (q2, .inl (w.2.2.2.2.2.1, 34, .inl (fun _ => 0))), (q3, .inl (w.2.2.2.2.2.1, 34, .inl (fun _ => 0)))]) o hm dX0_init_25 fl_X0_18 rfl rfl rfl rfl rfl (Nat.le_of_ble_eq_true rfl) rfl ?_
  refine U_aload_n o dX0_init_28 rfl rfl ?_
  refine U_bipush (v := 34) o dX0_init_29 (by decide) ?_
  refine U_newI (N := 34) o dX0_init_31 (by decide) (by decide) (by decide) (by rw [hR]; exact ⟨Nat.le_of_ble_eq_true rfl, Nat.le_of_ble_eq_true rfl⟩) (fun q4 => ?_)
  show U w A x mX0_init (4, 136) 33 [(0, .ref h0)] [.ref q4, .ref h0] [(h0, .inr (0, [.ref q1, .ref q2, .ref q3, .null, .int 0, .int 0, .int 0, .int 0])), (q1, .inl (w.2.2.2.2.2.1, 34, .inl (fun _ => 0))), (q2, .inl (w.2.2.2.2.2.1, 34, .inl (fun _ => 0))), (q3, .inl (w.2.2.2.2.2.1, 34, .inl (fun _ => 0))), (q4, .inl (w.2.2.2.2.2.1, 34, .inl (fun _ => 0)))]
  refine U_putF (ci := 0) (q0 := 0) (fs := [.ref q1, .ref q2, .ref q3, .null, .int 0, .int 0, .int 0, .int 0]) (ws' := [(h0, .inr (0, [.ref q1, .ref q2, .ref q3, .ref q4, .int 0, .int 0, .int 0, .int 0])), (q1, .inl (w.2.2.2.2.2.1, 34, .inl (fun _ => 0))), (q2, .inl (w.2.2.2.2.2.1, 34, .inl (fun _ => 0))), (q3, .inl (w.2.2.2.2.2.1, 34, .inl (fun _ => 0))), (q4, .inl (w.2.2.2.2.2.1, 34, .inl (fun _ => 0)))]) o hm dX0_init_33 fl_X0_21 rfl rfl rfl rfl rfl (Nat.le_of_ble_eq_true rfl) rfl ?_
  exact ret 36 _ _ (4, 136) dX0_init_36 ⟨q1, q2, q3, q4, rfl⟩ (Nat.le_refl _) (Nat.le_refl _)
set_option maxRecDepth 20000 in
set_option maxHeartbeats 4000000 in
theorem ci_X1 {w : Wp} {h0 : Nat}  : Ci w 1 mX1_init h0 [] (.inr (1, [.null, .int 0])) 1 16 (fun ws => ∃ q1, ws = [(h0, .inr (1, [.ref q1, .int 0])), (q1, .inl (w.2.2.2.2.2.2.2, 16, .inr (.inr (.inr (.inr (fun _ => none))))))]) := by
  refine Ci_of (ls := [(0, .ref h0)]) (by decide) rfl rfl (Nat.le_of_ble_eq_true rfl) (fun A x o hR hm ret => ?_)
  refine U_aload_n o dX1_init_0 rfl rfl ?_
  refine U_obj o dX1_init_1 lo_X1_3 (Nat.le_of_ble_eq_true rfl) (by rw [hR]; exact ⟨Nat.le_of_ble_eq_true rfl, Nat.le_of_ble_eq_true rfl⟩) ?_
  refine U_aload_n o dX1_init_4 rfl rfl ?_
  refine U_bipush (v := 16) o dX1_init_5 (by decide) ?_
  refine U_newT (N := 16) o dX1_init_7 la_X1_9 (by decide) (by decide) (by decide) (by rw [hR]; exact ⟨Nat.le_of_ble_eq_true rfl, Nat.le_of_ble_eq_true rfl⟩) (fun q1 => ?_)
  show U w A x mX1_init (1, 16) 10 [(0, .ref h0)] [.ref q1, .ref h0] [(h0, .inr (1, [.null, .int 0])), (q1, .inl (w.2.2.2.2.2.2.2, 16, .inr (.inr (.inr (.inr (fun _ => none))))))]
  refine U_putF (ci := 1) (q0 := 0) (fs := [.null, .int 0]) (ws' := [(h0, .inr (1, [.ref q1, .int 0])), (q1, .inl (w.2.2.2.2.2.2.2, 16, .inr (.inr (.inr (.inr (fun _ => none))))))]) o hm dX1_init_10 fl_X1_11 rfl rfl rfl rfl rfl (Nat.le_of_ble_eq_true rfl) rfl ?_
  exact ret 13 _ _ (1, 16) dX1_init_13 ⟨q1, rfl⟩ (Nat.le_refl _) (Nat.le_refl _)
set_option maxRecDepth 20000 in
set_option maxHeartbeats 4000000 in
theorem ci_X2 {w : Wp} {h0 : Nat}  : Ci w 1 mX2_init h0 [] (.inr (2, [.null, .null, .null, .null, .null, .int 0, .int 0, .int 0])) 5 200 (fun ws => ∃ q1 q2 q3 q4 q5, ws = [(h0, .inr (2, [.ref q1, .ref q2, .ref q3, .ref q4, .ref q5, .int 0, .int 0, .int 0])), (q1, .inl (w.2.2.2.2.2.1, 40, .inl (fun _ => 0))), (q2, .inl (w.2.2.2.2.2.1, 40, .inl (fun _ => 0))), (q3, .inl (w.2.2.2.2.2.1, 40, .inl (fun _ => 0))), (q4, .inl (w.2.2.2.2.2.1, 40, .inl (fun _ => 0))), (q5, .inl (w.2.2.2.2.2.1, 40, .inl (fun _ => 0)))]) := by
  refine Ci_of (ls := [(0, .ref h0)]) (by decide) rfl rfl (Nat.le_of_ble_eq_true rfl) (fun A x o hR hm ret => ?_)
  refine U_aload_n o dX2_init_0 rfl rfl ?_
  refine U_obj o dX2_init_1 lo_X2_3 (Nat.le_of_ble_eq_true rfl) (by rw [hR]; exact ⟨Nat.le_of_ble_eq_true rfl, Nat.le_of_ble_eq_true rfl⟩) ?_
  refine U_aload_n o dX2_init_4 rfl rfl ?_
  refine U_bipush (v := 40) o dX2_init_5 (by decide) ?_
  refine U_newI (N := 40) o dX2_init_7 (by decide) (by decide) (by decide) (by rw [hR]; exact ⟨Nat.le_of_ble_eq_true rfl, Nat.le_of_ble_eq_true rfl⟩) (fun q1 => ?_)
  show U w A x mX2_init (1, 40) 9 [(0, .ref h0)] [.ref q1, .ref h0] [(h0, .inr (2, [.null, .null, .null, .null, .null, .int 0, .int 0, .int 0])), (q1, .inl (w.2.2.2.2.2.1, 40, .inl (fun _ => 0)))]
  refine U_putF (ci := 2) (q0 := 0) (fs := [.null, .null, .null, .null, .null, .int 0, .int 0, .int 0]) (ws' := [(h0, .inr (2, [.ref q1, .null, .null, .null, .null, .int 0, .int 0, .int 0])), (q1, .inl (w.2.2.2.2.2.1, 40, .inl (fun _ => 0)))]) o hm dX2_init_9 fl_X2_9 rfl rfl rfl rfl rfl (Nat.le_of_ble_eq_true rfl) rfl ?_
  refine U_aload_n o dX2_init_12 rfl rfl ?_
  refine U_bipush (v := 40) o dX2_init_13 (by decide) ?_
  refine U_newI (N := 40) o dX2_init_15 (by decide) (by decide) (by decide) (by rw [hR]; exact ⟨Nat.le_of_ble_eq_true rfl, Nat.le_of_ble_eq_true rfl⟩) (fun q2 => ?_)
  show U w A x mX2_init (2, 80) 17 [(0, .ref h0)] [.ref q2, .ref h0] [(h0, .inr (2, [.ref q1, .null, .null, .null, .null, .int 0, .int 0, .int 0])), (q1, .inl (w.2.2.2.2.2.1, 40, .inl (fun _ => 0))), (q2, .inl (w.2.2.2.2.2.1, 40, .inl (fun _ => 0)))]
  refine U_putF (ci := 2) (q0 := 0) (fs := [.ref q1, .null, .null, .null, .null, .int 0, .int 0, .int 0]) (ws' := [(h0, .inr (2, [.ref q1, .ref q2, .null, .null, .null, .int 0, .int 0, .int 0])), (q1, .inl (w.2.2.2.2.2.1, 40, .inl (fun _ => 0))), (q2, .inl (w.2.2.2.2.2.1, 40, .inl (fun _ => 0)))]) o hm dX2_init_17 fl_X2_15 rfl rfl rfl rfl rfl (Nat.le_of_ble_eq_true rfl) rfl ?_
  refine U_aload_n o dX2_init_20 rfl rfl ?_
  refine U_bipush (v := 40) o dX2_init_21 (by decide) ?_
  refine U_newI (N := 40) o dX2_init_23 (by decide) (by decide) (by decide) (by rw [hR]; exact ⟨Nat.le_of_ble_eq_true rfl, Nat.le_of_ble_eq_true rfl⟩) (fun q3 => ?_)
  show U w A x mX2_init (3, 120) 25 [(0, .ref h0)] [.ref q3, .ref h0] [(h0, .inr (2, [.ref q1, .ref q2, .null, .null, .null, .int 0, .int 0, .int 0])), (q1, .inl (w.2.2.2.2.2.1, 40, .inl (fun _ => 0))), (q2, .inl (w.2.2.2.2.2.1, 40, .inl (fun _ => 0))), (q3, .inl (w.2.2.2.2.2.1, 40, .inl (fun _ => 0)))]
  refine U_putF (ci := 2) (q0 := 0) (fs := [.ref q1, .ref q2, .null, .null, .null, .int 0, .int 0, .int 0]) (ws' := [(h0, .inr (2, [.ref q1, .ref q2, .ref q3, .null, .null, .int 0, .int 0, .int 0])), (q1, .inl (w.2.2.2.2.2.1, 40, .inl (fun _ => 0))), (q2, .inl (w.2.2.2.2.2.1, 40, .inl (fun _ => 0))), (q3, .inl (w.2.2.2.2.2.1, 40, .inl (fun _ => 0)))]) o hm dX2_init_25 fl_X2_18 rfl rfl rfl rfl rfl (Nat.le_of_ble_eq_true rfl) rfl ?_
  refine U_aload_n o dX2_init_28 rfl rfl ?_
  refine U_bipush (v := 40) o dX2_init_29 (by decide) ?_
  refine U_newI (N := 40) o dX2_init_31 (by decide) (by decide) (by decide) (by rw [hR]; exact ⟨Nat.le_of_ble_eq_true rfl, Nat.le_of_ble_eq_true rfl⟩) (fun q4 => ?_)
  show U w A x mX2_init (4, 160) 33 [(0, .ref h0)] [.ref q4, .ref h0] [(h0, .inr (2, [.ref q1, .ref q2, .ref q3, .null, .null, .int 0, .int 0, .int 0])), (q1, .inl (w.2.2.2.2.2.1, 40, .inl (fun _ => 0))), (q2, .inl (w.2.2.2.2.2.1, 40, .inl (fun _ => 0))), (q3, .inl (w.2.2.2.2.2.1, 40, .inl (fun _ => 0))), (q4, .inl (w.2.2.2.2.2.1, 40, .inl (fun _ => 0)))]
  refine U_putF (ci := 2) (q0 := 0) (fs := [.ref q1, .ref q2, .ref q3, .null, .null, .int 0, .int 0, .int 0]) (ws' := [(h0, .inr (2, [.ref q1, .ref q2, .ref q3, .ref q4, .null, .int 0, .int 0, .int 0])), (q1, .inl (w.2.2.2.2.2.1, 40, .inl (fun _ => 0))), (q2, .inl (w.2.2.2.2.2.1, 40, .inl (fun _ => 0))), (q3, .inl (w.2.2.2.2.2.1, 40, .inl (fun _ => 0))), (q4, .inl (w.2.2.2.2.2.1, 40, .inl (fun _ => 0)))]) o hm dX2_init_33 fl_X2_21 rfl rfl rfl rfl rfl (Nat.le_of_ble_eq_true rfl) rfl ?_
  refine U_aload_n o dX2_init_36 rfl rfl ?_
  refine U_bipush (v := 40) o dX2_init_37 (by decide) ?_
  refine U_newI (N := 40) o dX2_init_39 (by decide) (by decide) (by decide) (by rw [hR]; exact ⟨Nat.le_of_ble_eq_true rfl, Nat.le_of_ble_eq_true rfl⟩) (fun q5 => ?_)
  show U w A x mX2_init (5, 200) 41 [(0, .ref h0)] [.ref q5, .ref h0] [(h0, .inr (2, [.ref q1, .ref q2, .ref q3, .ref q4, .null, .int 0, .int 0, .int 0])), (q1, .inl (w.2.2.2.2.2.1, 40, .inl (fun _ => 0))), (q2, .inl (w.2.2.2.2.2.1, 40, .inl (fun _ => 0))), (q3, .inl (w.2.2.2.2.2.1, 40, .inl (fun _ => 0))), (q4, .inl (w.2.2.2.2.2.1, 40, .inl (fun _ => 0))), (q5, .inl (w.2.2.2.2.2.1, 40, .inl (fun _ => 0)))]
  refine U_putF (ci := 2) (q0 := 0) (fs := [.ref q1, .ref q2, .ref q3, .ref q4, .null, .int 0, .int 0, .int 0]) (ws' := [(h0, .inr (2, [.ref q1, .ref q2, .ref q3, .ref q4, .ref q5, .int 0, .int 0, .int 0])), (q1, .inl (w.2.2.2.2.2.1, 40, .inl (fun _ => 0))), (q2, .inl (w.2.2.2.2.2.1, 40, .inl (fun _ => 0))), (q3, .inl (w.2.2.2.2.2.1, 40, .inl (fun _ => 0))), (q4, .inl (w.2.2.2.2.2.1, 40, .inl (fun _ => 0))), (q5, .inl (w.2.2.2.2.2.1, 40, .inl (fun _ => 0)))]) o hm dX2_init_41 fl_X2_24 rfl rfl rfl rfl rfl (Nat.le_of_ble_eq_true rfl) rfl ?_
  exact ret 44 _ _ (5, 200) dX2_init_44 ⟨q1, q2, q3, q4, q5, rfl⟩ (Nat.le_refl _) (Nat.le_refl _)
set_option maxRecDepth 20000 in
set_option maxHeartbeats 4000000 in
theorem ci_X3 {w : Wp} {h0 : Nat}  : Ci w 1 mX3_init h0 [] (.inr (3, [.null, .int 0])) 1 40 (fun ws => ∃ q1, ws = [(h0, .inr (3, [.ref q1, .int 0])), (q1, .inl (w.2.2.2.2.2.2.1, 40, .inr (.inl (fun _ => 0))))]) := by
  refine Ci_of (ls := [(0, .ref h0)]) (by decide) rfl rfl (Nat.le_of_ble_eq_true rfl) (fun A x o hR hm ret => ?_)
  refine U_aload_n o dX3_init_0 rfl rfl ?_
  refine U_obj o dX3_init_1 lo_X3_3 (Nat.le_of_ble_eq_true rfl) (by rw [hR]; exact ⟨Nat.le_of_ble_eq_true rfl, Nat.le_of_ble_eq_true rfl⟩) ?_
  refine U_aload_n o dX3_init_4 rfl rfl ?_
  refine U_bipush (v := 40) o dX3_init_5 (by decide) ?_
  refine U_newL (N := 40) o dX3_init_7 (by decide) (by decide) (by decide) (by rw [hR]; exact ⟨Nat.le_of_ble_eq_true rfl, Nat.le_of_ble_eq_true rfl⟩) (fun q1 => ?_)
  show U w A x mX3_init (1, 40) 9 [(0, .ref h0)] [.ref q1, .ref h0] [(h0, .inr (3, [.null, .int 0])), (q1, .inl (w.2.2.2.2.2.2.1, 40, .inr (.inl (fun _ => 0))))]
  refine U_putF (ci := 3) (q0 := 0) (fs := [.null, .int 0]) (ws' := [(h0, .inr (3, [.ref q1, .int 0])), (q1, .inl (w.2.2.2.2.2.2.1, 40, .inr (.inl (fun _ => 0))))]) o hm dX3_init_9 fl_X3_9 rfl rfl rfl rfl rfl (Nat.le_of_ble_eq_true rfl) rfl ?_
  exact ret 12 _ _ (1, 40) dX3_init_12 ⟨q1, rfl⟩ (Nat.le_refl _) (Nat.le_refl _)
set_option maxRecDepth 20000 in
set_option maxHeartbeats 4000000 in
theorem ci_X4 {w : Wp} {h0 : Nat}  : Ci w 1 mX4_init h0 [] (.inr (4, [.null, .null, .int 0, .int 0])) 2 8 (fun ws => ∃ q1 q2, ws = [(h0, .inr (4, [.ref q1, .ref q2, .int 0, .int 0])), (q1, .inl (w.2.2.2.2.2.1, 4, .inl (fun _ => 0))), (q2, .inl (w.2.2.2.2.2.1, 4, .inl (fun _ => 0)))]) := by
  refine Ci_of (ls := [(0, .ref h0)]) (by decide) rfl rfl (Nat.le_of_ble_eq_true rfl) (fun A x o hR hm ret => ?_)
  refine U_aload_n o dX4_init_0 rfl rfl ?_
  refine U_obj o dX4_init_1 lo_X4_3 (Nat.le_of_ble_eq_true rfl) (by rw [hR]; exact ⟨Nat.le_of_ble_eq_true rfl, Nat.le_of_ble_eq_true rfl⟩) ?_
  refine U_aload_n o dX4_init_4 rfl rfl ?_
  refine U_iconst (v := 4) o dX4_init_5 (by decide) ?_
  refine U_newI (N := 4) o dX4_init_6 (by decide) (by decide) (by decide) (by rw [hR]; exact ⟨Nat.le_of_ble_eq_true rfl, Nat.le_of_ble_eq_true rfl⟩) (fun q1 => ?_)
  show U w A x mX4_init (1, 4) 8 [(0, .ref h0)] [.ref q1, .ref h0] [(h0, .inr (4, [.null, .null, .int 0, .int 0])), (q1, .inl (w.2.2.2.2.2.1, 4, .inl (fun _ => 0)))]
  refine U_putF (ci := 4) (q0 := 0) (fs := [.null, .null, .int 0, .int 0]) (ws' := [(h0, .inr (4, [.ref q1, .null, .int 0, .int 0])), (q1, .inl (w.2.2.2.2.2.1, 4, .inl (fun _ => 0)))]) o hm dX4_init_8 fl_X4_9 rfl rfl rfl rfl rfl (Nat.le_of_ble_eq_true rfl) rfl ?_
  refine U_aload_n o dX4_init_11 rfl rfl ?_
  refine U_iconst (v := 4) o dX4_init_12 (by decide) ?_
  refine U_newI (N := 4) o dX4_init_13 (by decide) (by decide) (by decide) (by rw [hR]; exact ⟨Nat.le_of_ble_eq_true rfl, Nat.le_of_ble_eq_true rfl⟩) (fun q2 => ?_)
  show U w A x mX4_init (2, 8) 15 [(0, .ref h0)] [.ref q2, .ref h0] [(h0, .inr (4, [.ref q1, .null, .int 0, .int 0])), (q1, .inl (w.2.2.2.2.2.1, 4, .inl (fun _ => 0))), (q2, .inl (w.2.2.2.2.2.1, 4, .inl (fun _ => 0)))]
  refine U_putF (ci := 4) (q0 := 0) (fs := [.ref q1, .null, .int 0, .int 0]) (ws' := [(h0, .inr (4, [.ref q1, .ref q2, .int 0, .int 0])), (q1, .inl (w.2.2.2.2.2.1, 4, .inl (fun _ => 0))), (q2, .inl (w.2.2.2.2.2.1, 4, .inl (fun _ => 0)))]) o hm dX4_init_15 fl_X4_15 rfl rfl rfl rfl rfl (Nat.le_of_ble_eq_true rfl) rfl ?_
  exact ret 18 _ _ (2, 8) dX4_init_18 ⟨q1, q2, rfl⟩ (Nat.le_refl _) (Nat.le_refl _)
set_option maxRecDepth 20000 in
set_option maxHeartbeats 4000000 in
theorem ci_X5 {w : Wp} {h0 : Nat}  : Ci w 1 mX5_init h0 [] (.inr (5, [.null, .int 0])) 1 100 (fun ws => ∃ q1, ws = [(h0, .inr (5, [.ref q1, .int 0])), (q1, .inl (w.2.2.2.2.2.1, 100, .inl (fun _ => 0)))]) := by
  refine Ci_of (ls := [(0, .ref h0)]) (by decide) rfl rfl (Nat.le_of_ble_eq_true rfl) (fun A x o hR hm ret => ?_)
  refine U_aload_n o dX5_init_0 rfl rfl ?_
  refine U_obj o dX5_init_1 lo_X5_3 (Nat.le_of_ble_eq_true rfl) (by rw [hR]; exact ⟨Nat.le_of_ble_eq_true rfl, Nat.le_of_ble_eq_true rfl⟩) ?_
  refine U_aload_n o dX5_init_4 rfl rfl ?_
  refine U_bipush (v := 100) o dX5_init_5 (by decide) ?_
  refine U_newI (N := 100) o dX5_init_7 (by decide) (by decide) (by decide) (by rw [hR]; exact ⟨Nat.le_of_ble_eq_true rfl, Nat.le_of_ble_eq_true rfl⟩) (fun q1 => ?_)
  show U w A x mX5_init (1, 100) 9 [(0, .ref h0)] [.ref q1, .ref h0] [(h0, .inr (5, [.null, .int 0])), (q1, .inl (w.2.2.2.2.2.1, 100, .inl (fun _ => 0)))]
  refine U_putF (ci := 5) (q0 := 0) (fs := [.null, .int 0]) (ws' := [(h0, .inr (5, [.ref q1, .int 0])), (q1, .inl (w.2.2.2.2.2.1, 100, .inl (fun _ => 0)))]) o hm dX5_init_9 fl_X5_9 rfl rfl rfl rfl rfl (Nat.le_of_ble_eq_true rfl) rfl ?_
  exact ret 12 _ _ (1, 100) dX5_init_12 ⟨q1, rfl⟩ (Nat.le_refl _) (Nat.le_refl _)
set_option maxRecDepth 20000 in
set_option maxHeartbeats 4000000 in
theorem ci_X6 {w : Wp} {h0 : Nat} {v : Int32} : Ci w 1 mX6_init h0 [.int v] (.inr (6, [.int 0, .int 0, .int 0, .int 0, .int 0, .int 0, .int 0, .int 0, .int 0, .int 0, .int 0, .int 0, .int 0, .int 0, .int 0])) 0 0 (fun ws => ws = [(h0, .inr (6, [.int v, .int 0, .int 0, .int 0, .int 0, .int 0, .int 0, .int 0, .int 0, .int 0, .int 0, .int 0, .int 0, .int 0, .int 0]))]) := by
  refine Ci_of (ls := [(0, .ref h0), (1, .int v)]) (by decide) rfl rfl (Nat.le_of_ble_eq_true rfl) (fun A x o hR hm ret => ?_)
  refine U_aload_n o dX6_init_0 rfl rfl ?_
  refine U_obj o dX6_init_1 lo_X6_1 (Nat.le_of_ble_eq_true rfl) (by rw [hR]; exact ⟨Nat.le_of_ble_eq_true rfl, Nat.le_of_ble_eq_true rfl⟩) ?_
  refine U_aload_n o dX6_init_4 rfl rfl ?_
  refine U_iload_n o dX6_init_5 rfl rfl ?_
  refine U_putF (ci := 6) (q0 := 0) (fs := [.int 0, .int 0, .int 0, .int 0, .int 0, .int 0, .int 0, .int 0, .int 0, .int 0, .int 0, .int 0, .int 0, .int 0, .int 0]) (ws' := [(h0, .inr (6, [.int v, .int 0, .int 0, .int 0, .int 0, .int 0, .int 0, .int 0, .int 0, .int 0, .int 0, .int 0, .int 0, .int 0, .int 0]))]) o hm dX6_init_6 fl_X6_7 rfl rfl rfl rfl rfl (Nat.le_of_ble_eq_true rfl) rfl ?_
  exact ret 9 _ _ (0, 0) dX6_init_9 rfl (Nat.le_refl _) (Nat.le_refl _)
end
