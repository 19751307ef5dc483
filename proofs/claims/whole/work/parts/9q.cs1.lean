section
set_option maxRecDepth 20000 in
set_option maxHeartbeats 4000000 in
theorem cs_19 {w : Wp} {un1 : Nat → Nat} {x : Cx} {Ln : Nat} {xs : Nat → Int32} (hL : Lf w un1) (oo : Ok sh1 (wO w un1) x RL mL_law) (hR : x.R = room_1) (hlt : w.l.stackTraces = false) (hZ : Zs w x.s) (hsc : Sc w un1 x Ln xs) {k i : Nat} {σ : Mm} {o : Int64} {cn : Nat × Nat} (hS : St k σ) (hk : k < 512) (hi : i + 6 ≤ Ln) (hLn : Ln ≤ 3072) (hcn : cn.1 + 1 ≤ x.R.cells ∧ cn.2 + 6 ≤ x.R.slots) (nx : ∀ σ' o', St (k + 1) σ' → V sh1 (wO w un1) x mL_law (cn.1 + 1, cn.2 + 6) 1420 [(4, .int (nI i)), (3, .ref 79), (2, .ref 67), (1, .ref 1), (0, .ref 80)] [] (sO σ' o')) : V sh1 (wO w un1) x mL_law cn 866 [(4, .int (nI i)), (3, .ref 79), (2, .ref 67), (1, .ref 1), (0, .ref 80)] [] (sO σ o) := by
  have hc0 : cn.1 ≤ x.R.cells ∧ cn.2 ≤ x.R.slots := ⟨Nat.le_of_succ_le hcn.1, Nat.le_trans (Nat.le_add_right _ _) hcn.2⟩
  obtain ⟨Q, hQ, hq⟩ : Pr w k 2 4 mX8_far mX9_far [] σ := p_far hL.1 hS hk
  refine V_aload_n oo dL_law_866 rfl rfl ?_
  refine L_callV hL oo dL_law_867 ml_L_110 hQ rfl rfl rfl (Nat.le_of_ble_eq_true rfl) (by rw [hR]; exact ⟨Nat.le_of_ble_eq_true rfl, Nat.le_of_ble_eq_true rfl⟩) hc0 (fun r1 σ1 q1 => ?_)
  obtain ⟨v, rfl, hc2⟩ := hq r1 σ1 q1
  refine V_aload_n oo dL_law_870 rfl rfl ?_
  refine L_callV hL oo dL_law_871 ml_L_113 hc2 rfl rfl rfl (Nat.le_of_ble_eq_true rfl) (by rw [hR]; exact ⟨Nat.le_of_ble_eq_true rfl, Nat.le_of_ble_eq_true rfl⟩) hc0 (fun r2 σ2 q2 => ?_)
  obtain ⟨rfl, hS2⟩ := q2
  exact V_icmp_eq (tgt := 1420) oo dL_law_874 (by decide) (fun _ => V_wid (Nat.le_succ _) (Nat.le_add_right _ _) (nx σ2 o hS2)) (fun z => absurd rfl z)
set_option maxRecDepth 20000 in
set_option maxHeartbeats 4000000 in
theorem cs_20 {w : Wp} {un1 : Nat → Nat} {x : Cx} {Ln : Nat} {xs : Nat → Int32} (hL : Lf w un1) (oo : Ok sh1 (wO w un1) x RL mL_law) (hR : x.R = room_1) (hlt : w.l.stackTraces = false) (hZ : Zs w x.s) (hsc : Sc w un1 x Ln xs) {k i : Nat} {σ : Mm} {o : Int64} {cn : Nat × Nat} (hS : St k σ) (hk : k < 512) (hi : i + 6 ≤ Ln) (hLn : Ln ≤ 3072) (hcn : cn.1 + 1 ≤ x.R.cells ∧ cn.2 + 6 ≤ x.R.slots) (nx : ∀ σ' o', St (k + 1) σ' → V sh1 (wO w un1) x mL_law (cn.1 + 1, cn.2 + 6) 1420 [(4, .int (nI i)), (3, .ref 79), (2, .ref 67), (1, .ref 1), (0, .ref 80)] [] (sO σ' o')) : V sh1 (wO w un1) x mL_law cn 879 [(4, .int (nI i)), (3, .ref 79), (2, .ref 67), (1, .ref 1), (0, .ref 80)] [] (sO σ o) := by
  have hc0 : cn.1 ≤ x.R.cells ∧ cn.2 ≤ x.R.slots := ⟨Nat.le_of_succ_le hcn.1, Nat.le_trans (Nat.le_add_right _ _) hcn.2⟩
  obtain ⟨Q, hQ, hq⟩ : Pr w k 2 2 mX8_group mX9_group [.int (xs (i + 1))] σ := p_group hL.1 hS hk
  refine V_aload_n oo dL_law_879 rfl rfl ?_
  refine V_arg (k := 1) oo hsc dL_law_880 dL_law_881 dL_law_883 dL_law_884 dL_law_885 (by decide) rfl rfl (by omega) (by omega) ?_
  refine L_callV hL oo dL_law_886 ml_L_114 hQ rfl rfl rfl (Nat.le_of_ble_eq_true rfl) (by rw [hR]; exact ⟨Nat.le_of_ble_eq_true rfl, Nat.le_of_ble_eq_true rfl⟩) hc0 (fun r1 σ1 q1 => ?_)
  obtain ⟨v, rfl, hc2⟩ := hq r1 σ1 q1
  refine V_aload_n oo dL_law_889 rfl rfl ?_
  refine V_arg (k := 1) oo hsc dL_law_890 dL_law_891 dL_law_893 dL_law_894 dL_law_895 (by decide) rfl rfl (by omega) (by omega) ?_
  refine L_callV hL oo dL_law_896 ml_L_117 hc2 rfl rfl rfl (Nat.le_of_ble_eq_true rfl) (by rw [hR]; exact ⟨Nat.le_of_ble_eq_true rfl, Nat.le_of_ble_eq_true rfl⟩) hc0 (fun r2 σ2 q2 => ?_)
  obtain ⟨rfl, hS2⟩ := q2
  exact V_icmp_eq (tgt := 1420) oo dL_law_899 (by decide) (fun _ => V_wid (Nat.le_succ _) (Nat.le_add_right _ _) (nx σ2 o hS2)) (fun z => absurd rfl z)
set_option maxRecDepth 20000 in
set_option maxHeartbeats 4000000 in
theorem cs_21 {w : Wp} {un1 : Nat → Nat} {x : Cx} {Ln : Nat} {xs : Nat → Int32} (hL : Lf w un1) (oo : Ok sh1 (wO w un1) x RL mL_law) (hR : x.R = room_1) (hlt : w.l.stackTraces = false) (hZ : Zs w x.s) (hsc : Sc w un1 x Ln xs) {k i : Nat} {σ : Mm} {o : Int64} {cn : Nat × Nat} (hS : St k σ) (hk : k < 512) (hi : i + 6 ≤ Ln) (hLn : Ln ≤ 3072) (hcn : cn.1 + 1 ≤ x.R.cells ∧ cn.2 + 6 ≤ x.R.slots) (nx : ∀ σ' o', St (k + 1) σ' → V sh1 (wO w un1) x mL_law (cn.1 + 1, cn.2 + 6) 1420 [(4, .int (nI i)), (3, .ref 79), (2, .ref 67), (1, .ref 1), (0, .ref 80)] [] (sO σ' o')) : V sh1 (wO w un1) x mL_law cn 904 [(4, .int (nI i)), (3, .ref 79), (2, .ref 67), (1, .ref 1), (0, .ref 80)] [] (sO σ o) := by
  have hc0 : cn.1 ≤ x.R.cells ∧ cn.2 ≤ x.R.slots := ⟨Nat.le_of_succ_le hcn.1, Nat.le_trans (Nat.le_add_right _ _) hcn.2⟩
  obtain ⟨Q, hQ, hq⟩ : Pr w k 2 3 mX8_full mX9_full [.int (xs (i + 1))] σ := p_full hL.1 hS hk
  refine V_aload_n oo dL_law_904 rfl rfl ?_
  refine V_arg (k := 1) oo hsc dL_law_905 dL_law_906 dL_law_908 dL_law_909 dL_law_910 (by decide) rfl rfl (by omega) (by omega) ?_
  refine L_callV hL oo dL_law_911 ml_L_118 hQ rfl rfl rfl (Nat.le_of_ble_eq_true rfl) (by rw [hR]; exact ⟨Nat.le_of_ble_eq_true rfl, Nat.le_of_ble_eq_true rfl⟩) hc0 (fun r1 σ1 q1 => ?_)
  obtain ⟨v, rfl, hc2⟩ := hq r1 σ1 q1
  refine V_aload_n oo dL_law_914 rfl rfl ?_
  refine V_arg (k := 1) oo hsc dL_law_915 dL_law_916 dL_law_918 dL_law_919 dL_law_920 (by decide) rfl rfl (by omega) (by omega) ?_
  refine L_callV hL oo dL_law_921 ml_L_121 hc2 rfl rfl rfl (Nat.le_of_ble_eq_true rfl) (by rw [hR]; exact ⟨Nat.le_of_ble_eq_true rfl, Nat.le_of_ble_eq_true rfl⟩) hc0 (fun r2 σ2 q2 => ?_)
  obtain ⟨rfl, hS2⟩ := q2
  exact V_icmp_eq (tgt := 1420) oo dL_law_924 (by decide) (fun _ => V_wid (Nat.le_succ _) (Nat.le_add_right _ _) (nx σ2 o hS2)) (fun z => absurd rfl z)
set_option maxRecDepth 20000 in
set_option maxHeartbeats 4000000 in
theorem cs_22 {w : Wp} {un1 : Nat → Nat} {x : Cx} {Ln : Nat} {xs : Nat → Int32} (hL : Lf w un1) (oo : Ok sh1 (wO w un1) x RL mL_law) (hR : x.R = room_1) (hlt : w.l.stackTraces = false) (hZ : Zs w x.s) (hsc : Sc w un1 x Ln xs) {k i : Nat} {σ : Mm} {o : Int64} {cn : Nat × Nat} (hS : St k σ) (hk : k < 512) (hi : i + 6 ≤ Ln) (hLn : Ln ≤ 3072) (hcn : cn.1 + 1 ≤ x.R.cells ∧ cn.2 + 6 ≤ x.R.slots) (nx : ∀ σ' o', St (k + 1) σ' → V sh1 (wO w un1) x mL_law (cn.1 + 1, cn.2 + 6) 1420 [(4, .int (nI i)), (3, .ref 79), (2, .ref 67), (1, .ref 1), (0, .ref 80)] [] (sO σ' o')) : V sh1 (wO w un1) x mL_law cn 929 [(4, .int (nI i)), (3, .ref 79), (2, .ref 67), (1, .ref 1), (0, .ref 80)] [] (sO σ o) := by
  have hc0 : cn.1 ≤ x.R.cells ∧ cn.2 ≤ x.R.slots := ⟨Nat.le_of_succ_le hcn.1, Nat.le_trans (Nat.le_add_right _ _) hcn.2⟩
  obtain ⟨Q, hQ, hq⟩ : Pr w k 3 4 mX8_next mX9_next [] σ := p_next hL.1 hS hk
  refine V_aload_n oo dL_law_929 rfl rfl ?_
  refine L_callV hL oo dL_law_930 ml_L_122 hQ rfl rfl rfl (Nat.le_of_ble_eq_true rfl) (by rw [hR]; exact ⟨Nat.le_of_ble_eq_true rfl, Nat.le_of_ble_eq_true rfl⟩) hc0 (fun r1 σ1 q1 => ?_)
  obtain ⟨v, rfl, hc2⟩ := hq r1 σ1 q1
  refine V_aload_n oo dL_law_933 rfl rfl ?_
  refine L_callV hL oo dL_law_934 ml_L_125 hc2 rfl rfl rfl (Nat.le_of_ble_eq_true rfl) (by rw [hR]; exact ⟨Nat.le_of_ble_eq_true rfl, Nat.le_of_ble_eq_true rfl⟩) hc0 (fun r2 σ2 q2 => ?_)
  obtain ⟨rfl, hS2⟩ := q2
  exact V_icmp_eq (tgt := 1420) oo dL_law_937 (by decide) (fun _ => V_wid (Nat.le_succ _) (Nat.le_add_right _ _) (nx σ2 o hS2)) (fun z => absurd rfl z)
set_option maxRecDepth 20000 in
set_option maxHeartbeats 4000000 in
theorem cs_23 {w : Wp} {un1 : Nat → Nat} {x : Cx} {Ln : Nat} {xs : Nat → Int32} (hL : Lf w un1) (oo : Ok sh1 (wO w un1) x RL mL_law) (hR : x.R = room_1) (hlt : w.l.stackTraces = false) (hZ : Zs w x.s) (hsc : Sc w un1 x Ln xs) {k i : Nat} {σ : Mm} {o : Int64} {cn : Nat × Nat} (hS : St k σ) (hk : k < 512) (hi : i + 6 ≤ Ln) (hLn : Ln ≤ 3072) (hcn : cn.1 + 1 ≤ x.R.cells ∧ cn.2 + 6 ≤ x.R.slots) (nx : ∀ σ' o', St (k + 1) σ' → V sh1 (wO w un1) x mL_law (cn.1 + 1, cn.2 + 6) 1420 [(4, .int (nI i)), (3, .ref 79), (2, .ref 67), (1, .ref 1), (0, .ref 80)] [] (sO σ' o')) : V sh1 (wO w un1) x mL_law cn 942 [(4, .int (nI i)), (3, .ref 79), (2, .ref 67), (1, .ref 1), (0, .ref 80)] [] (sO σ o) := by
  have hc0 : cn.1 ≤ x.R.cells ∧ cn.2 ≤ x.R.slots := ⟨Nat.le_of_succ_le hcn.1, Nat.le_trans (Nat.le_add_right _ _) hcn.2⟩
  obtain ⟨Q, hQ, hq⟩ : Pr w k 4 8 mX8_rings mX9_rings [.int (xs (i + 1))] σ := p_rings hL.1 hS hk
  refine V_aload_n oo dL_law_942 rfl rfl ?_
  refine V_arg (k := 1) oo hsc dL_law_943 dL_law_944 dL_law_946 dL_law_947 dL_law_948 (by decide) rfl rfl (by omega) (by omega) ?_
  refine L_callV hL oo dL_law_949 ml_L_126 hQ rfl rfl rfl (Nat.le_of_ble_eq_true rfl) (by rw [hR]; exact ⟨Nat.le_of_ble_eq_true rfl, Nat.le_of_ble_eq_true rfl⟩) hc0 (fun r1 σ1 q1 => ?_)
  obtain ⟨v, rfl, hc2⟩ := hq r1 σ1 q1
  refine V_aload_n oo dL_law_952 rfl rfl ?_
  refine V_arg (k := 1) oo hsc dL_law_953 dL_law_954 dL_law_956 dL_law_957 dL_law_958 (by decide) rfl rfl (by omega) (by omega) ?_
  refine L_callV hL oo dL_law_959 ml_L_129 hc2 rfl rfl rfl (Nat.le_of_ble_eq_true rfl) (by rw [hR]; exact ⟨Nat.le_of_ble_eq_true rfl, Nat.le_of_ble_eq_true rfl⟩) hc0 (fun r2 σ2 q2 => ?_)
  obtain ⟨rfl, hS2⟩ := q2
  exact V_icmp_eq (tgt := 1420) oo dL_law_962 (by decide) (fun _ => V_wid (Nat.le_succ _) (Nat.le_add_right _ _) (nx σ2 o hS2)) (fun z => absurd rfl z)
set_option maxRecDepth 20000 in
set_option maxHeartbeats 4000000 in
theorem cs_24 {w : Wp} {un1 : Nat → Nat} {x : Cx} {Ln : Nat} {xs : Nat → Int32} (hL : Lf w un1) (oo : Ok sh1 (wO w un1) x RL mL_law) (hR : x.R = room_1) (hlt : w.l.stackTraces = false) (hZ : Zs w x.s) (hsc : Sc w un1 x Ln xs) {k i : Nat} {σ : Mm} {o : Int64} {cn : Nat × Nat} (hS : St k σ) (hk : k < 512) (hi : i + 6 ≤ Ln) (hLn : Ln ≤ 3072) (hcn : cn.1 + 1 ≤ x.R.cells ∧ cn.2 + 6 ≤ x.R.slots) (nx : ∀ σ' o', St (k + 1) σ' → V sh1 (wO w un1) x mL_law (cn.1 + 1, cn.2 + 6) 1420 [(4, .int (nI i)), (3, .ref 79), (2, .ref 67), (1, .ref 1), (0, .ref 80)] [] (sO σ' o')) : V sh1 (wO w un1) x mL_law cn 967 [(4, .int (nI i)), (3, .ref 79), (2, .ref 67), (1, .ref 1), (0, .ref 80)] [] (sO σ o) := by
  have hc0 : cn.1 ≤ x.R.cells ∧ cn.2 ≤ x.R.slots := ⟨Nat.le_of_succ_le hcn.1, Nat.le_trans (Nat.le_add_right _ _) hcn.2⟩
  obtain ⟨Q, hQ, hq⟩ : Pr w k 4 8 mX8_quiet mX9_quiet [.int (xs (i + 1))] σ := p_quiet hL.1 hS hk
  refine V_aload_n oo dL_law_967 rfl rfl ?_
  refine V_arg (k := 1) oo hsc dL_law_968 dL_law_969 dL_law_971 dL_law_972 dL_law_973 (by decide) rfl rfl (by omega) (by omega) ?_
  refine L_callV hL oo dL_law_974 ml_L_130 hQ rfl rfl rfl (Nat.le_of_ble_eq_true rfl) (by rw [hR]; exact ⟨Nat.le_of_ble_eq_true rfl, Nat.le_of_ble_eq_true rfl⟩) hc0 (fun r1 σ1 q1 => ?_)
  obtain ⟨v, rfl, hc2⟩ := hq r1 σ1 q1
  refine V_aload_n oo dL_law_977 rfl rfl ?_
  refine V_arg (k := 1) oo hsc dL_law_978 dL_law_979 dL_law_981 dL_law_982 dL_law_983 (by decide) rfl rfl (by omega) (by omega) ?_
  refine L_callV hL oo dL_law_984 ml_L_133 hc2 rfl rfl rfl (Nat.le_of_ble_eq_true rfl) (by rw [hR]; exact ⟨Nat.le_of_ble_eq_true rfl, Nat.le_of_ble_eq_true rfl⟩) hc0 (fun r2 σ2 q2 => ?_)
  obtain ⟨rfl, hS2⟩ := q2
  exact V_icmp_eq (tgt := 1420) oo dL_law_987 (by decide) (fun _ => V_wid (Nat.le_succ _) (Nat.le_add_right _ _) (nx σ2 o hS2)) (fun z => absurd rfl z)
set_option maxRecDepth 20000 in
set_option maxHeartbeats 4000000 in
theorem cs_25 {w : Wp} {un1 : Nat → Nat} {x : Cx} {Ln : Nat} {xs : Nat → Int32} (hL : Lf w un1) (oo : Ok sh1 (wO w un1) x RL mL_law) (hR : x.R = room_1) (hlt : w.l.stackTraces = false) (hZ : Zs w x.s) (hsc : Sc w un1 x Ln xs) {k i : Nat} {σ : Mm} {o : Int64} {cn : Nat × Nat} (hS : St k σ) (hk : k < 512) (hi : i + 6 ≤ Ln) (hLn : Ln ≤ 3072) (hcn : cn.1 + 1 ≤ x.R.cells ∧ cn.2 + 6 ≤ x.R.slots) (nx : ∀ σ' o', St (k + 1) σ' → V sh1 (wO w un1) x mL_law (cn.1 + 1, cn.2 + 6) 1420 [(4, .int (nI i)), (3, .ref 79), (2, .ref 67), (1, .ref 1), (0, .ref 80)] [] (sO σ' o')) : V sh1 (wO w un1) x mL_law cn 992 [(4, .int (nI i)), (3, .ref 79), (2, .ref 67), (1, .ref 1), (0, .ref 80)] [] (sO σ o) := by
  have hc0 : cn.1 ≤ x.R.cells ∧ cn.2 ≤ x.R.slots := ⟨Nat.le_of_succ_le hcn.1, Nat.le_trans (Nat.le_add_right _ _) hcn.2⟩
  obtain ⟨Q, hQ, hq⟩ : Pr w k 3 5 mX8_moves mX9_moves [.int (xs (i + 1))] σ := p_moves hL.1 hS hk
  refine V_aload_n oo dL_law_992 rfl rfl ?_
  refine V_arg (k := 1) oo hsc dL_law_993 dL_law_994 dL_law_996 dL_law_997 dL_law_998 (by decide) rfl rfl (by omega) (by omega) ?_
  refine L_callV hL oo dL_law_999 ml_L_134 hQ rfl rfl rfl (Nat.le_of_ble_eq_true rfl) (by rw [hR]; exact ⟨Nat.le_of_ble_eq_true rfl, Nat.le_of_ble_eq_true rfl⟩) hc0 (fun r1 σ1 q1 => ?_)
  obtain ⟨v, rfl, hc2⟩ := hq r1 σ1 q1
  refine V_aload_n oo dL_law_1002 rfl rfl ?_
  refine V_arg (k := 1) oo hsc dL_law_1003 dL_law_1004 dL_law_1006 dL_law_1007 dL_law_1008 (by decide) rfl rfl (by omega) (by omega) ?_
  refine L_callV hL oo dL_law_1009 ml_L_137 hc2 rfl rfl rfl (Nat.le_of_ble_eq_true rfl) (by rw [hR]; exact ⟨Nat.le_of_ble_eq_true rfl, Nat.le_of_ble_eq_true rfl⟩) hc0 (fun r2 σ2 q2 => ?_)
  obtain ⟨rfl, hS2⟩ := q2
  exact V_icmp_eq (tgt := 1420) oo dL_law_1012 (by decide) (fun _ => V_wid (Nat.le_succ _) (Nat.le_add_right _ _) (nx σ2 o hS2)) (fun z => absurd rfl z)
set_option maxRecDepth 20000 in
set_option maxHeartbeats 4000000 in
theorem cs_26 {w : Wp} {un1 : Nat → Nat} {x : Cx} {Ln : Nat} {xs : Nat → Int32} (hL : Lf w un1) (oo : Ok sh1 (wO w un1) x RL mL_law) (hR : x.R = room_1) (hlt : w.l.stackTraces = false) (hZ : Zs w x.s) (hsc : Sc w un1 x Ln xs) {k i : Nat} {σ : Mm} {o : Int64} {cn : Nat × Nat} (hS : St k σ) (hk : k < 512) (hi : i + 6 ≤ Ln) (hLn : Ln ≤ 3072) (hcn : cn.1 + 1 ≤ x.R.cells ∧ cn.2 + 6 ≤ x.R.slots) (nx : ∀ σ' o', St (k + 1) σ' → V sh1 (wO w un1) x mL_law (cn.1 + 1, cn.2 + 6) 1420 [(4, .int (nI i)), (3, .ref 79), (2, .ref 67), (1, .ref 1), (0, .ref 80)] [] (sO σ' o')) : V sh1 (wO w un1) x mL_law cn 1017 [(4, .int (nI i)), (3, .ref 79), (2, .ref 67), (1, .ref 1), (0, .ref 80)] [] (sO σ o) := by
  have hc0 : cn.1 ≤ x.R.cells ∧ cn.2 ≤ x.R.slots := ⟨Nat.le_of_succ_le hcn.1, Nat.le_trans (Nat.le_add_right _ _) hcn.2⟩
  obtain ⟨Q, hQ, hq⟩ : Pr w k 4 7 mX8_cost mX9_cost [.int (xs (i + 1)), .int (xs (i + 2)), .int (xs (i + 3)), .int (xs (i + 4))] σ := p_cost hL.1 hS hk
  refine V_aload_n oo dL_law_1017 rfl rfl ?_
  refine V_arg (k := 1) oo hsc dL_law_1018 dL_law_1019 dL_law_1021 dL_law_1022 dL_law_1023 (by decide) rfl rfl (by omega) (by omega) ?_
  refine V_arg (k := 2) oo hsc dL_law_1024 dL_law_1025 dL_law_1027 dL_law_1028 dL_law_1029 (by decide) rfl rfl (by omega) (by omega) ?_
  refine V_arg (k := 3) oo hsc dL_law_1030 dL_law_1031 dL_law_1033 dL_law_1034 dL_law_1035 (by decide) rfl rfl (by omega) (by omega) ?_
  refine V_arg (k := 4) oo hsc dL_law_1036 dL_law_1037 dL_law_1039 dL_law_1040 dL_law_1041 (by decide) rfl rfl (by omega) (by omega) ?_
  refine L_callV hL oo dL_law_1042 ml_L_138 hQ rfl rfl rfl (Nat.le_of_ble_eq_true rfl) (by rw [hR]; exact ⟨Nat.le_of_ble_eq_true rfl, Nat.le_of_ble_eq_true rfl⟩) hc0 (fun r1 σ1 q1 => ?_)
  obtain ⟨v, rfl, hc2⟩ := hq r1 σ1 q1
  refine V_aload_n oo dL_law_1045 rfl rfl ?_
  refine V_arg (k := 1) oo hsc dL_law_1046 dL_law_1047 dL_law_1049 dL_law_1050 dL_law_1051 (by decide) rfl rfl (by omega) (by omega) ?_
  refine V_arg (k := 2) oo hsc dL_law_1052 dL_law_1053 dL_law_1055 dL_law_1056 dL_law_1057 (by decide) rfl rfl (by omega) (by omega) ?_
  refine V_arg (k := 3) oo hsc dL_law_1058 dL_law_1059 dL_law_1061 dL_law_1062 dL_law_1063 (by decide) rfl rfl (by omega) (by omega) ?_
  refine V_arg (k := 4) oo hsc dL_law_1064 dL_law_1065 dL_law_1067 dL_law_1068 dL_law_1069 (by decide) rfl rfl (by omega) (by omega) ?_
  refine L_callV hL oo dL_law_1070 ml_L_141 hc2 rfl rfl rfl (Nat.le_of_ble_eq_true rfl) (by rw [hR]; exact ⟨Nat.le_of_ble_eq_true rfl, Nat.le_of_ble_eq_true rfl⟩) hc0 (fun r2 σ2 q2 => ?_)
  obtain ⟨rfl, hS2⟩ := q2
  exact V_icmp_eq (tgt := 1420) oo dL_law_1073 (by decide) (fun _ => V_wid (Nat.le_succ _) (Nat.le_add_right _ _) (nx σ2 o hS2)) (fun z => absurd rfl z)
set_option maxRecDepth 20000 in
set_option maxHeartbeats 4000000 in
theorem cs_27 {w : Wp} {un1 : Nat → Nat} {x : Cx} {Ln : Nat} {xs : Nat → Int32} (hL : Lf w un1) (oo : Ok sh1 (wO w un1) x RL mL_law) (hR : x.R = room_1) (hlt : w.l.stackTraces = false) (hZ : Zs w x.s) (hsc : Sc w un1 x Ln xs) {k i : Nat} {σ : Mm} {o : Int64} {cn : Nat × Nat} (hS : St k σ) (hk : k < 512) (hi : i + 6 ≤ Ln) (hLn : Ln ≤ 3072) (hcn : cn.1 + 1 ≤ x.R.cells ∧ cn.2 + 6 ≤ x.R.slots) (nx : ∀ σ' o', St (k + 1) σ' → V sh1 (wO w un1) x mL_law (cn.1 + 1, cn.2 + 6) 1420 [(4, .int (nI i)), (3, .ref 79), (2, .ref 67), (1, .ref 1), (0, .ref 80)] [] (sO σ' o')) : V sh1 (wO w un1) x mL_law cn 1078 [(4, .int (nI i)), (3, .ref 79), (2, .ref 67), (1, .ref 1), (0, .ref 80)] [] (sO σ o) := by
  have hc0 : cn.1 ≤ x.R.cells ∧ cn.2 ≤ x.R.slots := ⟨Nat.le_of_succ_le hcn.1, Nat.le_trans (Nat.le_add_right _ _) hcn.2⟩
  obtain ⟨Q, hQ, hq⟩ : Pr w k 4 7 mX8_best mX9_best [.int (xs (i + 1))] σ := p_best hL.1 hS hk
  refine V_aload_n oo dL_law_1078 rfl rfl ?_
  refine V_arg (k := 1) oo hsc dL_law_1079 dL_law_1080 dL_law_1082 dL_law_1083 dL_law_1084 (by decide) rfl rfl (by omega) (by omega) ?_
  refine L_callV hL oo dL_law_1085 ml_L_142 hQ rfl rfl rfl (Nat.le_of_ble_eq_true rfl) (by rw [hR]; exact ⟨Nat.le_of_ble_eq_true rfl, Nat.le_of_ble_eq_true rfl⟩) hc0 (fun r1 σ1 q1 => ?_)
  obtain ⟨v, rfl, hc2⟩ := hq r1 σ1 q1
  refine V_aload_n oo dL_law_1088 rfl rfl ?_
  refine V_arg (k := 1) oo hsc dL_law_1089 dL_law_1090 dL_law_1092 dL_law_1093 dL_law_1094 (by decide) rfl rfl (by omega) (by omega) ?_
  refine L_callV hL oo dL_law_1095 ml_L_145 hc2 rfl rfl rfl (Nat.le_of_ble_eq_true rfl) (by rw [hR]; exact ⟨Nat.le_of_ble_eq_true rfl, Nat.le_of_ble_eq_true rfl⟩) hc0 (fun r2 σ2 q2 => ?_)
  obtain ⟨rfl, hS2⟩ := q2
  exact V_icmp_eq (tgt := 1420) oo dL_law_1098 (by decide) (fun _ => V_wid (Nat.le_succ _) (Nat.le_add_right _ _) (nx σ2 o hS2)) (fun z => absurd rfl z)
set_option maxRecDepth 20000 in
set_option maxHeartbeats 4000000 in
theorem cs_28 {w : Wp} {un1 : Nat → Nat} {x : Cx} {Ln : Nat} {xs : Nat → Int32} (hL : Lf w un1) (oo : Ok sh1 (wO w un1) x RL mL_law) (hR : x.R = room_1) (hlt : w.l.stackTraces = false) (hZ : Zs w x.s) (hsc : Sc w un1 x Ln xs) {k i : Nat} {σ : Mm} {o : Int64} {cn : Nat × Nat} (hS : St k σ) (hk : k < 512) (hi : i + 6 ≤ Ln) (hLn : Ln ≤ 3072) (hcn : cn.1 + 1 ≤ x.R.cells ∧ cn.2 + 6 ≤ x.R.slots) (nx : ∀ σ' o', St (k + 1) σ' → V sh1 (wO w un1) x mL_law (cn.1 + 1, cn.2 + 6) 1420 [(4, .int (nI i)), (3, .ref 79), (2, .ref 67), (1, .ref 1), (0, .ref 80)] [] (sO σ' o')) : V sh1 (wO w un1) x mL_law cn 1103 [(4, .int (nI i)), (3, .ref 79), (2, .ref 67), (1, .ref 1), (0, .ref 80)] [] (sO σ o) := by
  have hc0 : cn.1 ≤ x.R.cells ∧ cn.2 ≤ x.R.slots := ⟨Nat.le_of_succ_le hcn.1, Nat.le_trans (Nat.le_add_right _ _) hcn.2⟩
  obtain ⟨Q, hQ, hq⟩ : Pr w k 1 3 mX8_ahead mX9_ahead [.int (xs (i + 1)), .int (xs (i + 2))] σ := p_ahead hL.1 hS hk
  refine V_aload_n oo dL_law_1103 rfl rfl ?_
  refine V_arg (k := 1) oo hsc dL_law_1104 dL_law_1105 dL_law_1107 dL_law_1108 dL_law_1109 (by decide) rfl rfl (by omega) (by omega) ?_
  refine V_arg (k := 2) oo hsc dL_law_1110 dL_law_1111 dL_law_1113 dL_law_1114 dL_law_1115 (by decide) rfl rfl (by omega) (by omega) ?_
  refine L_callV hL oo dL_law_1116 ml_L_146 hQ rfl rfl rfl (Nat.le_of_ble_eq_true rfl) (by rw [hR]; exact ⟨Nat.le_of_ble_eq_true rfl, Nat.le_of_ble_eq_true rfl⟩) hc0 (fun r1 σ1 q1 => ?_)
  obtain ⟨v, rfl, hc2⟩ := hq r1 σ1 q1
  refine V_aload_n oo dL_law_1119 rfl rfl ?_
  refine V_arg (k := 1) oo hsc dL_law_1120 dL_law_1121 dL_law_1123 dL_law_1124 dL_law_1125 (by decide) rfl rfl (by omega) (by omega) ?_
  refine V_arg (k := 2) oo hsc dL_law_1126 dL_law_1127 dL_law_1129 dL_law_1130 dL_law_1131 (by decide) rfl rfl (by omega) (by omega) ?_
  refine L_callV hL oo dL_law_1132 ml_L_149 hc2 rfl rfl rfl (Nat.le_of_ble_eq_true rfl) (by rw [hR]; exact ⟨Nat.le_of_ble_eq_true rfl, Nat.le_of_ble_eq_true rfl⟩) hc0 (fun r2 σ2 q2 => ?_)
  obtain ⟨rfl, hS2⟩ := q2
  exact V_icmp_eq (tgt := 1420) oo dL_law_1135 (by decide) (fun _ => V_wid (Nat.le_succ _) (Nat.le_add_right _ _) (nx σ2 o hS2)) (fun z => absurd rfl z)
set_option maxRecDepth 20000 in
set_option maxHeartbeats 4000000 in
theorem cs_29 {w : Wp} {un1 : Nat → Nat} {x : Cx} {Ln : Nat} {xs : Nat → Int32} (hL : Lf w un1) (oo : Ok sh1 (wO w un1) x RL mL_law) (hR : x.R = room_1) (hlt : w.l.stackTraces = false) (hZ : Zs w x.s) (hsc : Sc w un1 x Ln xs) {k i : Nat} {σ : Mm} {o : Int64} {cn : Nat × Nat} (hS : St k σ) (hk : k < 512) (hi : i + 6 ≤ Ln) (hLn : Ln ≤ 3072) (hcn : cn.1 + 1 ≤ x.R.cells ∧ cn.2 + 6 ≤ x.R.slots) (nx : ∀ σ' o', St (k + 1) σ' → V sh1 (wO w un1) x mL_law (cn.1 + 1, cn.2 + 6) 1420 [(4, .int (nI i)), (3, .ref 79), (2, .ref 67), (1, .ref 1), (0, .ref 80)] [] (sO σ' o')) : V sh1 (wO w un1) x mL_law cn 1140 [(4, .int (nI i)), (3, .ref 79), (2, .ref 67), (1, .ref 1), (0, .ref 80)] [] (sO σ o) := by
  have hc0 : cn.1 ≤ x.R.cells ∧ cn.2 ≤ x.R.slots := ⟨Nat.le_of_succ_le hcn.1, Nat.le_trans (Nat.le_add_right _ _) hcn.2⟩
  obtain ⟨Q, hQ, hq⟩ : Pr w k 3 5 mX8_way mX9_way [.int (xs (i + 1))] σ := p_way hL.1 hS hk
  refine V_aload_n oo dL_law_1140 rfl rfl ?_
  refine V_arg (k := 1) oo hsc dL_law_1141 dL_law_1142 dL_law_1144 dL_law_1145 dL_law_1146 (by decide) rfl rfl (by omega) (by omega) ?_
  refine L_callV hL oo dL_law_1147 ml_L_150 hQ rfl rfl rfl (Nat.le_of_ble_eq_true rfl) (by rw [hR]; exact ⟨Nat.le_of_ble_eq_true rfl, Nat.le_of_ble_eq_true rfl⟩) hc0 (fun r1 σ1 q1 => ?_)
  obtain ⟨v, rfl, hc2⟩ := hq r1 σ1 q1
  refine V_aload_n oo dL_law_1150 rfl rfl ?_
  refine V_arg (k := 1) oo hsc dL_law_1151 dL_law_1152 dL_law_1154 dL_law_1155 dL_law_1156 (by decide) rfl rfl (by omega) (by omega) ?_
  refine L_callV hL oo dL_law_1157 ml_L_153 hc2 rfl rfl rfl (Nat.le_of_ble_eq_true rfl) (by rw [hR]; exact ⟨Nat.le_of_ble_eq_true rfl, Nat.le_of_ble_eq_true rfl⟩) hc0 (fun r2 σ2 q2 => ?_)
  obtain ⟨rfl, hS2⟩ := q2
  exact V_icmp_eq (tgt := 1420) oo dL_law_1160 (by decide) (fun _ => V_wid (Nat.le_succ _) (Nat.le_add_right _ _) (nx σ2 o hS2)) (fun z => absurd rfl z)
set_option maxRecDepth 20000 in
set_option maxHeartbeats 4000000 in
theorem cs_30 {w : Wp} {un1 : Nat → Nat} {x : Cx} {Ln : Nat} {xs : Nat → Int32} (hL : Lf w un1) (oo : Ok sh1 (wO w un1) x RL mL_law) (hR : x.R = room_1) (hlt : w.l.stackTraces = false) (hZ : Zs w x.s) (hsc : Sc w un1 x Ln xs) {k i : Nat} {σ : Mm} {o : Int64} {cn : Nat × Nat} (hS : St k σ) (hk : k < 512) (hi : i + 6 ≤ Ln) (hLn : Ln ≤ 3072) (hcn : cn.1 + 1 ≤ x.R.cells ∧ cn.2 + 6 ≤ x.R.slots) (nx : ∀ σ' o', St (k + 1) σ' → V sh1 (wO w un1) x mL_law (cn.1 + 1, cn.2 + 6) 1420 [(4, .int (nI i)), (3, .ref 79), (2, .ref 67), (1, .ref 1), (0, .ref 80)] [] (sO σ' o')) : V sh1 (wO w un1) x mL_law cn 1165 [(4, .int (nI i)), (3, .ref 79), (2, .ref 67), (1, .ref 1), (0, .ref 80)] [] (sO σ o) := by
  have hc0 : cn.1 ≤ x.R.cells ∧ cn.2 ≤ x.R.slots := ⟨Nat.le_of_succ_le hcn.1, Nat.le_trans (Nat.le_add_right _ _) hcn.2⟩
  obtain ⟨Q, hQ, hq⟩ : Pr w k 4 8 mX8_would mX9_would [.int (xs (i + 1))] σ := p_would hL.1 hS hk
  refine V_aload_n oo dL_law_1165 rfl rfl ?_
  refine V_arg (k := 1) oo hsc dL_law_1166 dL_law_1167 dL_law_1169 dL_law_1170 dL_law_1171 (by decide) rfl rfl (by omega) (by omega) ?_
  refine L_callV hL oo dL_law_1172 ml_L_154 hQ rfl rfl rfl (Nat.le_of_ble_eq_true rfl) (by rw [hR]; exact ⟨Nat.le_of_ble_eq_true rfl, Nat.le_of_ble_eq_true rfl⟩) hc0 (fun r1 σ1 q1 => ?_)
  obtain ⟨v, rfl, hc2⟩ := hq r1 σ1 q1
  refine V_aload_n oo dL_law_1175 rfl rfl ?_
  refine V_arg (k := 1) oo hsc dL_law_1176 dL_law_1177 dL_law_1179 dL_law_1180 dL_law_1181 (by decide) rfl rfl (by omega) (by omega) ?_
  refine L_callV hL oo dL_law_1182 ml_L_157 hc2 rfl rfl rfl (Nat.le_of_ble_eq_true rfl) (by rw [hR]; exact ⟨Nat.le_of_ble_eq_true rfl, Nat.le_of_ble_eq_true rfl⟩) hc0 (fun r2 σ2 q2 => ?_)
  obtain ⟨rfl, hS2⟩ := q2
  exact V_icmp_eq (tgt := 1420) oo dL_law_1185 (by decide) (fun _ => V_wid (Nat.le_succ _) (Nat.le_add_right _ _) (nx σ2 o hS2)) (fun z => absurd rfl z)
set_option maxRecDepth 20000 in
set_option maxHeartbeats 4000000 in
theorem cs_31 {w : Wp} {un1 : Nat → Nat} {x : Cx} {Ln : Nat} {xs : Nat → Int32} (hL : Lf w un1) (oo : Ok sh1 (wO w un1) x RL mL_law) (hR : x.R = room_1) (hlt : w.l.stackTraces = false) (hZ : Zs w x.s) (hsc : Sc w un1 x Ln xs) {k i : Nat} {σ : Mm} {o : Int64} {cn : Nat × Nat} (hS : St k σ) (hk : k < 512) (hi : i + 6 ≤ Ln) (hLn : Ln ≤ 3072) (hcn : cn.1 + 1 ≤ x.R.cells ∧ cn.2 + 6 ≤ x.R.slots) (nx : ∀ σ' o', St (k + 1) σ' → V sh1 (wO w un1) x mL_law (cn.1 + 1, cn.2 + 6) 1420 [(4, .int (nI i)), (3, .ref 79), (2, .ref 67), (1, .ref 1), (0, .ref 80)] [] (sO σ' o')) : V sh1 (wO w un1) x mL_law cn 1190 [(4, .int (nI i)), (3, .ref 79), (2, .ref 67), (1, .ref 1), (0, .ref 80)] [] (sO σ o) := by
  have hc0 : cn.1 ≤ x.R.cells ∧ cn.2 ≤ x.R.slots := ⟨Nat.le_of_succ_le hcn.1, Nat.le_trans (Nat.le_add_right _ _) hcn.2⟩
  obtain ⟨Q, hQ, hq⟩ : Pr w k 4 8 mX8_busiest mX9_busiest [.int (xs (i + 1))] σ := p_busiest hL.1 hS hk
  refine V_aload_n oo dL_law_1190 rfl rfl ?_
  refine V_arg (k := 1) oo hsc dL_law_1191 dL_law_1192 dL_law_1194 dL_law_1195 dL_law_1196 (by decide) rfl rfl (by omega) (by omega) ?_
  refine L_callV hL oo dL_law_1197 ml_L_158 hQ rfl rfl rfl (Nat.le_of_ble_eq_true rfl) (by rw [hR]; exact ⟨Nat.le_of_ble_eq_true rfl, Nat.le_of_ble_eq_true rfl⟩) hc0 (fun r1 σ1 q1 => ?_)
  obtain ⟨v, rfl, hc2⟩ := hq r1 σ1 q1
  refine V_aload_n oo dL_law_1200 rfl rfl ?_
  refine V_arg (k := 1) oo hsc dL_law_1201 dL_law_1202 dL_law_1204 dL_law_1205 dL_law_1206 (by decide) rfl rfl (by omega) (by omega) ?_
  refine L_callV hL oo dL_law_1207 ml_L_161 hc2 rfl rfl rfl (Nat.le_of_ble_eq_true rfl) (by rw [hR]; exact ⟨Nat.le_of_ble_eq_true rfl, Nat.le_of_ble_eq_true rfl⟩) hc0 (fun r2 σ2 q2 => ?_)
  obtain ⟨rfl, hS2⟩ := q2
  exact V_icmp_eq (tgt := 1420) oo dL_law_1210 (by decide) (fun _ => V_wid (Nat.le_succ _) (Nat.le_add_right _ _) (nx σ2 o hS2)) (fun z => absurd rfl z)
set_option maxRecDepth 20000 in
set_option maxHeartbeats 4000000 in
theorem cs_32 {w : Wp} {un1 : Nat → Nat} {x : Cx} {Ln : Nat} {xs : Nat → Int32} (hL : Lf w un1) (oo : Ok sh1 (wO w un1) x RL mL_law) (hR : x.R = room_1) (hlt : w.l.stackTraces = false) (hZ : Zs w x.s) (hsc : Sc w un1 x Ln xs) {k i : Nat} {σ : Mm} {o : Int64} {cn : Nat × Nat} (hS : St k σ) (hk : k < 512) (hi : i + 6 ≤ Ln) (hLn : Ln ≤ 3072) (hcn : cn.1 + 1 ≤ x.R.cells ∧ cn.2 + 6 ≤ x.R.slots) (nx : ∀ σ' o', St (k + 1) σ' → V sh1 (wO w un1) x mL_law (cn.1 + 1, cn.2 + 6) 1420 [(4, .int (nI i)), (3, .ref 79), (2, .ref 67), (1, .ref 1), (0, .ref 80)] [] (sO σ' o')) : V sh1 (wO w un1) x mL_law cn 1215 [(4, .int (nI i)), (3, .ref 79), (2, .ref 67), (1, .ref 1), (0, .ref 80)] [] (sO σ o) := by
  have hc0 : cn.1 ≤ x.R.cells ∧ cn.2 ≤ x.R.slots := ⟨Nat.le_of_succ_le hcn.1, Nat.le_trans (Nat.le_add_right _ _) hcn.2⟩
  obtain ⟨Q, hQ, hq⟩ : Pr w k 4 8 mX8_till mX9_till [.int (xs (i + 1))] σ := p_till hL.1 hS hk
  refine V_aload_n oo dL_law_1215 rfl rfl ?_
  refine V_arg (k := 1) oo hsc dL_law_1216 dL_law_1217 dL_law_1219 dL_law_1220 dL_law_1221 (by decide) rfl rfl (by omega) (by omega) ?_
  refine L_callV hL oo dL_law_1222 ml_L_162 hQ rfl rfl rfl (Nat.le_of_ble_eq_true rfl) (by rw [hR]; exact ⟨Nat.le_of_ble_eq_true rfl, Nat.le_of_ble_eq_true rfl⟩) hc0 (fun r1 σ1 q1 => ?_)
  obtain ⟨v, rfl, hc2⟩ := hq r1 σ1 q1
  refine V_aload_n oo dL_law_1225 rfl rfl ?_
  refine V_arg (k := 1) oo hsc dL_law_1226 dL_law_1227 dL_law_1229 dL_law_1230 dL_law_1231 (by decide) rfl rfl (by omega) (by omega) ?_
  refine L_callV hL oo dL_law_1232 ml_L_165 hc2 rfl rfl rfl (Nat.le_of_ble_eq_true rfl) (by rw [hR]; exact ⟨Nat.le_of_ble_eq_true rfl, Nat.le_of_ble_eq_true rfl⟩) hc0 (fun r2 σ2 q2 => ?_)
  obtain ⟨rfl, hS2⟩ := q2
  exact V_icmp_eq (tgt := 1420) oo dL_law_1235 (by decide) (fun _ => V_wid (Nat.le_succ _) (Nat.le_add_right _ _) (nx σ2 o hS2)) (fun z => absurd rfl z)
set_option maxRecDepth 20000 in
set_option maxHeartbeats 4000000 in
theorem cs_33 {w : Wp} {un1 : Nat → Nat} {x : Cx} {Ln : Nat} {xs : Nat → Int32} (hL : Lf w un1) (oo : Ok sh1 (wO w un1) x RL mL_law) (hR : x.R = room_1) (hlt : w.l.stackTraces = false) (hZ : Zs w x.s) (hsc : Sc w un1 x Ln xs) {k i : Nat} {σ : Mm} {o : Int64} {cn : Nat × Nat} (hS : St k σ) (hk : k < 512) (hi : i + 6 ≤ Ln) (hLn : Ln ≤ 3072) (hcn : cn.1 + 1 ≤ x.R.cells ∧ cn.2 + 6 ≤ x.R.slots) (nx : ∀ σ' o', St (k + 1) σ' → V sh1 (wO w un1) x mL_law (cn.1 + 1, cn.2 + 6) 1420 [(4, .int (nI i)), (3, .ref 79), (2, .ref 67), (1, .ref 1), (0, .ref 80)] [] (sO σ' o')) : V sh1 (wO w un1) x mL_law cn 1240 [(4, .int (nI i)), (3, .ref 79), (2, .ref 67), (1, .ref 1), (0, .ref 80)] [] (sO σ o) := by
  have hc0 : cn.1 ≤ x.R.cells ∧ cn.2 ≤ x.R.slots := ⟨Nat.le_of_succ_le hcn.1, Nat.le_trans (Nat.le_add_right _ _) hcn.2⟩
  obtain ⟨Q, hQ, hq⟩ : Pr w k 4 8 mX8_loudest mX9_loudest [.int (xs (i + 1))] σ := p_loudest hL.1 hS hk
  refine V_aload_n oo dL_law_1240 rfl rfl ?_
  refine V_arg (k := 1) oo hsc dL_law_1241 dL_law_1242 dL_law_1244 dL_law_1245 dL_law_1246 (by decide) rfl rfl (by omega) (by omega) ?_
  refine L_callV hL oo dL_law_1247 ml_L_166 hQ rfl rfl rfl (Nat.le_of_ble_eq_true rfl) (by rw [hR]; exact ⟨Nat.le_of_ble_eq_true rfl, Nat.le_of_ble_eq_true rfl⟩) hc0 (fun r1 σ1 q1 => ?_)
  obtain ⟨v, rfl, hc2⟩ := hq r1 σ1 q1
  refine V_aload_n oo dL_law_1250 rfl rfl ?_
  refine V_arg (k := 1) oo hsc dL_law_1251 dL_law_1252 dL_law_1254 dL_law_1255 dL_law_1256 (by decide) rfl rfl (by omega) (by omega) ?_
  refine L_callV hL oo dL_law_1257 ml_L_169 hc2 rfl rfl rfl (Nat.le_of_ble_eq_true rfl) (by rw [hR]; exact ⟨Nat.le_of_ble_eq_true rfl, Nat.le_of_ble_eq_true rfl⟩) hc0 (fun r2 σ2 q2 => ?_)
  obtain ⟨rfl, hS2⟩ := q2
  exact V_icmp_eq (tgt := 1420) oo dL_law_1260 (by decide) (fun _ => V_wid (Nat.le_succ _) (Nat.le_add_right _ _) (nx σ2 o hS2)) (fun z => absurd rfl z)
set_option maxRecDepth 20000 in
set_option maxHeartbeats 4000000 in
theorem cs_34 {w : Wp} {un1 : Nat → Nat} {x : Cx} {Ln : Nat} {xs : Nat → Int32} (hL : Lf w un1) (oo : Ok sh1 (wO w un1) x RL mL_law) (hR : x.R = room_1) (hlt : w.l.stackTraces = false) (hZ : Zs w x.s) (hsc : Sc w un1 x Ln xs) {k i : Nat} {σ : Mm} {o : Int64} {cn : Nat × Nat} (hS : St k σ) (hk : k < 512) (hi : i + 6 ≤ Ln) (hLn : Ln ≤ 3072) (hcn : cn.1 + 1 ≤ x.R.cells ∧ cn.2 + 6 ≤ x.R.slots) (nx : ∀ σ' o', St (k + 1) σ' → V sh1 (wO w un1) x mL_law (cn.1 + 1, cn.2 + 6) 1420 [(4, .int (nI i)), (3, .ref 79), (2, .ref 67), (1, .ref 1), (0, .ref 80)] [] (sO σ' o')) : V sh1 (wO w un1) x mL_law cn 1265 [(4, .int (nI i)), (3, .ref 79), (2, .ref 67), (1, .ref 1), (0, .ref 80)] [] (sO σ o) := by
  have hc0 : cn.1 ≤ x.R.cells ∧ cn.2 ≤ x.R.slots := ⟨Nat.le_of_succ_le hcn.1, Nat.le_trans (Nat.le_add_right _ _) hcn.2⟩
  obtain ⟨Q, hQ, hq⟩ : Pr w k 4 8 mX8_clashes mX9_clashes [.int (xs (i + 1))] σ := p_clashes hL.1 hS hk
  refine V_aload_n oo dL_law_1265 rfl rfl ?_
  refine V_arg (k := 1) oo hsc dL_law_1266 dL_law_1267 dL_law_1269 dL_law_1270 dL_law_1271 (by decide) rfl rfl (by omega) (by omega) ?_
  refine L_callV hL oo dL_law_1272 ml_L_170 hQ rfl rfl rfl (Nat.le_of_ble_eq_true rfl) (by rw [hR]; exact ⟨Nat.le_of_ble_eq_true rfl, Nat.le_of_ble_eq_true rfl⟩) hc0 (fun r1 σ1 q1 => ?_)
  obtain ⟨v, rfl, hc2⟩ := hq r1 σ1 q1
  refine V_aload_n oo dL_law_1275 rfl rfl ?_
  refine V_arg (k := 1) oo hsc dL_law_1276 dL_law_1277 dL_law_1279 dL_law_1280 dL_law_1281 (by decide) rfl rfl (by omega) (by omega) ?_
  refine L_callV hL oo dL_law_1282 ml_L_173 hc2 rfl rfl rfl (Nat.le_of_ble_eq_true rfl) (by rw [hR]; exact ⟨Nat.le_of_ble_eq_true rfl, Nat.le_of_ble_eq_true rfl⟩) hc0 (fun r2 σ2 q2 => ?_)
  obtain ⟨rfl, hS2⟩ := q2
  exact V_icmp_eq (tgt := 1420) oo dL_law_1285 (by decide) (fun _ => V_wid (Nat.le_succ _) (Nat.le_add_right _ _) (nx σ2 o hS2)) (fun z => absurd rfl z)
set_option maxRecDepth 20000 in
set_option maxHeartbeats 4000000 in
theorem cs_35 {w : Wp} {un1 : Nat → Nat} {x : Cx} {Ln : Nat} {xs : Nat → Int32} (hL : Lf w un1) (oo : Ok sh1 (wO w un1) x RL mL_law) (hR : x.R = room_1) (hlt : w.l.stackTraces = false) (hZ : Zs w x.s) (hsc : Sc w un1 x Ln xs) {k i : Nat} {σ : Mm} {o : Int64} {cn : Nat × Nat} (hS : St k σ) (hk : k < 512) (hi : i + 6 ≤ Ln) (hLn : Ln ≤ 3072) (hcn : cn.1 + 1 ≤ x.R.cells ∧ cn.2 + 6 ≤ x.R.slots) (nx : ∀ σ' o', St (k + 1) σ' → V sh1 (wO w un1) x mL_law (cn.1 + 1, cn.2 + 6) 1420 [(4, .int (nI i)), (3, .ref 79), (2, .ref 67), (1, .ref 1), (0, .ref 80)] [] (sO σ' o')) : V sh1 (wO w un1) x mL_law cn 1290 [(4, .int (nI i)), (3, .ref 79), (2, .ref 67), (1, .ref 1), (0, .ref 80)] [] (sO σ o) := by
  have hc0 : cn.1 ≤ x.R.cells ∧ cn.2 ≤ x.R.slots := ⟨Nat.le_of_succ_le hcn.1, Nat.le_trans (Nat.le_add_right _ _) hcn.2⟩
  obtain ⟨Q, hQ, hq⟩ : Pr w k 2 1 mX8_rung mX9_rung [.int (xs (i + 1))] σ := p_rung hL.1 hS hk
  refine V_aload_n oo dL_law_1290 rfl rfl ?_
  refine V_arg (k := 1) oo hsc dL_law_1291 dL_law_1292 dL_law_1294 dL_law_1295 dL_law_1296 (by decide) rfl rfl (by omega) (by omega) ?_
  refine L_callV hL oo dL_law_1297 ml_L_174 hQ rfl rfl rfl (Nat.le_of_ble_eq_true rfl) (by rw [hR]; exact ⟨Nat.le_of_ble_eq_true rfl, Nat.le_of_ble_eq_true rfl⟩) hc0 (fun r1 σ1 q1 => ?_)
  obtain ⟨v, rfl, hc2⟩ := hq r1 σ1 q1
  refine V_aload_n oo dL_law_1300 rfl rfl ?_
  refine V_arg (k := 1) oo hsc dL_law_1301 dL_law_1302 dL_law_1304 dL_law_1305 dL_law_1306 (by decide) rfl rfl (by omega) (by omega) ?_
  refine L_callV hL oo dL_law_1307 ml_L_177 hc2 rfl rfl rfl (Nat.le_of_ble_eq_true rfl) (by rw [hR]; exact ⟨Nat.le_of_ble_eq_true rfl, Nat.le_of_ble_eq_true rfl⟩) hc0 (fun r2 σ2 q2 => ?_)
  obtain ⟨rfl, hS2⟩ := q2
  exact V_icmp_eq (tgt := 1420) oo dL_law_1310 (by decide) (fun _ => V_wid (Nat.le_succ _) (Nat.le_add_right _ _) (nx σ2 o hS2)) (fun z => absurd rfl z)
set_option maxRecDepth 20000 in
set_option maxHeartbeats 4000000 in
theorem cs_36 {w : Wp} {un1 : Nat → Nat} {x : Cx} {Ln : Nat} {xs : Nat → Int32} (hL : Lf w un1) (oo : Ok sh1 (wO w un1) x RL mL_law) (hR : x.R = room_1) (hlt : w.l.stackTraces = false) (hZ : Zs w x.s) (hsc : Sc w un1 x Ln xs) {k i : Nat} {σ : Mm} {o : Int64} {cn : Nat × Nat} (hS : St k σ) (hk : k < 512) (hi : i + 6 ≤ Ln) (hLn : Ln ≤ 3072) (hcn : cn.1 + 1 ≤ x.R.cells ∧ cn.2 + 6 ≤ x.R.slots) (nx : ∀ σ' o', St (k + 1) σ' → V sh1 (wO w un1) x mL_law (cn.1 + 1, cn.2 + 6) 1420 [(4, .int (nI i)), (3, .ref 79), (2, .ref 67), (1, .ref 1), (0, .ref 80)] [] (sO σ' o')) : V sh1 (wO w un1) x mL_law cn 1315 [(4, .int (nI i)), (3, .ref 79), (2, .ref 67), (1, .ref 1), (0, .ref 80)] [] (sO σ o) := by
  have hc0 : cn.1 ≤ x.R.cells ∧ cn.2 ≤ x.R.slots := ⟨Nat.le_of_succ_le hcn.1, Nat.le_trans (Nat.le_add_right _ _) hcn.2⟩
  obtain ⟨Q, hQ, hq⟩ : Pr w k 1 1 mX8_told mX9_told [.int (xs (i + 1))] σ := p_told hL.1 hS hk
  refine V_aload_n oo dL_law_1315 rfl rfl ?_
  refine V_arg (k := 1) oo hsc dL_law_1316 dL_law_1317 dL_law_1319 dL_law_1320 dL_law_1321 (by decide) rfl rfl (by omega) (by omega) ?_
  refine L_callV hL oo dL_law_1322 ml_L_178 hQ rfl rfl rfl (Nat.le_of_ble_eq_true rfl) (by rw [hR]; exact ⟨Nat.le_of_ble_eq_true rfl, Nat.le_of_ble_eq_true rfl⟩) hc0 (fun r1 σ1 q1 => ?_)
  obtain ⟨v, rfl, hc2⟩ := hq r1 σ1 q1
  refine V_aload_n oo dL_law_1325 rfl rfl ?_
  refine V_arg (k := 1) oo hsc dL_law_1326 dL_law_1327 dL_law_1329 dL_law_1330 dL_law_1331 (by decide) rfl rfl (by omega) (by omega) ?_
  refine L_callV hL oo dL_law_1332 ml_L_181 hc2 rfl rfl rfl (Nat.le_of_ble_eq_true rfl) (by rw [hR]; exact ⟨Nat.le_of_ble_eq_true rfl, Nat.le_of_ble_eq_true rfl⟩) hc0 (fun r2 σ2 q2 => ?_)
  obtain ⟨rfl, hS2⟩ := q2
  exact V_icmp_eq (tgt := 1420) oo dL_law_1335 (by decide) (fun _ => V_wid (Nat.le_succ _) (Nat.le_add_right _ _) (nx σ2 o hS2)) (fun z => absurd rfl z)
set_option maxRecDepth 20000 in
set_option maxHeartbeats 4000000 in
theorem cs_37 {w : Wp} {un1 : Nat → Nat} {x : Cx} {Ln : Nat} {xs : Nat → Int32} (hL : Lf w un1) (oo : Ok sh1 (wO w un1) x RL mL_law) (hR : x.R = room_1) (hlt : w.l.stackTraces = false) (hZ : Zs w x.s) (hsc : Sc w un1 x Ln xs) {k i : Nat} {σ : Mm} {o : Int64} {cn : Nat × Nat} (hS : St k σ) (hk : k < 512) (hi : i + 6 ≤ Ln) (hLn : Ln ≤ 3072) (hcn : cn.1 + 1 ≤ x.R.cells ∧ cn.2 + 6 ≤ x.R.slots) (nx : ∀ σ' o', St (k + 1) σ' → V sh1 (wO w un1) x mL_law (cn.1 + 1, cn.2 + 6) 1420 [(4, .int (nI i)), (3, .ref 79), (2, .ref 67), (1, .ref 1), (0, .ref 80)] [] (sO σ' o')) : V sh1 (wO w un1) x mL_law cn 1340 [(4, .int (nI i)), (3, .ref 79), (2, .ref 67), (1, .ref 1), (0, .ref 80)] [] (sO σ o) := by
  have hc0 : cn.1 ≤ x.R.cells ∧ cn.2 ≤ x.R.slots := ⟨Nat.le_of_succ_le hcn.1, Nat.le_trans (Nat.le_add_right _ _) hcn.2⟩
  obtain ⟨Q, hQ, hq⟩ : Pr w k 2 4 mX8_count mX9_count [.int (xs (i + 1))] σ := p_count hL.1 hS hk
  refine V_aload_n oo dL_law_1340 rfl rfl ?_
  refine V_arg (k := 1) oo hsc dL_law_1341 dL_law_1342 dL_law_1344 dL_law_1345 dL_law_1346 (by decide) rfl rfl (by omega) (by omega) ?_
  refine L_callV hL oo dL_law_1347 ml_L_182 hQ rfl rfl rfl (Nat.le_of_ble_eq_true rfl) (by rw [hR]; exact ⟨Nat.le_of_ble_eq_true rfl, Nat.le_of_ble_eq_true rfl⟩) hc0 (fun r1 σ1 q1 => ?_)
  obtain ⟨v, rfl, hc2⟩ := hq r1 σ1 q1
  refine V_aload_n oo dL_law_1350 rfl rfl ?_
  refine V_arg (k := 1) oo hsc dL_law_1351 dL_law_1352 dL_law_1354 dL_law_1355 dL_law_1356 (by decide) rfl rfl (by omega) (by omega) ?_
  refine L_callV hL oo dL_law_1357 ml_L_185 hc2 rfl rfl rfl (Nat.le_of_ble_eq_true rfl) (by rw [hR]; exact ⟨Nat.le_of_ble_eq_true rfl, Nat.le_of_ble_eq_true rfl⟩) hc0 (fun r2 σ2 q2 => ?_)
  obtain ⟨rfl, hS2⟩ := q2
  exact V_icmp_eq (tgt := 1420) oo dL_law_1360 (by decide) (fun _ => V_wid (Nat.le_succ _) (Nat.le_add_right _ _) (nx σ2 o hS2)) (fun z => absurd rfl z)
end
