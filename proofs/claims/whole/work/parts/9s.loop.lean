section
theorem and63 (a : Int32) : ∃ m : Nat, a &&& 63 = nI m ∧ m < 64 := by
  have h : (a &&& 63).toBitVec = a.toBitVec &&& 63#32 := rfl
  have hlt : (a.toBitVec &&& 63#32).toNat < 64 := by
    rw [BitVec.toNat_and]
    exact Nat.lt_of_le_of_lt Nat.and_le_right (by decide)
  refine ⟨(a.toBitVec &&& 63#32).toNat, ?_, hlt⟩
  apply Int32.toBitVec_inj.mp
  rw [h]
  show _ = BitVec.ofNat 32 (a.toBitVec &&& 63#32).toNat
  rw [BitVec.ofNat_toNat, BitVec.setWidth_eq]
set_option maxRecDepth 20000 in
set_option maxHeartbeats 4000000 in
theorem law_loop {w : Wp} {un1 : Nat → Nat} {x : Cx} {Ln : Nat} {xs : Nat → Int32} (hL : Lf w un1) (oo : Ok sh1 (wO w un1) x RL mL_law) (hR : x.R = room_1) (hlt : w.l.stackTraces = false) (hZ : Zs w x.s) (hsc : Sc w un1 x Ln xs) (hLn : Ln ≤ 3072) (fin : ∀ cn σ o i, cn.1 ≤ 2000 → cn.2 ≤ 20000 → V sh1 (wO w un1) x mL_law cn 1426 [(4, .int (nI i)), (3, .ref 79), (2, .ref 67), (1, .ref 1), (0, .ref 80)] [] (sO σ o)) : ∀ (nn k i : Nat) (σ : Mm) (o : Int64), i = 6 * k → i + 6 * nn + 5 ≥ Ln → i ≤ Ln → St k σ → V sh1 (wO w un1) x mL_law (100 + k, 10000 + 6 * k) 23 [(4, .int (nI i)), (3, .ref 79), (2, .ref 67), (1, .ref 1), (0, .ref 80)] [] (sO σ o) := by
  intro nn
  induction nn with
  | zero =>
    intro k i σ o hik hn hi hS
    refine V_iload oo dL_law_23 rfl ?_
    refine V_aload_n oo dL_law_25 rfl rfl ?_
    refine V_slen oo hsc dL_law_26 ?_
    refine V_bipush (v := 6) oo dL_law_27 (by decide) ?_
    refine V_isub oo dL_law_29 ?_
    refine V_icmp_gt (tgt := 1426) oo dL_law_30 (by decide) (fun _ => fin _ _ _ _ (by show 100 + k ≤ 2000; omega) (by show 10000 + 6 * k ≤ 20000; omega)) (fun z => absurd ?_ z)
    rw [Int32.lt_iff_toInt_lt, Int32.toInt_sub, nI_toInt (by omega), nI_toInt (by omega), show (6 : Int32).toInt = 6 from by decide, Int.bmod_eq_of_le (by omega) (by omega)]
    omega
  | succ nn ih =>
    intro k i σ o hik hn hi hS
    refine V_iload oo dL_law_23 rfl ?_
    refine V_aload_n oo dL_law_25 rfl rfl ?_
    refine V_slen oo hsc dL_law_26 ?_
    refine V_bipush (v := 6) oo dL_law_27 (by decide) ?_
    refine V_isub oo dL_law_29 ?_
    have e6 : (nI Ln - 6).toInt = (Ln : Int) - 6 := by
      rw [Int32.toInt_sub, nI_toInt (by omega), show (6 : Int32).toInt = 6 from by decide, Int.bmod_eq_of_le (by omega) (by omega)]
    refine V_icmp_gt (tgt := 1426) oo dL_law_30 (by decide) (fun _ => fin _ _ _ _ (by show 100 + k ≤ 2000; omega) (by show 10000 + 6 * k ≤ 20000; omega)) (fun z => ?_)
    have h6 : i + 6 ≤ Ln := by
      rw [Int32.lt_iff_toInt_lt, e6, nI_toInt (by omega)] at z
      omega
    have hcn : ((100 + k, 10000 + 6 * k) : Nat × Nat).1 + 1 ≤ x.R.cells ∧ ((100 + k, 10000 + 6 * k) : Nat × Nat).2 + 6 ≤ x.R.slots := by
      rw [hR]
      exact ⟨by show 100 + k + 1 ≤ 601024; omega, by show 10000 + 6 * k + 6 ≤ 7293034; omega⟩
    have nx : ∀ σ' o', St (k + 1) σ' → V sh1 (wO w un1) x mL_law ((100 + k, 10000 + 6 * k).1 + 1, (100 + k, 10000 + 6 * k).2 + 6) 1420 [(4, .int (nI i)), (3, .ref 79), (2, .ref 67), (1, .ref 1), (0, .ref 80)] [] (sO σ' o') := fun σ' o' hS' => by
      refine V_iincV (v := nI (i + 6)) (ls' := [(4, .int (nI (i + 6))), (3, .ref 79), (2, .ref 67), (1, .ref 1), (0, .ref 80)]) oo dL_law_1420 rfl (ninc 6 rfl) (by decide) rfl ?_
      refine V_goto (tgt := 23) oo dL_law_1423 (by decide) ?_
      exact ih (k + 1) (i + 6) σ' o' (by omega) (by omega) (by omega) hS'
    refine V_aload_n oo dL_law_33 rfl rfl ?_
    refine V_iload oo dL_law_34 rfl ?_
    refine V_sld oo hsc dL_law_36 rfl (by omega) (by omega) ?_
    refine V_bipush (v := 63) oo dL_law_37 (by decide) ?_
    refine V_iand oo dL_law_39 ?_
    obtain ⟨m, em, hm⟩ := and63 (xs i)
    refine V_topI (v' := nI m) em ?_
    by_cases hbig : 39 ≤ m
    · exact V_tableOut (tgt := 1420) oo dL_law_40 (Or.inr (by rw [nI_toInt (by omega)]; omega)) (by decide) (V_wid (Nat.le_succ _) (Nat.le_add_right _ _) (nx σ o (by
        obtain ⟨M, L, r, n, l, hJ, hK, hX⟩ := hS
        exact ⟨M, L, r, n, l, hJ.st (by omega), hK, hX⟩)))
    · have step : V sh1 (wO w un1) x mL_law (100 + k, 10000 + 6 * k) 40 [(4, .int (nI i)), (3, .ref 79), (2, .ref 67), (1, .ref 1), (0, .ref 80)] [.int (nI m)] (sO σ o) := by
        by_cases h0 : m = 0
        · subst h0
          exact V_tableIn (off := 172) (tgt := 212) oo dL_law_40 (by decide) (by decide) (by decide) (by decide) (cs_0 hL oo hR hlt hZ hsc hS (by omega) (by omega) hLn hcn nx)
        by_cases h1 : m = 1
        · subst h1
          exact V_tableIn (off := 233) (tgt := 273) oo dL_law_40 (by decide) (by decide) (by decide) (by decide) (cs_1 hL oo hR hlt hZ hsc hS (by omega) (by omega) hLn hcn nx)
        by_cases h2 : m = 2
        · subst h2
          exact V_tableIn (off := 258) (tgt := 298) oo dL_law_40 (by decide) (by decide) (by decide) (by decide) (cs_2 hL oo hR hlt hZ hsc hS (by omega) (by omega) hLn hcn nx)
        by_cases h3 : m = 3
        · subst h3
          exact V_tableIn (off := 283) (tgt := 323) oo dL_law_40 (by decide) (by decide) (by decide) (by decide) (cs_3 hL oo hR hlt hZ hsc hS (by omega) (by omega) hLn hcn nx)
        by_cases h4 : m = 4
        · subst h4
          exact V_tableIn (off := 308) (tgt := 348) oo dL_law_40 (by decide) (by decide) (by decide) (by decide) (cs_4 hL oo hR hlt hZ hsc hS (by omega) (by omega) hLn hcn nx)
        by_cases h5 : m = 5
        · subst h5
          exact V_tableIn (off := 381) (tgt := 421) oo dL_law_40 (by decide) (by decide) (by decide) (by decide) (cs_5 hL oo hR hlt hZ hsc hS (by omega) (by omega) hLn hcn nx)
        by_cases h6 : m = 6
        · subst h6
          exact V_tableIn (off := 406) (tgt := 446) oo dL_law_40 (by decide) (by decide) (by decide) (by decide) (cs_6 hL oo hR hlt hZ hsc hS (by omega) (by omega) hLn hcn nx)
        by_cases h7 : m = 7
        · subst h7
          exact V_tableIn (off := 431) (tgt := 471) oo dL_law_40 (by decide) (by decide) (by decide) (by decide) (cs_7 hL oo hR hlt hZ hsc hS (by omega) (by omega) hLn hcn nx)
        by_cases h8 : m = 8
        · subst h8
          exact V_tableIn (off := 484) (tgt := 524) oo dL_law_40 (by decide) (by decide) (by decide) (by decide) (cs_8 hL oo hR hlt hZ hsc hS (by omega) (by omega) hLn hcn nx)
        by_cases h9 : m = 9
        · subst h9
          exact V_tableIn (off := 509) (tgt := 549) oo dL_law_40 (by decide) (by decide) (by decide) (by decide) (cs_9 hL oo hR hlt hZ hsc hS (by omega) (by omega) hLn hcn nx)
        by_cases h10 : m = 10
        · subst h10
          exact V_tableIn (off := 534) (tgt := 574) oo dL_law_40 (by decide) (by decide) (by decide) (by decide) (cs_10 hL oo hR hlt hZ hsc hS (by omega) (by omega) hLn hcn nx)
        by_cases h11 : m = 11
        · subst h11
          exact V_tableIn (off := 559) (tgt := 599) oo dL_law_40 (by decide) (by decide) (by decide) (by decide) (cs_11 hL oo hR hlt hZ hsc hS (by omega) (by omega) hLn hcn nx)
        by_cases h12 : m = 12
        · subst h12
          exact V_tableIn (off := 584) (tgt := 624) oo dL_law_40 (by decide) (by decide) (by decide) (by decide) (cs_12 hL oo hR hlt hZ hsc hS (by omega) (by omega) hLn hcn nx)
        by_cases h13 : m = 13
        · subst h13
          exact V_tableIn (off := 621) (tgt := 661) oo dL_law_40 (by decide) (by decide) (by decide) (by decide) (cs_13 hL oo hR hlt hZ hsc hS (by omega) (by omega) hLn hcn nx)
        by_cases h14 : m = 14
        · subst h14
          exact V_tableIn (off := 658) (tgt := 698) oo dL_law_40 (by decide) (by decide) (by decide) (by decide) (cs_14 hL oo hR hlt hZ hsc hS (by omega) (by omega) hLn hcn nx)
        by_cases h15 : m = 15
        · subst h15
          exact V_tableIn (off := 671) (tgt := 711) oo dL_law_40 (by decide) (by decide) (by decide) (by decide) (cs_15 hL oo hR hlt hZ hsc hS (by omega) (by omega) hLn hcn nx)
        by_cases h16 : m = 16
        · subst h16
          exact V_tableIn (off := 696) (tgt := 736) oo dL_law_40 (by decide) (by decide) (by decide) (by decide) (cs_16 hL oo hR hlt hZ hsc hS (by omega) (by omega) hLn hcn nx)
        by_cases h17 : m = 17
        · subst h17
          exact V_tableIn (off := 721) (tgt := 761) oo dL_law_40 (by decide) (by decide) (by decide) (by decide) (cs_17 hL oo hR hlt hZ hsc hS (by omega) (by omega) hLn hcn nx)
        by_cases h18 : m = 18
        · subst h18
          exact V_tableIn (off := 789) (tgt := 829) oo dL_law_40 (by decide) (by decide) (by decide) (by decide) (cs_18 hL oo hR hlt hZ hsc hS (by omega) (by omega) hLn hcn nx)
        by_cases h19 : m = 19
        · subst h19
          exact V_tableIn (off := 826) (tgt := 866) oo dL_law_40 (by decide) (by decide) (by decide) (by decide) (cs_19 hL oo hR hlt hZ hsc hS (by omega) (by omega) hLn hcn nx)
        by_cases h20 : m = 20
        · subst h20
          exact V_tableIn (off := 839) (tgt := 879) oo dL_law_40 (by decide) (by decide) (by decide) (by decide) (cs_20 hL oo hR hlt hZ hsc hS (by omega) (by omega) hLn hcn nx)
        by_cases h21 : m = 21
        · subst h21
          exact V_tableIn (off := 864) (tgt := 904) oo dL_law_40 (by decide) (by decide) (by decide) (by decide) (cs_21 hL oo hR hlt hZ hsc hS (by omega) (by omega) hLn hcn nx)
        by_cases h22 : m = 22
        · subst h22
          exact V_tableIn (off := 889) (tgt := 929) oo dL_law_40 (by decide) (by decide) (by decide) (by decide) (cs_22 hL oo hR hlt hZ hsc hS (by omega) (by omega) hLn hcn nx)
        by_cases h23 : m = 23
        · subst h23
          exact V_tableIn (off := 902) (tgt := 942) oo dL_law_40 (by decide) (by decide) (by decide) (by decide) (cs_23 hL oo hR hlt hZ hsc hS (by omega) (by omega) hLn hcn nx)
        by_cases h24 : m = 24
        · subst h24
          exact V_tableIn (off := 927) (tgt := 967) oo dL_law_40 (by decide) (by decide) (by decide) (by decide) (cs_24 hL oo hR hlt hZ hsc hS (by omega) (by omega) hLn hcn nx)
        by_cases h25 : m = 25
        · subst h25
          exact V_tableIn (off := 952) (tgt := 992) oo dL_law_40 (by decide) (by decide) (by decide) (by decide) (cs_25 hL oo hR hlt hZ hsc hS (by omega) (by omega) hLn hcn nx)
        by_cases h26 : m = 26
        · subst h26
          exact V_tableIn (off := 977) (tgt := 1017) oo dL_law_40 (by decide) (by decide) (by decide) (by decide) (cs_26 hL oo hR hlt hZ hsc hS (by omega) (by omega) hLn hcn nx)
        by_cases h27 : m = 27
        · subst h27
          exact V_tableIn (off := 1038) (tgt := 1078) oo dL_law_40 (by decide) (by decide) (by decide) (by decide) (cs_27 hL oo hR hlt hZ hsc hS (by omega) (by omega) hLn hcn nx)
        by_cases h28 : m = 28
        · subst h28
          exact V_tableIn (off := 1063) (tgt := 1103) oo dL_law_40 (by decide) (by decide) (by decide) (by decide) (cs_28 hL oo hR hlt hZ hsc hS (by omega) (by omega) hLn hcn nx)
        by_cases h29 : m = 29
        · subst h29
          exact V_tableIn (off := 1100) (tgt := 1140) oo dL_law_40 (by decide) (by decide) (by decide) (by decide) (cs_29 hL oo hR hlt hZ hsc hS (by omega) (by omega) hLn hcn nx)
        by_cases h30 : m = 30
        · subst h30
          exact V_tableIn (off := 1125) (tgt := 1165) oo dL_law_40 (by decide) (by decide) (by decide) (by decide) (cs_30 hL oo hR hlt hZ hsc hS (by omega) (by omega) hLn hcn nx)
        by_cases h31 : m = 31
        · subst h31
          exact V_tableIn (off := 1150) (tgt := 1190) oo dL_law_40 (by decide) (by decide) (by decide) (by decide) (cs_31 hL oo hR hlt hZ hsc hS (by omega) (by omega) hLn hcn nx)
        by_cases h32 : m = 32
        · subst h32
          exact V_tableIn (off := 1175) (tgt := 1215) oo dL_law_40 (by decide) (by decide) (by decide) (by decide) (cs_32 hL oo hR hlt hZ hsc hS (by omega) (by omega) hLn hcn nx)
        by_cases h33 : m = 33
        · subst h33
          exact V_tableIn (off := 1200) (tgt := 1240) oo dL_law_40 (by decide) (by decide) (by decide) (by decide) (cs_33 hL oo hR hlt hZ hsc hS (by omega) (by omega) hLn hcn nx)
        by_cases h34 : m = 34
        · subst h34
          exact V_tableIn (off := 1225) (tgt := 1265) oo dL_law_40 (by decide) (by decide) (by decide) (by decide) (cs_34 hL oo hR hlt hZ hsc hS (by omega) (by omega) hLn hcn nx)
        by_cases h35 : m = 35
        · subst h35
          exact V_tableIn (off := 1250) (tgt := 1290) oo dL_law_40 (by decide) (by decide) (by decide) (by decide) (cs_35 hL oo hR hlt hZ hsc hS (by omega) (by omega) hLn hcn nx)
        by_cases h36 : m = 36
        · subst h36
          exact V_tableIn (off := 1275) (tgt := 1315) oo dL_law_40 (by decide) (by decide) (by decide) (by decide) (cs_36 hL oo hR hlt hZ hsc hS (by omega) (by omega) hLn hcn nx)
        by_cases h37 : m = 37
        · subst h37
          exact V_tableIn (off := 1300) (tgt := 1340) oo dL_law_40 (by decide) (by decide) (by decide) (by decide) (cs_37 hL oo hR hlt hZ hsc hS (by omega) (by omega) hLn hcn nx)
        by_cases h38 : m = 38
        · subst h38
          exact V_tableIn (off := 1325) (tgt := 1365) oo dL_law_40 (by decide) (by decide) (by decide) (by decide) (cs_38 hL oo hR hlt hZ hsc hS (by omega) (by omega) hLn hcn nx)
        omega
      exact step
end
