section
theorem lgc (a : Int64) : lg_cmp a a = 0 := by
  unfold lg_cmp
  rw [if_neg (show ¬ a > a from Int64.lt_irrefl), if_pos rfl]
theorem st_tr {k L r n : Nat} {M : Nat → Int32} {l : List Int64} {σ σ1 : Mm} (hJ : Jk k M L r) (hk : k < 512) (hK : KR M L r l (σ.1 69) n σ1) (hX : Rf M l n σ1) (e : σ1.1 69 = σ.1 69) {t : Int32} : St (k + 1) (sM (wI σ1 67 0 t) 0 M) := St_of (hJ.st hk) hK ⟨wI σ1 67 0 t, M, rfl, fun _ _ => rfl, o_I Off.rf, hX.2.1, hX.2.2.1, hX.2.2.2.1, hX.2.2.2.2, fun j _ => congrFun e j⟩
set_option maxRecDepth 20000 in
set_option maxHeartbeats 4000000 in
theorem cs_17 {w : Wp} {un1 : Nat → Nat} {x : Cx} {Ln : Nat} {xs : Nat → Int32} (hL : Lf w un1) (oo : Ok sh1 (wO w un1) x RL mL_law) (hR : x.R = room_1) (hlt : w.l.stackTraces = false) (hZ : Zs w x.s) (hsc : Sc w un1 x Ln xs) {k i : Nat} {σ : Mm} {o : Int64} {cn : Nat × Nat} (hS : St k σ) (hk : k < 512) (hi : i + 6 ≤ Ln) (hLn : Ln ≤ 3072) (hcn : cn.1 + 1 ≤ x.R.cells ∧ cn.2 + 6 ≤ x.R.slots) (nx : ∀ σ' o', St (k + 1) σ' → V sh1 (wO w un1) x mL_law (cn.1 + 1, cn.2 + 6) 1420 [(4, .int (nI i)), (3, .ref 79), (2, .ref 67), (1, .ref 1), (0, .ref 80)] [] (sO σ' o')) : V sh1 (wO w un1) x mL_law cn 761 [(4, .int (nI i)), (3, .ref 79), (2, .ref 67), (1, .ref 1), (0, .ref 80)] [] (sO σ o) := by
  obtain ⟨M, L, r, n, l, hJ, hK, hX⟩ := hS
  have hC := hJ.cv
  refine V_aload_n oo dL_law_761 rfl rfl ?_
  refine V_arg (k := 1) oo hsc dL_law_762 dL_law_763 dL_law_765 dL_law_766 dL_law_767 (by decide) rfl rfl (by omega) (by omega) ?_
  refine V_arg (k := 2) oo hsc dL_law_768 dL_law_769 dL_law_771 dL_law_772 dL_law_773 (by decide) rfl rfl (by omega) (by omega) ?_
  refine V_aload_n oo dL_law_774 rfl rfl ?_
  refine L_callH (st := []) hL oo hZ dL_law_775 lh_97 (h_timer hL hlt hK hC.1.1 hC.2.1 (v := xs (i + 1)) (b := xs (i + 2)) (o := o)) rfl rfl (Nat.le_of_ble_eq_true rfl) (by rw [hR]; exact ⟨Nat.le_of_ble_eq_true rfl, Nat.le_of_ble_eq_true rfl⟩) hcn (fun kk σ1 o1 q => ?_)
  refine V_istore (ls' := [(5, .int kk), (4, .int (nI i)), (3, .ref 79), (2, .ref 67), (1, .ref 1), (0, .ref 80)]) oo dL_law_778 (by decide) rfl ?_
  refine V_aload_n oo dL_law_780 rfl rfl ?_
  refine V_arg (k := 1) oo hsc dL_law_781 dL_law_782 dL_law_784 dL_law_785 dL_law_786 (by decide) rfl rfl (by omega) (by omega) ?_
  refine V_arg (k := 2) oo hsc dL_law_787 dL_law_788 dL_law_790 dL_law_791 dL_law_792 (by decide) rfl rfl (by omega) (by omega) ?_
  by_cases hc : tmC M (xs (i + 1)) (xs (i + 2))
  · obtain ⟨rfl, rfl, hK1, ho⟩ := q.1 hc
    have a := hX.off ho
    have e := (ho 69 (by omega)).1
    have c9 := c9_timer (σ := σ1) (M := M) hL.1 a.2.1 hc
    rw [sM_eq a.1] at c9
    refine L_callV hL oo dL_law_793 ml_L_102 c9 rfl rfl rfl (Nat.le_of_ble_eq_true rfl) (by rw [hR]; exact ⟨Nat.le_of_ble_eq_true rfl, Nat.le_of_ble_eq_true rfl⟩) hcn (fun r2 σ2 q2 => ?_)
    obtain ⟨rfl, rfl⟩ := q2
    refine V_istore (ls' := [(6, .int (timerR M (ix (xs (i + 1))) (xs (i + 2)))), (5, .int 0), (4, .int (nI i)), (3, .ref 79), (2, .ref 67), (1, .ref 1), (0, .ref 80)]) oo dL_law_796 (by decide) rfl ?_
    refine V_aload_n oo dL_law_798 rfl rfl ?_
    refine L_callV hL oo dL_law_799 ml_L_103 (c9_thrown hL.1 _) rfl rfl rfl (Nat.le_of_ble_eq_true rfl) (by rw [hR]; exact ⟨Nat.le_of_ble_eq_true rfl, Nat.le_of_ble_eq_true rfl⟩) hcn (fun r3 σ3 q3 => ?_)
    obtain ⟨rfl, rfl⟩ := q3
    refine V_iload oo dL_law_802 rfl ?_
    refine V_icmp_eq (tgt := 809) oo dL_law_804 (by decide) (fun _ => ?_) (fun z => absurd rfl z)
    refine V_iload oo dL_law_809 rfl ?_
    refine V_if_ne (tgt := 826) oo dL_law_811 (by decide) (fun z => absurd rfl z) (fun _ => ?_)
    refine V_aload_n oo dL_law_814 rfl rfl ?_
    refine V_iconst (v := 0) oo dL_law_815 (by decide) ?_
    refine V_laldN 1 oo dL_law_816 rfl rfl (show (0 : Int32) = nI 0 from rfl) (by decide) rfl ?_
    refine V_iload oo dL_law_817 rfl ?_
    refine V_i2l oo dL_law_819 ?_
    refine V_lcmp oo dL_law_820 ?_
    refine V_if_eq (tgt := 826) oo dL_law_821 (by decide) (fun _ => ?_) (fun z => absurd (lgc _) z)
    refine V_goto (tgt := 1420) oo dL_law_826 (by decide) ?_
    exact V_sub (fun q hq => List.mem_cons_of_mem _ (List.mem_cons_of_mem _ hq)) (nx _ _ (st_tr hJ hk hK1 a e))
  · obtain ⟨rfl, rfl⟩ := q.2 hc
    have c9 := c9_timer_no (σ := σ1) (M := M) hL.1 hX.2.1 hc
    rw [sM_eq hX.1] at c9
    refine L_callV hL oo dL_law_793 ml_L_102 c9 rfl rfl rfl (Nat.le_of_ble_eq_true rfl) (by rw [hR]; exact ⟨Nat.le_of_ble_eq_true rfl, Nat.le_of_ble_eq_true rfl⟩) hcn (fun r2 σ2 q2 => ?_)
    obtain ⟨rfl, rfl⟩ := q2
    refine V_istore (ls' := [(6, .int 0), (5, .int 1), (4, .int (nI i)), (3, .ref 79), (2, .ref 67), (1, .ref 1), (0, .ref 80)]) oo dL_law_796 (by decide) rfl ?_
    refine V_aload_n oo dL_law_798 rfl rfl ?_
    refine L_callV hL oo dL_law_799 ml_L_103 (c9_thrown hL.1 _) rfl rfl rfl (Nat.le_of_ble_eq_true rfl) (by rw [hR]; exact ⟨Nat.le_of_ble_eq_true rfl, Nat.le_of_ble_eq_true rfl⟩) hcn (fun r3 σ3 q3 => ?_)
    obtain ⟨rfl, rfl⟩ := q3
    refine V_iload oo dL_law_802 rfl ?_
    refine V_icmp_eq (tgt := 809) oo dL_law_804 (by decide) (fun _ => ?_) (fun z => absurd rfl z)
    refine V_iload oo dL_law_809 rfl ?_
    refine V_if_ne (tgt := 826) oo dL_law_811 (by decide) (fun _ => ?_) (fun z => absurd z (by decide))
    refine V_goto (tgt := 1420) oo dL_law_826 (by decide) ?_
    exact V_sub (fun q hq => List.mem_cons_of_mem _ (List.mem_cons_of_mem _ hq)) (nx _ _ (st_tr hJ hk hK hX rfl))
set_option maxRecDepth 20000 in
set_option maxHeartbeats 4000000 in
theorem cs_38 {w : Wp} {un1 : Nat → Nat} {x : Cx} {Ln : Nat} {xs : Nat → Int32} (hL : Lf w un1) (oo : Ok sh1 (wO w un1) x RL mL_law) (hR : x.R = room_1) (hlt : w.l.stackTraces = false) (hZ : Zs w x.s) (hsc : Sc w un1 x Ln xs) {k i : Nat} {σ : Mm} {o : Int64} {cn : Nat × Nat} (hS : St k σ) (hk : k < 512) (hi : i + 6 ≤ Ln) (hLn : Ln ≤ 3072) (hcn : cn.1 + 1 ≤ x.R.cells ∧ cn.2 + 6 ≤ x.R.slots) (nx : ∀ σ' o', St (k + 1) σ' → V sh1 (wO w un1) x mL_law (cn.1 + 1, cn.2 + 6) 1420 [(4, .int (nI i)), (3, .ref 79), (2, .ref 67), (1, .ref 1), (0, .ref 80)] [] (sO σ' o')) : V sh1 (wO w un1) x mL_law cn 1365 [(4, .int (nI i)), (3, .ref 79), (2, .ref 67), (1, .ref 1), (0, .ref 80)] [] (sO σ o) := by
  obtain ⟨M, L, r, n, l, hJ, hK, hX⟩ := hS
  have hC := hJ.cv
  have hl40 := hK.2.2.2.1.2.1
  refine V_aload_n oo dL_law_1365 rfl rfl ?_
  refine V_arg (k := 1) oo hsc dL_law_1366 dL_law_1367 dL_law_1369 dL_law_1370 dL_law_1371 (by decide) rfl rfl (by omega) (by omega) ?_
  refine V_aload_n oo dL_law_1372 rfl rfl ?_
  refine L_callH (st := []) hL oo hZ dL_law_1373 lh_186 (h_row hL hlt hK hC.1.1 hC.2.1 (v := xs (i + 1)) (o := o)) rfl rfl (Nat.le_of_ble_eq_true rfl) (by rw [hR]; exact ⟨Nat.le_of_ble_eq_true rfl, Nat.le_of_ble_eq_true rfl⟩) hcn (fun kk σ1 o1 q => ?_)
  refine V_istore (ls' := [(5, .int kk), (4, .int (nI i)), (3, .ref 79), (2, .ref 67), (1, .ref 1), (0, .ref 80)]) oo dL_law_1376 (by decide) rfl ?_
  refine V_aload_n oo dL_law_1378 rfl rfl ?_
  refine V_arg (k := 1) oo hsc dL_law_1379 dL_law_1380 dL_law_1382 dL_law_1383 dL_law_1384 (by decide) rfl rfl (by omega) (by omega) ?_
  by_cases hc : inR (xs (i + 1)) 0 (nI l.length - 1)
  · obtain ⟨j, ej, hj⟩ := inR_lt (by omega) hc
    obtain ⟨rfl, rfl, hK1, ho⟩ := q.1 j ej hj
    have a := hX.off ho
    have e := (ho 69 (by omega)).1
    have c9 := c9_row (σ := σ1) (d := 0) (M := M) hL.1 a.2.2.1 (by omega) ej hj
    rw [sM_eq a.1, a.2.2.2.1 j hj] at c9
    refine L_callV hL oo dL_law_1385 ml_L_189 c9 rfl rfl rfl (Nat.le_of_ble_eq_true rfl) (by rw [hR]; exact ⟨Nat.le_of_ble_eq_true rfl, Nat.le_of_ble_eq_true rfl⟩) hcn (fun r2 σ2 q2 => ?_)
    obtain ⟨rfl, rfl⟩ := q2
    refine V_lstore (ls' := [(6, .long (l.getD j 0)), (5, .int 0), (4, .int (nI i)), (3, .ref 79), (2, .ref 67), (1, .ref 1), (0, .ref 80)]) oo dL_law_1388 (by decide) rfl ?_
    refine V_aload_n oo dL_law_1390 rfl rfl ?_
    refine L_callV hL oo dL_law_1391 ml_L_103 (c9_thrown hL.1 _) rfl rfl rfl (Nat.le_of_ble_eq_true rfl) (by rw [hR]; exact ⟨Nat.le_of_ble_eq_true rfl, Nat.le_of_ble_eq_true rfl⟩) hcn (fun r3 σ3 q3 => ?_)
    obtain ⟨rfl, rfl⟩ := q3
    refine V_iload oo dL_law_1394 rfl ?_
    refine V_icmp_eq (tgt := 1401) oo dL_law_1396 (by decide) (fun _ => ?_) (fun z => absurd rfl z)
    refine V_iload oo dL_law_1401 rfl ?_
    refine V_if_ne (tgt := 1417) oo dL_law_1403 (by decide) (fun z => absurd rfl z) (fun _ => ?_)
    refine V_aload_n oo dL_law_1406 rfl rfl ?_
    refine V_iconst (v := 0) oo dL_law_1407 (by decide) ?_
    refine V_laldN 1 oo dL_law_1408 rfl rfl (show (0 : Int32) = nI 0 from rfl) (by decide) rfl ?_
    refine V_lload oo dL_law_1409 rfl ?_
    refine V_lcmp oo dL_law_1411 ?_
    refine V_if_eq (tgt := 1417) oo dL_law_1412 (by decide) (fun _ => ?_) (fun z => absurd (lgc _) z)
    refine V_goto (tgt := 1420) oo dL_law_1417 (by decide) ?_
    exact V_sub (fun q hq => List.mem_cons_of_mem _ (List.mem_cons_of_mem _ hq)) (nx _ _ (st_tr hJ hk hK1 a e))
  · obtain ⟨rfl, rfl⟩ := q.2 hc
    have c9 := c9_row_no (σ := σ1) (d := 0) (M := M) hL.1 (k := xs (i + 1)) (by rw [hX.2.2.1]; exact hc)
    rw [sM_eq hX.1] at c9
    refine L_callV hL oo dL_law_1385 ml_L_189 c9 rfl rfl rfl (Nat.le_of_ble_eq_true rfl) (by rw [hR]; exact ⟨Nat.le_of_ble_eq_true rfl, Nat.le_of_ble_eq_true rfl⟩) hcn (fun r2 σ2 q2 => ?_)
    obtain ⟨rfl, rfl⟩ := q2
    refine V_lstore (ls' := [(6, .long 0), (5, .int 1), (4, .int (nI i)), (3, .ref 79), (2, .ref 67), (1, .ref 1), (0, .ref 80)]) oo dL_law_1388 (by decide) rfl ?_
    refine V_aload_n oo dL_law_1390 rfl rfl ?_
    refine L_callV hL oo dL_law_1391 ml_L_103 (c9_thrown hL.1 _) rfl rfl rfl (Nat.le_of_ble_eq_true rfl) (by rw [hR]; exact ⟨Nat.le_of_ble_eq_true rfl, Nat.le_of_ble_eq_true rfl⟩) hcn (fun r3 σ3 q3 => ?_)
    obtain ⟨rfl, rfl⟩ := q3
    refine V_iload oo dL_law_1394 rfl ?_
    refine V_icmp_eq (tgt := 1401) oo dL_law_1396 (by decide) (fun _ => ?_) (fun z => absurd rfl z)
    refine V_iload oo dL_law_1401 rfl ?_
    refine V_if_ne (tgt := 1417) oo dL_law_1403 (by decide) (fun _ => ?_) (fun z => absurd z (by decide))
    refine V_goto (tgt := 1420) oo dL_law_1417 (by decide) ?_
    exact V_sub (fun q hq => List.mem_cons_of_mem _ (List.mem_cons_of_mem _ hq)) (nx _ _ (st_tr hJ hk hK hX rfl))
end
