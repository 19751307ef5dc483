theorem tell_7 {A : Nat → Int32} {r : Nat} {g : Nat → Nat} (hr : A 14 = nI r) (hr4 : r ≤ 40) : ∀ n, (∀ k, k < n → g k < 16) → (tellM A r g n).1 7 = A 7 + nI n
  | 0, _ => (Int32.add_zero _).symm
  | n + 1, hg => by
    have ih := tell_7 (g := g) hr hr4 n (fun k hk => hg k (by omega))
    obtain ⟨ta, tb, tc⟩ := tellM_inv (g := g) n 0 (A, r) hr4 hr (fun k _ hk => hg k (by omega))
    have e : tellM A r g (n + 1) = (rungM (tellM A r g n).1 (tellM A r g n).2 (g n), kpN (tellM A r g n).2) := by
      unfold tellM
      rw [itr_last, Nat.zero_add]
    rw [e]
    show rungM _ _ _ 7 = _
    rw [rung_7 (show (tellM A r g n).2 ≤ 40 from ta), ih, Int32.add_assoc, nI_1]
theorem tick_7 {M : Nat → Int32} {L r : Nat} (h : Cv M L r) : tickM M L r 7 = M 7 + nI (tkLn M L).2 := by
  have hA := Iv_tkA h.1
  unfold tickM
  rw [ring_log (by omega) (by omega), tell_7 (g := (tkLn M L).1) hA.2.1 hA.2.2.1 (tkLn M L).2 (fun k hk => lineM_lt hk), Lo6 Lo.tkA (by omega) (by omega) (by omega)]
theorem tks_7 {M : Nat → Int32} {L r m : Nat} (h : Cv M L r) : (tks L m (M, r, ([] : List (Nat × Int32)))).1 7 = M 7 + nI (tks L m (M, r, ([] : List (Nat × Int32)))).2.2.length ∧ Cv (tks L m (M, r, ([] : List (Nat × Int32)))).1 L (tks L m (M, r, ([] : List (Nat × Int32)))).2.1 := by
  unfold tks
  exact itr_inv (f := fun _ s => tk1 L s) (fun _ s => s.1 7 = M 7 + nI s.2.2.length ∧ Cv s.1 L s.2.1) m 0 (M, r, []) ⟨(Int32.add_zero _).symm, h⟩ (fun j s _ _ hs => ⟨by
    show tickM s.1 L s.2.1 7 = M 7 + nI (s.2.2 ++ hl1 _ _ _).length
    rw [tick_7 hs.2, hs.1, List.length_append, hl1_len, Int32.add_assoc, nI_add], Cv_tick hs.2⟩)
theorem leap_7 {M : Nat → Int32} {L r : Nat} {v : Int32} (h : Cv M L r) : leapM M L r v 7 = M 7 + nI (lpS M v).2.2 := by
  have hA := Iv_lpS (n := v) h.1
  rw [leap_log (by omega) (by omega) (by omega), tell_7 (g := (lpS M v).2.1) hA.2.1 hA.2.2.1 (lpS M v).2.2 (fun k hk => (lpS_T hk).1), lpS_lg (Or.inl rfl)]
def dsQ (σ : Mm) (M : Nat → Int32) (L r : Nat) (T : Nat → Int32) (n : Nat) (D : Option ((Nat → Int32) × Nat × Nat)) (r' : Option Value) (σ' : Mm) : Prop :=
  ∃ l', Off 1 62 σ σ' ∧ match D with
    | none => r' = some (.int 0) ∧ KR M L r l' T n σ'
    | some s => r' = some (.int 1) ∧ KR s.1 L s.2.1 l' T n σ' ∧ s.1 7 = M 7 + nI s.2.2
theorem inR_wd {v a b c d : Int32} (h : inR v a b) (h1 : c ≤ a) (h2 : b ≤ d) : inR v c d := ⟨Int32.le_trans h1 h.1, Int32.le_trans h.2 h2⟩
theorem nI_nn {k : Nat} (h : k < 2147483648) : ¬ nI k < 0 := Int32.not_lt.mpr (nI_le (a := 0) (Nat.zero_le _) h)
set_option maxRecDepth 20000 in
set_option maxHeartbeats 4000000 in
theorem c8_does0n {w : Wp} (hf : Fit sh0 w) {σ : Mm} {M : Nat → Int32} {L r n : Nat} {l : List Int64} {T : Nat → Int32} (hK : KR M L r l T n σ) (hF : Wf M L) (hB : Bo M) (hC : Cv M L r) {i : Nat} (hi : i < 34) {a : Act} (h63 : σ.1 63 i = kch a.1) (h64 : σ.1 64 i = a.2.1) (hk : a.1 = 0) (h65 : a.1 = 0 → σ.1 65 i = a.2.2.1 ∧ σ.1 66 i = a.2.2.2) (ho1 : inR a.2.1 1 9999) (ho2 : inR a.2.2.1 0 3) (ho3 : inR a.2.2.2 1 1000) (hfr : frM M 16 0 = 16) : Ct sh0 w 5 mX8_does [.ref 1, .int (nI i)] σ (dsQ σ M L r T n (none)) := by
  have hL := hF.2.2.1
  have hW := hK.1
  have hs : setsC a.2.1 0 a.2.2.1 a.2.2.2 0 := ⟨inR_wd ho1 (by decide) (by decide), by decide, ho2, ho3, by decide⟩
  refine Ct_of hf (by decide) rfl (Nat.le_of_ble_eq_true rfl) (fun x o rt => ?_)
  refine V_iload_n o dX8_does_0 rfl rfl ?_
  refine V_if_lt (tgt := 10) o dX8_does_1 (by decide) (fun c_1 => False.elim (absurd c_1 (nI_nn (by omega)))) (fun c_1 => ?_)
  refine V_iload_n o dX8_does_4 rfl rfl ?_
  refine V_bipush (v := 34) o dX8_does_5 (by decide) ?_
  refine V_icmp_lt (tgt := 12) o dX8_does_7 (by decide) (fun c_7 => ?_) (fun c_7 => False.elim (c_7 (nI_lt (b := 34) hi (by omega))))
  refine V_aload_n o dX8_does_12 rfl rfl ?_
  refine V_getR (t := 62) o dX8_does_13 rfl fl_X8_54 rfl ?_
  refine V_getR (t := 64) o dX8_does_16 rfl fl_X8_362 rfl ?_
  refine V_iload_n o dX8_does_19 rfl rfl ?_
  refine V_ialdN 34 o dX8_does_20 rfl rfl rfl (by omega) rfl ?_
  refine V_topI (v' := a.2.1) h64 ?_
  refine V_istore_n (ls' := [(2, _), (0, _), (1, _)]) o dX8_does_21 rfl (by decide) rfl ?_
  refine V_aload_n o dX8_does_22 rfl rfl ?_
  refine V_getR (t := 62) o dX8_does_23 rfl fl_X8_54 rfl ?_
  refine V_getR (t := 63) o dX8_does_26 rfl fl_X8_364 rfl ?_
  refine V_iload_n o dX8_does_29 rfl rfl ?_
  refine V_ialdN 34 o dX8_does_30 rfl rfl rfl (by omega) rfl ?_
  refine V_topI (v' := 115) (h63.trans (by rw [hk]; rfl)) ?_
  refine V_lookup (off := 41) (tgt := 72) o dX8_does_31 (by decide) (by decide) (by decide) ?_
  refine V_aload_n o dX8_does_72 rfl rfl ?_
  refine V_iload_n o dX8_does_73 rfl rfl ?_
  refine V_iconst (v := 0) o dX8_does_74 (by decide) ?_
  refine V_aload_n o dX8_does_75 rfl rfl ?_
  refine V_getR (t := 62) o dX8_does_76 rfl fl_X8_54 rfl ?_
  refine V_getR (t := 65) o dX8_does_79 rfl fl_X8_367 rfl ?_
  refine V_iload_n o dX8_does_82 rfl rfl ?_
  refine V_ialdN 34 o dX8_does_83 rfl rfl rfl (by omega) rfl ?_
  refine V_topI (v' := a.2.2.1) (h65 hk).1 ?_
  refine V_aload_n o dX8_does_84 rfl rfl ?_
  refine V_getR (t := 62) o dX8_does_85 rfl fl_X8_54 rfl ?_
  refine V_getR (t := 66) o dX8_does_88 rfl fl_X8_370 rfl ?_
  refine V_iload_n o dX8_does_91 rfl rfl ?_
  refine V_ialdN 34 o dX8_does_92 rfl rfl rfl (by omega) rfl ?_
  refine V_topI (v' := a.2.2.2) (h65 hk).2 ?_
  refine V_iconst (v := 0) o dX8_does_93 (by decide) ?_
  refine V_callV o rt dX8_does_94 ml_X8_373 (c8_sets hf hK hF hB hs) rfl rfl rfl (Nat.le_of_ble_eq_true rfl) rfl (fun r_94 σ_94 q_94 => ?_)
  obtain ⟨rfl, ho, hK2⟩ := q_94
  show V sh0 w x mX8_does (0, 0) _ _ (.int (setR M) :: []) _
  refine V_topI (v' := -3) (by rw [setR, if_pos hfr]) ?_
  refine V_if_lt (tgt := 104) o dX8_does_97 (by decide) (fun c_97 => ?_) (fun c_97 => False.elim (absurd (by decide) c_97))
  refine V_iconst (v := 0) o dX8_does_104 (by decide) ?_
  refine V_iret o rt dX8_does_105 rfl (by first | rfl | exact bz_z) ?_
  exact ⟨l, ho, rfl, by rw [setsM, if_pos hfr] at hK2; exact hK2⟩
set_option maxRecDepth 20000 in
set_option maxHeartbeats 4000000 in
theorem c8_does0 {w : Wp} (hf : Fit sh0 w) {σ : Mm} {M : Nat → Int32} {L r n : Nat} {l : List Int64} {T : Nat → Int32} (hK : KR M L r l T n σ) (hF : Wf M L) (hB : Bo M) (hC : Cv M L r) {i : Nat} (hi : i < 34) {a : Act} (h63 : σ.1 63 i = kch a.1) (h64 : σ.1 64 i = a.2.1) (hk : a.1 = 0) (h65 : a.1 = 0 → σ.1 65 i = a.2.2.1 ∧ σ.1 66 i = a.2.2.2) (ho1 : inR a.2.1 1 9999) (ho2 : inR a.2.2.1 0 3) (ho3 : inR a.2.2.2 1 1000) (hfr : ¬ frM M 16 0 = 16) : Ct sh0 w 5 mX8_does [.ref 1, .int (nI i)] σ (dsQ σ M L r T n (some (setM M L (frM M 16 0) a.2.1 0 a.2.2.1 a.2.2.2 0, r, 0))) := by
  have hL := hF.2.2.1
  have hW := hK.1
  have hs : setsC a.2.1 0 a.2.2.1 a.2.2.2 0 := ⟨inR_wd ho1 (by decide) (by decide), by decide, ho2, ho3, by decide⟩
  refine Ct_of hf (by decide) rfl (Nat.le_of_ble_eq_true rfl) (fun x o rt => ?_)
  refine V_iload_n o dX8_does_0 rfl rfl ?_
  refine V_if_lt (tgt := 10) o dX8_does_1 (by decide) (fun c_1 => False.elim (absurd c_1 (nI_nn (by omega)))) (fun c_1 => ?_)
  refine V_iload_n o dX8_does_4 rfl rfl ?_
  refine V_bipush (v := 34) o dX8_does_5 (by decide) ?_
  refine V_icmp_lt (tgt := 12) o dX8_does_7 (by decide) (fun c_7 => ?_) (fun c_7 => False.elim (c_7 (nI_lt (b := 34) hi (by omega))))
  refine V_aload_n o dX8_does_12 rfl rfl ?_
  refine V_getR (t := 62) o dX8_does_13 rfl fl_X8_54 rfl ?_
  refine V_getR (t := 64) o dX8_does_16 rfl fl_X8_362 rfl ?_
  refine V_iload_n o dX8_does_19 rfl rfl ?_
  refine V_ialdN 34 o dX8_does_20 rfl rfl rfl (by omega) rfl ?_
  refine V_topI (v' := a.2.1) h64 ?_
  refine V_istore_n (ls' := [(2, _), (0, _), (1, _)]) o dX8_does_21 rfl (by decide) rfl ?_
  refine V_aload_n o dX8_does_22 rfl rfl ?_
  refine V_getR (t := 62) o dX8_does_23 rfl fl_X8_54 rfl ?_
  refine V_getR (t := 63) o dX8_does_26 rfl fl_X8_364 rfl ?_
  refine V_iload_n o dX8_does_29 rfl rfl ?_
  refine V_ialdN 34 o dX8_does_30 rfl rfl rfl (by omega) rfl ?_
  refine V_topI (v' := 115) (h63.trans (by rw [hk]; rfl)) ?_
  refine V_lookup (off := 41) (tgt := 72) o dX8_does_31 (by decide) (by decide) (by decide) ?_
  refine V_aload_n o dX8_does_72 rfl rfl ?_
  refine V_iload_n o dX8_does_73 rfl rfl ?_
  refine V_iconst (v := 0) o dX8_does_74 (by decide) ?_
  refine V_aload_n o dX8_does_75 rfl rfl ?_
  refine V_getR (t := 62) o dX8_does_76 rfl fl_X8_54 rfl ?_
  refine V_getR (t := 65) o dX8_does_79 rfl fl_X8_367 rfl ?_
  refine V_iload_n o dX8_does_82 rfl rfl ?_
  refine V_ialdN 34 o dX8_does_83 rfl rfl rfl (by omega) rfl ?_
  refine V_topI (v' := a.2.2.1) (h65 hk).1 ?_
  refine V_aload_n o dX8_does_84 rfl rfl ?_
  refine V_getR (t := 62) o dX8_does_85 rfl fl_X8_54 rfl ?_
  refine V_getR (t := 66) o dX8_does_88 rfl fl_X8_370 rfl ?_
  refine V_iload_n o dX8_does_91 rfl rfl ?_
  refine V_ialdN 34 o dX8_does_92 rfl rfl rfl (by omega) rfl ?_
  refine V_topI (v' := a.2.2.2) (h65 hk).2 ?_
  refine V_iconst (v := 0) o dX8_does_93 (by decide) ?_
  refine V_callV o rt dX8_does_94 ml_X8_373 (c8_sets hf hK hF hB hs) rfl rfl rfl (Nat.le_of_ble_eq_true rfl) rfl (fun r_94 σ_94 q_94 => ?_)
  obtain ⟨rfl, ho, hK2⟩ := q_94
  show V sh0 w x mX8_does (0, 0) _ _ (.int (setR M) :: []) _
  refine V_topI (v' := nI (frM M 16 0)) (by rw [setR, if_neg hfr]) ?_
  refine V_if_lt (tgt := 104) o dX8_does_97 (by decide) (fun c_97 => False.elim (absurd c_97 (nI_nn (by have := frM_le M 16 0; omega)))) (fun c_97 => ?_)
  refine V_iconst (v := 1) o dX8_does_100 (by decide) ?_
  refine V_goto (tgt := 105) o dX8_does_101 (by decide) ?_
  refine V_iret o rt dX8_does_105 rfl (by first | rfl | exact bz_z) ?_
  have ht : frM M 16 0 < 16 := by have := frM_le M 16 0; omega
  refine ⟨l, ho, rfl, by rw [setsM, if_neg hfr] at hK2; exact hK2, ?_⟩
  show setM M L _ _ _ _ _ _ 7 = M 7 + nI 0
  rw [show nI 0 = 0 from rfl, Int32.add_zero]
  exact (layM_ne (by omega)).trans (stM_ne ht (by omega) (by omega))
set_option maxRecDepth 20000 in
set_option maxHeartbeats 4000000 in
theorem c8_does1 {w : Wp} (hf : Fit sh0 w) {σ : Mm} {M : Nat → Int32} {L r n : Nat} {l : List Int64} {T : Nat → Int32} (hK : KR M L r l T n σ) (hF : Wf M L) (hB : Bo M) (hC : Cv M L r) {i : Nat} (hi : i < 34) {a : Act} (h63 : σ.1 63 i = kch a.1) (h64 : σ.1 64 i = a.2.1) (hk : a.1 = 1) {c m0 : Nat} (h6 : M 6 = nI c) (hm : a.2.1 = nI m0) (hm1 : 1 ≤ m0) (hm2 : m0 ≤ 9) (hc : c + 100 ≤ 1000000000) {S : (Nat → Int32) × Nat × List (Nat × Int32)} (hS : tks L m0 (M, r, ([] : List (Nat × Int32))) = S) : Ct sh0 w 5 mX8_does [.ref 1, .int (nI i)] σ (dsQ σ M L r T n (some (S.1, S.2.1, S.2.2.length))) := by
  have hL := hF.2.2.1
  have hW := hK.1
  have hlen : S.2.2.length ≤ 1600 := by have := (Iv_tks (hl := ([] : List (Nat × Int32))) hC.1 m0).2; rw [hS] at this; simp at this; omega
  refine Ct_of hf (by decide) rfl (Nat.le_of_ble_eq_true rfl) (fun x o rt => ?_)
  refine V_iload_n o dX8_does_0 rfl rfl ?_
  refine V_if_lt (tgt := 10) o dX8_does_1 (by decide) (fun c_1 => False.elim (absurd c_1 (nI_nn (by omega)))) (fun c_1 => ?_)
  refine V_iload_n o dX8_does_4 rfl rfl ?_
  refine V_bipush (v := 34) o dX8_does_5 (by decide) ?_
  refine V_icmp_lt (tgt := 12) o dX8_does_7 (by decide) (fun c_7 => ?_) (fun c_7 => False.elim (c_7 (nI_lt (b := 34) hi (by omega))))
  refine V_aload_n o dX8_does_12 rfl rfl ?_
  refine V_getR (t := 62) o dX8_does_13 rfl fl_X8_54 rfl ?_
  refine V_getR (t := 64) o dX8_does_16 rfl fl_X8_362 rfl ?_
  refine V_iload_n o dX8_does_19 rfl rfl ?_
  refine V_ialdN 34 o dX8_does_20 rfl rfl rfl (by omega) rfl ?_
  refine V_topI (v' := a.2.1) h64 ?_
  refine V_istore_n (ls' := [(2, _), (0, _), (1, _)]) o dX8_does_21 rfl (by decide) rfl ?_
  refine V_aload_n o dX8_does_22 rfl rfl ?_
  refine V_getR (t := 62) o dX8_does_23 rfl fl_X8_54 rfl ?_
  refine V_getR (t := 63) o dX8_does_26 rfl fl_X8_364 rfl ?_
  refine V_iload_n o dX8_does_29 rfl rfl ?_
  refine V_ialdN 34 o dX8_does_30 rfl rfl rfl (by omega) rfl ?_
  refine V_topI (v' := 116) (h63.trans (by rw [hk]; rfl)) ?_
  refine V_lookup (off := 75) (tgt := 106) o dX8_does_31 (by decide) (by decide) (by decide) ?_
  refine V_aload_n o dX8_does_106 rfl rfl ?_
  refine V_iload_n o dX8_does_107 rfl rfl ?_
  refine V_topI (v' := nI m0) hm ?_
  refine V_callV o rt dX8_does_108 ml_X8_377 (c8_ticks hf hK hF hB hC h6 hm1 (by omega) (by omega) hS) rfl rfl rfl (Nat.le_of_ble_eq_true rfl) rfl (fun r_108 σ_108 q_108 => ?_)
  obtain ⟨rfl, ho, hK2⟩ := q_108
  show V sh0 w x mX8_does (0, 0) _ _ (.int (nI S.2.2.length) :: []) _
  refine V_if_lt (tgt := 118) o dX8_does_111 (by decide) (fun c_111 => False.elim (absurd c_111 (nI_nn (by omega)))) (fun c_111 => ?_)
  refine V_iconst (v := 1) o dX8_does_114 (by decide) ?_
  refine V_goto (tgt := 119) o dX8_does_115 (by decide) ?_
  refine V_iret o rt dX8_does_119 rfl (by first | rfl | exact bz_z) ?_
  exact ⟨_, ho, rfl, hK2, by rw [← hS]; exact (tks_7 hC).1⟩
theorem c8_leapsS {w : Wp} (hf : Fit sh0 w) {σ : Mm} {M : Nat → Int32} {L r n : Nat} {l : List Int64} {T : Nat → Int32} (hK : KR M L r l T n σ) (hF : Wf M L) (hB : Bo M) (hC : Cv M L r) {c : Nat} (h6 : M 6 = nI c) (hc : c ≤ 1000000000) {k : Int32} (hk : k ≠ 0 ∧ -1000000 ≤ k ∧ k ≤ 1000000) (h64 : C64 M k) {S : (Nat → Int32) × (Nat → Nat) × Nat} (hS : lpS M k = S) {R : Nat → Int32} (hR : leapM M L r k = R) {r2 : Nat} (hr2 : (tellM S.1 r S.2.1 S.2.2).2 = r2) : Ct sh0 w 4 mX8_leaps [.ref 1, .int k] σ (fun r' σ' => r' = some (.int (nI S.2.2)) ∧ Off 1 62 σ σ' ∧ KR (R) (L) r2 (rowH ((hl1 S.2.1 (fun j => S.1 (231 + S.2.1 j)) S.2.2).drop ((hl1 S.2.1 (fun j => S.1 (231 + S.2.1 j)) S.2.2).length - 20))) (T) (n) σ') := by
  subst hS
  subst hR
  subst hr2
  exact c8_leaps hf hK hF hB hC h6 hc hk h64
set_option maxRecDepth 20000 in
set_option maxHeartbeats 4000000 in
theorem c8_does2 {w : Wp} (hf : Fit sh0 w) {σ : Mm} {M : Nat → Int32} {L r n : Nat} {l : List Int64} {T : Nat → Int32} (hK : KR M L r l T n σ) (hF : Wf M L) (hB : Bo M) (hC : Cv M L r) {i : Nat} (hi : i < 34) {a : Act} (h63 : σ.1 63 i = kch a.1) (h64 : σ.1 64 i = a.2.1) (hk : a.1 = 2) {c : Nat} (h6 : M 6 = nI c) (hc : c + 100 ≤ 1000000000) (hl9 : inR a.2.1 1 9999 ∨ inR a.2.1 (-9999) (-1)) (h64c : C64 M a.2.1) {S : (Nat → Int32) × (Nat → Nat) × Nat} (hS : lpS M a.2.1 = S) {R : Nat → Int32} (hR : leapM M L r a.2.1 = R) {r2 : Nat} (hr2 : (tellM S.1 r S.2.1 S.2.2).2 = r2) (hR7 : R 7 = M 7 + nI S.2.2) (hS16 : S.2.2 ≤ 16) : Ct sh0 w 5 mX8_does [.ref 1, .int (nI i)] σ (dsQ σ M L r T n (some (R, r2, S.2.2))) := by
  have hL := hF.2.2.1
  have hW := hK.1
  have hlp : a.2.1 ≠ 0 ∧ -1000000 ≤ a.2.1 ∧ a.2.1 ≤ 1000000 := by
    rcases hl9 with q | q
    · exact ⟨fun e => absurd q.1 (by rw [e]; decide), Int32.le_trans (by decide) q.1, Int32.le_trans q.2 (by decide)⟩
    · exact ⟨fun e => absurd q.2 (by rw [e]; decide), Int32.le_trans (by decide) q.1, Int32.le_trans q.2 (by decide)⟩
  refine Ct_of hf (by decide) rfl (Nat.le_of_ble_eq_true rfl) (fun x o rt => ?_)
  refine V_iload_n o dX8_does_0 rfl rfl ?_
  refine V_if_lt (tgt := 10) o dX8_does_1 (by decide) (fun c_1 => False.elim (absurd c_1 (nI_nn (by omega)))) (fun c_1 => ?_)
  refine V_iload_n o dX8_does_4 rfl rfl ?_
  refine V_bipush (v := 34) o dX8_does_5 (by decide) ?_
  refine V_icmp_lt (tgt := 12) o dX8_does_7 (by decide) (fun c_7 => ?_) (fun c_7 => False.elim (c_7 (nI_lt (b := 34) hi (by omega))))
  refine V_aload_n o dX8_does_12 rfl rfl ?_
  refine V_getR (t := 62) o dX8_does_13 rfl fl_X8_54 rfl ?_
  refine V_getR (t := 64) o dX8_does_16 rfl fl_X8_362 rfl ?_
  refine V_iload_n o dX8_does_19 rfl rfl ?_
  refine V_ialdN 34 o dX8_does_20 rfl rfl rfl (by omega) rfl ?_
  refine V_topI (v' := a.2.1) h64 ?_
  refine V_istore_n (ls' := [(2, _), (0, _), (1, _)]) o dX8_does_21 rfl (by decide) rfl ?_
  refine V_aload_n o dX8_does_22 rfl rfl ?_
  refine V_getR (t := 62) o dX8_does_23 rfl fl_X8_54 rfl ?_
  refine V_getR (t := 63) o dX8_does_26 rfl fl_X8_364 rfl ?_
  refine V_iload_n o dX8_does_29 rfl rfl ?_
  refine V_ialdN 34 o dX8_does_30 rfl rfl rfl (by omega) rfl ?_
  refine V_topI (v' := 108) (h63.trans (by rw [hk]; rfl)) ?_
  refine V_lookup (off := 89) (tgt := 120) o dX8_does_31 (by decide) (by decide) (by decide) ?_
  refine V_aload_n o dX8_does_120 rfl rfl ?_
  refine V_iload_n o dX8_does_121 rfl rfl ?_
  refine V_callV o rt dX8_does_122 ml_X8_380 (c8_leapsS hf hK hF hB hC h6 (by omega) hlp h64c hS hR hr2) rfl rfl rfl (Nat.le_of_ble_eq_true rfl) rfl (fun r_122 σ_122 q_122 => ?_)
  obtain ⟨rfl, ho, hK2⟩ := q_122
  show V sh0 w x mX8_does (0, 0) _ _ (.int (nI S.2.2) :: []) _
  refine V_if_lt (tgt := 132) o dX8_does_125 (by decide) (fun c_125 => False.elim (absurd c_125 (nI_nn (by omega)))) (fun c_125 => ?_)
  refine V_iconst (v := 1) o dX8_does_128 (by decide) ?_
  refine V_goto (tgt := 133) o dX8_does_129 (by decide) ?_
  refine V_iret o rt dX8_does_133 rfl (by first | rfl | exact bz_z) ?_
  exact ⟨_, ho, rfl, hK2, hR7⟩
set_option maxRecDepth 20000 in
set_option maxHeartbeats 4000000 in
theorem c8_does2n {w : Wp} (hf : Fit sh0 w) {σ : Mm} {M : Nat → Int32} {L r n : Nat} {l : List Int64} {T : Nat → Int32} (hK : KR M L r l T n σ) (hF : Wf M L) (hB : Bo M) (hC : Cv M L r) {i : Nat} (hi : i < 34) {a : Act} (h63 : σ.1 63 i = kch a.1) (h64 : σ.1 64 i = a.2.1) (hk : a.1 = 2) {c : Nat} (h6 : M 6 = nI c) (hc : c + 100 ≤ 1000000000) (hl9 : inR a.2.1 1 9999 ∨ inR a.2.1 (-9999) (-1)) (h64c : ¬ C64 M a.2.1) : Ct sh0 w 5 mX8_does [.ref 1, .int (nI i)] σ (dsQ σ M L r T n (none)) := by
  have hL := hF.2.2.1
  have hW := hK.1
  have hlp : a.2.1 ≠ 0 ∧ -1000000 ≤ a.2.1 ∧ a.2.1 ≤ 1000000 := by
    rcases hl9 with q | q
    · exact ⟨fun e => absurd q.1 (by rw [e]; decide), Int32.le_trans (by decide) q.1, Int32.le_trans q.2 (by decide)⟩
    · exact ⟨fun e => absurd q.2 (by rw [e]; decide), Int32.le_trans (by decide) q.1, Int32.le_trans q.2 (by decide)⟩
  refine Ct_of hf (by decide) rfl (Nat.le_of_ble_eq_true rfl) (fun x o rt => ?_)
  refine V_iload_n o dX8_does_0 rfl rfl ?_
  refine V_if_lt (tgt := 10) o dX8_does_1 (by decide) (fun c_1 => False.elim (absurd c_1 (nI_nn (by omega)))) (fun c_1 => ?_)
  refine V_iload_n o dX8_does_4 rfl rfl ?_
  refine V_bipush (v := 34) o dX8_does_5 (by decide) ?_
  refine V_icmp_lt (tgt := 12) o dX8_does_7 (by decide) (fun c_7 => ?_) (fun c_7 => False.elim (c_7 (nI_lt (b := 34) hi (by omega))))
  refine V_aload_n o dX8_does_12 rfl rfl ?_
  refine V_getR (t := 62) o dX8_does_13 rfl fl_X8_54 rfl ?_
  refine V_getR (t := 64) o dX8_does_16 rfl fl_X8_362 rfl ?_
  refine V_iload_n o dX8_does_19 rfl rfl ?_
  refine V_ialdN 34 o dX8_does_20 rfl rfl rfl (by omega) rfl ?_
  refine V_topI (v' := a.2.1) h64 ?_
  refine V_istore_n (ls' := [(2, _), (0, _), (1, _)]) o dX8_does_21 rfl (by decide) rfl ?_
  refine V_aload_n o dX8_does_22 rfl rfl ?_
  refine V_getR (t := 62) o dX8_does_23 rfl fl_X8_54 rfl ?_
  refine V_getR (t := 63) o dX8_does_26 rfl fl_X8_364 rfl ?_
  refine V_iload_n o dX8_does_29 rfl rfl ?_
  refine V_ialdN 34 o dX8_does_30 rfl rfl rfl (by omega) rfl ?_
  refine V_topI (v' := 108) (h63.trans (by rw [hk]; rfl)) ?_
  refine V_lookup (off := 89) (tgt := 120) o dX8_does_31 (by decide) (by decide) (by decide) ?_
  refine V_aload_n o dX8_does_120 rfl rfl ?_
  refine V_iload_n o dX8_does_121 rfl rfl ?_
  refine V_callV o rt dX8_does_122 ml_X8_380 (c8_leaps_end hf hK hF hB h6 (by omega) hlp h64c) rfl rfl rfl (Nat.le_of_ble_eq_true rfl) rfl (fun r_122 σ_122 q_122 => ?_)
  obtain ⟨rfl, ho, hK2⟩ := q_122
  show V sh0 w x mX8_does (0, 0) _ _ (.int (-4) :: []) _
  refine V_if_lt (tgt := 132) o dX8_does_125 (by decide) (fun c_125 => ?_) (fun c_125 => False.elim (absurd (by decide) c_125))
  refine V_iconst (v := 0) o dX8_does_132 (by decide) ?_
  refine V_iret o rt dX8_does_133 rfl (by first | rfl | exact bz_z) ?_
  exact ⟨_, ho, rfl, hK2⟩
set_option maxRecDepth 20000 in
set_option maxHeartbeats 4000000 in
theorem c8_does3 {w : Wp} (hf : Fit sh0 w) {σ : Mm} {M : Nat → Int32} {L r n : Nat} {l : List Int64} {T : Nat → Int32} (hK : KR M L r l T n σ) (hF : Wf M L) (hB : Bo M) (hC : Cv M L r) {i : Nat} (hi : i < 34) {a : Act} (h63 : σ.1 63 i = kch a.1) (h64 : σ.1 64 i = a.2.1) (hk : a.1 = 3) (hT : isTm M a.2.1) : Ct sh0 w 5 mX8_does [.ref 1, .int (nI i)] σ (dsQ σ M L r T n (some (caM M (ix a.2.1), r, 0))) := by
  have hL := hF.2.2.1
  have hW := hK.1
  refine Ct_of hf (by decide) rfl (Nat.le_of_ble_eq_true rfl) (fun x o rt => ?_)
  refine V_iload_n o dX8_does_0 rfl rfl ?_
  refine V_if_lt (tgt := 10) o dX8_does_1 (by decide) (fun c_1 => False.elim (absurd c_1 (nI_nn (by omega)))) (fun c_1 => ?_)
  refine V_iload_n o dX8_does_4 rfl rfl ?_
  refine V_bipush (v := 34) o dX8_does_5 (by decide) ?_
  refine V_icmp_lt (tgt := 12) o dX8_does_7 (by decide) (fun c_7 => ?_) (fun c_7 => False.elim (c_7 (nI_lt (b := 34) hi (by omega))))
  refine V_aload_n o dX8_does_12 rfl rfl ?_
  refine V_getR (t := 62) o dX8_does_13 rfl fl_X8_54 rfl ?_
  refine V_getR (t := 64) o dX8_does_16 rfl fl_X8_362 rfl ?_
  refine V_iload_n o dX8_does_19 rfl rfl ?_
  refine V_ialdN 34 o dX8_does_20 rfl rfl rfl (by omega) rfl ?_
  refine V_topI (v' := a.2.1) h64 ?_
  refine V_istore_n (ls' := [(2, _), (0, _), (1, _)]) o dX8_does_21 rfl (by decide) rfl ?_
  refine V_aload_n o dX8_does_22 rfl rfl ?_
  refine V_getR (t := 62) o dX8_does_23 rfl fl_X8_54 rfl ?_
  refine V_getR (t := 63) o dX8_does_26 rfl fl_X8_364 rfl ?_
  refine V_iload_n o dX8_does_29 rfl rfl ?_
  refine V_ialdN 34 o dX8_does_30 rfl rfl rfl (by omega) rfl ?_
  refine V_topI (v' := 99) (h63.trans (by rw [hk]; rfl)) ?_
  refine V_lookup (off := 103) (tgt := 134) o dX8_does_31 (by decide) (by decide) (by decide) ?_
  refine V_aload_n o dX8_does_134 rfl rfl ?_
  refine V_iload_n o dX8_does_135 rfl rfl ?_
  refine V_callV o rt dX8_does_136 ml_X8_383 (c8_cancels hf hK hF hB) rfl rfl rfl (Nat.le_of_ble_eq_true rfl) rfl (fun r_136 σ_136 q_136 => ?_)
  obtain ⟨rfl, ho, hK2⟩ := q_136
  show V sh0 w x mX8_does (0, 0) _ _ (.int (cancelsR M a.2.1) :: []) _
  refine V_topI (v' := manyM (caM M (ix a.2.1))) (by rw [cancelsR, if_pos hT]) ?_
  refine V_if_lt (tgt := 146) o dX8_does_139 (by decide) (fun c_139 => False.elim (absurd c_139 (Int32.not_lt.mpr (manyM_nn (Lv01_ca (fun t ht => (hB t ht).1)))))) (fun c_139 => ?_)
  refine V_iconst (v := 1) o dX8_does_142 (by decide) ?_
  refine V_goto (tgt := 147) o dX8_does_143 (by decide) ?_
  refine V_iret o rt dX8_does_147 rfl (by first | rfl | exact bz_z) ?_
  refine ⟨l, ho, rfl, by rw [cancelsM, if_pos hT] at hK2; exact hK2, ?_⟩
  have hx := (isTm_ix hT.1).2
  show caM M _ 7 = M 7 + nI 0
  rw [show nI 0 = 0 from rfl, Int32.add_zero]
  exact caM_ne (by omega) (by omega)
set_option maxRecDepth 20000 in
set_option maxHeartbeats 4000000 in
theorem c8_does3n {w : Wp} (hf : Fit sh0 w) {σ : Mm} {M : Nat → Int32} {L r n : Nat} {l : List Int64} {T : Nat → Int32} (hK : KR M L r l T n σ) (hF : Wf M L) (hB : Bo M) (hC : Cv M L r) {i : Nat} (hi : i < 34) {a : Act} (h63 : σ.1 63 i = kch a.1) (h64 : σ.1 64 i = a.2.1) (hk : a.1 = 3) (hT : ¬ isTm M a.2.1) : Ct sh0 w 5 mX8_does [.ref 1, .int (nI i)] σ (dsQ σ M L r T n (none)) := by
  have hL := hF.2.2.1
  have hW := hK.1
  refine Ct_of hf (by decide) rfl (Nat.le_of_ble_eq_true rfl) (fun x o rt => ?_)
  refine V_iload_n o dX8_does_0 rfl rfl ?_
  refine V_if_lt (tgt := 10) o dX8_does_1 (by decide) (fun c_1 => False.elim (absurd c_1 (nI_nn (by omega)))) (fun c_1 => ?_)
  refine V_iload_n o dX8_does_4 rfl rfl ?_
  refine V_bipush (v := 34) o dX8_does_5 (by decide) ?_
  refine V_icmp_lt (tgt := 12) o dX8_does_7 (by decide) (fun c_7 => ?_) (fun c_7 => False.elim (c_7 (nI_lt (b := 34) hi (by omega))))
  refine V_aload_n o dX8_does_12 rfl rfl ?_
  refine V_getR (t := 62) o dX8_does_13 rfl fl_X8_54 rfl ?_
  refine V_getR (t := 64) o dX8_does_16 rfl fl_X8_362 rfl ?_
  refine V_iload_n o dX8_does_19 rfl rfl ?_
  refine V_ialdN 34 o dX8_does_20 rfl rfl rfl (by omega) rfl ?_
  refine V_topI (v' := a.2.1) h64 ?_
  refine V_istore_n (ls' := [(2, _), (0, _), (1, _)]) o dX8_does_21 rfl (by decide) rfl ?_
  refine V_aload_n o dX8_does_22 rfl rfl ?_
  refine V_getR (t := 62) o dX8_does_23 rfl fl_X8_54 rfl ?_
  refine V_getR (t := 63) o dX8_does_26 rfl fl_X8_364 rfl ?_
  refine V_iload_n o dX8_does_29 rfl rfl ?_
  refine V_ialdN 34 o dX8_does_30 rfl rfl rfl (by omega) rfl ?_
  refine V_topI (v' := 99) (h63.trans (by rw [hk]; rfl)) ?_
  refine V_lookup (off := 103) (tgt := 134) o dX8_does_31 (by decide) (by decide) (by decide) ?_
  refine V_aload_n o dX8_does_134 rfl rfl ?_
  refine V_iload_n o dX8_does_135 rfl rfl ?_
  refine V_callV o rt dX8_does_136 ml_X8_383 (c8_cancels hf hK hF hB) rfl rfl rfl (Nat.le_of_ble_eq_true rfl) rfl (fun r_136 σ_136 q_136 => ?_)
  obtain ⟨rfl, ho, hK2⟩ := q_136
  show V sh0 w x mX8_does (0, 0) _ _ (.int (cancelsR M a.2.1) :: []) _
  refine V_topI (v' := -1) (by rw [cancelsR, if_neg hT]) ?_
  refine V_if_lt (tgt := 146) o dX8_does_139 (by decide) (fun c_139 => ?_) (fun c_139 => False.elim (absurd (by decide) c_139))
  refine V_iconst (v := 0) o dX8_does_146 (by decide) ?_
  refine V_iret o rt dX8_does_147 rfl (by first | rfl | exact bz_z) ?_
  exact ⟨l, ho, rfl, by rw [cancelsM, if_neg hT] at hK2; exact hK2⟩
theorem c8_does {w : Wp} (hf : Fit sh0 w) {σ : Mm} {M : Nat → Int32} {L r n : Nat} {l : List Int64} {T : Nat → Int32} (hK : KR M L r l T n σ) (hF : Wf M L) (hB : Bo M) (hC : Cv M L r) {i : Nat} (hi : i < 34) {a : Act} (h63 : σ.1 63 i = kch a.1) (h64 : σ.1 64 i = a.2.1) (h65 : a.1 = 0 → σ.1 65 i = a.2.2.1 ∧ σ.1 66 i = a.2.2.2) (hO : AcOk a) {c : Nat} (h6 : M 6 = nI c) (hc : c + 100 ≤ 1000000000) {D : Option ((Nat → Int32) × Nat × Nat)} (hD : doA L a M r = D) : Ct sh0 w 5 mX8_does [.ref 1, .int (nI i)] σ (dsQ σ M L r T n D) := by
  unfold doA at hD
  rcases hO with ⟨hk, h1, h2, h3⟩ | ⟨hk, h1⟩ | ⟨hk, h1⟩ | ⟨hk, h1⟩
  · rw [if_pos hk] at hD
    by_cases hfr : frM M 16 0 = 16
    · rw [if_pos hfr] at hD
      subst hD
      exact c8_does0n hf hK hF hB hC hi h63 h64 hk h65 h1 h2 h3 hfr
    · rw [if_neg hfr] at hD
      subst hD
      exact c8_does0 hf hK hF hB hC hi h63 h64 hk h65 h1 h2 h3 hfr
  · rw [if_neg (by rw [hk]; decide), if_pos hk] at hD
    obtain ⟨e1, e2, e3⟩ := inR_nat (lo := 1) (hi := 9) h1 (by omega) (by omega)
    rw [if_neg (by rw [h6, e1, nI_add]; exact nI_ngt (by omega))] at hD
    subst hD
    exact c8_does1 hf hK hF hB hC hi h63 h64 hk h6 e1 e2 e3 hc rfl
  · rw [if_neg (by rw [hk]; decide), if_neg (by rw [hk]; decide), if_pos hk] at hD
    by_cases h6c : C64 M a.2.1
    · rw [if_pos h6c] at hD
      subst hD
      exact c8_does2 hf hK hF hB hC hi h63 h64 hk h6 hc h1 h6c (S := lpS M a.2.1) (R := leapM M L r a.2.1) (r2 := (tellM (lpS M a.2.1).1 r (lpS M a.2.1).2.1 (lpS M a.2.1).2.2).2) rfl rfl rfl (leap_7 hC) lpS_all.1
    · rw [if_neg h6c] at hD
      subst hD
      exact c8_does2n hf hK hF hB hC hi h63 h64 hk h6 hc h1 h6c
  · rw [if_neg (by rw [hk]; decide), if_neg (by rw [hk]; decide), if_neg (by rw [hk]; decide)] at hD
    by_cases hT : isTm M a.2.1
    · rw [if_pos hT] at hD
      subst hD
      exact c8_does3 hf hK hF hB hC hi h63 h64 hk hT
    · rw [if_neg hT] at hD
      subst hD
      exact c8_does3n hf hK hF hB hC hi h63 h64 hk hT
set_option maxRecDepth 20000 in
set_option maxHeartbeats 4000000 in
theorem c8_run_t {w : Wp} (hf : Fit sh0 w) {σ : Mm} {M : Nat → Int32} {L r n : Nat} {l : List Int64} {T : Nat → Int32} (hK : KR M L r l T n σ) (hF : Wf M L) (hB : Bo M) {R : Bool × Nat × List Act} (hR0 : rdL T n 101 [] 0 = R) (hRt : R.1 = true) {P : Nat → (Nat → Int32) → Nat → Prop} (hP0 : P 0 M r) (hPI : ∀ i M r, P i M r → Cv M L r ∧ ∃ c, M 6 = nI c ∧ c + 100 ≤ 1000000000) (hPS : ∀ i M r a s, i < R.2.2.length → P i M r → AcOk a → doA L a M r = some s → P (i + 1) s.1 s.2.1) {S : ((Nat → Int32) × Nat × Nat × Int32)} (hS0 : doL L R.2.2 (M, r, 0, 0) = S) : Ct sh0 w 6 mX8_run [.ref 1] σ (fun r' σ' => r' = some (.int (nI S.2.2.1)) ∧ Off 1 67 σ σ' ∧ KR (S.1) (L) S.2.1 ([(bz (S.2.2.1 < R.2.2.length)).toInt64, S.2.2.2.toInt64]) (T) (0) σ') := by
  have hL := hF.2.2.1
  have hW := hK.1
  refine Ct_of hf (by decide) rfl (Nat.le_of_ble_eq_true rfl) (fun x o rt => ?_)
  have fin : R.2.2.length ≤ 34 → (∀ (s : ((Nat → Int32) × Nat × Nat × Int32)) (τ : Mm) (l' : List Int64), s = S → s.2.2.1 ≤ R.2.2.length → Off 1 67 σ τ → KR s.1 L s.2.1 l' T 0 τ → τ.1 62 4 = nI R.2.2.length → s.1 7 = M 7 + s.2.2.2 → V sh0 w x mX8_run (0, 0) 69 [(3, .int (nI s.2.2.1)), (2, .int (M 7)), (1, .int 1), (0, .ref 1)] [] τ) := by
    intro h34 s τ l' hs hle ho hKs hlen h7
    subst hs
    have hLs : L ≤ 4 := hL
    refine V_aload_n o dX8_run_69 rfl rfl ?_
    refine V_getR (t := 52) o dX8_run_70 rfl fl_X8_33 rfl ?_
    refine V_callV o rt dX8_run_73 ml_X8_209 (c3_empty hf) rfl rfl rfl (Nat.le_of_ble_eq_true rfl) rfl (fun r_73 σ_73 q_73 => ?_)
    obtain ⟨rfl, ho_73, hR_73⟩ := q_73
    show V sh0 w x mX8_run (0, 0) _ _ [] _
    refine V_aload_n o dX8_run_76 rfl rfl ?_
    refine V_getR (t := 52) o dX8_run_77 rfl fl_X8_33 rfl ?_
    refine V_iload_n o dX8_run_80 rfl rfl ?_
    refine V_aload_n o dX8_run_81 rfl rfl ?_
    refine V_getR (t := 62) o dX8_run_82 rfl fl_X8_54 rfl ?_
    refine V_getIE (v := nI (R.2.2.length)) o dX8_run_85 rfl fl_X8_227 rfl ((congrFun (ho_73 62 (by omega)).1 4).trans hlen) ?_
    refine V_icmp_ge (tgt := 95) o dX8_run_88 (by decide) (fun c_88 => ?_) (fun c_88 => ?_)
    · refine V_lconst (v := 0) o dX8_run_95 (by decide) ?_
      refine V_callV o rt dX8_run_96 ml_X8_210 (c3_put hf hR_73 (by simp)) rfl rfl rfl (Nat.le_of_ble_eq_true rfl) rfl (fun r_96 σ_96 q_96 => ?_)
      obtain ⟨rfl, hp_96, hR_96⟩ := q_96
      have ho_96 := ho_73.tr hp_96
      show V sh0 w x mX8_run (0, 0) _ _ [] _
      refine V_aload_n o dX8_run_99 rfl rfl ?_
      refine V_getR (t := 52) o dX8_run_100 rfl fl_X8_33 rfl ?_
      refine V_aload_n o dX8_run_103 rfl rfl ?_
      refine V_getR (t := 54) o dX8_run_104 rfl fl_X8_40 rfl ?_
      refine V_getI o dX8_run_107 rfl fl_X8_224 rfl ?_
      refine V_topI (v' := s.1 7) ((congrFun (ho_96 54 (by omega)).1 6).trans hKs.2.2.1.2.1) ?_
      refine V_iload_n o dX8_run_110 rfl rfl ?_
      refine V_isub o dX8_run_111 ?_
      refine V_topI (v' := s.2.2.2) (by rw [h7, Int32.add_comm, Int32.add_sub_cancel]) ?_
      refine V_i2l o dX8_run_112 ?_
      refine V_callV o rt dX8_run_113 ml_X8_210 (c3_put hf hR_96 (by simp)) rfl rfl rfl (Nat.le_of_ble_eq_true rfl) rfl (fun r_113 σ_113 q_113 => ?_)
      obtain ⟨rfl, hp_113, hR_113⟩ := q_113
      have ho_113 := ho_96.tr hp_113
      show V sh0 w x mX8_run (0, 0) _ _ [] _
      refine V_iload_n o dX8_run_116 rfl rfl ?_
      refine V_iret o rt dX8_run_117 rfl rfl ?_
      have hb : bz (s.2.2.1 < R.2.2.length) = 0 := bz_f (fun q => absurd q (Nat.not_lt.mpr ((nI_leI (by omega) (by omega)).mp c_88)))
      exact ⟨rfl, ho.tr (ho_113.wd (by omega) (by omega)), by rw [hb]; exact hKs.rw hL ho_113 hR_113⟩
    · refine V_lconst (v := 1) o dX8_run_91 (by decide) ?_
      refine V_goto (tgt := 96) o dX8_run_92 (by decide) ?_
      refine V_callV o rt dX8_run_96 ml_X8_210 (c3_put hf hR_73 (by simp)) rfl rfl rfl (Nat.le_of_ble_eq_true rfl) rfl (fun r_96 σ_96 q_96 => ?_)
      obtain ⟨rfl, hp_96, hR_96⟩ := q_96
      have ho_96 := ho_73.tr hp_96
      show V sh0 w x mX8_run (0, 0) _ _ [] _
      refine V_aload_n o dX8_run_99 rfl rfl ?_
      refine V_getR (t := 52) o dX8_run_100 rfl fl_X8_33 rfl ?_
      refine V_aload_n o dX8_run_103 rfl rfl ?_
      refine V_getR (t := 54) o dX8_run_104 rfl fl_X8_40 rfl ?_
      refine V_getI o dX8_run_107 rfl fl_X8_224 rfl ?_
      refine V_topI (v' := s.1 7) ((congrFun (ho_96 54 (by omega)).1 6).trans hKs.2.2.1.2.1) ?_
      refine V_iload_n o dX8_run_110 rfl rfl ?_
      refine V_isub o dX8_run_111 ?_
      refine V_topI (v' := s.2.2.2) (by rw [h7, Int32.add_comm, Int32.add_sub_cancel]) ?_
      refine V_i2l o dX8_run_112 ?_
      refine V_callV o rt dX8_run_113 ml_X8_210 (c3_put hf hR_96 (by simp)) rfl rfl rfl (Nat.le_of_ble_eq_true rfl) rfl (fun r_113 σ_113 q_113 => ?_)
      obtain ⟨rfl, hp_113, hR_113⟩ := q_113
      have ho_113 := ho_96.tr hp_113
      show V sh0 w x mX8_run (0, 0) _ _ [] _
      refine V_iload_n o dX8_run_116 rfl rfl ?_
      refine V_iret o rt dX8_run_117 rfl rfl ?_
      have hb : bz (s.2.2.1 < R.2.2.length) = 1 := bz_t ((nI_ltI (by omega) (by omega)).mp (Int32.not_le.mp c_88))
      exact ⟨rfl, ho.tr (ho_113.wd (by omega) (by omega)), by rw [hb]; exact hKs.rw hL ho_113 hR_113⟩
  have loop : R.2.2.length ≤ 34 → ∀ m (s : ((Nat → Int32) × Nat × Nat × Int32)) (τ : Mm) (l' : List Int64), s.2.2.1 + m = R.2.2.length → P s.2.2.1 s.1 s.2.1 → Off 1 67 σ τ → KR s.1 L s.2.1 l' T 0 τ → τ.1 62 4 = nI R.2.2.length → AcC R.2.2 τ → s.1 7 = M 7 + s.2.2.2 → doL L (R.2.2.drop s.2.2.1) s = S → V sh0 w x mX8_run (0, 0) 44 [(3, .int (nI s.2.2.1)), (2, .int (M 7)), (1, .int 1), (0, .ref 1)] [] τ := by
    intro h34 m
    induction m with
    | zero =>
      intro s τ l' hm hP ho hKs hlen hAc h7 hD
      have hsl : s.2.2.1 = R.2.2.length := by omega
      rw [hsl, List.drop_length, doL] at hD
      refine V_iload_n o dX8_run_44 rfl rfl ?_
      refine V_aload_n o dX8_run_45 rfl rfl ?_
      refine V_getR (t := 62) o dX8_run_46 rfl fl_X8_54 rfl ?_
      refine V_getIE (v := nI (R.2.2.length)) o dX8_run_49 rfl fl_X8_227 rfl hlen ?_
      refine V_icmp_ge (tgt := 69) o dX8_run_52 (by decide) (fun c_52 => ?_) (fun c_52 => False.elim (c_52 (by rw [hsl]; exact Int32.le_refl _)))
      exact fin h34 s τ l' hD (by omega) ho hKs hlen h7
    | succ m ih =>
      intro s τ l' hm hP ho hKs hlen hAc h7 hD
      have hi : s.2.2.1 < R.2.2.length := by omega
      obtain ⟨hCs, c, h6, hc⟩ := hPI _ _ _ hP
      obtain ⟨a1, a2, a3, a4⟩ := hAc s.2.2.1 hi
      rw [drop_cons hi] at hD
      generalize hae : R.2.2.getD s.2.2.1 (0, 0, 0, 0) = a at a1 a2 a3 a4 hD
      refine V_iload_n o dX8_run_44 rfl rfl ?_
      refine V_aload_n o dX8_run_45 rfl rfl ?_
      refine V_getR (t := 62) o dX8_run_46 rfl fl_X8_54 rfl ?_
      refine V_getIE (v := nI (R.2.2.length)) o dX8_run_49 rfl fl_X8_227 rfl hlen ?_
      refine V_icmp_ge (tgt := 69) o dX8_run_52 (by decide) (fun c_52 => False.elim (absurd c_52 (nI_ge hi (by omega)))) (fun c_52 => ?_)
      refine V_aload_n o dX8_run_55 rfl rfl ?_
      refine V_iload_n o dX8_run_56 rfl rfl ?_
      rcases hDa : doA L a s.1 s.2.1 with _ | q
      · refine V_callV o rt dX8_run_57 ml_X8_228 (c8_does hf hKs hCs.1.1 hCs.2.1 hCs (by omega) a1 a2 a3 a4 h6 hc hDa) rfl rfl rfl (Nat.le_of_ble_eq_true rfl) rfl (fun r_57 σ_57 q_57 => ?_)
        obtain ⟨l2, ho2, rfl, hK2⟩ := q_57
        show V sh0 w x mX8_run (0, 0) _ _ (.int 0 :: []) _
        refine V_if_eq (tgt := 69) o dX8_run_60 (by decide) (fun c_60 => ?_) (fun c_60 => False.elim (absurd (by decide) c_60))
        rw [doL_none hDa] at hD
        exact fin h34 s σ_57 l2 hD (by omega) (ho.tr (ho2.wd (by omega) (by omega))) hK2 ((congrFun (ho2 62 (by omega)).1 4).trans hlen) h7
      · refine V_callV o rt dX8_run_57 ml_X8_228 (c8_does hf hKs hCs.1.1 hCs.2.1 hCs (by omega) a1 a2 a3 a4 h6 hc hDa) rfl rfl rfl (Nat.le_of_ble_eq_true rfl) rfl (fun r_57 σ_57 q_57 => ?_)
        obtain ⟨l2, ho2, rfl, hK2, hq7⟩ := q_57
        show V sh0 w x mX8_run (0, 0) _ _ (.int 1 :: []) _
        refine V_if_eq (tgt := 69) o dX8_run_60 (by decide) (fun c_60 => False.elim (absurd c_60 (by decide))) (fun c_60 => ?_)
        refine V_iincV (v := nI (s.2.2.1 + 1)) (ls' := [(3, _), (2, _), (1, _), (0, _)]) o dX8_run_63 rfl (ninc 1 rfl) (by decide) rfl ?_
        refine V_goto (tgt := 44) o dX8_run_66 (by decide) ?_
        rw [doL_some hDa] at hD
        exact V_sub (by simp) (ih (q.1, q.2.1, s.2.2.1 + 1, s.2.2.2 + nI q.2.2) σ_57 l2 (by show s.2.2.1 + 1 + m = _; omega) (hPS _ _ _ a q hi hP a4 hDa) (ho.tr (ho2.wd (by omega) (by omega))) hK2 ((congrFun (ho2 62 (by omega)).1 4).trans hlen) (hAc.off ho2 (by omega)) (by show q.1 7 = M 7 + (s.2.2.2 + nI q.2.2); rw [hq7, h7, Int32.add_assoc]) hD)
  refine V_aload_n o dX8_run_0 rfl rfl ?_
  refine V_getR (t := 62) o dX8_run_1 rfl fl_X8_54 rfl ?_
  refine V_aload_n o dX8_run_4 rfl rfl ?_
  refine V_getR (t := 60) o dX8_run_5 rfl fl_X8_47 rfl ?_
  refine V_callV o rt dX8_run_8 ml_X8_214 (c0_readsAll hf hK.2.2.2.2.1 hR0) rfl rfl rfl (Nat.le_of_ble_eq_true rfl) rfl (fun r_8 σ_8 q_8 => ?_)
  obtain ⟨ho, hS, -⟩ := q_8
  obtain ⟨rfl, hlen, hAc, h34⟩ := hS hRt
  have hK1 := hK.ac hL ho
  have hKx : KR M L r l T 0 (wI σ_8 60 1 0) := hK1.tx hL (Off.rf.wI (by omega) (by omega)) ⟨wI_at.trans rfl, Nat.zero_le _, fun j hj => absurd hj (Nat.not_lt_zero j)⟩
  show V sh0 w x mX8_run (0, 0) _ _ (.int 1 :: []) _
  refine V_istore_n (ls' := [(1, _), (0, _)]) o dX8_run_11 rfl (by decide) rfl ?_
  refine V_aload_n o dX8_run_12 rfl rfl ?_
  refine V_getR (t := 60) o dX8_run_13 rfl fl_X8_47 rfl ?_
  refine V_iconst (v := 0) o dX8_run_16 (by decide) ?_
  refine V_cVv o rt dX8_run_17 ml_X8_218 (c5_shorten hf) rfl rfl rfl (Nat.le_of_ble_eq_true rfl) rfl ?_
  refine V_iload_n o dX8_run_20 rfl rfl ?_
  refine V_if_ne (tgt := 34) o dX8_run_21 (by decide) (fun c_21 => ?_) (fun c_21 => False.elim (absurd c_21 (by decide)))
  refine V_aload_n o dX8_run_34 rfl rfl ?_
  refine V_getR (t := 54) o dX8_run_35 rfl fl_X8_40 rfl ?_
  refine V_getI o dX8_run_38 rfl fl_X8_224 rfl ?_
  refine V_topI (v' := M 7) hKx.2.2.1.2.1 ?_
  refine V_istore_n (ls' := [(2, _), (1, _), (0, _)]) o dX8_run_41 rfl (by decide) rfl ?_
  refine V_iconst (v := 0) o dX8_run_42 (by decide) ?_
  refine V_istore_n (ls' := [(3, _), (2, _), (1, _), (0, _)]) o dX8_run_43 rfl (by decide) rfl ?_
  exact V_sub (by simp; rfl) (loop h34 R.2.2.length (M, r, 0, 0) (wI σ_8 60 1 0) l (by simp) hP0 ((ho.wd (by omega) (by omega)).wI (by omega) (by omega)) hKx ((congrFun (wI_ne (by omega)) 4).trans hlen) (hAc.off (lo := 60) (hi := 62) (Off.rf.wI (by omega) (by omega)) (by omega)) (Int32.add_zero _).symm hS0)
set_option maxRecDepth 20000 in
set_option maxHeartbeats 4000000 in
theorem c8_run_f {w : Wp} (hf : Fit sh0 w) {σ : Mm} {M : Nat → Int32} {L r n : Nat} {l : List Int64} {T : Nat → Int32} (hK : KR M L r l T n σ) (hF : Wf M L) (hB : Bo M) {R : Bool × Nat × List Act} (hR0 : rdL T n 101 [] 0 = R) (hRt : R.1 = false) : Ct sh0 w 6 mX8_run [.ref 1] σ (fun r' σ' => r' = some (.int (-1 - nI R.2.1)) ∧ Off 1 67 σ σ' ∧ KR (M) (L) r (l) (T) (0) σ') := by
  have hL := hF.2.2.1
  have hW := hK.1
  refine Ct_of hf (by decide) rfl (Nat.le_of_ble_eq_true rfl) (fun x o rt => ?_)
  refine V_aload_n o dX8_run_0 rfl rfl ?_
  refine V_getR (t := 62) o dX8_run_1 rfl fl_X8_54 rfl ?_
  refine V_aload_n o dX8_run_4 rfl rfl ?_
  refine V_getR (t := 60) o dX8_run_5 rfl fl_X8_47 rfl ?_
  refine V_callV o rt dX8_run_8 ml_X8_214 (c0_readsAll hf hK.2.2.2.2.1 hR0) rfl rfl rfl (Nat.le_of_ble_eq_true rfl) rfl (fun r_8 σ_8 q_8 => ?_)
  obtain ⟨ho, -, hS⟩ := q_8
  obtain ⟨rfl, hw⟩ := hS hRt
  have hK1 := hK.ac hL ho
  have hKx : KR M L r l T 0 (wI σ_8 60 1 0) := hK1.tx hL (Off.rf.wI (by omega) (by omega)) ⟨wI_at.trans rfl, Nat.zero_le _, fun j hj => absurd hj (Nat.not_lt_zero j)⟩
  show V sh0 w x mX8_run (0, 0) _ _ (.int 0 :: []) _
  refine V_istore_n (ls' := [(1, _), (0, _)]) o dX8_run_11 rfl (by decide) rfl ?_
  refine V_aload_n o dX8_run_12 rfl rfl ?_
  refine V_getR (t := 60) o dX8_run_13 rfl fl_X8_47 rfl ?_
  refine V_iconst (v := 0) o dX8_run_16 (by decide) ?_
  refine V_cVv o rt dX8_run_17 ml_X8_218 (c5_shorten hf) rfl rfl rfl (Nat.le_of_ble_eq_true rfl) rfl ?_
  refine V_iload_n o dX8_run_20 rfl rfl ?_
  refine V_if_ne (tgt := 34) o dX8_run_21 (by decide) (fun c_21 => False.elim (absurd (by decide) c_21)) (fun c_21 => ?_)
  refine V_iconst (v := -1) o dX8_run_24 (by decide) ?_
  refine V_aload_n o dX8_run_25 rfl rfl ?_
  refine V_getR (t := 62) o dX8_run_26 rfl fl_X8_54 rfl ?_
  refine V_getI o dX8_run_29 rfl fl_X8_221 rfl ?_
  refine V_topI (v' := nI R.2.1) ((congrFun (wI_ne (by omega)) 5).trans hw) ?_
  refine V_isub o dX8_run_32 ?_
  refine V_iret o rt dX8_run_33 rfl rfl ?_
  exact ⟨rfl, (ho.wd (by omega) (by omega)).wI (by omega) (by omega), hKx⟩
