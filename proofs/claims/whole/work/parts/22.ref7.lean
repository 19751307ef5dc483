theorem qG_all {P : Nat → Prop} {ah : Nat → Nat → Bool} {t : Nat} (ht : P t) : ∀ (k n : Nat) (g : Nat → Nat), k ≤ n → (∀ j, j < n + 1 → j ≠ k → P (g j)) → ∀ j, j < n + 1 → P (qG ah t k g j)
  | 0, n, g, _, h, j, hj => by
    unfold qG uG
    split
    · exact ht
    · exact h j hj (by assumption)
  | k + 1, n, g, hk, h, j, hj => by
    unfold qG
    split
    · refine qG_all ht k n _ (by omega) (fun i hi hik => ?_) j hj
      unfold uG
      split
      · exact h k (by omega) (by omega)
      · exact h i hi (by omega)
    · unfold uG
      split
      · exact ht
      · exact h j hj (by assumption)
theorem Lo6 {M M' : Nat → Int32} (h : Lo (uM M 6 (M 6 + 1)) M') {j : Nat} (h1 : j < 391) (h8 : j ≠ 8) (h6 : j ≠ 6) : M' j = M j := (h j h1 h8).trans (uM_ne _ _ h6)
set_option maxRecDepth 20000 in
set_option maxHeartbeats 4000000 in
theorem c9_tick {w : Wp} (hf : Fit sh0 w) {σ : Mm} {d : Nat} {M : Nat → Int32} (hd : σ.1 67 8 = nI d) (hd4 : d ≤ 423) {L : Nat} (hW : Wf M L) {r h : Nat} (hr : M 14 = nI r) (hr4 : r ≤ 40) (hP : ∀ t, t < 16 → isT M t → Pq M t) (hh : σ.1 67 13 = nI h) (hh2 : h + 16 ≤ 2000) : Ct sh0 w 6 mX9_tick [.ref 67] (sM σ d M) (fun r' σ' => r' = none ∧ ∃ f, σ' = sM (sHd (sLn σ f (tkLn M L).2) (hcat (σ.1 72) h (tkLn M L).2 (fun k => nI ((tkLn M L).1 k))) (hcat (σ.1 73) h (tkLn M L).2 (fun _ => M 6 + 1)) (h + (tkLn M L).2)) d (tickM M L r)) := by
  refine Ct_of hf (by decide) rfl (Nat.le_of_ble_eq_true rfl) (fun x o rt => ?_)
  have hL4 := hW.2.2.1
  have hW0 : Wf (uM M 6 (M 6 + 1)) L := Wf_uM hW (by omega)
  have ring : ∀ (f : Nat → Int32), (∀ j, j < (tkLn M L).2 → f j = nI ((tkLn M L).1 j) ∧ (tkLn M L).1 j < 16 ∧ isT (tkA M L) ((tkLn M L).1 j)) → V sh0 w x mX9_tick (0, 0) 248 [(0, .ref 67)] [] (sM (sLn σ f (tkLn M L).2) d (tkA M L)) := by
    intro f hfg
    have hn := (lineM_inv (M := tkA M L) (bd := false) (sel := tkSel (tkA M L) (M 6 + 1)) 16 0 (by omega) (fun _ => 0, 0) (Nat.le_refl 0) (fun j hj => absurd hj (Nat.not_lt_zero j))).1
    have hn2 : (tkLn M L).2 ≤ 16 := hn
    refine V_aload_n o dX9_tick_248 rfl rfl ?_
    refine V_iconst (v := 0) o dX9_tick_249 (by decide) ?_
    refine V_cVv o rt dX9_tick_250 ml_X9_146 (c9_ringsAll (n := (tkLn M L).2) (g := (tkLn M L).1) (r := r) hf (by exact hd) hd4 (Lo.tkA.wf hW0) false rfl ((Lo6 Lo.tkA (by omega) (by omega) (by omega)).trans hr) hr4 rfl hn2 (fun j hj => ⟨(hfg j hj).1, (hfg j hj).2.1, Pq_same (hP _ (hfg j hj).2.1 ((Lo6 Lo.tkA (by have := (hfg j hj).2.1; omega) (by omega) (by omega)).symm.trans (hfg j hj).2.2)) (Lo6 Lo.tkA (by have := (hfg j hj).2.1; omega) (by omega) (by omega))⟩) (by exact hh) (by omega)) rfl rfl rfl (Nat.le_of_ble_eq_true rfl) rfl ?_
    refine V_ret o rt dX9_tick_253 rfl ?_
    refine ⟨rfl, f, ?_⟩
    have e6 : tkA M L 6 = M 6 + 1 := (Lo.tkA 6 (by omega) (by omega)).trans (uM_self _ _ _)
    have ef : (fun k : Nat => if false = true then tkA M L (231 + (tkLn M L).1 k) else tkA M L 6) = fun _ => M 6 + 1 := funext fun k => by rw [if_neg (by decide), e6]
    rw [ef]
    rfl
  have line : ∀ n t (f : Nat → Int32) (s : (Nat → Nat) × Nat), t + n = 16 → s.2 ≤ t → (∀ j, j < s.2 → f j = nI (s.1 j) ∧ s.1 j < 16 ∧ isT (tkA M L) (s.1 j)) → itr (lnF (tkA M L) false (tkSel (tkA M L) (M 6 + 1))) t n s = tkLn M L → V sh0 w x mX9_tick (0, 0) 191 [(2, .int (nI t)), (0, .ref 67), (1, .int (M 6 + 1))] [] (sM (sLn σ f s.2) d (tkA M L)) := by
    intro n
    induction n with
    | zero =>
      intro t f s htn hst hfg hR
      have ht : t = 16 := by omega
      refine V_iload_n o dX9_tick_191 rfl rfl ?_
      refine V_bipush (v := 16) o dX9_tick_192 (by decide) ?_
      refine V_icmp_ge (tgt := 248) o dX9_tick_194 (by decide) (fun c_194 => ?_) (fun c_194 => False.elim (c_194 (by rw [ht]; exact Int32.le_refl _)))
      refine (V_sub (ls := [(0, .ref 67)]) (by intro q hq; simp only [List.mem_cons, List.not_mem_nil, or_false] at hq; subst hq; simp) ?_)
      have hs : s = tkLn M L := hR
      subst hs
      exact ring f hfg
    | succ n ih =>
      intro t f s htn hst hfg hR
      rw [itr_succ] at hR
      have h1 : ¬ tkA M L 1 = 0 := Wf_size0 (k := 0) (Lo.tkA.wf hW0) (by have := hW.2.1; omega)
      refine V_iload_n o dX9_tick_191 rfl rfl ?_
      refine V_bipush (v := 16) o dX9_tick_192 (by decide) ?_
      refine V_icmp_ge (tgt := 248) o dX9_tick_194 (by decide) (fun c_194 => False.elim (absurd c_194 (nI_ge (b := 16) (by omega) (by omega)))) (fun c_194 => ?_)
      refine V_aload_n o dX9_tick_197 rfl rfl ?_
      refine V_iload_n o dX9_tick_198 rfl rfl ?_
      refine V_cVi o rt dX9_tick_199 ml_X9_99 (c9_goes hf (by exact hd) hd4 rfl (by omega)) rfl rfl rfl (Nat.le_of_ble_eq_true rfl) rfl ?_
      refine V_if_eq (tgt := 242) o dX9_tick_202 (by decide) (fun c_202 => ?_) (fun c_202 => ?_)
      · refine V_iincV (v := nI (t + 1)) (ls' := [(2, _), (0, _), (1, _)]) o dX9_tick_242 rfl (ninc 1 rfl) (by decide) rfl ?_
        refine V_goto (tgt := 191) o dX9_tick_245 (by decide) ?_
        first
          | (rw [lnF, if_neg (by rw [tkSel, decide_eq_true_eq]; exact fun h => bz_0.mp c_202 h.1)] at hR; exact ih (t + 1) f s (by omega) (by omega) hfg hR)
          | (rw [lnF, if_neg (by rw [tkSel, decide_eq_true_eq]; exact fun h => c_214 h.2.1)] at hR; exact ih (t + 1) f s (by omega) (by omega) hfg hR)
          | (rw [lnF, if_neg (by rw [tkSel, decide_eq_true_eq]; exact fun h => c_233 h.2.2)] at hR; exact ih (t + 1) f s (by omega) (by omega) hfg hR)
          | (rw [lnF, if_pos (by rw [tkSel, decide_eq_true_eq]; exact ⟨bz_n0.mp c_202, c_214, c_233⟩)] at hR
             refine ih (t + 1) f1 (qG (soonB (tkA M L) false) t s.2 s.1, s.2 + 1) (by omega) (Nat.succ_le_succ hst) (fun j hj => ⟨hf1 j hj, qG_lt (by omega) s.2 s.2 s.1 (Nat.le_refl _) (fun k hk hne => (hfg k (by omega)).2.1) j hj, ?_⟩) hR
             exact qG_all (P := fun t => isT (tkA M L) t) (bz_n0.mp c_202).1 s.2 s.2 s.1 (Nat.le_refl _) (fun k hk hne => (hfg k (by omega)).2.2) j hj)
      · refine V_aload_n o dX9_tick_205 rfl rfl ?_
        refine V_sipush (v := 391) o dX9_tick_206 (by decide) ?_
        refine V_iload_n o dX9_tick_209 rfl rfl ?_
        refine V_iadd o dX9_tick_210 ?_
        refine V_cVi o rt dX9_tick_211 ml_X9_85 (c9_of hf (by exact hd) (nadd (show (391 : Int32) = nI 391 from rfl) rfl) (by omega)) rfl rfl rfl (Nat.le_of_ble_eq_true rfl) rfl ?_
        refine V_if_ne (tgt := 242) o dX9_tick_214 (by decide) (fun c_214 => ?_) (fun c_214 => ?_)
        · refine V_iincV (v := nI (t + 1)) (ls' := [(2, _), (0, _), (1, _)]) o dX9_tick_242 rfl (ninc 1 rfl) (by decide) rfl ?_
          refine V_goto (tgt := 191) o dX9_tick_245 (by decide) ?_
          first
            | (rw [lnF, if_neg (by rw [tkSel, decide_eq_true_eq]; exact fun h => bz_0.mp c_202 h.1)] at hR; exact ih (t + 1) f s (by omega) (by omega) hfg hR)
            | (rw [lnF, if_neg (by rw [tkSel, decide_eq_true_eq]; exact fun h => c_214 h.2.1)] at hR; exact ih (t + 1) f s (by omega) (by omega) hfg hR)
            | (rw [lnF, if_neg (by rw [tkSel, decide_eq_true_eq]; exact fun h => c_233 h.2.2)] at hR; exact ih (t + 1) f s (by omega) (by omega) hfg hR)
            | (rw [lnF, if_pos (by rw [tkSel, decide_eq_true_eq]; exact ⟨bz_n0.mp c_202, c_214, c_233⟩)] at hR
               refine ih (t + 1) f1 (qG (soonB (tkA M L) false) t s.2 s.1, s.2 + 1) (by omega) (Nat.succ_le_succ hst) (fun j hj => ⟨hf1 j hj, qG_lt (by omega) s.2 s.2 s.1 (Nat.le_refl _) (fun k hk hne => (hfg k (by omega)).2.1) j hj, ?_⟩) hR
               exact qG_all (P := fun t => isT (tkA M L) t) (bz_n0.mp c_202).1 s.2 s.2 s.1 (Nat.le_refl _) (fun k hk hne => (hfg k (by omega)).2.2) j hj)
        · refine V_aload_n o dX9_tick_217 rfl rfl ?_
          refine V_sipush (v := 407) o dX9_tick_218 (by decide) ?_
          refine V_iload_n o dX9_tick_221 rfl rfl ?_
          refine V_iadd o dX9_tick_222 ?_
          refine V_cVi o rt dX9_tick_223 ml_X9_85 (c9_of hf (by exact hd) (nadd (show (407 : Int32) = nI 407 from rfl) rfl) (by omega)) rfl rfl rfl (Nat.le_of_ble_eq_true rfl) rfl ?_
          refine V_iload_n o dX9_tick_226 rfl rfl ?_
          refine V_aload_n o dX9_tick_227 rfl rfl ?_
          refine V_iconst (v := 1) o dX9_tick_228 (by decide) ?_
          refine V_cVi o rt dX9_tick_229 ml_X9_85 (c9_of hf (by exact hd) (show (1 : Int32) = nI 1 from rfl) (by omega)) rfl rfl rfl (Nat.le_of_ble_eq_true rfl) rfl ?_
          refine V_irem o dX9_tick_232 h1 ?_
          refine V_icmp_ne (tgt := 242) o dX9_tick_233 (by decide) (fun c_233 => ?_) (fun c_233 => ?_)
          · refine V_iincV (v := nI (t + 1)) (ls' := [(2, _), (0, _), (1, _)]) o dX9_tick_242 rfl (ninc 1 rfl) (by decide) rfl ?_
            refine V_goto (tgt := 191) o dX9_tick_245 (by decide) ?_
            first
              | (rw [lnF, if_neg (by rw [tkSel, decide_eq_true_eq]; exact fun h => bz_0.mp c_202 h.1)] at hR; exact ih (t + 1) f s (by omega) (by omega) hfg hR)
              | (rw [lnF, if_neg (by rw [tkSel, decide_eq_true_eq]; exact fun h => c_214 h.2.1)] at hR; exact ih (t + 1) f s (by omega) (by omega) hfg hR)
              | (rw [lnF, if_neg (by rw [tkSel, decide_eq_true_eq]; exact fun h => c_233 h.2.2)] at hR; exact ih (t + 1) f s (by omega) (by omega) hfg hR)
              | (rw [lnF, if_pos (by rw [tkSel, decide_eq_true_eq]; exact ⟨bz_n0.mp c_202, c_214, c_233⟩)] at hR
                 refine ih (t + 1) f1 (qG (soonB (tkA M L) false) t s.2 s.1, s.2 + 1) (by omega) (Nat.succ_le_succ hst) (fun j hj => ⟨hf1 j hj, qG_lt (by omega) s.2 s.2 s.1 (Nat.le_refl _) (fun k hk hne => (hfg k (by omega)).2.1) j hj, ?_⟩) hR
                 exact qG_all (P := fun t => isT (tkA M L) t) (bz_n0.mp c_202).1 s.2 s.2 s.1 (Nat.le_refl _) (fun k hk hne => (hfg k (by omega)).2.2) j hj)
          · refine V_aload_n o dX9_tick_236 rfl rfl ?_
            refine V_iload_n o dX9_tick_237 rfl rfl ?_
            refine V_iconst (v := 0) o dX9_tick_238 (by decide) ?_
            refine V_callV o rt dX9_tick_239 ml_X9_142 (c9_queues (n := s.2) (g := s.1) hf (by exact hd) hd4 rfl (by omega) false rfl rfl (by omega) (fun j hj => ⟨(hfg j hj).1, (hfg j hj).2.1⟩)) rfl rfl rfl (Nat.le_of_ble_eq_true rfl) rfl (fun r_239 σ_239 q_239 => ?_)
            obtain ⟨rfl, f1, rfl, hf1⟩ := q_239
            rw [sLn_sLn]
            refine V_iincV (v := nI (t + 1)) (ls' := [(2, _), (0, _), (1, _)]) o dX9_tick_242 rfl (ninc 1 rfl) (by decide) rfl ?_
            refine V_goto (tgt := 191) o dX9_tick_245 (by decide) ?_
            first
              | (rw [lnF, if_neg (by rw [tkSel, decide_eq_true_eq]; exact fun h => bz_0.mp c_202 h.1)] at hR; exact ih (t + 1) f s (by omega) (by omega) hfg hR)
              | (rw [lnF, if_neg (by rw [tkSel, decide_eq_true_eq]; exact fun h => c_214 h.2.1)] at hR; exact ih (t + 1) f s (by omega) (by omega) hfg hR)
              | (rw [lnF, if_neg (by rw [tkSel, decide_eq_true_eq]; exact fun h => c_233 h.2.2)] at hR; exact ih (t + 1) f s (by omega) (by omega) hfg hR)
              | (rw [lnF, if_pos (by rw [tkSel, decide_eq_true_eq]; exact ⟨bz_n0.mp c_202, c_214, c_233⟩)] at hR
                 refine ih (t + 1) f1 (qG (soonB (tkA M L) false) t s.2 s.1, s.2 + 1) (by omega) (Nat.succ_le_succ hst) (fun j hj => ⟨hf1 j hj, qG_lt (by omega) s.2 s.2 s.1 (Nat.le_refl _) (fun k hk hne => (hfg k (by omega)).2.1) j hj, ?_⟩) hR
                 exact qG_all (P := fun t => isT (tkA M L) t) (bz_n0.mp c_202).1 s.2 s.2 s.1 (Nat.le_refl _) (fun k hk hne => (hfg k (by omega)).2.2) j hj)
  have start : ∀ M', M' = tkA M L → V sh0 w x mX9_tick (0, 0) 184 [(0, .ref 67), (1, .int (M 6 + 1))] [] (sM σ d M') := by
    intro M' hM'
    subst hM'
    refine V_aload_n o dX9_tick_184 rfl rfl ?_
    refine V_iconst (v := 0) o dX9_tick_185 (by decide) ?_
    refine V_putI o dX9_tick_186 rfl fl_X9_109 rfl rfl rfl ?_
    rw [wI_sM67, wI_sLn0]
    refine V_iconst (v := 0) o dX9_tick_189 (by decide) ?_
    refine V_istore_n (ls' := [(2, _), (0, _), (1, _)]) o dX9_tick_190 rfl (by decide) rfl ?_
    exact line 16 0 (σ.1 71) (fun _ => 0, 0) (by omega) (Nat.le_refl 0) (fun j hj => absurd hj (Nat.not_lt_zero j)) rfl
  have down : ∀ lv (M' : Nat → Int32), lv < L → Wf M' L → mvDn L (M 6 + 1) lv M' = tkA M L → V sh0 w x mX9_tick (0, 0) 89 [(2, .int (nI lv)), (0, .ref 67), (1, .int (M 6 + 1))] [] (sM σ d M') := by
    intro lv
    induction lv with
    | zero =>
      intro M' hlv hW hR
      refine V_iload_n o dX9_tick_89 rfl rfl ?_
      refine V_if_le (tgt := 184) o dX9_tick_90 (by decide) (fun c_90 => ?_) (fun c_90 => False.elim (c_90 (by decide)))
      exact V_drop (start M' hR)
    | succ lv ih =>
      intro M' hlv hW hR
      rw [mvDn] at hR
      have inner : ∀ slot, slot = rmI ((M 6 + 1) / spanM M' (lv + 1)) (M' (1 + (lv + 1))) → rmI (M 6 + 1) (spanM M' (lv + 1)) = 0 → ∀ n t (M2 : Nat → Int32), t + n = 16 → Wf M2 L → itr (mvF L (lv + 1) slot) t n M2 = mvLv M' L (M 6 + 1) (lv + 1) → V sh0 w x mX9_tick (0, 0) 122 [(4, .int (nI t)), (3, .int slot), (2, .int (nI (lv + 1))), (0, .ref 67), (1, .int (M 6 + 1))] [] (sM σ d M2) := by
        intro slot hslot hz n
        induction n with
        | zero =>
          intro t M2 htn hW hR2
          have ht : t = 16 := by omega
          refine V_iload o dX9_tick_122 rfl ?_
          refine V_bipush (v := 16) o dX9_tick_124 (by decide) ?_
          refine V_icmp_ge (tgt := 178) o dX9_tick_126 (by decide) (fun c_126 => ?_) (fun c_126 => False.elim (c_126 (by rw [ht]; exact Int32.le_refl _)))
          refine V_iincV (v := nI (lv)) (ls' := [(2, _), (4, _), (3, _), (0, _), (1, _)]) o dX9_tick_178 rfl (ndec rfl) (by decide) rfl ?_
          refine V_goto (tgt := 89) o dX9_tick_181 (by decide) ?_
          refine V_drop2 (V_drop2 ?_)
          have e : M2 = mvLv M' L (M 6 + 1) (lv + 1) := hR2
          exact ih M2 (by omega) hW (by rw [e]; exact hR)
        | succ n ih2 =>
          intro t M2 htn hW hR2
          rw [itr_succ] at hR2
          refine V_iload o dX9_tick_122 rfl ?_
          refine V_bipush (v := 16) o dX9_tick_124 (by decide) ?_
          refine V_icmp_ge (tgt := 178) o dX9_tick_126 (by decide) (fun c_126 => False.elim (absurd c_126 (nI_ge (b := 16) (by omega) (by omega)))) (fun c_126 => ?_)
          refine V_aload_n o dX9_tick_129 rfl rfl ?_
          refine V_iload o dX9_tick_130 rfl ?_
          refine V_cVi o rt dX9_tick_132 ml_X9_99 (c9_goes hf (by exact hd) hd4 rfl (by omega)) rfl rfl rfl (Nat.le_of_ble_eq_true rfl) rfl ?_
          refine V_if_eq (tgt := 172) o dX9_tick_135 (by decide) (fun c_135 => ?_) (fun c_135 => ?_)
          · refine V_iincV (v := nI (t + 1)) (ls' := [(4, _), (3, _), (2, _), (0, _), (1, _)]) o dX9_tick_172 rfl (ninc 1 rfl) (by decide) rfl ?_
            refine V_goto (tgt := 122) o dX9_tick_175 (by decide) ?_
            first
              | (rw [mvF, if_neg (fun h => bz_0.mp c_135 h.1)] at hR2; exact ih2 (t + 1) _ (by omega) hW hR2)
              | (rw [mvF, if_neg (fun h => c_149 h.2.1)] at hR2; exact ih2 (t + 1) _ (by omega) hW hR2)
              | (rw [mvF, if_neg (fun h => c_163 h.2.2)] at hR2; exact ih2 (t + 1) _ (by omega) hW hR2)
              | (rw [mvF, if_pos ⟨bz_n0.mp c_135, c_149, c_163⟩] at hR2; exact ih2 (t + 1) _ (by omega) (Wf_mov1 hW) hR2)
          · refine V_aload_n o dX9_tick_138 rfl rfl ?_
            refine V_sipush (v := 391) o dX9_tick_139 (by decide) ?_
            refine V_iload o dX9_tick_142 rfl ?_
            refine V_iadd o dX9_tick_144 ?_
            refine V_cVi o rt dX9_tick_145 ml_X9_85 (c9_of hf (by exact hd) (nadd (show (391 : Int32) = nI 391 from rfl) rfl) (by omega)) rfl rfl rfl (Nat.le_of_ble_eq_true rfl) rfl ?_
            refine V_iload_n o dX9_tick_148 rfl rfl ?_
            refine V_icmp_ne (tgt := 172) o dX9_tick_149 (by decide) (fun c_149 => ?_) (fun c_149 => ?_)
            · refine V_iincV (v := nI (t + 1)) (ls' := [(4, _), (3, _), (2, _), (0, _), (1, _)]) o dX9_tick_172 rfl (ninc 1 rfl) (by decide) rfl ?_
              refine V_goto (tgt := 122) o dX9_tick_175 (by decide) ?_
              first
                | (rw [mvF, if_neg (fun h => bz_0.mp c_135 h.1)] at hR2; exact ih2 (t + 1) _ (by omega) hW hR2)
                | (rw [mvF, if_neg (fun h => c_149 h.2.1)] at hR2; exact ih2 (t + 1) _ (by omega) hW hR2)
                | (rw [mvF, if_neg (fun h => c_163 h.2.2)] at hR2; exact ih2 (t + 1) _ (by omega) hW hR2)
                | (rw [mvF, if_pos ⟨bz_n0.mp c_135, c_149, c_163⟩] at hR2; exact ih2 (t + 1) _ (by omega) (Wf_mov1 hW) hR2)
            · refine V_aload_n o dX9_tick_152 rfl rfl ?_
              refine V_sipush (v := 407) o dX9_tick_153 (by decide) ?_
              refine V_iload o dX9_tick_156 rfl ?_
              refine V_iadd o dX9_tick_158 ?_
              refine V_cVi o rt dX9_tick_159 ml_X9_85 (c9_of hf (by exact hd) (nadd (show (407 : Int32) = nI 407 from rfl) rfl) (by omega)) rfl rfl rfl (Nat.le_of_ble_eq_true rfl) rfl ?_
              refine V_iload_n o dX9_tick_162 rfl rfl ?_
              refine V_icmp_ne (tgt := 172) o dX9_tick_163 (by decide) (fun c_163 => ?_) (fun c_163 => ?_)
              · refine V_iincV (v := nI (t + 1)) (ls' := [(4, _), (3, _), (2, _), (0, _), (1, _)]) o dX9_tick_172 rfl (ninc 1 rfl) (by decide) rfl ?_
                refine V_goto (tgt := 122) o dX9_tick_175 (by decide) ?_
                first
                  | (rw [mvF, if_neg (fun h => bz_0.mp c_135 h.1)] at hR2; exact ih2 (t + 1) _ (by omega) hW hR2)
                  | (rw [mvF, if_neg (fun h => c_149 h.2.1)] at hR2; exact ih2 (t + 1) _ (by omega) hW hR2)
                  | (rw [mvF, if_neg (fun h => c_163 h.2.2)] at hR2; exact ih2 (t + 1) _ (by omega) hW hR2)
                  | (rw [mvF, if_pos ⟨bz_n0.mp c_135, c_149, c_163⟩] at hR2; exact ih2 (t + 1) _ (by omega) (Wf_mov1 hW) hR2)
              · refine V_aload_n o dX9_tick_166 rfl rfl ?_
                refine V_iload o dX9_tick_167 rfl ?_
                refine V_cVv o rt dX9_tick_169 ml_X9_139 (c9_moves1 hf (by exact hd) hd4 hW rfl (by omega)) rfl rfl rfl (Nat.le_of_ble_eq_true rfl) rfl ?_
                refine V_iincV (v := nI (t + 1)) (ls' := [(4, _), (3, _), (2, _), (0, _), (1, _)]) o dX9_tick_172 rfl (ninc 1 rfl) (by decide) rfl ?_
                refine V_goto (tgt := 122) o dX9_tick_175 (by decide) ?_
                first
                  | (rw [mvF, if_neg (fun h => bz_0.mp c_135 h.1)] at hR2; exact ih2 (t + 1) _ (by omega) hW hR2)
                  | (rw [mvF, if_neg (fun h => c_149 h.2.1)] at hR2; exact ih2 (t + 1) _ (by omega) hW hR2)
                  | (rw [mvF, if_neg (fun h => c_163 h.2.2)] at hR2; exact ih2 (t + 1) _ (by omega) hW hR2)
                  | (rw [mvF, if_pos ⟨bz_n0.mp c_135, c_149, c_163⟩] at hR2; exact ih2 (t + 1) _ (by omega) (Wf_mov1 hW) hR2)
      refine V_iload_n o dX9_tick_89 rfl rfl ?_
      refine V_if_le (tgt := 184) o dX9_tick_90 (by decide) (fun c_90 => False.elim (absurd c_90 (nI_nle (by omega) (by omega)))) (fun c_90 => ?_)
      refine V_iload_n o dX9_tick_93 rfl rfl ?_
      refine V_aload_n o dX9_tick_94 rfl rfl ?_
      refine V_iload_n o dX9_tick_95 rfl rfl ?_
      refine V_cVi o rt dX9_tick_96 ml_X9_93 (c9_span hf (by exact hd) hd4 rfl (by omega)) rfl rfl rfl (Nat.le_of_ble_eq_true rfl) rfl ?_
      refine V_irem o dX9_tick_99 (Wf_span0 hW (by omega)) ?_
      refine V_if_ne (tgt := 178) o dX9_tick_100 (by decide) (fun c_100 => ?_) (fun c_100 => ?_)
      · refine V_iincV (v := nI (lv)) (ls' := [(2, _), (0, _), (1, _)]) o dX9_tick_178 rfl (ndec rfl) (by decide) rfl ?_
        refine V_goto (tgt := 89) o dX9_tick_181 (by decide) ?_
        refine ih M' (by omega) hW ?_
        rw [mvLv, if_neg (show ¬ rmI (M 6 + 1) (spanM M' (lv + 1)) = 0 from c_100)] at hR
        exact hR
      · refine V_iload_n o dX9_tick_103 rfl rfl ?_
        refine V_aload_n o dX9_tick_104 rfl rfl ?_
        refine V_iload_n o dX9_tick_105 rfl rfl ?_
        refine V_cVi o rt dX9_tick_106 ml_X9_93 (c9_span hf (by exact hd) hd4 rfl (by omega)) rfl rfl rfl (Nat.le_of_ble_eq_true rfl) rfl ?_
        refine V_idiv o dX9_tick_109 (Wf_span0 hW (by omega)) ?_
        refine V_aload_n o dX9_tick_110 rfl rfl ?_
        refine V_iconst (v := 1) o dX9_tick_111 (by decide) ?_
        refine V_iload_n o dX9_tick_112 rfl rfl ?_
        refine V_iadd o dX9_tick_113 ?_
        refine V_cVi o rt dX9_tick_114 ml_X9_85 (c9_of hf (by exact hd) (nadd (show (1 : Int32) = nI 1 from rfl) rfl) (by omega)) rfl rfl rfl (Nat.le_of_ble_eq_true rfl) rfl ?_
        refine V_irem o dX9_tick_117 (Wf_size0 hW (by omega)) ?_
        refine V_istore_n (ls' := [(3, _), (2, _), (0, _), (1, _)]) o dX9_tick_118 rfl (by decide) rfl ?_
        refine V_iconst (v := 0) o dX9_tick_119 (by decide) ?_
        refine V_istore (ls' := [(4, _), (3, _), (2, _), (0, _), (1, _)]) o dX9_tick_120 (by decide) rfl ?_
        exact inner _ rfl (show rmI (M 6 + 1) (spanM M' (lv + 1)) = 0 from c_100) 16 0 M' (by omega) hW (by rw [mvLv]; exact (if_pos (show rmI (M 6 + 1) (spanM M' (lv + 1)) = 0 from c_100)).symm)
  have mid : ∀ M', M' = tkB M L → V sh0 w x mX9_tick (0, 0) 81 [(0, .ref 67), (1, .int (M 6 + 1))] [] (sM σ d M') := by
    intro M' hM'
    subst hM'
    have hWB : Wf (tkB M L) L := Lo.tkB.wf hW0
    have hL1 := hW.2.1
    have hm : tkB M L 0 - 1 = nI (L - 1) := by rw [hWB.1, show L = (L - 1) + 1 by omega]; exact nI_pred _
    refine V_aload_n o dX9_tick_81 rfl rfl ?_
    refine V_iconst (v := 0) o dX9_tick_82 (by decide) ?_
    refine V_cVi o rt dX9_tick_83 ml_X9_85 (c9_of hf (by exact hd) (show (0 : Int32) = nI 0 from rfl) (by omega)) rfl rfl rfl (Nat.le_of_ble_eq_true rfl) rfl ?_
    refine V_iconst (v := 1) o dX9_tick_86 (by decide) ?_
    refine V_isub o dX9_tick_87 ?_
    refine V_topI (v' := nI (L - 1)) hm ?_
    refine V_istore_n (ls' := [(2, _), (0, _), (1, _)]) o dX9_tick_88 rfl (by decide) rfl ?_
    exact down (L - 1) _ (by omega) hWB rfl
  have far : ∀ n t (M' : Nat → Int32), t + n = 16 → Wf M' L → itr (farF L (M 6 + 1)) t n M' = tkB M L → V sh0 w x mX9_tick (0, 0) 25 [(2, .int (nI t)), (0, .ref 67), (1, .int (M 6 + 1))] [] (sM σ d M') := by
    intro n
    induction n with
    | zero =>
      intro t M' htn hW hR
      have ht : t = 16 := by omega
      refine V_iload_n o dX9_tick_25 rfl rfl ?_
      refine V_bipush (v := 16) o dX9_tick_26 (by decide) ?_
      refine V_icmp_ge (tgt := 81) o dX9_tick_28 (by decide) (fun c_28 => ?_) (fun c_28 => False.elim (c_28 (by rw [ht]; exact Int32.le_refl _)))
      exact V_drop (mid M' hR)
    | succ n ih =>
      intro t M' htn hW hR
      rw [itr_succ] at hR
      refine V_iload_n o dX9_tick_25 rfl rfl ?_
      refine V_bipush (v := 16) o dX9_tick_26 (by decide) ?_
      refine V_icmp_ge (tgt := 81) o dX9_tick_28 (by decide) (fun c_28 => False.elim (absurd c_28 (nI_ge (b := 16) (by omega) (by omega)))) (fun c_28 => ?_)
      refine V_aload_n o dX9_tick_31 rfl rfl ?_
      refine V_iload_n o dX9_tick_32 rfl rfl ?_
      refine V_cVi o rt dX9_tick_33 ml_X9_99 (c9_goes hf (by exact hd) hd4 rfl (by omega)) rfl rfl rfl (Nat.le_of_ble_eq_true rfl) rfl ?_
      refine V_if_eq (tgt := 75) o dX9_tick_36 (by decide) (fun c_36 => ?_) (fun c_36 => ?_)
      · refine V_iincV (v := nI (t + 1)) (ls' := [(2, _), (0, _), (1, _)]) o dX9_tick_75 rfl (ninc 1 rfl) (by decide) rfl ?_
        refine V_goto (tgt := 25) o dX9_tick_78 (by decide) ?_
        first
          | (rw [farF, if_neg (fun h => bz_0.mp c_36 h.1)] at hR; exact ih (t + 1) _ (by omega) hW hR)
          | (rw [farF, if_neg (fun h => c_49 h.2.1)] at hR; exact ih (t + 1) _ (by omega) hW hR)
          | (rw [farF, if_neg (fun h => absurd h.2.2 (Int32.not_lt.mpr c_67))] at hR; exact ih (t + 1) _ (by omega) hW hR)
          | (rw [farF, if_pos ⟨bz_n0.mp c_36, c_49, Int32.not_le.mp c_67⟩] at hR; exact ih (t + 1) _ (by omega) (Wf_mov1 hW) hR)
      · refine V_aload_n o dX9_tick_39 rfl rfl ?_
        refine V_sipush (v := 391) o dX9_tick_40 (by decide) ?_
        refine V_iload_n o dX9_tick_43 rfl rfl ?_
        refine V_iadd o dX9_tick_44 ?_
        refine V_cVi o rt dX9_tick_45 ml_X9_85 (c9_of hf (by exact hd) (nadd (show (391 : Int32) = nI 391 from rfl) rfl) (by omega)) rfl rfl rfl (Nat.le_of_ble_eq_true rfl) rfl ?_
        refine V_iconst (v := -1) o dX9_tick_48 (by decide) ?_
        refine V_icmp_ne (tgt := 75) o dX9_tick_49 (by decide) (fun c_49 => ?_) (fun c_49 => ?_)
        · refine V_iincV (v := nI (t + 1)) (ls' := [(2, _), (0, _), (1, _)]) o dX9_tick_75 rfl (ninc 1 rfl) (by decide) rfl ?_
          refine V_goto (tgt := 25) o dX9_tick_78 (by decide) ?_
          first
            | (rw [farF, if_neg (fun h => bz_0.mp c_36 h.1)] at hR; exact ih (t + 1) _ (by omega) hW hR)
            | (rw [farF, if_neg (fun h => c_49 h.2.1)] at hR; exact ih (t + 1) _ (by omega) hW hR)
            | (rw [farF, if_neg (fun h => absurd h.2.2 (Int32.not_lt.mpr c_67))] at hR; exact ih (t + 1) _ (by omega) hW hR)
            | (rw [farF, if_pos ⟨bz_n0.mp c_36, c_49, Int32.not_le.mp c_67⟩] at hR; exact ih (t + 1) _ (by omega) (Wf_mov1 hW) hR)
        · refine V_aload_n o dX9_tick_52 rfl rfl ?_
          refine V_sipush (v := 231) o dX9_tick_53 (by decide) ?_
          refine V_iload_n o dX9_tick_56 rfl rfl ?_
          refine V_iadd o dX9_tick_57 ?_
          refine V_cVi o rt dX9_tick_58 ml_X9_85 (c9_of hf (by exact hd) (nadd (show (231 : Int32) = nI 231 from rfl) rfl) (by omega)) rfl rfl rfl (Nat.le_of_ble_eq_true rfl) rfl ?_
          refine V_iload_n o dX9_tick_61 rfl rfl ?_
          refine V_isub o dX9_tick_62 ?_
          refine V_aload_n o dX9_tick_63 rfl rfl ?_
          refine V_cVi o rt dX9_tick_64 ml_X9_135 (c9_whole hf (by exact hd) hd4 hW) rfl rfl rfl (Nat.le_of_ble_eq_true rfl) rfl ?_
          refine V_icmp_ge (tgt := 75) o dX9_tick_67 (by decide) (fun c_67 => ?_) (fun c_67 => ?_)
          · refine V_iincV (v := nI (t + 1)) (ls' := [(2, _), (0, _), (1, _)]) o dX9_tick_75 rfl (ninc 1 rfl) (by decide) rfl ?_
            refine V_goto (tgt := 25) o dX9_tick_78 (by decide) ?_
            first
              | (rw [farF, if_neg (fun h => bz_0.mp c_36 h.1)] at hR; exact ih (t + 1) _ (by omega) hW hR)
              | (rw [farF, if_neg (fun h => c_49 h.2.1)] at hR; exact ih (t + 1) _ (by omega) hW hR)
              | (rw [farF, if_neg (fun h => absurd h.2.2 (Int32.not_lt.mpr c_67))] at hR; exact ih (t + 1) _ (by omega) hW hR)
              | (rw [farF, if_pos ⟨bz_n0.mp c_36, c_49, Int32.not_le.mp c_67⟩] at hR; exact ih (t + 1) _ (by omega) (Wf_mov1 hW) hR)
          · refine V_aload_n o dX9_tick_70 rfl rfl ?_
            refine V_iload_n o dX9_tick_71 rfl rfl ?_
            refine V_cVv o rt dX9_tick_72 ml_X9_139 (c9_moves1 hf (by exact hd) hd4 hW rfl (by omega)) rfl rfl rfl (Nat.le_of_ble_eq_true rfl) rfl ?_
            refine V_iincV (v := nI (t + 1)) (ls' := [(2, _), (0, _), (1, _)]) o dX9_tick_75 rfl (ninc 1 rfl) (by decide) rfl ?_
            refine V_goto (tgt := 25) o dX9_tick_78 (by decide) ?_
            first
              | (rw [farF, if_neg (fun h => bz_0.mp c_36 h.1)] at hR; exact ih (t + 1) _ (by omega) hW hR)
              | (rw [farF, if_neg (fun h => c_49 h.2.1)] at hR; exact ih (t + 1) _ (by omega) hW hR)
              | (rw [farF, if_neg (fun h => absurd h.2.2 (Int32.not_lt.mpr c_67))] at hR; exact ih (t + 1) _ (by omega) hW hR)
              | (rw [farF, if_pos ⟨bz_n0.mp c_36, c_49, Int32.not_le.mp c_67⟩] at hR; exact ih (t + 1) _ (by omega) (Wf_mov1 hW) hR)
  have hs0 : ¬ spanM (uM M 6 (M 6 + 1)) L = 0 := Wf_span0 hW0 (Nat.le_refl L)
  refine V_aload_n o dX9_tick_0 rfl rfl ?_
  refine V_bipush (v := 6) o dX9_tick_1 (by decide) ?_
  refine V_iconst (v := 1) o dX9_tick_3 (by decide) ?_
  refine V_cVv o rt dX9_tick_4 ml_X9_106 (c9_more hf (by exact hd) (show (6 : Int32) = nI 6 from rfl) (by omega)) rfl rfl rfl (Nat.le_of_ble_eq_true rfl) rfl ?_
  refine V_aload_n o dX9_tick_7 rfl rfl ?_
  refine V_bipush (v := 6) o dX9_tick_8 (by decide) ?_
  refine V_cVi o rt dX9_tick_10 ml_X9_85 (c9_of hf (by exact hd) (show (6 : Int32) = nI 6 from rfl) (by omega)) rfl rfl rfl (Nat.le_of_ble_eq_true rfl) rfl ?_
  refine V_topI (v' := M 6 + 1) (uM_self _ _ _) ?_
  refine V_istore_n (ls' := [(1, _), (0, _)]) o dX9_tick_13 rfl (by decide) rfl ?_
  refine V_iload_n o dX9_tick_14 rfl rfl ?_
  refine V_aload_n o dX9_tick_15 rfl rfl ?_
  refine V_cVi o rt dX9_tick_16 ml_X9_135 (c9_whole hf (by exact hd) hd4 hW0) rfl rfl rfl (Nat.le_of_ble_eq_true rfl) rfl ?_
  refine V_irem o dX9_tick_19 hs0 ?_
  refine V_if_ne (tgt := 81) o dX9_tick_20 (by decide) (fun c_20 => ?_) (fun c_20 => ?_)
  · exact V_sub (by simp) (mid (uM M 6 (M 6 + 1)) (by rw [tkB]; exact (if_neg (show ¬ rmI (M 6 + 1) (spanM (uM M 6 (M 6 + 1)) L) = 0 from c_20)).symm))
  · refine V_iconst (v := 0) o dX9_tick_23 (by decide) ?_
    refine V_istore_n (ls' := [(2, _), (1, _), (0, _)]) o dX9_tick_24 rfl (by decide) rfl ?_
    exact V_sub (by simp; rfl) (far 16 0 (uM M 6 (M 6 + 1)) (by omega) hW0 (by rw [tkB]; exact (if_pos (show rmI (M 6 + 1) (spanM (uM M 6 (M 6 + 1)) L) = 0 from c_20)).symm))
