def rdL (T : Nat → Int32) (n : Nat) : Nat → List Act → Nat → Bool × Nat × List Act
  | 0, as, p => (false, p, as)
  | m + 1, as, p => if n ≤ p then (true, p, as) else if as ≠ [] ∧ ¬ tkP T n p 59 then (false, p, as) else
      if (rdA T n (if as = [] then p else p + 1)).1 = true then rdL T n m (as ++ [(rdA T n (if as = [] then p else p + 1)).2.2]) (rdA T n (if as = [] then p else p + 1)).2.1 else (false, (rdA T n (if as = [] then p else p + 1)).2.1, as)
/-- desk, how many logged, how many done, how many rang -/
def doL (L : Nat) : List Act → (Nat → Int32) × Nat × Nat × Int32 → (Nat → Int32) × Nat × Nat × Int32
  | [], s => s
  | a :: as, s => match doA L a s.1 s.2.1 with
    | none => s
    | some q => doL L as (q.1, q.2.1, s.2.2.1 + 1, s.2.2.2 + nI q.2.2)
theorem doL_none {L : Nat} {a : Act} {as : List Act} {s : (Nat → Int32) × Nat × Nat × Int32} (h : doA L a s.1 s.2.1 = none) : doL L (a :: as) s = s := by rw [doL, h]
theorem doL_some {L : Nat} {a : Act} {as : List Act} {s : (Nat → Int32) × Nat × Nat × Int32} {q : (Nat → Int32) × Nat × Nat} (h : doA L a s.1 s.2.1 = some q) : doL L (a :: as) s = doL L as (q.1, q.2.1, s.2.2.1 + 1, s.2.2.2 + nI q.2.2) := by rw [doL, h]
def AcR (f : Nat → Int32) (as : List Act) : Prop := ∀ i, i < as.length → AcE f i (as.getD i (0, 0, 0, 0)) ∧ AcOk (as.getD i (0, 0, 0, 0))
theorem AcR_push {f f' : Nat → Int32} {as : List Act} {a : Act} (h : AcR f as) (hf : ∀ j, j < 4 * as.length → f' j = f j) (ha : AcE f' as.length a) (ho : AcOk a) : AcR f' (as ++ [a]) := by
  intro i hi
  rw [List.length_append, List.length_singleton] at hi
  by_cases q : i = as.length
  · subst q
    rw [List.getD_eq_getElem?_getD, List.getElem?_append_right (Nat.le_refl _), Nat.sub_self]
    exact ⟨ha, ho⟩
  · rw [List.getD_eq_getElem?_getD, List.getElem?_append_left (by omega), ← List.getD_eq_getElem?_getD]
    obtain ⟨⟨h1, h2, h3⟩, h4⟩ := h i (by omega)
    exact ⟨⟨(hf _ (by omega)).trans h1, (hf _ (by omega)).trans h2, fun q => ⟨(hf _ (by omega)).trans (h3 q).1, (hf _ (by omega)).trans (h3 q).2⟩⟩, h4⟩
theorem drop_cons {as : List Act} {i : Nat} (h : i < as.length) : as.drop i = as.getD i (0, 0, 0, 0) :: as.drop (i + 1) := by
  rw [List.drop_eq_getElem_cons h, List.getD_eq_getElem?_getD, List.getElem?_eq_getElem h]
  rfl
set_option maxRecDepth 20000 in
set_option maxHeartbeats 4000000 in
theorem c9_run {w : Wp} (hf : Fit sh0 w) {σ : Mm} {M : Nat → Int32} (hd : σ.1 67 8 = nI 0) {n : Nat} (hn : σ.1 67 4 = nI n) (hn4 : n ≤ 100) {T : Nat → Int32} (hT : σ.1 69 = T) {R : Bool × Nat × List Act} (hR0 : rdL T n 101 [] 0 = R) {L r : Nat} {P : Nat → (Nat → Int32) → Nat → Prop} (hP0 : P 0 M r) (hPI : ∀ i M r, P i M r → Iv M L r ∧ Lv01 M) (hPS : ∀ i M r a s, i < R.2.2.length → P i M r → AcOk a → doA L a M r = some s → P (i + 1) s.1 s.2.1) {S : (Nat → Int32) × Nat × Nat × Int32} (hS0 : doL L R.2.2 (M, r, 0, 0) = S) : Ct sh0 w 9 mX9_run [.ref 67] (sM σ 0 M) (fun r' σ' => (R.1 = false ∧ r' = some (.int (-1 - nI R.2.1)) ∧ ∃ f, σ' = sM (sPs (wI (wI (wI σ 67 0 0) 67 6 (nI n)) 67 4 0) R.2.1 f) 0 M) ∨ (R.1 = true ∧ ∃ fl nl f1 f2 h f p fr, r' = some (.int (nI S.2.2.1)) ∧ σ' = sM (sRw (sHd (sLn (sPs (wI (wI (wI σ 67 0 0) 67 6 (nI n)) 67 4 0) p f) fl nl) f1 f2 h) fr 2) 0 S.1 ∧ RwR fr [(bz (S.2.2.1 < R.2.2.length)).toInt64, S.2.2.2.toInt64])) := by
  have hd4 : (0 : Nat) ≤ 423 := Nat.zero_le _
  refine Ct_of hf (by decide) rfl (Nat.le_of_ble_eq_true rfl) (fun x o rt => ?_)
  have hto : (wI (wI (wI σ 67 0 0) 67 6 (nI n)) 67 4 0).1 67 6 = nI n := rfl
  have hT2 : (wI (wI (wI σ 67 0 0) 67 6 (nI n)) 67 4 0).1 69 = T := hT
  have fin : ∀ (as : List Act) (i p : Nat) (f : Nat → Int32) fl nl f1 f2 h (c : Int32) (s : (Nat → Int32) × Nat × Nat × Int32), as.length ≤ 100 → i ≤ 100 → R.1 = true → R.2.2 = as → s = S → s.2.2.1 = i → V sh0 w x mX9_run (0, 0) 129 [(4, .int c), (3, .int s.2.2.2), (2, .int (nI i)), (1, .int (nI as.length)), (0, .ref 67)] [] (sM (sHd (sLn (sPs (wI (wI (wI σ 67 0 0) 67 6 (nI n)) 67 4 0) p f) fl nl) f1 f2 h) 0 s.1) := by
    intro as i p f fl nl f1 f2 h c s hl1 hl2 hRt has hs hi
    subst hs
    refine V_aload_n o dX9_run_129 rfl rfl ?_
    refine V_iconst (v := 0) o dX9_run_130 (by decide) ?_
    refine V_putI o dX9_run_131 rfl fl_X9_11 rfl rfl rfl ?_
    rw [wI_sM67]
    rw [wI_sRw0]
    refine V_aload_n o dX9_run_134 rfl rfl ?_
    refine V_iload_n o dX9_run_135 rfl rfl ?_
    refine V_iload_n o dX9_run_136 rfl rfl ?_
    refine V_icmp_ge (tgt := 144) o dX9_run_137 (by decide) (fun c_137 => ?_) (fun c_137 => ?_)
    · refine V_iconst (v := 0) o dX9_run_144 (by decide) ?_
      refine V_cSi o rt dX9_run_145 ms_X9_31 (c9_flag hf (by simp)) rfl rfl (Nat.le_of_ble_eq_true rfl) rfl ?_
      refine V_i2l o dX9_run_148 ?_
      refine V_cVv o rt dX9_run_149 ml_X9_153 (c9_enters hf (by omega)) rfl rfl rfl (Nat.le_of_ble_eq_true rfl) rfl ?_
      refine V_aload_n o dX9_run_152 rfl rfl ?_
      refine V_iload_n o dX9_run_153 rfl rfl ?_
      refine V_i2l o dX9_run_154 ?_
      refine V_cVv o rt dX9_run_155 ml_X9_153 (c9_enters hf (by omega)) rfl rfl rfl (Nat.le_of_ble_eq_true rfl) rfl ?_
      refine V_iload_n o dX9_run_158 rfl rfl ?_
      refine V_iret o rt dX9_run_159 rfl rfl ?_
      refine Or.inr ⟨hRt, fl, nl, f1, f2, h, f, p, _, by rw [hi], rfl, ?_⟩
      rw [hi, has, bz_f (fun q : i < as.length => absurd q (Nat.not_lt.mpr ((nI_leI (by omega) (by omega)).mp c_137)))]
      exact RwR_push (l := [_]) rfl (RwR_push (l := []) rfl RwR_nil)
    · refine V_iconst (v := 1) o dX9_run_140 (by decide) ?_
      refine V_goto (tgt := 145) o dX9_run_141 (by decide) ?_
      refine V_cSi o rt dX9_run_145 ms_X9_31 (c9_flag hf (by simp)) rfl rfl (Nat.le_of_ble_eq_true rfl) rfl ?_
      refine V_i2l o dX9_run_148 ?_
      refine V_cVv o rt dX9_run_149 ml_X9_153 (c9_enters hf (by omega)) rfl rfl rfl (Nat.le_of_ble_eq_true rfl) rfl ?_
      refine V_aload_n o dX9_run_152 rfl rfl ?_
      refine V_iload_n o dX9_run_153 rfl rfl ?_
      refine V_i2l o dX9_run_154 ?_
      refine V_cVv o rt dX9_run_155 ml_X9_153 (c9_enters hf (by omega)) rfl rfl rfl (Nat.le_of_ble_eq_true rfl) rfl ?_
      refine V_iload_n o dX9_run_158 rfl rfl ?_
      refine V_iret o rt dX9_run_159 rfl rfl ?_
      refine Or.inr ⟨hRt, fl, nl, f1, f2, h, f, p, _, by rw [hi], rfl, ?_⟩
      rw [hi, has, bz_t (show i < as.length from Nat.lt_of_not_le (fun q => c_137 ((nI_leI (by omega) (by omega)).mpr q)))]
      exact RwR_push (l := [_]) rfl (RwR_push (l := []) rfl RwR_nil)
  have loop2 : ∀ (as : List Act) (p : Nat) (f : Nat → Int32), as.length ≤ 100 → R.1 = true → R.2.2 = as → AcR f as → ∀ n2 i fl nl f1 f2 h (s : (Nat → Int32) × Nat × Nat × Int32), i + n2 = as.length → s.2.2.1 = i → P i s.1 s.2.1 → doL L (as.drop i) s = S → V sh0 w x mX9_run (0, 0) 77 [(4, .int 1), (3, .int s.2.2.2), (2, .int (nI i)), (1, .int (nI as.length)), (0, .ref 67)] [] (sM (sHd (sLn (sPs (wI (wI (wI σ 67 0 0) 67 6 (nI n)) 67 4 0) p f) fl nl) f1 f2 h) 0 s.1) := by
    intro as p f hl1 hRt has hAc n2
    induction n2 with
    | zero =>
      intro i fl nl f1 f2 h s hin hi hPi hD
      have hil : i = as.length := by omega
      have hs : s = S := by
        rw [hil, List.drop_length] at hD
        exact hD
      refine V_iload_n o dX9_run_77 rfl rfl ?_
      refine V_iload_n o dX9_run_78 rfl rfl ?_
      refine V_icmp_ge (tgt := 129) o dX9_run_79 (by decide) (fun c_79 => ?_) (fun c_79 => False.elim (c_79 (by rw [hil]; exact Int32.le_refl _)))
      exact fin as i p f fl nl f1 f2 h 1 s hl1 (by omega) hRt has hs hi
    | succ n2 ih =>
      intro i fl nl f1 f2 h s hin hi hPi hD
      have hil : i < as.length := by omega
      obtain ⟨hA, hO⟩ := hAc i hil
      rw [drop_cons hil] at hD
      generalize has2 : as.getD i (0, 0, 0, 0) = a at hA hO hD
      obtain ⟨D, hDD⟩ : ∃ D, doA L a s.1 s.2.1 = D := ⟨_, rfl⟩
      have stop : ∀ fl nl f1 f2 h, s = S → V sh0 w x mX9_run (0, 0) 77 [(4, .int 0), (3, .int s.2.2.2), (2, .int (nI i)), (1, .int (nI as.length)), (0, .ref 67)] [] (sM (sHd (sLn (sPs (wI (wI (wI σ 67 0 0) 67 6 (nI n)) 67 4 0) p f) fl nl) f1 f2 h) 0 s.1) := by
        intro fl nl f1 f2 h hs
        refine V_iload_n o dX9_run_77 rfl rfl ?_
        refine V_iload_n o dX9_run_78 rfl rfl ?_
        refine V_icmp_ge (tgt := 129) o dX9_run_79 (by decide) (fun c_79 => False.elim (absurd c_79 (nI_ge (by omega) (by omega)))) (fun c_79 => ?_)
        refine V_iload o dX9_run_82 rfl ?_
        refine V_if_eq (tgt := 129) o dX9_run_84 (by decide) (fun c_84 => ?_) (fun c_84 => False.elim (c_84 rfl))
        exact fin as i p f fl nl f1 f2 h 0 s hl1 (by omega) hRt has hs hi
      refine V_iload_n o dX9_run_77 rfl rfl ?_
      refine V_iload_n o dX9_run_78 rfl rfl ?_
      refine V_icmp_ge (tgt := 129) o dX9_run_79 (by decide) (fun c_79 => False.elim (absurd c_79 (nI_ge (by omega) (by omega)))) (fun c_79 => ?_)
      refine V_iload o dX9_run_82 rfl ?_
      refine V_if_eq (tgt := 129) o dX9_run_84 (by decide) (fun c_84 => False.elim (absurd (show (1 : Int32) = 0 from c_84) (by decide))) (fun c_84 => ?_)

      cases D with
      | none =>
        have hs : s = S := by rw [← hD, doL_none hDD]
        refine V_aload_n o dX9_run_87 rfl rfl ?_
        refine V_iload_n o dX9_run_88 rfl rfl ?_
        refine V_callV o rt dX9_run_89 ml_X9_238 (c9_doesAct hf (σ := sHd (sLn (sPs (wI (wI (wI σ 67 0 0) 67 6 (nI n)) 67 4 0) p f) fl nl) f1 f2 h) (M := s.1) (by exact hd) (hPI _ _ _ hPi).1 (hPI _ _ _ hPi).2 (k := i) (by omega) rfl (a := a) hA hO hDD) rfl rfl rfl (Nat.le_of_ble_eq_true rfl) rfl (fun r_89 σ_89 q_89 => ?_)
        obtain ⟨v, fl2, nl2, g1, g2, h2, rfl, hv, rfl⟩ := q_89
        rw [sLn_sHd, sLn_sLn, sHd_sHd]
        show V sh0 w x mX9_run (0, 0) _ _ (.int v :: []) _
        refine V_if_lt (tgt := 99) o dX9_run_92 (by decide) (fun c_92 => ?_) (fun c_92 => False.elim (c_92 hv))
        refine V_iconst (v := 0) o dX9_run_99 (by decide) ?_
        refine V_istore (ls' := [(4, _), (3, _), (2, _), (1, _), (0, _)]) o dX9_run_100 (by decide) rfl ?_
        refine V_iload_n o dX9_run_102 rfl rfl ?_
        refine V_iload o dX9_run_103 rfl ?_
        refine V_if_eq (tgt := 115) o dX9_run_105 (by decide) (fun c_105 => ?_) (fun c_105 => False.elim (c_105 rfl))
        refine V_iconst (v := 0) o dX9_run_115 (by decide) ?_
        refine V_iadd o dX9_run_116 ?_
        refine V_istore_n (ls' := [(3, _), (4, _), (2, _), (1, _), (0, _)]) o dX9_run_117 rfl (by decide) rfl ?_
        refine V_iload_n o dX9_run_118 rfl rfl ?_
        refine V_iload o dX9_run_119 rfl ?_
        refine V_cSi o rt dX9_run_121 ms_X9_31 (c9_flag hf (by simp)) rfl rfl (Nat.le_of_ble_eq_true rfl) rfl ?_
        refine V_iadd o dX9_run_124 ?_
        refine V_istore_n (ls' := [(2, _), (3, _), (4, _), (1, _), (0, _)]) o dX9_run_125 rfl (by decide) rfl ?_
        refine V_goto (tgt := 77) o dX9_run_126 (by decide) ?_
        rw [show s.2.2.2 + 0 = s.2.2.2 from Int32.add_zero _, show nI i + 0 = nI i from Int32.add_zero _]
        exact V_sub (by simp) (stop fl2 nl2 g1 g2 h2 hs)
      | some q =>
        have hD2 : doL L (as.drop (i + 1)) (q.1, q.2.1, s.2.2.1 + 1, s.2.2.2 + nI q.2.2) = S := by rw [← hD, doL_some hDD]
        have hP2 := hPS i s.1 s.2.1 a q (by rw [has]; exact hil) hPi hO hDD
        refine V_aload_n o dX9_run_87 rfl rfl ?_
        refine V_iload_n o dX9_run_88 rfl rfl ?_
        refine V_callV o rt dX9_run_89 ml_X9_238 (c9_doesAct hf (σ := sHd (sLn (sPs (wI (wI (wI σ 67 0 0) 67 6 (nI n)) 67 4 0) p f) fl nl) f1 f2 h) (M := s.1) (by exact hd) (hPI _ _ _ hPi).1 (hPI _ _ _ hPi).2 (k := i) (by omega) rfl (a := a) hA hO hDD) rfl rfl rfl (Nat.le_of_ble_eq_true rfl) rfl (fun r_89 σ_89 q_89 => ?_)
        obtain ⟨v, fl2, nl2, g1, g2, h2, rfl, hv, rfl, rfl⟩ := q_89
        rw [sLn_sHd, sLn_sLn, sHd_sHd]
        show V sh0 w x mX9_run (0, 0) _ _ (.int v :: []) _
        refine V_if_lt (tgt := 99) o dX9_run_92 (by decide) (fun c_92 => False.elim (absurd c_92 (Int32.not_lt.mpr hv))) (fun c_92 => ?_)
        refine V_iconst (v := 1) o dX9_run_95 (by decide) ?_
        refine V_goto (tgt := 100) o dX9_run_96 (by decide) ?_
        refine V_istore (ls' := [(4, _), (3, _), (2, _), (1, _), (0, _)]) o dX9_run_100 (by decide) rfl ?_
        refine V_iload_n o dX9_run_102 rfl rfl ?_
        refine V_iload o dX9_run_103 rfl ?_
        refine V_if_eq (tgt := 115) o dX9_run_105 (by decide) (fun c_105 => False.elim (absurd (show (1 : Int32) = 0 from c_105) (by decide))) (fun c_105 => ?_)
        refine V_aload_n o dX9_run_108 rfl rfl ?_
        refine V_getI o dX9_run_109 rfl fl_X9_129 rfl ?_
        refine V_goto (tgt := 116) o dX9_run_112 (by decide) ?_
        refine V_iadd o dX9_run_116 ?_
        refine V_istore_n (ls' := [(3, _), (4, _), (2, _), (1, _), (0, _)]) o dX9_run_117 rfl (by decide) rfl ?_
        refine V_iload_n o dX9_run_118 rfl rfl ?_
        refine V_iload o dX9_run_119 rfl ?_
        refine V_cSi o rt dX9_run_121 ms_X9_31 (c9_flag hf (by simp)) rfl rfl (Nat.le_of_ble_eq_true rfl) rfl ?_
        refine V_iadd o dX9_run_124 ?_
        refine V_istore_n (ls' := [(2, _), (3, _), (4, _), (1, _), (0, _)]) o dX9_run_125 rfl (by decide) rfl ?_
        refine V_goto (tgt := 77) o dX9_run_126 (by decide) ?_
        rw [show nI i + 1 = nI (i + 1) from nI_1 i]
        exact V_sub (by simp; rfl) (ih (i + 1) fl2 nl2 g1 g2 q.2.2 (q.1, q.2.1, s.2.2.1 + 1, s.2.2.2 + nI q.2.2) (by omega) (by show s.2.2.1 + 1 = i + 1; omega) hP2 hD2)
  have loop1 : ∀ fuel (as : List Act) (p : Nat) (f : Nat → Int32), rdL T n fuel as p = R → AcR f as → n + 1 ≤ fuel + p → p ≤ n → as.length ≤ p → V sh0 w x mX9_run (0, 0) 25 [(1, .int (nI as.length)), (0, .ref 67)] [] (sM (sPs (wI (wI (wI σ 67 0 0) 67 6 (nI n)) 67 4 0) p f) 0 M) := by
    intro fuel
    induction fuel with
    | zero => intro as p f hR hAc h1 h2 h3; omega
    | succ m ih =>
      intro as p f hR hAc h1 h2 h3
      by_cases hp : n ≤ p
      · rw [rdL, if_pos hp] at hR
        subst hR
        refine V_aload_n o dX9_run_25 rfl rfl ?_
        refine V_getIE (v := nI (p)) o dX9_run_26 rfl fl_X9_25 rfl rfl ?_
        refine V_aload_n o dX9_run_29 rfl rfl ?_
        refine V_getIE (v := nI (n)) o dX9_run_30 rfl fl_X9_28 rfl hto ?_
        refine V_icmp_ge (tgt := 70) o dX9_run_33 (by decide) (fun c_33 => ?_) (fun c_33 => False.elim (c_33 (nI_le hp (by omega))))
        refine V_iconst (v := 0) o dX9_run_70 (by decide) ?_
        refine V_istore_n (ls' := [(2, _), (1, _), (0, _)]) o dX9_run_71 rfl (by decide) rfl ?_
        refine V_iconst (v := 0) o dX9_run_72 (by decide) ?_
        refine V_istore_n (ls' := [(3, _), (2, _), (1, _), (0, _)]) o dX9_run_73 rfl (by decide) rfl ?_
        refine V_iconst (v := 1) o dX9_run_74 (by decide) ?_
        refine V_istore (ls' := [(4, _), (3, _), (2, _), (1, _), (0, _)]) o dX9_run_75 (by decide) rfl ?_
        obtain ⟨nl, hnl⟩ := ex_nI ((sPs (wI (wI (wI σ 67 0 0) 67 6 (nI n)) 67 4 0) p f).1 67 10)
        obtain ⟨h, hh⟩ := ex_nI ((sPs (wI (wI (wI σ 67 0 0) 67 6 (nI n)) 67 4 0) p f).1 67 13)
        have h0 := loop2 as p f (by omega) rfl rfl hAc as.length 0 ((sPs (wI (wI (wI σ 67 0 0) 67 6 (nI n)) 67 4 0) p f).1 71) nl ((sPs (wI (wI (wI σ 67 0 0) 67 6 (nI n)) 67 4 0) p f).1 72) ((sPs (wI (wI (wI σ 67 0 0) 67 6 (nI n)) 67 4 0) p f).1 73) h (M, r, 0, 0) (by omega) rfl hP0 hS0
        rw [sLn_of hnl, sHd_of hh] at h0
        exact V_sub (by simp; rfl) h0
      · rw [rdL, if_neg hp] at hR
        have rd : ∀ p1, p1 = (if as = [] then p else p + 1) → p1 ≤ n → as.length ≤ p1 → as.length < 100 → (if (rdA T n p1).1 = true then rdL T n m (as ++ [(rdA T n p1).2.2]) (rdA T n p1).2.1 else (false, (rdA T n p1).2.1, as)) = R → V sh0 w x mX9_run (0, 0) 49 [(1, .int (nI as.length)), (0, .ref 67)] [] (sM (sPs (wI (wI (wI σ 67 0 0) 67 6 (nI n)) 67 4 0) p1 f) 0 M) := by
          intro p1 hp1e hp1 hal hal2 hR1
          have hle := rdA_le (T := T) hp1
          have hpp : p ≤ p1 := by rw [hp1e]; split <;> omega
          have hok := rdA_ok (T := T) (n := n) (p := p1)
          generalize hA : rdA T n p1 = A at hR1 hle hok
          have hca : ∀ b : Prop, (b ∧ A.1 = true) ∨ ¬ (b ∧ A.1 = true) := fun _ => Classical.em _
          refine V_aload_n o dX9_run_49 rfl rfl ?_
          refine V_iload_n o dX9_run_50 rfl rfl ?_
          refine V_callV o rt dX9_run_51 ml_X9_235 (c9_readsAct hf hto hT2 hn4 hp1 hal2 rfl hA) rfl rfl rfl (Nat.le_of_ble_eq_true rfl) rfl (fun r_51 σ_51 q_51 => ?_)
          obtain ⟨f', rfl, rfl, hlow, hac⟩ := q_51
          show V sh0 w x mX9_run (0, 0) _ _ (.int (bz (A.1 = true)) :: []) _
          refine V_if_ne (tgt := 64) o dX9_run_54 (by decide) (fun c_54 => ?_) (fun c_54 => ?_)
          · refine V_iincV (v := nI (as.length + 1)) (ls' := [(1, _), (0, _)]) o dX9_run_64 rfl (ninc 1 rfl) (by decide) rfl ?_
            refine V_goto (tgt := 25) o dX9_run_67 (by decide) ?_
            have hA1 : A.1 = true := bz_n0.mp c_54
            rw [if_pos hA1] at hR1
            have hlt := hle.2.2 hA1
            have h9 := ih (as ++ [A.2.2]) A.2.1 f' hR1 (AcR_push hAc hlow (hac hA1) (hok hA1)) (by omega) hle.2.1 (by rw [List.length_append, List.length_singleton]; omega)
            rw [List.length_append, List.length_singleton] at h9
            exact V_sub (by simp) h9
          · refine V_iconst (v := -1) o dX9_run_57 (by decide) ?_
            refine V_aload_n o dX9_run_58 rfl rfl ?_
            refine V_getIE (v := nI (A.2.1)) o dX9_run_59 rfl fl_X9_25 rfl rfl ?_
            refine V_isub o dX9_run_62 ?_
            refine V_iret o rt dX9_run_63 rfl rfl ?_
            have hA1 : ¬ A.1 = true := bz_0.mp c_54
            rw [if_neg hA1] at hR1
            subst hR1
            exact Or.inl ⟨rfl, rfl, f', rfl⟩
        have hpn : p < n := by omega
        by_cases has : as = []
        · rw [if_neg (fun q => q.1 has)] at hR
          subst has
          have hR1 := hR
          rw [if_pos rfl] at hR1
          have hz : nI ([] : List Act).length ≤ 0 := by decide
          refine V_aload_n o dX9_run_25 rfl rfl ?_
          refine V_getIE (v := nI (p)) o dX9_run_26 rfl fl_X9_25 rfl rfl ?_
          refine V_aload_n o dX9_run_29 rfl rfl ?_
          refine V_getIE (v := nI (n)) o dX9_run_30 rfl fl_X9_28 rfl hto ?_
          refine V_icmp_ge (tgt := 70) o dX9_run_33 (by decide) (fun c_33 => False.elim (absurd c_33 (nI_ge hpn (by omega)))) (fun c_33 => ?_)
          refine V_iload_n o dX9_run_36 rfl rfl ?_
          refine V_if_le (tgt := 49) o dX9_run_37 (by decide) (fun c_37 => ?_) (fun c_37 => False.elim (c_37 hz))
          exact rd p (by rw [if_pos rfl]) h2 h3 (by show 0 < 100; omega) hR1
        · have hpos : 0 < as.length := List.length_pos_iff.mpr has
          by_cases ht : tkP T n p 59
          · rw [if_neg (fun q => q.2 ht)] at hR
            have hR1 := hR
            rw [if_neg has] at hR1
            refine V_aload_n o dX9_run_25 rfl rfl ?_
            refine V_getIE (v := nI (p)) o dX9_run_26 rfl fl_X9_25 rfl rfl ?_
            refine V_aload_n o dX9_run_29 rfl rfl ?_
            refine V_getIE (v := nI (n)) o dX9_run_30 rfl fl_X9_28 rfl hto ?_
            refine V_icmp_ge (tgt := 70) o dX9_run_33 (by decide) (fun c_33 => False.elim (absurd c_33 (nI_ge hpn (by omega)))) (fun c_33 => ?_)
            refine V_iload_n o dX9_run_36 rfl rfl ?_
            refine V_if_le (tgt := 49) o dX9_run_37 (by decide) (fun c_37 => False.elim (absurd c_37 (nI_ge (a := 0) hpos (by omega)))) (fun c_37 => ?_)
            refine V_aload_n o dX9_run_40 rfl rfl ?_
            refine V_bipush (v := 59) o dX9_run_41 (by decide) ?_
            refine V_cVi o rt dX9_run_43 ml_X9_228 (c9_takes hf hto hT2 hn4 h2) rfl rfl rfl (Nat.le_of_ble_eq_true rfl) rfl ?_
            refine V_if_eq (tgt := 57) o dX9_run_46 (by decide) (fun c_46 => False.elim (bz_0.mp c_46 ht)) (fun c_46 => ?_)
            rw [tkN_t ht]
            exact rd (p + 1) (by rw [if_neg has]) hpn (by omega) (by omega) hR1
          · rw [if_pos ⟨has, ht⟩] at hR
            subst hR
            refine V_aload_n o dX9_run_25 rfl rfl ?_
            refine V_getIE (v := nI (p)) o dX9_run_26 rfl fl_X9_25 rfl rfl ?_
            refine V_aload_n o dX9_run_29 rfl rfl ?_
            refine V_getIE (v := nI (n)) o dX9_run_30 rfl fl_X9_28 rfl hto ?_
            refine V_icmp_ge (tgt := 70) o dX9_run_33 (by decide) (fun c_33 => False.elim (absurd c_33 (nI_ge hpn (by omega)))) (fun c_33 => ?_)
            refine V_iload_n o dX9_run_36 rfl rfl ?_
            refine V_if_le (tgt := 49) o dX9_run_37 (by decide) (fun c_37 => False.elim (absurd c_37 (nI_ge (a := 0) hpos (by omega)))) (fun c_37 => ?_)
            refine V_aload_n o dX9_run_40 rfl rfl ?_
            refine V_bipush (v := 59) o dX9_run_41 (by decide) ?_
            refine V_cVi o rt dX9_run_43 ml_X9_228 (c9_takes hf hto hT2 hn4 h2) rfl rfl rfl (Nat.le_of_ble_eq_true rfl) rfl ?_
            refine V_if_eq (tgt := 57) o dX9_run_46 (by decide) (fun c_46 => ?_) (fun c_46 => False.elim (absurd (bz_n0.mp c_46) ht))
            rw [tkN_f ht]
            refine V_iconst (v := -1) o dX9_run_57 (by decide) ?_
            refine V_aload_n o dX9_run_58 rfl rfl ?_
            refine V_getIE (v := nI (p)) o dX9_run_59 rfl fl_X9_25 rfl rfl ?_
            refine V_isub o dX9_run_62 ?_
            refine V_iret o rt dX9_run_63 rfl rfl ?_
            exact Or.inl ⟨rfl, rfl, f, rfl⟩
  refine V_aload_n o dX9_run_0 rfl rfl ?_
  refine V_iconst (v := 0) o dX9_run_1 (by decide) ?_
  refine V_putI o dX9_run_2 rfl fl_X9_1 rfl rfl rfl ?_
  rw [wI_sM67]
  refine V_aload_n o dX9_run_5 rfl rfl ?_
  refine V_aload_n o dX9_run_6 rfl rfl ?_
  refine V_getIE (v := nI (n)) o dX9_run_7 rfl fl_X9_14 rfl hn ?_
  refine V_putI o dX9_run_10 rfl fl_X9_28 rfl rfl rfl ?_
  rw [wI_sM67]
  refine V_aload_n o dX9_run_13 rfl rfl ?_
  refine V_iconst (v := 0) o dX9_run_14 (by decide) ?_
  refine V_putI o dX9_run_15 rfl fl_X9_14 rfl rfl rfl ?_
  rw [wI_sM67]
  refine V_aload_n o dX9_run_18 rfl rfl ?_
  refine V_iconst (v := 0) o dX9_run_19 (by decide) ?_
  refine V_putI o dX9_run_20 rfl fl_X9_25 rfl rfl rfl ?_
  rw [wI_sM67]
  rw [sPs_0]
  refine V_iconst (v := 0) o dX9_run_23 (by decide) ?_
  refine V_istore_n (ls' := [(1, _), (0, _)]) o dX9_run_24 rfl (by decide) rfl ?_
  exact V_sub (by simp; rfl) (loop1 101 [] 0 ((wI (wI (wI σ 67 0 0) 67 6 (nI n)) 67 4 0).1 75) hR0 (fun i hi => absurd hi (Nat.not_lt_zero i)) (by omega) (by omega) (Nat.le_refl 0))
