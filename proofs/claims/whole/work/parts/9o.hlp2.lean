section HLP2
def QT (M : Nat → Int32) (L r : Nat) (l : List Int64) (T : Nat → Int32) (n : Nat) (σ : Mm) (v b : Int32) : Int32 → Mm → Int64 → Prop := fun k σ' o' => (tmC M v b → k = 0 ∧ o' = (timerR M (ix v) b).toInt64 ∧ KR M L r l T n σ' ∧ Off 1 67 σ σ') ∧ (¬ tmC M v b → k = 1 ∧ σ' = σ)
set_option maxRecDepth 20000 in
set_option maxHeartbeats 4000000 in
theorem h_timer {w : Wp} {un1 : Nat → Nat} (hL : Lf w un1) (hlt : w.l.stackTraces = false) {σ : Mm} {M : Nat → Int32} {L r n : Nat} {l : List Int64} {T : Nat → Int32} (hK : KR M L r l T n σ) (hF : Wf M L) (hB : Bo M) {v b : Int32} {o : Int64} : CH w un1 mL_timer [(0, 10, 13, 13)] [.ref 1, .int v, .int b, .ref 79] σ o (QT M L r l T n σ v b) := by
  refine CH_of (ls := [(0, .ref 1), (1, .int v), (2, .int b), (3, .ref 79)]) hL (by decide) rfl rfl (Nat.le_of_ble_eq_true rfl) (fun x oo hR hZ htb ret => ?_)
  refine V_aload_n oo dL_timer_0 rfl rfl ?_
  refine V_iconst (v := 0) oo dL_timer_1 (by decide) ?_
  refine V_aload_n oo dL_timer_2 rfl rfl ?_
  refine V_iload_n oo dL_timer_3 rfl rfl ?_
  refine V_iload_n oo dL_timer_4 rfl rfl ?_
  by_cases hc : tmC M v b
  · obtain ⟨ev, htt⟩ := isTm_ix hc.1.1
    have c8 := c8_timer hL.1 hK hF hB htt hc.1.2 hc.2
    rw [← ev] at c8
    refine L_callV hL oo dL_timer_5 ml_L_7 c8 rfl rfl rfl (Nat.le_of_ble_eq_true rfl) (by rw [hR]; exact ⟨Nat.le_of_ble_eq_true rfl, Nat.le_of_ble_eq_true rfl⟩) ⟨Nat.zero_le _, Nat.zero_le _⟩ (fun r1 σ1 q => ?_)
    obtain ⟨rfl, ho, hK1⟩ := q
    refine V_i2l oo dL_timer_8 ?_
    refine V_lastN 1 oo dL_timer_9 rfl rfl (show (0 : Int32) = nI 0 from rfl) (by decide) rfl ?_
    refine V_memW (out_set hL) ?_
    refine V_goto (tgt := 17) oo dL_timer_10 (by decide) ?_
    refine V_iconst (v := 0) oo dL_timer_17 (by decide) ?_
    exact fun H locs la h1 h2 h3 => ret H locs la 18 0 σ1 _ (0, 0) dL_timer_18 ⟨fun _ => ⟨rfl, rfl, hK1, ho⟩, fun z => absurd hc z⟩ h1 h2 (Nat.zero_le _) (Nat.zero_le _)
  · refine L_catch (en := 10) (hp := 13) (ct := 13) hL oo hZ htb (by decide) rfl dL_timer_5 ml_L_7 (cx_timer hL.1 hlt hK hB hc) rfl rfl rfl (Nat.le_of_ble_eq_true rfl) (by rw [hR]; exact ⟨Nat.le_of_ble_eq_true rfl, Nat.le_of_ble_eq_true rfl⟩) (by rw [hR]; exact ⟨Nat.le_of_ble_eq_true rfl, Nat.le_of_ble_eq_true rfl⟩) (fun H locs la q9 h1 h2 h3 => ?_)
    refine lv_astore oo.2.1.1 oo.2.1.2.1 dL_timer_13 h3 (by decide) rfl (fun la' h' => ?_)
    refine lv_iconst (v := 1) oo.2.1.1 oo.2.1.2.1 dL_timer_15 (by decide) ?_
    exact ret H locs la' 16 1 σ o (0 + 1, 0 + 6) dL_timer_16 ⟨fun z => absurd z hc, fun _ => ⟨rfl, rfl⟩⟩ h1 h2 (Nat.le_refl _) (Nat.le_refl _)
def QR (M : Nat → Int32) (L r : Nat) (l : List Int64) (T : Nat → Int32) (n : Nat) (σ : Mm) (v : Int32) : Int32 → Mm → Int64 → Prop := fun k σ' o' => (∀ i, v = nI i → i < l.length → k = 0 ∧ o' = l.getD i 0 ∧ KR M L r l T n σ' ∧ Off 1 67 σ σ') ∧ (¬ inR v 0 (nI l.length - 1) → k = 1 ∧ σ' = σ)
set_option maxRecDepth 20000 in
set_option maxHeartbeats 4000000 in
theorem h_row {w : Wp} {un1 : Nat → Nat} (hL : Lf w un1) (hlt : w.l.stackTraces = false) {σ : Mm} {M : Nat → Int32} {L r n : Nat} {l : List Int64} {T : Nat → Int32} (hK : KR M L r l T n σ) (hF : Wf M L) (hB : Bo M) {v : Int32} {o : Int64} : CH w un1 mL_row [(0, 8, 11, 13)] [.ref 1, .int v, .ref 79] σ o (QR M L r l T n σ v) := by
  have hl40 := hK.2.2.2.1.2.1
  refine CH_of (ls := [(0, .ref 1), (1, .int v), (2, .ref 79)]) hL (by decide) rfl rfl (Nat.le_of_ble_eq_true rfl) (fun x oo hR hZ htb ret => ?_)
  refine V_aload_n oo dL_row_0 rfl rfl ?_
  refine V_iconst (v := 0) oo dL_row_1 (by decide) ?_
  refine V_aload_n oo dL_row_2 rfl rfl ?_
  refine V_iload_n oo dL_row_3 rfl rfl ?_
  by_cases hc : inR v 0 (nI l.length - 1)
  · obtain ⟨i, ev, hi⟩ := inR_lt (by omega) hc
    subst ev
    refine L_callV hL oo dL_row_4 ml_L_15 (c8_row hL.1 hK hF hB hi) rfl rfl rfl (Nat.le_of_ble_eq_true rfl) (by rw [hR]; exact ⟨Nat.le_of_ble_eq_true rfl, Nat.le_of_ble_eq_true rfl⟩) ⟨Nat.zero_le _, Nat.zero_le _⟩ (fun r1 σ1 q => ?_)
    obtain ⟨rfl, ho, hK1⟩ := q
    refine V_lastN 1 oo dL_row_7 rfl rfl (show (0 : Int32) = nI 0 from rfl) (by decide) rfl ?_
    refine V_memW (out_set hL) ?_
    refine V_goto (tgt := 14) oo dL_row_8 (by decide) ?_
    refine V_iconst (v := 0) oo dL_row_14 (by decide) ?_
    refine fun H locs la h1 h2 h3 => ret H locs la 15 0 σ1 _ (0, 0) dL_row_15 ⟨fun j ej hj => ?_, fun z => absurd hc z⟩ h1 h2 (Nat.zero_le _) (Nat.zero_le _)
    have e : i = j := (nI_eq (by omega) (by omega)).mp ej
    subst e
    exact ⟨rfl, rfl, hK1, ho⟩
  · refine L_catch (en := 8) (hp := 11) (ct := 13) hL oo hZ htb (by decide) rfl dL_row_4 ml_L_15 (cx_row hL.1 hlt hK hc) rfl rfl rfl (Nat.le_of_ble_eq_true rfl) (by rw [hR]; exact ⟨Nat.le_of_ble_eq_true rfl, Nat.le_of_ble_eq_true rfl⟩) (by rw [hR]; exact ⟨Nat.le_of_ble_eq_true rfl, Nat.le_of_ble_eq_true rfl⟩) (fun H locs la q9 h1 h2 h3 => ?_)
    refine lv_astore_n oo.2.1.1 oo.2.1.2.1 dL_row_11 rfl h3 (by decide) rfl (fun la' h' => ?_)
    refine lv_iconst (v := 1) oo.2.1.1 oo.2.1.2.1 dL_row_12 (by decide) ?_
    refine ret H locs la' 13 1 σ o (0 + 1, 0 + 6) dL_row_13 ⟨fun j ej hj => ?_, fun _ => ⟨rfl, rfl⟩⟩ h1 h2 (Nat.le_refl _) (Nat.le_refl _)
    refine absurd ?_ hc
    rw [ej]
    obtain ⟨m, hm⟩ : ∃ m, l.length = m + 1 := ⟨l.length - 1, by omega⟩
    rw [hm, nI_pred]
    exact nI_rng (by omega) (by omega)
/-- links of the helpers -/
def Lh (idx : Nat) (M' : Md) (hh : Hd) (n : Nat) : Prop := Cond.codeWith M'.1 M'.2.1 M'.2.2.1 M'.2.2.2 hh ∈ gw ∧ (M'.1.cls ≠ "java/lang/invoke/MethodHandle" ∧ M'.1.cls ≠ "java/lang/invoke/VarHandle") ∧ (parseMethodDescriptor M'.1.desc).map (fun d => d.parameters.length) = some n ∧ Cond.methodLink RL idx M'.1 ∈ gw ∧ Cond.static M'.1 ∈ gw ∧ Cond.initialized M'.1.cls ∈ gw
theorem lh_97 : Lh 97 mL_timer [(0, 10, 13, 13)] 4 := ⟨gw_at 780 (by decide +kernel) rfl, by decide +kernel, by decide +kernel, gw_at 778 (by decide +kernel) rfl, gw_at 779 (by decide +kernel) rfl, gw_at 0 (by decide +kernel) rfl⟩
theorem lh_186 : Lh 186 mL_row [(0, 8, 11, 13)] 3 := ⟨gw_at 849 (by decide +kernel) rfl, by decide +kernel, by decide +kernel, gw_at 847 (by decide +kernel) rfl, gw_at 848 (by decide +kernel) rfl, gw_at 0 (by decide +kernel) rfl⟩
theorem L_callH {w : Wp} {un1 : Nat → Nat} {x : Cx} {M : Md} {cn : Nat × Nat} {pc : Nat} {ls : List (Nat × Value)} {st : List Value} {σ : Mm} {o : Int64} {idx n : Nat} {M' : Md} {hh : Hd} {As st0 : List Value} {QH : Int32 → Mm → Int64 → Prop} (hL : Lf w un1) (oo : Ok sh1 (wO w un1) x RL M) (hZ : Zs w x.s) (hd : decode M.2.1 pc = .ok (.invokestatic idx, 3)) (hl : Lh idx M' hh n) (hc : CH w un1 M' hh As σ o QH) (hn : As.length = n) (hst : st0 = As.reverse ++ st) (hs : (st.map Value.category).sum ≤ 8) (hR : 8 + 1 ≤ x.R.frames ∧ 8 + (M'.2.2.1 + 11) + 320 ≤ x.R.locals) (hcs : cn.1 + 1 ≤ x.R.cells ∧ cn.2 + 6 ≤ x.R.slots)
    (k : ∀ kk σ' o', QH kk σ' o' → V sh1 (wO w un1) x M (cn.1 + 1, cn.2 + 6) (pc + 3) ls (.int kk :: st) (sO σ' o')) : V sh1 (wO w un1) x M cn pc ls st0 (sO σ o) := by
  intro H locs la h1 h2 h3
  obtain ⟨hcode, hne, hpar, hml, hst', hini⟩ := hl
  have hts := oo.2.1.2.2.2.2
  have hcat : ((st.map (cvv w)).map fun v => v.category).sum ≤ 8 := by
    rw [List.map_map]
    have e : ((fun v : Value => v.category) ∘ cvv w) = Value.category := by funext v; exact cvv_cat w v
    rw [e]; exact hs
  have hG : GoodIn gw (Cond.codeWith M'.1 M'.2.1 M'.2.2.1 M'.2.2.2 hh :: gw) := fun q hq => by
    rcases List.mem_cons.mp hq with rfl | hq
    · exact ⟨hcode, gw_good hcode⟩
    · exact ⟨hq, gw_good hq⟩
  have bl : FrameBlind (va_Pc (As.map (cvv w)) (fun u => Pw sh1 (wO w un1) (sO σ o) u ∧ Zs w u)) := by
    intro a' u g mk z
    obtain ⟨z0, ⟨zP, zK, zN⟩, z1, z2, z3⟩ := z
    exact ⟨z0, ⟨zP, va_K.moved (u := u) (U := u.calling g mk a') (Vm.Alike.refl u.vm) zK, nws_same (s := u) (U := u.calling g mk a') rfl zN⟩, vx_Zq.moved (u := u) (U := u.calling g mk a') (Vm.Alike.refl u.vm) z1, vx_Zq.moved (u := u) (U := u.calling g mk a') (Vm.Alike.refl u.vm) z2, ZB_same (u := u) (U := u.calling g mk a') rfl z3⟩
  have run := vx_runSW (As := As.map (cvv w)) (rest := st.map (cvv w)) (g := F0 x.m pc la (st0.map (cvv w))) (H := H) (locs := locs) (cells := cn.1) (slots := cn.2) (p := x.p) (l := w.l) (e := x.e) (R := x.R) (below := x.b) (meth := x.me) (n := n) oo.2.1 hc ⟨⟨rfl, rfl, hR.1, hR.2, pay_in hts hG, List.mem_cons_self⟩, hts _ hcode, hts _ hini, hne, fun sig h => by
    rw [h] at hpar
    exact (Option.some.inj hpar).symm, hts _ hml, hts _ hst'⟩ ⟨bl, fun u hu hW => ⟨rfl, ⟨by rw [hu]; exact h1, va_K.moved hW.alike oo.2.2.1, nws_warm hW oo.2.2.2⟩, hZ.to hW (fun z hz hb => by rw [hu]; exact h2.2.1 z hz (fun y => hb y.1))⟩⟩ rfl (by simpa using hn) h3.1 (by subst hst; simp) (lv_room hcat) hd hcs
  intro T hT X
  obtain ⟨v, st₀, t, T', L, h0, X', hLc, e1, e2, ⟨kk, σ', o', hv, hq, ⟨hP, -, -⟩, hz, hk⟩, stp⟩ := run T hT X
  cases hv
  rw [h0] at hz hk
  have hS : va_S (Aw (wO w un1)) x.s.heap T'.heap (locs ++ L) := ⟨Nat.le_trans h2.1 (by rw [e1]; exact hz), fun q g3 g4 => by rw [e1, hk q (Nat.lt_of_lt_of_le g3 h2.1) g4]; exact h2.2.1 q g3 g4, fun q hq => by
    rcases List.mem_append.mp hq with h | h
    · exact h2.2.2 q h
    · exact hLc q h⟩
  obtain ⟨t2, a1, b1⟩ := k kk σ' o' hq T'.heap (locs ++ L) la (by rw [e1]; exact hP) hS h3 T' rfl X'
  exact ⟨t2, stp t2 a1, b1⟩
end HLP2
