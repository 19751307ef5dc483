section THROW
/-! WHAT THROWS: timer and row of the class, where there is nothing -/
abbrev NSE : String := "java/util/NoSuchElementException"
abbrev NSN : List String := ["java/lang/RuntimeException", "java/lang/Exception"]
theorem vx_bad : (vx_at0 RX8 237 NSE NSN).filter (fun w => !goodWord w) = [.declares (Bundle.init0 "java/lang/RuntimeException"), .declares (Bundle.init0 "java/lang/Exception"), .declares (Bundle.init0 Bundle.tN), .castable NSE NSE] := by decide +kernel
def ZB (u : State) : Prop := va_Nw (.declares (Bundle.init0 "java/lang/RuntimeException")) u ∧ va_Nw (.declares (Bundle.init0 "java/lang/Exception")) u ∧ va_Nw (.declares (Bundle.init0 Bundle.tN)) u ∧ va_Nw (.castable NSE NSE) u
theorem vx_gd : ∀ w ∈ (vx_at0 RX8 237 NSE NSN).filter goodWord, w ∈ lw_tbl := by decide +kernel
theorem vx_okk : ∀ w ∈ Cond.classLink RX8 235 NSE :: Cond.initialized NSE :: vx_at0 RX8 237 NSE NSN, vx_ot w = true := by decide +kernel
theorem flg : ∀ l : Launch, l.flags = flags0 → l.stackTraces = false := fun l h => by
  unfold Launch.stackTraces
  rw [h]
  rfl
theorem cl_nse : Cond.classLink RX8 235 NSE ∈ gw := gw_at 786 (by decide +kernel) rfl
theorem in_nse : Cond.initialized NSE ∈ gw := gw_at 15 (by decide +kernel) rfl
/-- what a throw reads of the machine -/
def Zs (w : Wp) (u : State) : Prop := vx_Zq Bundle.tN "UNASSIGNED_STACK" Bundle.steD (fun q => w.B ≤ q) u u.heap ∧ vx_Zq Bundle.tN "SUPPRESSED_SENTINEL" Bundle.listD (fun q => w.B ≤ q) u u.heap ∧ ZB u
theorem Zs.to {w : Wp} {s u : State} (hW : s.WarmedH u.vm) (hq : ∀ a : Nat, a < s.heap.size → ¬ w.B ≤ a → u.heap[a]? = s.heap[a]?) (h : Zs w s) : Zs w u :=
  ⟨vx_Zq.moved hW.alike (h.1.kept hq), vx_Zq.moved hW.alike (h.2.1.kept hq), va_Nw.warmD hW h.2.2.1, va_Nw.warmD hW h.2.2.2.1, va_Nw.warmD hW h.2.2.2.2.1, va_Nw.warmC hW h.2.2.2.2.2⟩
def XCn (w : Wp) (σ : Mm) : String → State → State → Prop := vx_X (S := Unit) (fun _ => True) (fun E _ t => E = NSE ∧ WH sh0 w σ t.heap) (Aw w)
def CX (w : Wp) (M : Md) (as : List Value) (σ : Mm) : Prop := vx_Met w.l M.1 (Cond.code M.1 M.2.1 M.2.2.1 M.2.2.2 :: gw) (Rc 6 1 6) (va_Pc (as.map (cvv w)) (fun u => Pw sh0 w σ u ∧ Zs w u)) (Qw sh0 w (fun _ _ => False)) (XCn w σ) 1 6 (Aw w)
theorem cx_of {w : Wp} {M : Md} {as : List Value} {ls : List (Nat × Value)} {σ : Mm} (hf : Fit sh0 w) (hp : plainName M.1.cls = true) (hls : lv_args 0 as = ls) (hn : (lg_sl (as.map (cvv w))).length ≤ M.2.2.1)
    (h : ∀ x : Cx, Ok sh0 w x M.1.cls M → x.R = Rc 6 1 6 → Zs w x.s → x.me.locks = false → (∀ z ∈ x.c.exceptionTable.toList, False) → x.F = vx_MQ x.b (Qw sh0 w (fun _ _ => False)) (XCn w σ) x.a x.s 1 6 (Aw w) → V sh0 w x M (0, 0) 0 ls [] σ) : CX w M as σ := by
  refine vx_ofW (cc := M.2.1) (maxL := M.2.2.1) (ret := M.2.2.2) hp rfl ?_
  intro p e s m args below meth c s₁ B hml htab hv
  obtain ⟨rfl, ⟨hP, hK, hN⟩, hZ⟩ := hv
  have hts : ∀ q ∈ gw, q.before (as.map (cvv w)).toArray s = true := fun q hq => atoms_spec (ws := Cond.code M.1 M.2.1 M.2.2.1 M.2.2.2 :: gw) B.pre q (List.mem_cons_of_mem _ hq)
  have hown : s.vm.findClass M.1.cls = some m.cls := findClass_of_methodNamed B.named
  have hl := lv_entry (as.map (cvv w)) (n := M.2.2.1) hn
  rw [lg_entry_eq]
  rw [args_map, hls] at hl
  exact h (p, e, Rc 6 1 6, s, m, (as.map (cvv w)).toArray, below, meth, c, vx_MQ below (Qw sh0 w (fun _ _ => False)) (XCn w σ) (as.map (cvv w)).toArray s 1 6 (Aw w)) ⟨hf, ⟨B.exec, B.bytes, hml, hown, hts⟩, hK, hN⟩ rfl hZ B.notSynchronized htab rfl s.heap [] _ hP va_S.rf hl
theorem V_throw {w : Wp} {x : Cx} {M : Md} {pc : Nat} {ls : List (Nat × Value)} {σ : Mm} (o : Ok sh0 w x RX8 M) (hl : w.l.stackTraces = false) (hR : x.R = Rc 6 1 6) (hZ : Zs w x.s) (hk : x.me.locks = false) (ht : ∀ z ∈ x.c.exceptionTable.toList, False) (hF : x.F = vx_MQ x.b (Qw sh0 w (fun _ _ => False)) (XCn w σ) x.a x.s 1 6 (Aw w)) (d0 : decode M.2.1 pc = .ok (.new 235, 3)) (d3 : decode M.2.1 (pc + 3) = .ok (.dup, 1)) (d4 : decode M.2.1 (pc + 4) = .ok (.invokespecial 237, 3)) (d7 : decode M.2.1 (pc + 7) = .ok (.athrow, 1)) : V sh0 w x M (0, 0) pc ls [] σ := by
  intro H locs la h1 h2 h3
  rw [hF]
  have hat : ∀ q ∈ vx_at0 RX8 237 NSE NSN, q.before x.a x.s = true := vx_hat (fun q hq => o.2.1.2.2.2.2 q (gw_of (vx_gd q hq) (List.mem_filter.mp hq).2)) (fun q hq => by rw [vx_bad] at hq; exact hq) (vx_c (va_Nw.use rfl hZ.2.2.1) (vx_c (va_Nw.use rfl hZ.2.2.2.1) (vx_c (va_Nw.use rfl hZ.2.2.2.2.1) (vx_c (va_Nw.use rfl hZ.2.2.2.2.2) vx_n))))
  refine vx_throw0 (own := RX8) (cls := NSE) (names := NSN) (ik := 235) (ic := 237) (A := Aw w) o.2.1.1 o.2.1.2.1 hl o.2.1.2.2.2.1 (by decide) (by decide) (o.2.1.2.2.2.2 _ cl_nse) (o.2.1.2.2.2.2 _ in_nse) hat vx_okk (hZ.1.narrow (fun q h => h.1)) (hZ.2.1.narrow (fun q h => h.1)) h2 (h3.1.trans o.2.1.2.2.1.symm) d0 d3 d4 d7 (fun z hz => (ht z hz).elim) ?_ ?_ ?_ ?_ hk (fun t hA hz hq => ⟨(), trivial, ⟨rfl, h1.kept (fun k q hk => hq q.1 ((h1 k q hk).lt))⟩, Nat.le_trans h2.1 hz, fun q g1 g2 => (hq q (Nat.lt_of_lt_of_le g1 h2.1)).trans (h2.2.1 q g1 g2)⟩) h2.2.2 (Nat.le_refl _) (Nat.le_refl _)
  · rw [hR]; exact Nat.le_of_ble_eq_true rfl
  · rw [hR]; exact Nat.le_of_ble_eq_true rfl
  · rw [hR]; exact Nat.le_of_ble_eq_true rfl
  · rw [hR]; exact Nat.le_of_ble_eq_true rfl
set_option maxRecDepth 20000 in
set_option maxHeartbeats 4000000 in
theorem cx_timer {w : Wp} (hf : Fit sh0 w) (hl : w.l.stackTraces = false) {σ : Mm} {M : Nat → Int32} {L r n : Nat} {l : List Int64} {T : Nat → Int32} (hK : KR M L r l T n σ) (hB : Bo M) {v b : Int32} (hc : ¬ tmC M v b) : CX w mX8_timer [.ref 1, .int v, .int b] σ := by
  have hW := hK.1
  refine cx_of hf (by decide) rfl (Nat.le_of_ble_eq_true rfl) (fun x o hR hZ hk ht hF => ?_)
  have th : ∀ ls, V sh0 w x mX8_timer (0, 0) 23 ls [] σ := fun ls => V_throw o hl hR hZ hk ht hF dX8_timer_23 dX8_timer_26 dX8_timer_27 dX8_timer_30
  have hr0 : ∀ n, Nat.ble n 40 = true → 0 + 1 ≤ x.R.frames ∧ 8 + (n + 11) + 40 * 0 ≤ x.R.locals := fun n hn => by
    have := Nat.le_of_ble_eq_true hn
    rw [hR]
    exact ⟨Nat.le_of_ble_eq_true rfl, by show 8 + (n + 11) + 0 ≤ 240; omega⟩
  have hc0 : ((0, 0) : Nat × Nat).1 ≤ x.R.cells ∧ ((0, 0) : Nat × Nat).2 ≤ x.R.slots := ⟨Nat.zero_le _, Nat.zero_le _⟩
  refine V_aload_n o dX8_timer_0 rfl rfl ?_
  refine V_getR (t := 2) o dX8_timer_1 rfl fl_X8_10 rfl ?_
  refine V_iload_n o dX8_timer_4 rfl rfl ?_
  rcases fnd3 hB v with hv | ⟨t, htt, rfl, hT⟩ | ⟨t, htt, rfl, hT⟩
  · refine V_callVx o dX8_timer_5 ml_X8_154 (c7_find_out_2 hf hv) rfl rfl rfl (Nat.le_of_ble_eq_true rfl) (hr0 _ rfl) hc0 (fun r' s' q => ?_)
    obtain ⟨rfl, rfl⟩ := q
    refine V_astore_nN (ls' := [(3, _), (0, _), (1, _), (2, _)]) o dX8_timer_8 rfl (by decide) rfl ?_
    refine V_aload_nN o dX8_timer_9 rfl rfl ?_
    exact V_ifnull_n (tgt := 23) o dX8_timer_10 (by decide) (th _)
  · refine V_callVx o dX8_timer_5 ml_X8_154 (c7_find_n_2 hf hW htt hT) rfl rfl rfl (Nat.le_of_ble_eq_true rfl) (hr0 _ rfl) hc0 (fun r' s' q => ?_)
    obtain ⟨rfl, rfl⟩ := q
    refine V_astore_nN (ls' := [(3, _), (0, _), (1, _), (2, _)]) o dX8_timer_8 rfl (by decide) rfl ?_
    refine V_aload_nN o dX8_timer_9 rfl rfl ?_
    exact V_ifnull_n (tgt := 23) o dX8_timer_10 (by decide) (th _)
  · refine V_callVx o dX8_timer_5 ml_X8_154 (c7_find_2 hf hW htt hT) rfl rfl rfl (Nat.le_of_ble_eq_true rfl) (hr0 _ rfl) hc0 (fun r' s' q => ?_)
    obtain ⟨rfl, rfl⟩ := q
    refine V_astore_n (ls' := [(3, _), (0, _), (1, _), (2, _)]) o dX8_timer_8 rfl (by decide) rfl ?_
    refine V_aload_n o dX8_timer_9 rfl rfl ?_
    refine V_ifnull_r o dX8_timer_10 ?_
    refine V_iload_n o dX8_timer_13 rfl rfl ?_
    refine V_iconst (v := 0) o dX8_timer_14 (by decide) ?_
    refine V_bipush (v := 10) o dX8_timer_15 (by decide) ?_
    refine V_callSx o dX8_timer_17 ms_X8_79 (c8_isWithin hf) rfl rfl (Nat.le_of_ble_eq_true rfl) (hr0 _ rfl) hc0 (fun r' s' q => ?_)
    obtain ⟨rfl, rfl⟩ := q
    exact V_if_ne (tgt := 31) o dX8_timer_20 (by decide) (fun c_20 => False.elim (hc ⟨isTm_t htt hT, bz_n0.mp c_20⟩)) (fun c_20 => th _)
set_option maxRecDepth 20000 in
set_option maxHeartbeats 4000000 in
theorem cx_row {w : Wp} (hf : Fit sh0 w) (hl : w.l.stackTraces = false) {σ : Mm} {M : Nat → Int32} {L r n : Nat} {l : List Int64} {T : Nat → Int32} (hK : KR M L r l T n σ) {v : Int32} (hc : ¬ inR v 0 (nI l.length - 1)) : CX w mX8_row [.ref 1, .int v] σ := by
  have hR0 := hK.2.2.2.1
  refine cx_of hf (by decide) rfl (Nat.le_of_ble_eq_true rfl) (fun x o hR hZ hk ht hF => ?_)
  have th : ∀ ls, V sh0 w x mX8_row (0, 0) 29 ls [] σ := fun ls => V_throw o hl hR hZ hk ht hF dX8_row_29 dX8_row_32 dX8_row_33 dX8_row_36
  have hr0 : ∀ n, Nat.ble n 40 = true → 0 + 1 ≤ x.R.frames ∧ 8 + (n + 11) + 40 * 0 ≤ x.R.locals := fun n hn => by
    have := Nat.le_of_ble_eq_true hn
    rw [hR]
    exact ⟨Nat.le_of_ble_eq_true rfl, by show 8 + (n + 11) + 0 ≤ 240; omega⟩
  have hc0 : ((0, 0) : Nat × Nat).1 ≤ x.R.cells ∧ ((0, 0) : Nat × Nat).2 ≤ x.R.slots := ⟨Nat.zero_le _, Nat.zero_le _⟩
  refine V_iload_n o dX8_row_0 rfl rfl ?_
  refine V_iconst (v := 0) o dX8_row_1 (by decide) ?_
  refine V_aload_n o dX8_row_2 rfl rfl ?_
  refine V_getR (t := 52) o dX8_row_3 rfl fl_X8_33 rfl ?_
  refine V_getIE (v := nI l.length) o dX8_row_6 rfl fl_X8_260 rfl hR0.1 ?_
  refine V_iconst (v := 1) o dX8_row_9 (by decide) ?_
  refine V_isub o dX8_row_10 ?_
  refine V_callSx o dX8_row_11 ms_X8_79 (c8_isWithin hf) rfl rfl (Nat.le_of_ble_eq_true rfl) (hr0 _ rfl) hc0 (fun r' s' q => ?_)
  obtain ⟨rfl, rfl⟩ := q
  exact V_if_eq (tgt := 29) o dX8_row_14 (by decide) (fun c_14 => th _) (fun c_14 => False.elim (hc (bz_n0.mp c_14)))
end THROW
