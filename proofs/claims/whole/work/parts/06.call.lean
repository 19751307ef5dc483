section CALL
def Rm (d : Nat) : Room := { frames := d, cells := 0, slots := 0, locals := 40 * d }
def Pw (S : Sh) (w : Wp) (σ : Mm) (U : State) : Prop := WH S w σ U.heap ∧ va_K w.D vwCl w.ty U ∧ ∀ n ∈ nws, va_Nw n U
def Qw (S : Sh) (w : Wp) (Q : Option Value → Mm → Prop) : Array Value → State → Outcome → State → Prop := fun _ st oc t => ∃ (v : Option Value) (σ' : Mm), oc = .returned (v.map (cvv w)) ∧ Q v σ' ∧ Pw S w σ' t ∧ va_F (Aw w) st t
/-- a method's contract: at depth d, from these arguments and this memory, it returns with Q -/
def Ct (S : Sh) (w : Wp) (d : Nat) (M : Md) (as : List Value) (σ : Mm) (Q : Option Value → Mm → Prop) : Prop :=
  Met w.l M.1 (Cond.code M.1 M.2.1 M.2.2.1 M.2.2.2 :: gw) (Rm d) (va_Pc (as.map (cvv w)) (Pw S w σ)) (Qw S w Q) 0 0 (Aw w)
def Rt (S : Sh) (w : Wp) (x : Cx) (d : Nat) (M : Md) (Q : Option Value → Mm → Prop) : Prop := x.R = Rm d ∧ x.F = MQ x.b (Qw S w Q) x.a x.s 0 0 (Aw w) ∧ x.me.sig.returnType = M.2.2.2 ∧ x.me.locks = false
theorem nws_warm {s U : State} (hW : s.WarmedH U.vm) (h : ∀ n ∈ nws, va_Nw n s) : ∀ n ∈ nws, va_Nw n U := by
  intro n hn
  obtain ⟨a, i, y, q, rfl⟩ := nws_nest hn
  exact va_Nw.warmM hW (h _ hn)
theorem nws_same {s U : State} (hW : s.vm = U.vm) (h : ∀ n ∈ nws, va_Nw n s) : ∀ n ∈ nws, va_Nw n U := by
  intro n hn
  obtain ⟨a, i, y, q, rfl⟩ := nws_nest hn
  exact va_Nw.same rfl hW (h _ hn)
theorem args_map (w : Wp) : ∀ (i : Nat) (as : List Value), lv_args i (as.map (cvv w)) = (lv_args i as).map (cvl w)
  | _, [] => rfl
  | i, v :: vs => by
    show (i, cvv w v) :: lv_args (if (cvv w v).category = 2 then i + 2 else i + 1) (vs.map (cvv w)) = cvl w (i, v) :: (lv_args (if v.category = 2 then i + 2 else i + 1) vs).map (cvl w)
    rw [cvv_cat, args_map w _ vs]
    rfl
theorem blind {S : Sh} {w : Wp} {σ : Mm} {as : List Value} : FrameBlind (va_Pc as (Pw S w σ)) := by
  intro a U g mk q
  obtain ⟨q0, qP, qK, qN⟩ := q
  exact ⟨q0, qP, va_K.moved (u := U) (U := U.calling g mk a) (Vm.Alike.refl U.vm) qK, nws_same (s := U) (U := U.calling g mk a) rfl qN⟩
theorem Ct_of {S : Sh} {w : Wp} {d : Nat} {M : Md} {as : List Value} {ls : List (Nat × Value)} {σ : Mm} {Q : Option Value → Mm → Prop} (hf : Fit S w) (hp : plainName M.1.cls = true) (hls : lv_args 0 as = ls) (hn : (lg_sl (as.map (cvv w))).length ≤ M.2.2.1)
    (h : ∀ x : Cx, Ok S w x M.1.cls M → Rt S w x d M Q → V S w x M (0, 0) 0 ls [] σ) : Ct S w d M as σ Q := by
  refine Met.ofW (cc := M.2.1) (maxL := M.2.2.1) (ret := M.2.2.2) hp rfl ?_
  intro p e s m args below meth c s₁ B hml hv
  obtain ⟨rfl, hP, hK, hN⟩ := hv
  have hts : ∀ q ∈ gw, q.before (as.map (cvv w)).toArray s = true := fun q hq => atoms_spec (ws := Cond.code M.1 M.2.1 M.2.2.1 M.2.2.2 :: gw) B.pre q (List.mem_cons_of_mem _ hq)
  have hown : s.vm.findClass M.1.cls = some m.cls := findClass_of_methodNamed B.named
  have hl := lv_entry (as.map (cvv w)) (n := M.2.2.1) hn
  rw [lg_entry_eq]
  rw [args_map, hls] at hl
  exact h (p, e, Rm d, s, m, (as.map (cvv w)).toArray, below, meth, c, MQ below (Qw S w Q) (as.map (cvv w)).toArray s 0 0 (Aw w)) ⟨hf, ⟨B.exec, B.bytes, hml, hown, hts⟩, hK, hN⟩ ⟨rfl, rfl, B.returns, B.notSynchronized⟩ s.heap [] _ hP va_S.rf hl
variable {S : Sh} {w : Wp} {x : Cx} {own : String} {M : Md} {cn : Nat × Nat} {pc d : Nat} {ls : List (Nat × Value)} {st : List Value} {σ : Mm} {Q : Option Value → Mm → Prop}
theorem Qw_end {H : Heap} {locs : List Loc} {v : Option Value} (o : Ok S w x own M) (h1 : WH S w σ H) (h2 : va_S (Aw w) x.s.heap H locs) (hq : Q v σ) : ∀ t : State, t.heap = H → x.s.WarmedH t.vm → Qw S w Q x.a x.s (.returned (v.map (cvv w))) t :=
  fun t ht hW => ⟨v, σ, rfl, hq, ⟨by rw [ht]; exact h1, va_K.moved hW.alike o.2.2.1, nws_warm hW o.2.2.2⟩, h2.F ht⟩
theorem V_iret {v : Int32} {ty : FieldType} (o : Ok S w x own M) (r : Rt S w x d M Q) (hd : decode M.2.1 pc = .ok (.ireturn, 1)) (ht : M.2.2.2 = some ty) (hn : narrow ty (.int v) = .int v) (hq : Q (some (.int v)) σ) : V S w x M (0, 0) pc ls [.int v] σ := by
  intro H locs la h1 h2 h3
  rw [r.2.1]
  exact W.zret o.2.1.1 o.2.1.2.1 (r.2.2.1.trans ht) hn (Qw_end o h1 h2 hq) h2.2.2 hd r.2.2.2
theorem V_lret {v : Int64} (o : Ok S w x own M) (r : Rt S w x d M Q) (hd : decode M.2.1 pc = .ok (.lreturn, 1)) (ht : M.2.2.2 = some .long) (hq : Q (some (.long v)) σ) : V S w x M (0, 0) pc ls [.long v] σ := by
  intro H locs la h1 h2 h3
  rw [r.2.1]
  exact W.lret o.2.1.1 o.2.1.2.1 (r.2.2.1.trans ht) (Qw_end o h1 h2 hq) h2.2.2 hd r.2.2.2
theorem V_ret (o : Ok S w x own M) (r : Rt S w x d M Q) (hd : decode M.2.1 pc = .ok (.return_, 1)) (ht : M.2.2.2 = none) (hq : Q none σ) : V S w x M (0, 0) pc ls [] σ := by
  intro H locs la h1 h2 h3
  rw [r.2.1]
  exact W.vret o.2.1.1 o.2.1.2.1 (r.2.2.1.trans ht) (Qw_end o h1 h2 hq) h2.2.2 hd r.2.2.2
theorem V_aretR {a : Nat} {n : String} (o : Ok S w x own M) (r : Rt S w x d M Q) (hd : decode M.2.1 pc = .ok (.areturn, 1)) (ht : M.2.2.2 = some (.object n)) (hq : Q (some (.ref a)) σ) : V S w x M (0, 0) pc ls [.ref a] σ := by
  intro H locs la h1 h2 h3
  rw [r.2.1]
  exact W.aret o.2.1.1 o.2.1.2.1 (r.2.2.1.trans ht) (Or.inl ⟨n, rfl⟩) (Or.inr ⟨_, rfl⟩) (Qw_end o h1 h2 hq) h2.2.2 hd r.2.2.2
theorem V_aretN {n : String} (o : Ok S w x own M) (r : Rt S w x d M Q) (hd : decode M.2.1 pc = .ok (.areturn, 1)) (ht : M.2.2.2 = some (.object n)) (hq : Q (some .null) σ) : V S w x M (0, 0) pc ls [.null] σ := by
  intro H locs la h1 h2 h3
  rw [r.2.1]
  exact W.aret o.2.1.1 o.2.1.2.1 (r.2.2.1.trans ht) (Or.inl ⟨n, rfl⟩) (Or.inl rfl) (Qw_end o h1 h2 hq) h2.2.2 hd r.2.2.2
theorem stk_map (r : Option Value) (st : List Value) : (r.map (cvv w)).toList ++ st.map (cvv w) = (r.toList ++ st).map (cvv w) := by
  cases r <;> simp
theorem V_run {st0 : List Value} {a : Array Value} (hr : ∀ H locs la, WH S w σ H → lv_has la M.2.2.1 (ls.map (cvl w)) → va_Run x.p w.l x.e x.R x.s x.m x.a x.b x.me x.c H locs cn.1 cn.2 0 0 (F0 x.m pc la (st0.map (cvv w))) (st.map (cvv w)) (Qw S w Q a) (Aw w))
    (k : ∀ r σ', Q r σ' → V S w x M cn (pc + 3) ls (r.toList ++ st) σ') : V S w x M cn pc ls st0 σ := by
  intro H locs la h1 h2 h3 T hT X
  obtain ⟨v, st₀, t, T', L, h0, X', hL, e1, e2, ⟨r, σ', hv, hq, ⟨hP, -, -⟩, hz, hk⟩, st⟩ := hr H locs la h1 h3 T hT X
  cases hv
  rw [h0] at hz hk
  have hS : va_S (Aw w) x.s.heap T'.heap (locs ++ L) := ⟨Nat.le_trans h2.1 (by rw [e1]; exact hz), fun q g1 g2 => by rw [e1, hk q (Nat.lt_of_lt_of_le g1 h2.1) g2]; exact h2.2.1 q g1 g2, fun q hq => by
    rcases List.mem_append.mp hq with h | h
    · exact h2.2.2 q h
    · exact hL q h⟩
  obtain ⟨t2, a1, b1⟩ := k r σ' hq T'.heap (locs ++ L) la (by rw [e1]; exact hP) hS h3 T' rfl X'
  refine ⟨t2, st t2 ?_, b1⟩
  rw [← stk_map] at a1
  exact a1
theorem Pw_at {H : Heap} (o : Ok S w x own M) (h1 : WH S w σ H) {as : List Value} : ∀ U : State, U.heap = H → x.s.WarmedH U.vm → va_Pc as (Pw S w σ) as.toArray U :=
  fun U hU hW => ⟨rfl, by rw [hU]; exact h1, va_K.moved hW.alike o.2.2.1, nws_warm hW o.2.2.2⟩
/-- links of calls: the callee's code stands, it has so many parameters -/
def Lc (M' : Md) (n : Nat) : Prop := Cond.code M'.1 M'.2.1 M'.2.2.1 M'.2.2.2 ∈ gw ∧ M'.1.cls ≠ "java/lang/invoke/MethodHandle" ∧ M'.1.cls ≠ "java/lang/invoke/VarHandle" ∧ (parseMethodDescriptor M'.1.desc).map (fun d => d.parameters.length) = some n
def LV (own : String) (idx ci : Nat) (M' : Md) (n : Nat) : Prop := ci < 10 ∧ Lc M' n ∧ M'.1.cls = RXn ci ∧ Cond.methodLink own idx M'.1 ∈ gw ∧ Cond.instanceMethod M'.1 ∈ gw ∧ Cond.selects (RXn ci) M'.1 M'.1 ∈ gw ∧ Cond.initialized (RXn ci) ∈ gw
def Lst (own : String) (idx : Nat) (M' : Md) (n : Nat) : Prop := Lc M' n ∧ Cond.methodLink own idx M'.1 ∈ gw ∧ Cond.static M'.1 ∈ gw ∧ Cond.initialized M'.1.cls ∈ gw
def Lsn (own : String) (idx : Nat) (M' : Md) (n : Nat) : Prop := Lc M' n ∧ (∃ host, Cond.methodLinkNest own idx M'.1 host ∈ nws) ∧ Cond.static M'.1 ∈ gw ∧ Cond.initialized M'.1.cls ∈ gw
theorem good_ws {M' : Md} {n : Nat} (h : Lc M' n) : GoodIn gw (Cond.code M'.1 M'.2.1 M'.2.2.1 M'.2.2.2 :: gw) := fun q hq => by
  rcases List.mem_cons.mp hq with rfl | hq
  · exact ⟨h.1, gw_good h.1⟩
  · exact ⟨hq, gw_good hq⟩
theorem callB_x {R : Room} {idx n d' : Nat} {M' : Md} (o : Ok S w x own M) (hl : Lc M' n) (hm : Cond.methodLink own idx M'.1 ∈ gw) (hi : Cond.initialized M'.1.cls ∈ gw) (hR : d' + 1 ≤ R.frames ∧ 8 + (M'.2.2.1 + 11) + 40 * d' ≤ R.locals) :
    CallB R x.s x.a own idx M'.1 M'.2.1 M'.2.2.1 M'.2.2.2 (Cond.code M'.1 M'.2.1 M'.2.2.1 M'.2.2.2 :: gw) (Rm d') 0 0 n :=
  callB_of (rm := Rm d') n o.2.1.2.2.2.2 (good_ws hl) rfl rfl rfl (o.2.1.2.2.2.2 _ hi) (o.2.1.2.2.2.2 _ hm) hl.2 hR
theorem V_callVx {idx ci a n d' : Nat} {M' : Md} {As st0 : List Value} (o : Ok S w x own M) (hd : decode M.2.1 pc = .ok (.invokevirtual idx, 3)) (hl : LV own idx ci M' n) (hc : Ct S w d' M' (.ref a :: As) σ Q) (hk : S.2.1 a = ci) (hn : As.length = n) (hst : st0 = As.reverse ++ .ref a :: st)
    (hs : (st.map Value.category).sum ≤ 8) (hR : d' + 1 ≤ x.R.frames ∧ 8 + (M'.2.2.1 + 11) + 40 * d' ≤ x.R.locals) (hcs : cn.1 ≤ x.R.cells ∧ cn.2 ≤ x.R.slots)
    (k : ∀ r σ', Q r σ' → V S w x M cn (pc + 3) ls (r.toList ++ st) σ') : V S w x M cn pc ls st0 σ := by
  refine V_run (a := ((Value.ref (w.ad a)) :: As.map (cvv w)).toArray) (fun H locs la h1 h3 => ?_) k
  obtain ⟨hc10, hlc, hcl, hml, hin, hse, hi⟩ := hl
  have ha : a ∈ S.1 := o.1.2.1 a (by rw [hk]; exact Nat.lt_of_lt_of_le hc10 (by decide))
  obtain ⟨q, hq⟩ := Wws_get o.1 σ ha
  rw [cll_obj hk hc10] at hq
  have hrec := va_recv o.2.2.1 h1 (vwCl_at hc10) hq
  have hcat : ((st.map (cvv w)).map fun v => v.category).sum ≤ 8 := by
    rw [List.map_map]
    have e : ((fun v : Value => v.category) ∘ cvv w) = Value.category := by funext v; exact cvv_cat w v
    rw [e]; exact hs
  exact va_runV (As := As.map (cvv w)) (rest := st.map (cvv w)) (b := w.ad a) (C := RXn ci) o.2.1 hc ⟨callB_x o hlc hml (by rw [hcl]; exact hi) hR, o.2.1.2.2.2.2 _ hin, o.2.1.2.2.2.2 _ hse⟩ ⟨blind, hrec, Pw_at o h1⟩ rfl (by simpa using hn) h3.1 (by subst hst; simp [cvv]) (lv_room hcat) hd hcs
theorem V_callSx {idx n d' : Nat} {M' : Md} {As st0 : List Value} (o : Ok S w x own M) (hd : decode M.2.1 pc = .ok (.invokestatic idx, 3)) (hl : Lst own idx M' n) (hc : Ct S w d' M' As σ Q) (hn : As.length = n) (hst : st0 = As.reverse ++ st)
    (hs : (st.map Value.category).sum ≤ 8) (hR : d' + 1 ≤ x.R.frames ∧ 8 + (M'.2.2.1 + 11) + 40 * d' ≤ x.R.locals) (hcs : cn.1 ≤ x.R.cells ∧ cn.2 ≤ x.R.slots)
    (k : ∀ r σ', Q r σ' → V S w x M cn (pc + 3) ls (r.toList ++ st) σ') : V S w x M cn pc ls st0 σ := by
  refine V_run (a := (As.map (cvv w)).toArray) (fun H locs la h1 h3 => ?_) k
  obtain ⟨hlc, hml, hsta, hi⟩ := hl
  have hcat : ((st.map (cvv w)).map fun v => v.category).sum ≤ 8 := by
    rw [List.map_map]
    have e : ((fun v : Value => v.category) ∘ cvv w) = Value.category := by funext v; exact cvv_cat w v
    rw [e]; exact hs
  exact va_runS (As := As.map (cvv w)) (rest := st.map (cvv w)) o.2.1 hc ⟨callB_x o hlc hml hi hR, o.2.1.2.2.2.2 _ hsta⟩ ⟨blind, Pw_at o h1⟩ rfl (by simpa using hn) h3.1 (by subst hst; simp) (lv_room hcat) hd hcs
theorem V_callSNx {idx n d' : Nat} {M' : Md} {As st0 : List Value} (o : Ok S w x own M) (hd : decode M.2.1 pc = .ok (.invokestatic idx, 3)) (hl : Lsn own idx M' n) (hc : Ct S w d' M' As σ Q) (hn : As.length = n) (hst : st0 = As.reverse ++ st)
    (hs : (st.map Value.category).sum ≤ 8) (hR : d' + 1 ≤ x.R.frames ∧ 8 + (M'.2.2.1 + 11) + 40 * d' ≤ x.R.locals) (hcs : cn.1 ≤ x.R.cells ∧ cn.2 ≤ x.R.slots)
    (k : ∀ r σ', Q r σ' → V S w x M cn (pc + 3) ls (r.toList ++ st) σ') : V S w x M cn pc ls st0 σ := by
  refine V_run (a := (As.map (cvv w)).toArray) (fun H locs la h1 h3 => ?_) k
  obtain ⟨hlc, ⟨host, hml⟩, hsta, hi⟩ := hl
  have hcat : ((st.map (cvv w)).map fun v => v.category).sum ≤ 8 := by
    rw [List.map_map]
    have e : ((fun v : Value => v.category) ∘ cvv w) = Value.category := by funext v; exact cvv_cat w v
    rw [e]; exact hs
  exact va_runSN (As := As.map (cvv w)) (rest := st.map (cvv w)) (host := host) o.2.1 hc ⟨va_cnB (rm := Rm d') n o.2.1.2.2.2.2 (good_ws hlc) rfl rfl rfl (o.2.2.2 _ hml) (o.2.1.2.2.2.2 _ hi) hlc.2 hR, o.2.1.2.2.2.2 _ hsta, trivial⟩ ⟨blind, Pw_at o h1⟩ rfl (by simpa using hn) h3.1 (by subst hst; simp) (lv_room hcat) hd hcs
theorem Rt_room {d' n : Nat} (r : Rt S w x d M Q) (h : (Nat.ble (d' + 1) d && Nat.ble (8 + (n + 11) + 40 * d') (40 * d)) = true) : d' + 1 ≤ x.R.frames ∧ 8 + (n + 11) + 40 * d' ≤ x.R.locals := by
  rw [r.1]
  rw [Bool.and_eq_true] at h
  exact ⟨Nat.le_of_ble_eq_true h.1, Nat.le_of_ble_eq_true h.2⟩
theorem Rt_cells (r : Rt S w x d M Q) : ((0, 0) : Nat × Nat).1 ≤ x.R.cells ∧ ((0, 0) : Nat × Nat).2 ≤ x.R.slots := ⟨Nat.zero_le _, Nat.zero_le _⟩
/-- calls from a method -/
theorem V_callV {idx ci a n d' : Nat} {M' : Md} {As st0 : List Value} {Q' : Option Value → Mm → Prop} (o : Ok S w x own M) (r : Rt S w x d M Q') (hd : decode M.2.1 pc = .ok (.invokevirtual idx, 3)) (hl : LV own idx ci M' n) (hc : Ct S w d' M' (.ref a :: As) σ Q) (hk : S.2.1 a = ci) (hn : As.length = n) (hst : st0 = As.reverse ++ .ref a :: st)
    (hs : (st.map Value.category).sum ≤ 8) (hR : (Nat.ble (d' + 1) d && Nat.ble (8 + (M'.2.2.1 + 11) + 40 * d') (40 * d)) = true)
    (k : ∀ r σ', Q r σ' → V S w x M (0, 0) (pc + 3) ls (r.toList ++ st) σ') : V S w x M (0, 0) pc ls st0 σ := V_callVx o hd hl hc hk hn hst hs (Rt_room r hR) (Rt_cells r) k
theorem V_callS {idx n d' : Nat} {M' : Md} {As st0 : List Value} {Q' : Option Value → Mm → Prop} (o : Ok S w x own M) (r : Rt S w x d M Q') (hd : decode M.2.1 pc = .ok (.invokestatic idx, 3)) (hl : Lst own idx M' n) (hc : Ct S w d' M' As σ Q) (hn : As.length = n) (hst : st0 = As.reverse ++ st)
    (hs : (st.map Value.category).sum ≤ 8) (hR : (Nat.ble (d' + 1) d && Nat.ble (8 + (M'.2.2.1 + 11) + 40 * d') (40 * d)) = true)
    (k : ∀ r σ', Q r σ' → V S w x M (0, 0) (pc + 3) ls (r.toList ++ st) σ') : V S w x M (0, 0) pc ls st0 σ := V_callSx o hd hl hc hn hst hs (Rt_room r hR) (Rt_cells r) k
theorem V_callSN {idx n d' : Nat} {M' : Md} {As st0 : List Value} {Q' : Option Value → Mm → Prop} (o : Ok S w x own M) (r : Rt S w x d M Q') (hd : decode M.2.1 pc = .ok (.invokestatic idx, 3)) (hl : Lsn own idx M' n) (hc : Ct S w d' M' As σ Q) (hn : As.length = n) (hst : st0 = As.reverse ++ st)
    (hs : (st.map Value.category).sum ≤ 8) (hR : (Nat.ble (d' + 1) d && Nat.ble (8 + (M'.2.2.1 + 11) + 40 * d') (40 * d)) = true)
    (k : ∀ r σ', Q r σ' → V S w x M (0, 0) (pc + 3) ls (r.toList ++ st) σ') : V S w x M (0, 0) pc ls st0 σ := V_callSNx o hd hl hc hn hst hs (Rt_room r hR) (Rt_cells r) k
end CALL
