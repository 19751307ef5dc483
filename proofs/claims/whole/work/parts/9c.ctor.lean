section CTOR
/-! CONSTRUCTORS: a world that grows, at its own addresses -/
def U (w : Wp) (A : Nat → Prop) (x : Cx) (M : Md) (cn : Nat × Nat) (pc : Nat) (ls : List (Nat × Value)) (st : List Value) (ws : va_W) : Prop :=
  ∀ (H : Heap) locs (la : Array Slot), va_P w.D vwCl ws H → va_D A ws → va_S A x.s.heap H locs → lv_has la M.2.2.1 ls → W x.p w.l x.e x.R x.s x.m x.a x.b x.me x.c H locs cn.1 cn.2 x.F (F0 x.m pc la st)
def Ou (w : Wp) (A : Nat → Prop) (x : Cx) (own : String) (M : Md) : Prop := CallFix x.p x.m x.c M.2.1 M.2.2.1 x.s x.a gw own ∧ va_K w.D vwCl w.ty x.s ∧ (∀ n ∈ nws, va_Nw n x.s) ∧ (∀ q, x.s.heap.size ≤ q → A q) ∧ va_AO RX6 x.s
variable {w : Wp} {A : Nat → Prop} {x : Cx} {own : String} {M : Md} {cn : Nat × Nat} {pc : Nat} {ls : List (Nat × Value)} {st : List Value} {ws : va_W}
theorem U_aload_n {n : Fin 4} {i v : Nat} (o : Ou w A x own M) (hd : decode M.2.1 pc = .ok (.aload_n n, 1)) (hi : (n : Nat) = i) (hl : ls.lookup i = some (.ref v)) (k : U w A x M cn (pc + 1) ls (.ref v :: st) ws) : U w A x M cn pc ls st ws := fun H locs la h1 h2 h3 h4 => lv_aload_n o.1.1 o.1.2.1 hd hi (h4.2.2 (i, .ref v) (lkp_mem hl)) (k H locs la h1 h2 h3 h4)
theorem U_iload_n {n : Fin 4} {i : Nat} {v : Int32} (o : Ou w A x own M) (hd : decode M.2.1 pc = .ok (.iload_n n, 1)) (hi : (n : Nat) = i) (hl : ls.lookup i = some (.int v)) (k : U w A x M cn (pc + 1) ls (.int v :: st) ws) : U w A x M cn pc ls st ws := fun H locs la h1 h2 h3 h4 => lv_iload_n o.1.1 o.1.2.1 hd hi (h4.2.2 (i, .int v) (lkp_mem hl)) (k H locs la h1 h2 h3 h4)
theorem U_iconst {n : Int} {v : Int32} (o : Ou w A x own M) (hd : decode M.2.1 pc = .ok (.iconst n, 1)) (hv : Int32.ofInt n = v) (k : U w A x M cn (pc + 1) ls (.int v :: st) ws) : U w A x M cn pc ls st ws := fun H locs la h1 h2 h3 h4 => lv_iconst o.1.1 o.1.2.1 hd hv (k H locs la h1 h2 h3 h4)
theorem U_bipush {n : Int} {v : Int32} (o : Ou w A x own M) (hd : decode M.2.1 pc = .ok (.bipush n, 2)) (hv : (Int8.ofInt n).toInt32 = v) (k : U w A x M cn (pc + 2) ls (.int v :: st) ws) : U w A x M cn pc ls st ws := fun H locs la h1 h2 h3 h4 => lv_bipush o.1.1 o.1.2.1 hd hv (k H locs la h1 h2 h3 h4)
theorem U_sipush {n : Int} {v : Int32} (o : Ou w A x own M) (hd : decode M.2.1 pc = .ok (.sipush n, 3)) (hv : (Int16.ofInt n).toInt32 = v) (k : U w A x M cn (pc + 3) ls (.int v :: st) ws) : U w A x M cn pc ls st ws := fun H locs la h1 h2 h3 h4 => lv_sipush o.1.1 o.1.2.1 hd hv (k H locs la h1 h2 h3 h4)
theorem U_dup {v : Value} (o : Ou w A x own M) (hd : decode M.2.1 pc = .ok (.dup, 1)) (hv : v.category = 1) (k : U w A x M cn (pc + 1) ls (v :: v :: st) ws) : U w A x M cn pc ls (v :: st) ws := fun H locs la h1 h2 h3 h4 => lv_dup o.1.1 o.1.2.1 hd hv (k H locs la h1 h2 h3 h4)
theorem U_istore_n {n : Fin 4} {i : Nat} {v : Int32} {ls' : List (Nat × Value)} (o : Ou w A x own M) (hd : decode M.2.1 pc = .ok (.istore_n n, 1)) (hi : (n : Nat) = i) (hn : i < M.2.2.1) (hs : st1 ls i (.int v) = ls') (k : U w A x M cn (pc + 1) ls' st ws) : U w A x M cn pc ls (.int v :: st) ws := fun H locs la h1 h2 h3 h4 => lv_istore_n o.1.1 o.1.2.1 hd hi h4 hn rfl (fun la' h' => k H locs la' h1 h2 h3 (hs ▸ h'))
theorem U_goto {off : Int} {tgt : Nat} (o : Ou w A x own M) (hd : decode M.2.1 pc = .ok (.goto off, 3)) (ht : (pc : Int) + off = (tgt : Int)) (k : U w A x M cn tgt ls st ws) : U w A x M cn pc ls st ws := fun H locs la h1 h2 h3 h4 => lv_goto o.1.1 o.1.2.1 hd ht (k H locs la h1 h2 h3 h4)
theorem U_icmp_ge {a b : Int32} {off : Int} {tgt : Nat} (o : Ou w A x own M) (hd : decode M.2.1 pc = .ok (.if_icmp .ge off, 3)) (ht : (pc : Int) + off = (tgt : Int)) (kt : (b ≤ a) → U w A x M cn tgt ls st ws) (kf : ¬ (b ≤ a) → U w A x M cn (pc + 3) ls st ws) : U w A x M cn pc ls (.int b :: .int a :: st) ws := fun H locs la h1 h2 h3 h4 => lv_icmp_ge o.1.1 o.1.2.1 hd ht (fun c => kt c H locs la h1 h2 h3 h4) (fun c => kf c H locs la h1 h2 h3 h4)
theorem U_iinc {i : Nat} {n : Int} {u v : Int32} {ls' : List (Nat × Value)} (o : Ou w A x own M) (hd : decode M.2.1 pc = .ok (.iinc i n, 3)) (hl : ls.lookup i = some (.int u)) (hv : u + Int32.ofInt n = v) (hn : i < M.2.2.1) (hs : st1 ls i (.int v) = ls') (k : U w A x M cn (pc + 3) ls' st ws) : U w A x M cn pc ls st ws := fun H locs la h1 h2 h3 h4 => by
  obtain ⟨k0, hk0⟩ := List.getElem?_of_mem (lkp_mem hl)
  exact lv_iinc (v := v) (lv' := st1 ls i (.int v)) o.1.1 o.1.2.1 hd h4 (k := k0) hk0 (by rw [← hv]) hn rfl (fun la' h' => k H locs la' h1 h2 h3 (hs ▸ h'))
theorem U_sub {ls' : List (Nat × Value)} (h : ∀ q ∈ ls', q ∈ ls) (k : U w A x M cn pc ls' st ws) : U w A x M cn pc ls st ws := fun H locs la h1 h2 h3 h4 => k H locs la h1 h2 h3 ⟨h4.1, h4.2.1, fun q hq => h4.2.2 q (h q hq)⟩
/-- Object's own constructor -/
def Lo0 (own : String) (idx : Nat) : Prop := Cond.methodLink own idx Lib.objectInit ∈ gw
theorem gw_oi : Cond.instanceMethod Lib.objectInit ∈ gw := gw_at 23 (by decide +kernel) rfl
theorem gw_oc : Cond.code Lib.objectInit ⟨#[0xb1]⟩ 1 none ∈ gw := gw_at 24 (by decide +kernel) rfl
theorem U_obj {idx a : Nat} (o : Ou w A x own M) (hd : decode M.2.1 pc = .ok (.invokespecial idx, 3)) (hl : Lo0 own idx) (hs : (st.map Value.category).sum ≤ 8) (hR : 1 ≤ x.R.frames ∧ 20 ≤ x.R.locals) (k : U w A x M cn (pc + 3) ls st ws) : U w A x M cn pc ls (.ref a :: st) ws := fun H locs la h1 h2 h3 h4 => by
  have hr := lv_room (m := x.m) (pc := pc) (ls := la) (rest := .ref a :: st) (st := st) hs
  exact W.objInit o.1.1 o.1.2.1 o.1.2.2.2.1 (o.1.2.2.2.2 _ hl) (o.1.2.2.2.2 _ gw_oi) (o.1.2.2.2.2 _ gw_oc) rfl (by rw [o.1.2.2.1]; exact h4.1) rfl hd hR.1 (by omega) (k H locs la h1 h2 h3 h4)
theorem gw_aI : Cond.arrayClass .int ∈ gw := gw_at 54 (by decide +kernel) rfl
theorem gw_aL : Cond.arrayClass .long ∈ gw := gw_at 203 (by decide +kernel) rfl
/-- new rows of ints, longs, timers -/
theorem U_newI {n : Int32} {N : Nat} (o : Ou w A x own M) (hd : decode M.2.1 pc = .ok (.newarray .int, 2)) (hn : ¬ n < 0) (hN : n.toNatClampNeg = N) (hb : N * 4 ≤ 536870912) (hc : cn.1 + 1 ≤ x.R.cells ∧ cn.2 + N ≤ x.R.slots) (k : ∀ q, U w A x M (cn.1 + 1, cn.2 + N) (pc + 2) ls (.ref q :: st) (ws ++ [(q, .inl (w.2.2.2.2.2.1, N, .inl (fun _ => 0)))])) : U w A x M cn pc ls (.int n :: st) ws := fun H locs la h1 h2 h3 h4 => by
  refine va_newa (atype := .int) (ty := .int) (a0 := (N, .inl (fun _ => 0))) o.1.1 o.1.2.1 (o.1.2.2.2.2 _ gw_aI) rfl o.2.1 h1 h2 h3 o.2.2.2.1 (fun cA => rfl) hn hN hb hc.1 hc.2 hd (fun q cA H1 g1 g2 g3 g4 => ?_)
  have e1 := va_nm_int (g1.2 3 (cA, .int) rfl).2
  have e2 := va_nm_int (o.2.1.2 0 (w.2.2.2.2.2.1, .int) rfl).2
  have e := Option.some.inj (e1.symm.trans e2)
  subst e
  exact k q H1 locs la g2 g3 g4 h4
theorem U_newL {n : Int32} {N : Nat} (o : Ou w A x own M) (hd : decode M.2.1 pc = .ok (.newarray .long, 2)) (hn : ¬ n < 0) (hN : n.toNatClampNeg = N) (hb : N * 8 ≤ 536870912) (hc : cn.1 + 1 ≤ x.R.cells ∧ cn.2 + N ≤ x.R.slots) (k : ∀ q, U w A x M (cn.1 + 1, cn.2 + N) (pc + 2) ls (.ref q :: st) (ws ++ [(q, .inl (w.2.2.2.2.2.2.1, N, .inr (.inl (fun _ => 0))))])) : U w A x M cn pc ls (.int n :: st) ws := fun H locs la h1 h2 h3 h4 => by
  refine va_newa (atype := .long) (ty := .long) (a0 := (N, .inr (.inl (fun _ => 0)))) o.1.1 o.1.2.1 (o.1.2.2.2.2 _ gw_aL) rfl o.2.1 h1 h2 h3 o.2.2.2.1 (fun cA => rfl) hn hN hb hc.1 hc.2 hd (fun q cA H1 g1 g2 g3 g4 => ?_)
  have e1 := va_nm_long (g1.2 3 (cA, .long) rfl).2
  have e2 := va_nm_long (o.2.1.2 1 (w.2.2.2.2.2.2.1, .long) rfl).2
  have e := Option.some.inj (e1.symm.trans e2)
  subst e
  exact k q H1 locs la g2 g3 g4 h4
theorem U_newT {n : Int32} {N idx : Nat} (o : Ou w A x own M) (hd : decode M.2.1 pc = .ok (.anewarray idx, 3)) (hl : Cond.classLink own idx RX6 ∈ gw) (hn : ¬ n < 0) (hN : n.toNatClampNeg = N) (hb : N * 4 ≤ 536870912) (hc : cn.1 + 1 ≤ x.R.cells ∧ cn.2 + N ≤ x.R.slots) (k : ∀ q, U w A x M (cn.1 + 1, cn.2 + N) (pc + 3) ls (.ref q :: st) (ws ++ [(q, .inl (w.2.2.2.2.2.2.2, N, .inr (.inr (.inr (.inr (fun _ => none))))))])) : U w A x M cn pc ls (.int n :: st) ws := fun H locs la h1 h2 h3 h4 => by
  refine va_newq (C := RX6) o.1.1 o.1.2.1 o.1.2.2.2.1 (o.1.2.2.2.2 _ hl) o.2.2.2.2 o.2.1 h1 h2 h3 o.2.2.2.1 hn hN hb hc.1 hc.2 hd (fun q cA H1 g1 g2 g3 g4 => ?_)
  have e1 := va_nmO (g1.2 3 (cA, .object RX6) rfl).2 rfl
  have e2 := va_nmO (o.2.1.2 2 (w.2.2.2.2.2.2.2, .object RX6) rfl).2 rfl
  have e := Option.some.inj (e1.symm.trans e2)
  subst e
  exact k q H1 locs la g2 g3 g4 h4
/-- a new object: the words of its class -/
def Ln (own : String) (idx ci : Nat) : Prop := ci < 10 ∧ Cond.classLink own idx (RXn ci) ∈ gw ∧ Cond.instantiable (RXn ci) (nf ci) ∈ gw ∧ Cond.initialized (RXn ci) ∈ gw
theorem U_new {idx ci : Nat} {fs : List Value} (o : Ou w A x own M) (hd : decode M.2.1 pc = .ok (.new idx, 3)) (hl : Ln own idx ci) (hfs : ∀ j, j < nf ci → defaultValue (tyXn ci j) = vp_V fs j) (hc : cn.1 + 1 ≤ x.R.cells ∧ cn.2 + nf ci ≤ x.R.slots) (k : ∀ q, U w A x M (cn.1 + 1, cn.2 + nf ci) (pc + 3) ls (.ref q :: st) (ws ++ [(q, .inr (ci, fs))])) : U w A x M cn pc ls st ws := fun H locs la h1 h2 h3 h4 =>
  va_new (C := RXn ci) (T := TXn ci) (N := nf ci) o.1.1 o.1.2.1 o.1.2.2.2.2 (wsXn_in hl.1) (tyXn ci) (tyXn_ok hl.1) o.1.2.2.2.1 (o.1.2.2.2.2 _ hl.2.1) (o.1.2.2.2.2 _ hl.2.2.1) (o.1.2.2.2.2 _ hl.2.2.2) o.2.1 h1 h2 h3 o.2.2.2.1 (vwCl_at hl.1) hfs hc.1 hc.2 hd (fun q H1 g2 g3 g4 => k q H1 locs la g2 g3 g4 h4)
/-- a field that stays, set in the constructor -/
theorem U_putF {a ci j idx q0 : Nat} {v : Value} {fs : List Value} {ws' : va_W} (o : Ou w A x own M) (hm : x.me.name = "<init>") (hd : decode M.2.1 pc = .ok (.putfield idx, 3)) (hl : FL own idx ci j) (hq : ws[q0]? = some (a, .inr (ci, fs))) (hfin : (TXn ci j).2.2.2 = true) (hdecl : (TXn ci j).1 = own) (hn : narrow (tyXn ci j) v = v) (hfit : fits (tyXn ci j) v = true) (hj : j < fs.length) (hw : ws.set q0 (a, .inr (ci, fs.set j v)) = ws') (k : U w A x M cn (pc + 3) ls st ws') : U w A x M cn pc ls (v :: .ref a :: st) ws := fun H locs la h1 h2 h3 h4 =>
  va_putF (C := RXn ci) (T := TXn ci) (N := nf ci) o.1.1 o.1.2.1 o.1.2.2.2.2 (wsXn_in hl.1) (tyXn ci) (tyXn_ok hl.1) (nmXn hl.1) o.1.2.2.2.1 o.2.1 h1 h2 h3 q0 hq (vwCl_at hl.1) j hl.2.1 (o.1.2.2.2.2 _ hl.2.2) (fun _ h => h) hfin hm hdecl (tyXn_ok hl.1 j hl.2.1) hn hfit hj hd (fun H1 locs1 g1 g2 g3 => k H1 locs1 la (hw ▸ g1) (hw ▸ g2) g3 h4)
theorem U_get {a ci j idx q0 : Nat} {v : Value} {fs : List Value} (o : Ou w A x own M) (hd : decode M.2.1 pc = .ok (.getfield idx, 3)) (hl : FL own idx ci j) (hq : ws[q0]? = some (a, .inr (ci, fs))) (hv : fs[j]? = some v) (k : U w A x M cn (pc + 3) ls (v :: st) ws) : U w A x M cn pc ls (.ref a :: st) ws := fun H locs la h1 h2 h3 h4 =>
  va_get (C := RXn ci) (T := TXn ci) (N := nf ci) o.1.1 o.1.2.1 o.1.2.2.2.2 (wsXn_in hl.1) o.1.2.2.2.1 o.2.1 h1 q0 hq (vwCl_at hl.1) j hl.2.1 (o.1.2.2.2.2 _ hl.2.2) (fun _ h => h) hv hd (k H locs la h1 h2 h3 h4)
/-- a timer into a row of timers -/
theorem U_ast {a q0 qk n v : Nat} {vs : List Value} {f : Nat → Option Nat} {i : Int32} {ws' : va_W} (o : Ou w A x own M) (hd : decode M.2.1 pc = .ok (.aastore, 1)) (ha : ws[q0]? = some (a, .inl (w.2.2.2.2.2.2.2, n, .inr (.inr (.inr (.inr f)))))) (hv : ws[qk]? = some (v, .inr (6, vs))) (hi : vp_in i n) (hw : ws.set q0 (a, .inl (w.2.2.2.2.2.2.2, n, .inr (.inr (.inr (.inr (va_up f (ix i) (some v))))))) = ws') (k : U w A x M cn (pc + 1) ls st ws') : U w A x M cn pc ls (.ref v :: .int i :: .ref a :: st) ws := fun H locs la h1 h2 h3 h4 =>
  va_astq (r := (RX6, TX6, 15)) o.1.1 o.1.2.1 o.2.1 h1 h2 h3 q0 2 qk 6 ha rfl hv rfl hi hd (fun H1 locs1 g1 g2 g3 => k H1 locs1 la (hw ▸ g1) (hw ▸ g2) g3 h4)
theorem U_widen {k n : Nat} (h1 : cn.1 ≤ k) (h2 : cn.2 ≤ n) (kk : U w A x M (k, n) pc ls st ws) : U w A x M cn pc ls st ws := fun H locs la g1 g2 g3 g4 => W.widen (k := k) (n := n) h1 h2 (kk H locs la g1 g2 g3 g4)
/-- the world in another order -/
theorem U_perm {ws' : va_W} (is : List Nat) (hn : va_nd is = true) (hs : is.filterMap (fun i => ws[i]?) = ws') (hm : is.map (fun i => ws[i]?) = ws'.map some) (k : U w A x M cn pc ls st ws') : U w A x M cn pc ls st ws := fun H locs la h1 h2 h3 h4 => k H locs la (h1.sub is hs) (h2.sub is hn hm) h3 h4
def Rc (d mc ms : Nat) : Room := { frames := d, cells := mc, slots := ms, locals := 40 * d }
def Qi (w : Wp) (h0 : Nat) (e0 : va_E) (R : va_W → Prop) (sz : Nat) : Array Value → State → Outcome → State → Prop := fun _ st oc t => ∃ ws, oc = .returned none ∧ R ws ∧ va_P w.D vwCl ws t.heap ∧ va_D (va_A [(h0, e0)] sz) ws ∧ va_F (va_A [(h0, e0)] sz) st t
/-- a constructor's contract: the world it leaves -/
def Ci (w : Wp) (d : Nat) (M : Md) (h0 : Nat) (as : List Value) (e0 : va_E) (mc ms : Nat) (R : va_W → Prop) : Prop := ∀ sz : Nat, Met w.l M.1 (Cond.code M.1 M.2.1 M.2.2.1 M.2.2.2 :: gw) (Rc d mc ms) (va_Pc (.ref h0 :: as) (fun U => U.heap.size = sz ∧ va_P w.D vwCl [(h0, e0)] U.heap ∧ va_K w.D vwCl w.ty U ∧ (∀ n ∈ nws, va_Nw n U) ∧ va_AO RX6 U)) (Qi w h0 e0 R sz) mc ms (va_A [(h0, e0)] sz)
theorem Ci_of {d mc ms h0 : Nat} {as : List Value} {e0 : va_E} {R : va_W → Prop} (hp : plainName M.1.cls = true) (hret : M.2.2.2 = none) (hls : lv_args 0 (.ref h0 :: as) = ls) (hn : (lg_sl (.ref h0 :: as)).length ≤ M.2.2.1)
    (h : ∀ (A : Nat → Prop) (x : Cx), Ou w A x M.1.cls M → x.R = Rc d mc ms → x.me.name = M.1.name → (∀ (pc : Nat) (ls : List (Nat × Value)) (ws : va_W) (cn : Nat × Nat), decode M.2.1 pc = .ok (.return_, 1) → R ws → cn.1 ≤ mc → cn.2 ≤ ms → U w A x M cn pc ls [] ws) → U w A x M (0, 0) 0 ls [] [(h0, e0)]) : Ci w d M h0 as e0 mc ms R := by
  intro sz
  refine Met.ofW (cc := M.2.1) (maxL := M.2.2.1) (ret := M.2.2.2) hp rfl ?_
  intro p e s m args below meth c s₁ B hml hv
  obtain ⟨rfl, hsz, hP, hK, hN, hO⟩ := hv
  have hts : ∀ q ∈ gw, q.before (.ref h0 :: as).toArray s = true := fun q hq => atoms_spec (ws := Cond.code M.1 M.2.1 M.2.2.1 M.2.2.2 :: gw) B.pre q (List.mem_cons_of_mem _ hq)
  have hown : s.vm.findClass M.1.cls = some m.cls := findClass_of_methodNamed B.named
  have hl := lv_entry (.ref h0 :: as) (n := M.2.2.1) hn
  rw [lg_entry_eq]
  rw [hls] at hl
  subst hsz
  refine h (va_A [(h0, e0)] s.heap.size) (p, e, Rc d mc ms, s, m, (.ref h0 :: as).toArray, below, meth, c, MQ below (Qi w h0 e0 R s.heap.size) (.ref h0 :: as).toArray s mc ms (va_A [(h0, e0)] s.heap.size)) ⟨⟨B.exec, B.bytes, hml, hown, hts⟩, hK, hN, fun q hq => Or.inr hq, hO⟩ rfl (name_of_methodNamed B.named B.method).1 ?_ s.heap [] _ hP ?_ va_S.rf hl
  · intro pc ls ws cn hd hR h1 h2 H locs la g1 g2 g3 g4
    refine W.widen (k := mc) (n := ms) h1 h2 ?_
    show W p w.l e (Rc d mc ms) s m (.ref h0 :: as).toArray below meth c H locs mc ms (MQ below (Qi w h0 e0 R s.heap.size) (.ref h0 :: as).toArray s mc ms (va_A [(h0, e0)] s.heap.size)) (F0 m pc la [])
    exact W.vret B.exec B.bytes (B.returns.trans hret) (fun t ht hW => ⟨ws, rfl, hR, by rw [ht]; exact g1, g2, g3.F ht⟩) g3.2.2 hd B.notSynchronized
  · refine ⟨fun i j p q hi hj _ => ?_, fun k q hk => va_A.in hk⟩
    have := (List.getElem?_eq_some_iff.mp hi).1
    have := (List.getElem?_eq_some_iff.mp hj).1
    simp only [List.length_singleton] at *
    omega
/-- links of constructors -/
def Li (own : String) (idx : Nat) (M' : Md) (n : Nat) : Prop := Lc M' n ∧ (Cond.methodLink own idx M'.1 ∈ gw ∨ ∃ host, Cond.methodLinkNest own idx M'.1 host ∈ nws) ∧ Cond.instanceMethod M'.1 ∈ gw ∧ Cond.initialized M'.1.cls ∈ gw ∧ M'.1.name = "<init>" ∧ M'.2.2.2 = none
theorem blindC {h0 sz : Nat} {as : List Value} {e0 : va_E} : FrameBlind (va_Pc (.ref h0 :: as) (fun U => U.heap.size = sz ∧ va_P w.D vwCl [(h0, e0)] U.heap ∧ va_K w.D vwCl w.ty U ∧ (∀ n ∈ nws, va_Nw n U) ∧ va_AO RX6 U)) := by
  intro a U g mk q
  obtain ⟨q0, q1, qP, qK, qN, qO⟩ := q
  exact ⟨q0, q1, qP, va_K.moved (u := U) (U := U.calling g mk a) (Vm.Alike.refl U.vm) qK, nws_same (s := U) (U := U.calling g mk a) rfl qN, va_AO.moved (u := U) (U := U.calling g mk a) (Vm.Alike.refl U.vm) qO⟩
theorem U_ci {idx d' n h1 mc ms : Nat} {M' : Md} {As st0 : List Value} {e0 : va_E} {R : va_W → Prop} {wr : va_W} (o : Ou w A x own M) (hd : decode M.2.1 pc = .ok (.invokespecial idx, 3)) (hl : Li own idx M' n) (hc : Ci w d' M' h1 As e0 mc ms R) (hq : ws = wr ++ [(h1, e0)]) (hn : As.length = n) (hst : st0 = As.reverse ++ .ref h1 :: st) (hs : (st.map Value.category).sum ≤ 8) (hR : d' + 1 ≤ x.R.frames ∧ 8 + (M'.2.2.1 + 11) + 40 * d' ≤ x.R.locals) (hcs : cn.1 + mc ≤ x.R.cells ∧ cn.2 + ms ≤ x.R.slots)
    (k : ∀ w1, R w1 → U w A x M (cn.1 + mc, cn.2 + ms) (pc + 3) ls st (wr ++ w1)) : U w A x M cn pc ls st0 ws := by
  intro H locs la hP hD hS hla
  subst hq
  obtain ⟨hlc, hml, hin, hini, hnm, hret⟩ := hl
  have hpre : PreS x.s H (va_Pc (.ref h1 :: As) (fun U => U.heap.size = H.size ∧ va_P w.D vwCl [(h1, e0)] U.heap ∧ va_K w.D vwCl w.ty U ∧ (∀ n ∈ nws, va_Nw n U) ∧ va_AO RX6 U)) (.ref h1 :: As) := ⟨blindC, fun U hU hW => ⟨rfl, by rw [hU], by rw [hU]; exact fun k q hk => hP (wr.length + k) q (by rw [List.getElem?_append_right (Nat.le_add_right _ _), Nat.add_sub_cancel_left]; exact hk), va_K.moved hW.alike o.2.1, nws_warm hW o.2.2.1, va_AO.moved hW.alike o.2.2.2.2⟩⟩
  have run : va_Run x.p w.l x.e x.R x.s x.m x.a x.b x.me x.c H locs cn.1 cn.2 mc ms (F0 x.m pc la st0) st (Qi w h1 e0 R H.size (.ref h1 :: As).toArray) (va_A [(h1, e0)] H.size) := by
    have hM := hc H.size
    rw [hret] at hM
    have hlc' := hlc
    unfold Lc at hlc'
    rw [hret] at hlc'
    have hgd : GoodIn gw (Cond.code M'.1 M'.2.1 M'.2.2.1 none :: gw) := by
      have := good_ws hlc
      rw [hret] at this
      exact this
    rcases hml with hml | ⟨host, hml⟩
    · exact va_runI (As := As) (rest := st) (b := h1) o.1 hM ⟨callB_of (rm := Rc d' mc ms) n o.1.2.2.2.2 hgd rfl rfl rfl (o.1.2.2.2.2 _ hini) (o.1.2.2.2.2 _ hml) hlc.2 hR, hnm, o.1.2.2.2.2 _ hin⟩ hpre rfl hn hla.1 hst (lv_room hs) hd hcs
    · exact va_runIN (As := As) (rest := st) (b := h1) (host := host) o.1 hM ⟨va_cnB (rm := Rc d' mc ms) n o.1.2.2.2.2 hgd rfl rfl rfl (o.2.2.1 _ hml) (o.1.2.2.2.2 _ hini) hlc.2 hR, hnm, o.1.2.2.2.2 _ hin⟩ hpre rfl hn hla.1 hst (lv_room hs) hd hcs
  intro T hT X
  obtain ⟨v, st₀, t, T', L, h0, X', hL, e1, e2, ⟨w1, hv, hRw, hP1, hD1, hz, hk⟩, stp⟩ := run T hT X
  cases hv
  rw [h0] at hz hk
  have hfree : ∀ q, va_A [(h1, e0)] H.size q → A q := fun q h => by
    rcases h with ⟨k, e, h⟩ | h
    · exact hD.2 (wr.length + k) (q, e) (by rw [List.getElem?_append_right (Nat.le_add_right _ _), Nat.add_sub_cancel_left]; exact h)
    · exact o.2.2.2.1 q (Nat.le_trans hS.1 h)
  have left : ∀ {k : Nat} {q : Nat × va_E}, wr[k]? = some q → (wr ++ [(h1, e0)])[k]? = some q := fun {k q} h => by
    rw [List.getElem?_append_left (List.getElem?_eq_some_iff.mp h).1]; exact h
  have apart : ∀ (k : Nat) (q : Nat × va_E), wr[k]? = some q → q.1 < H.size ∧ ¬ va_A [(h1, e0)] H.size q.1 := fun k q h => by
    have hlt := (hP k q (left h)).lt
    refine ⟨hlt, fun z => ?_⟩
    rcases z with ⟨k2, e, z⟩ | z
    · have hz2 : (wr ++ [(h1, e0)])[wr.length + k2]? = some (q.1, e) := by rw [List.getElem?_append_right (Nat.le_add_right _ _), Nat.add_sub_cancel_left]; exact z
      have := hD.1 k (wr.length + k2) q (q.1, e) (left h) hz2 rfl
      have := (List.getElem?_eq_some_iff.mp h).1
      omega
    · omega
  have hPn : va_P w.D vwCl (wr ++ w1) T'.heap := by
    rw [e1]
    exact va_P.app (fun k q h => (hP k q (left h)).kept (hk q.1 (apart k q h).1 (apart k q h).2)) hP1
  have hDn : va_D A (wr ++ w1) := va_D.app ⟨fun i j p q hi hj e => hD.1 i j p q (left hi) (left hj) e, fun k q h => hD.2 k q (left h)⟩ (hD1.weaken (fun k q _ h => hfree q.1 h)) (fun i j p q hp hq hpq => (apart i p hp).2 (by rw [hpq]; exact hD1.2 j q hq))
  have hSn : va_S A x.s.heap T'.heap (locs ++ L) := ⟨Nat.le_trans hS.1 (by rw [e1]; exact hz), fun q g1 g2 => by rw [e1, hk q (Nat.lt_of_lt_of_le g1 hS.1) (fun z => g2 (hfree q z))]; exact hS.2.1 q g1 g2, fun q hq => by
    rcases List.mem_append.mp hq with h | h
    · exact hS.2.2 q h
    · exact hfree _ (hL q h)⟩
  obtain ⟨t2, a1, b1⟩ := k w1 hRw T'.heap (locs ++ L) la hPn hDn hSn hla T' rfl X'
  exact ⟨t2, stp t2 a1, b1⟩
end CTOR
