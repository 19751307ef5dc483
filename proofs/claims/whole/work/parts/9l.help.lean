section HELP
/-! THE LAW'S HELPERS: timer and row, with what they catch -/
theorem cl_L13 : Cond.classLink RL 13 NSE ∈ gw := gw_at 781 (by decide +kernel) rfl
theorem arrV_cg {cI : ClassId} {N : Nat} {f g : Nat → Value} (h : ∀ j, j < N → f j = g j) : arrV cI N f = arrV cI N g := by
  unfold arrV
  have e : (fun j : Fin N => f j.val) = (fun j : Fin N => g j.val) := funext fun j => h j.val j.isLt
  rw [e]
theorem V_memW {S : Sh} {w : Wp} {x : Cx} {M : Md} {cn : Nat × Nat} {pc : Nat} {ls : List (Nat × Value)} {st : List Value} {σ σ' : Mm} (h : ∀ H, WH S w σ H → WH S w σ' H) (k : V S w x M cn pc ls st σ') : V S w x M cn pc ls st σ := fun H locs la h1 h2 h3 => k H locs la (h H h1) h2 h3
theorem V_wid {S : Sh} {w : Wp} {x : Cx} {M : Md} {cn : Nat × Nat} {pc : Nat} {ls : List (Nat × Value)} {st : List Value} {σ : Mm} {k n : Nat} (h1 : cn.1 ≤ k) (h2 : cn.2 ≤ n) (kk : V S w x M (k, n) pc ls st σ) : V S w x M cn pc ls st σ := fun H locs la g1 g2 g3 => W.widen (k := k) (n := n) h1 h2 (kk H locs la g1 g2 g3)
/-- the row written -/
theorem out_set {w : Wp} {un1 : Nat → Nat} (hL : Lf w un1) {σ : Mm} {o v : Int64} : ∀ H, WH sh1 (wO w un1) (wL (sO σ o) 79 0 v) H → WH sh1 (wO w un1) (sO σ v) H := fun H h => by
  unfold WH at h ⊢
  rw [WL_eq hL.2.1] at h ⊢
  intro k q hk
  unfold WL at h hk
  rw [List.getElem?_map] at hk
  cases ha : sh1.1[k]? with
  | none => rw [ha] at hk; cases hk
  | some a =>
    rw [ha] at hk
    cases hk
    have g := h k ((wO w un1).ad a, cll sh1 (wO w un1) (wL (sO σ o) 79 0 v) a) (by rw [List.getElem?_map, ha]; rfl)
    by_cases e : a = 79
    · subst e
      have g' : H[(wO w un1).ad 79]? = some (arrV w.2.2.2.2.2.2.1 1 (fun j => .long ((wL (sO σ o) 79 0 v).2.1 79 j))) := g
      show H[(wO w un1).ad 79]? = some (arrV w.2.2.2.2.2.2.1 1 (fun j => .long ((sO σ v).2.1 79 j)))
      rw [g', arrV_cg (g := fun j => .long ((sO σ v).2.1 79 j)) (fun j hj => ?_)]
      have ej : j = 0 := by omega
      subst ej
      show Value.long (up2 (sO σ o).2.1 79 0 v 79 0) = Value.long v
      rw [up2_self]
    · have e2 : cll sh1 (wO w un1) (wL (sO σ o) 79 0 v) a = cll sh1 (wO w un1) (sO σ v) a := by
        have e3 : (wL (sO σ o) 79 0 v).2.1 a = (sO σ v).2.1 a := by
          funext j
          show up2 (sO σ o).2.1 79 0 v a j = (if a = 79 then fun _ => v else σ.2.1 a) j
          rw [up2_ne _ _ (Or.inl e), if_neg e]
          show (if a = 79 then fun _ => o else σ.2.1 a) j = σ.2.1 a j
          rw [if_neg e]
        have e4 : (fun j => (trr sh1 (wL (sO σ o) 79 0 v) a j).map (wO w un1).ad) = (fun j => (trr sh1 (sO σ v) a j).map (wO w un1).ad) := rfl
        have e5 : fvv sh1 (wO w un1) (wL (sO σ o) 79 0 v) a = fvv sh1 (wO w un1) (sO σ v) a := rfl
        unfold cll
        rw [e3, e4, e5]
        rfl
      show va_at (wO w un1).D vwCl ((wO w un1).ad a, cll sh1 (wO w un1) (sO σ v) a) H
      rw [← e2]
      exact g
theorem ZB_same {u U : State} (h : u.vm = U.vm) (z : ZB u) : ZB U := ⟨va_Nw.same rfl h z.1, va_Nw.same rfl h z.2.1, va_Nw.same rfl h z.2.2.1, va_Nw.same rfl h z.2.2.2⟩
def Qh (w : Wp) (un1 : Nat → Nat) (QH : Int32 → Mm → Int64 → Prop) : Array Value → State → Outcome → State → Prop := fun _ st oc t => ∃ (k : Int32) (σ' : Mm) (o' : Int64), oc = .returned (some (.int k)) ∧ QH k σ' o' ∧ Pw sh1 (wO w un1) (sO σ' o') t ∧ va_F (Aw (wO w un1)) st t
abbrev Hd : Type := List (Nat × Nat × Nat × Nat)
def CH (w : Wp) (un1 : Nat → Nat) (M : Md) (hh : Hd) (as : List Value) (σ : Mm) (o : Int64) (QH : Int32 → Mm → Int64 → Prop) : Prop := Met w.l M.1 (Cond.codeWith M.1 M.2.1 M.2.2.1 M.2.2.2 hh :: gw) (Rc 8 1 6) (va_Pc (as.map (cvv w)) (fun u => Pw sh1 (wO w un1) (sO σ o) u ∧ Zs w u)) (Qh w un1 QH) 1 6 (Aw (wO w un1))
theorem CH_of {w : Wp} {un1 : Nat → Nat} {M : Md} {hh : Hd} {as : List Value} {ls : List (Nat × Value)} {σ : Mm} {o : Int64} {QH : Int32 → Mm → Int64 → Prop} (hL : Lf w un1) (hp : plainName M.1.cls = true) (hret : M.2.2.2 = some .int) (hls : lv_args 0 as = ls) (hn : (lg_sl (as.map (cvv w))).length ≤ M.2.2.1)
    (h : ∀ x : Cx, Ok sh1 (wO w un1) x M.1.cls M → x.R = Rc 8 1 6 → Zs w x.s → x.c.exceptionTable.toList = tableOf hh →
      (∀ H locs la (pc : Nat) (k : Int32) (σ' : Mm) (o' : Int64) (cn : Nat × Nat), decode M.2.1 pc = .ok (.ireturn, 1) → QH k σ' o' → WH sh1 (wO w un1) (sO σ' o') H → va_S (Aw (wO w un1)) x.s.heap H locs → cn.1 ≤ 1 → cn.2 ≤ 6 → W x.p w.l x.e x.R x.s x.m x.a x.b x.me x.c H locs cn.1 cn.2 x.F (F0 x.m pc la [.int k])) →
      V sh1 (wO w un1) x M (0, 0) 0 ls [] (sO σ o)) : CH w un1 M hh as σ o QH := by
  refine va_MetW (cc := M.2.1) (maxL := M.2.2.1) (ret := M.2.2.2) (hh := hh) hp rfl ?_
  intro p e s m args below meth c s₁ B hml hv
  obtain ⟨rfl, ⟨hP, hK, hN⟩, hZ⟩ := hv
  have hcw := atoms_spec (ws := Cond.codeWith M.1 M.2.1 M.2.2.1 M.2.2.2 hh :: gw) B.pre
  have hts : ∀ q ∈ gw, q.before (as.map (cvv w)).toArray s = true := fun q hq => hcw q (List.mem_cons_of_mem _ hq)
  have hown : s.vm.findClass M.1.cls = some m.cls := findClass_of_methodNamed B.named
  have hl := lv_entry (as.map (cvv w)) (n := M.2.2.1) hn
  rw [lg_entry_eq]
  rw [args_map, hls] at hl
  have ok : Ok sh1 (wO w un1) (p, e, Rc 8 1 6, s, m, (as.map (cvv w)).toArray, below, meth, c, MQ below (Qh w un1 QH) (as.map (cvv w)).toArray s 1 6 (Aw (wO w un1))) M.1.cls M := ⟨hL.2.1, ⟨B.exec, B.bytes, hml, hown, hts⟩, hK, hN⟩
  refine h (p, e, Rc 8 1 6, s, m, (as.map (cvv w)).toArray, below, meth, c, MQ below (Qh w un1 QH) (as.map (cvv w)).toArray s 1 6 (Aw (wO w un1))) ok rfl hZ (vx_table (x := M.1) B (hcw _ List.mem_cons_self)) ?_ s.heap [] _ hP va_S.rf hl
  intro H locs la pc k σ' o' cn hd hq h1 h2 c1 c2
  refine W.widen (k := 1) (n := 6) c1 c2 ?_
  show W p w.l e (Rc 8 1 6) s m (as.map (cvv w)).toArray below meth c H locs 1 6 (MQ below (Qh w un1 QH) (as.map (cvv w)).toArray s 1 6 (Aw (wO w un1))) (F0 m pc la [.int k])
  exact W.zret B.exec B.bytes (B.returns.trans hret) rfl (fun t ht hW => ⟨k, σ', o', rfl, hq, ⟨by rw [ht]; exact h1, va_K.moved hW.alike hK, nws_warm hW hN⟩, h2.F ht⟩) h2.2.2 hd B.notSynchronized
/-- a call that throws, caught at once: what the handler finds -/
theorem L_catch {w : Wp} {un1 : Nat → Nat} {x : Cx} {M : Md} {pc : Nat} {ls : List (Nat × Value)} {st : List Value} {σ : Mm} {o : Int64} {idx a n hp : Nat} {M' : Md} {As st0 : List Value} {en ct : Nat} (hL : Lf w un1) (oo : Ok sh1 (wO w un1) x RL M) (hZ : Zs w x.s) (htb : x.c.exceptionTable.toList = [⟨0, en, hp, ct⟩]) (hcv : pc < en) (hct : ct = 13) (hd : decode M.2.1 pc = .ok (.invokevirtual idx, 3)) (hl : LV RL idx 8 M' n) (hc : CX w M' (.ref a :: As) σ) (hk : sh0.2.1 a = 8) (hn : As.length = n) (hst : st0 = As.reverse ++ .ref a :: st) (hs : (st.map Value.category).sum ≤ 8) (hR : 6 + 1 ≤ x.R.frames ∧ 8 + (M'.2.2.1 + 11) + 240 ≤ x.R.locals) (hcs : 0 + 1 ≤ x.R.cells ∧ 0 + 6 ≤ x.R.slots)
    (k : ∀ H locs la (q9 : Nat), WH sh1 (wO w un1) (sO σ o) H → va_S (Aw (wO w un1)) x.s.heap H locs → lv_has la M.2.2.1 (ls.map (cvl w)) → W x.p w.l x.e x.R x.s x.m x.a x.b x.me x.c H locs (0 + 1) (0 + 6) x.F (F0 x.m hp la [.ref q9])) : V sh1 (wO w un1) x M (0, 0) pc ls st0 (sO σ o) := by
  have o0 : Ok sh0 w x RL M := ⟨hL.1, oo.2⟩
  intro H locs la h1 h2 h3
  obtain ⟨g1, g2⟩ := (WH1 hL).mp h1
  obtain ⟨hc10, hlc, hcl, hml, hin, hse, hi⟩ := hl
  have ha : a ∈ sh0.1 := o0.1.2.1 a (by rw [hk]; decide)
  obtain ⟨q, hq⟩ := Wws_get o0.1 σ ha
  rw [cll_obj hk hc10] at hq
  have hrec := va_recv o0.2.2.1 g1 (vwCl_at hc10) hq
  have hcat : ((st.map (cvv w)).map fun v => v.category).sum ≤ 8 := by
    rw [List.map_map]
    have e : ((fun v : Value => v.category) ∘ cvv w) = Value.category := by funext v; exact cvv_cat w v
    rw [e]; exact hs
  have bl : FrameBlind (va_Pc ((Value.ref a :: As).map (cvv w)) (fun u => Pw sh0 w σ u ∧ Zs w u)) := by
    intro a' u g mk z
    obtain ⟨z0, ⟨zP, zK, zN⟩, z1, z2, z3⟩ := z
    exact ⟨z0, ⟨zP, va_K.moved (u := u) (U := u.calling g mk a') (Vm.Alike.refl u.vm) zK, nws_same (s := u) (U := u.calling g mk a') rfl zN⟩, vx_Zq.moved (u := u) (U := u.calling g mk a') (Vm.Alike.refl u.vm) z1, vx_Zq.moved (u := u) (U := u.calling g mk a') (Vm.Alike.refl u.vm) z2, ZB_same (u := u) (U := u.calling g mk a') rfl z3⟩
  have run := vx_runV (meth := x.me) (below := x.b) (e := x.e) (As := As.map (cvv w)) (rest := st.map (cvv w)) (b := w.ad a) (C := RXn 8) (g := F0 x.m pc la (st0.map (cvv w))) (locs := locs) (cells := 0) (slots := 0) o0.2.1 hc ⟨callB_of (rm := Rc 6 1 6) n o0.2.1.2.2.2.2 (good_ws hlc) rfl rfl rfl (o0.2.1.2.2.2.2 _ (by rw [hcl]; exact hi)) (o0.2.1.2.2.2.2 _ hml) hlc.2 hR, o0.2.1.2.2.2.2 _ hin, o0.2.1.2.2.2.2 _ hse⟩ ⟨bl, hrec, fun u hu hW => ⟨rfl, ⟨by rw [hu]; exact g1, va_K.moved hW.alike o0.2.2.1, nws_warm hW o0.2.2.2⟩, hZ.to hW (fun z hz hb => by rw [hu]; exact h2.2.1 z hz (fun y => hb y.1))⟩⟩ rfl (by simpa using hn) h3.1 (by subst hst; simp [cvv]) (lv_room hcat) hd hcs
  intro T hT X
  rcases run T hT X with ⟨v, st₀, t, T', L, h0, X', hLc, e1, e2, ⟨r, σ', hv, hq, -⟩, stp⟩ | ⟨q9, st₀, t, T', L, E, ce, h0, X', hLc, e1, e2, ⟨u, -, ⟨hE, hP⟩, hz, hk9⟩, hce, hcv9, hcl9, stp⟩
  · exact hq.elim
  · subst hE
    rw [h0] at hz hk9
    have hS : va_S (Aw (wO w un1)) x.s.heap T'.heap (locs ++ L) := ⟨Nat.le_trans h2.1 (by rw [e1]; exact hz), fun q g3 g4 => by rw [e1, hk9 q (Nat.lt_of_lt_of_le g3 h2.1) (fun z => g4 (hL.2.2.2 q z))]; exact h2.2.1 q g3 g4, fun q hq => by
      rcases List.mem_append.mp hq with h | h
      · exact h2.2.2 q h
      · exact hL.2.2.2 _ (hLc q h)⟩
    have hO : va_at w.D vwCl (oCell w o) T'.heap := by
      rw [e1]
      exact g2.kept (hk9 _ g2.lt hL.2.2.1)
    have hcat9 : vx_W x.p w.l x.e x.R x.s x.m x.a x.b x.me x.c T'.heap (locs ++ L) (0 + 1) (0 + 6) x.F (F0 x.m pc la (st.map (cvv w))) q9 :=
      vx_catch (own := RL) (name := NSE) (E := NSE) (ce := ce) o0.2.1.2.2.2.1 [] ⟨0, en, hp, ct⟩ [] htb (fun z hz => by cases hz) (by simp [covers, hcv]) (by show ct ≠ 0; omega) (by rw [hct]; exact o0.2.1.2.2.2.2 _ cl_L13) (va_Nw.use rfl hZ.2.2.2.2.2) (by rw [e1]; exact hce) hcv9 hcl9 (k T'.heap (locs ++ L) la q9 ((WH1 hL).mpr ⟨by rw [e1]; exact hP, hO⟩) hS h3)
    obtain ⟨t2, a1, b1⟩ := hcat9 T' rfl X'
    exact ⟨t2, stp.trans a1, b1⟩
end HELP
