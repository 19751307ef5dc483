section DROP
variable {S : Sh} {w : Wp} {x : Cx} {M : Md} {cn : Nat × Nat} {pc : Nat} {ls ls' : List (Nat × Value)} {st : List Value} {σ : Mm}
/-- what is known of more locals may be forgotten -/
theorem V_sub (h : ∀ q ∈ ls, q ∈ ls') (k : V S w x M cn pc ls st σ) : V S w x M cn pc ls' st σ := fun H locs la h1 h2 h3 =>
  k H locs la h1 h2 ⟨h3.1, h3.2.1, fun q hq => by
    obtain ⟨r, hr, e⟩ := List.mem_map.mp hq
    exact h3.2.2 q (List.mem_map.mpr ⟨r, h r hr, e⟩)⟩
theorem V_drop {q : Nat × Value} (k : V S w x M cn pc ls st σ) : V S w x M cn pc (q :: ls) st σ := V_sub (fun _ h => List.mem_cons_of_mem _ h) k
theorem V_mem {σ' : Mm} (h : σ = σ') (k : V S w x M cn pc ls st σ') : V S w x M cn pc ls st σ := h ▸ k
end DROP
def mnI (a b : Int32) : Int32 := if a ≤ b then a else b
def mxI (a b : Int32) : Int32 := if a < b then b else a
def abI (a : Int32) : Int32 := if a ≥ 0 then a else -a
/-- the log moves on by one -/
def shfM (M : Nat → Int32) : Nat → Int32 := itr (fun k M => uM M (15 + k) (M (15 + k + 5))) 0 195 M
def kpM (M : Nat → Int32) (q t : Nat) : Nat → Int32 :=
  uM (uM (uM (uM (uM (uM M (15 + 5 * q) (nI t)) (15 + 5 * q + 1) (M 6)) (15 + 5 * q + 2) (M (231 + t))) (15 + 5 * q + 3) (M (263 + t))) (15 + 5 * q + 4) (M (375 + t))) 14 (nI (q + 1))
def keepM (M : Nat → Int32) (r t : Nat) : Nat → Int32 := if r = 40 then kpM (uM (shfM M) 14 (nI 39)) 39 t else kpM M r t
def kpN (r : Nat) : Nat := if r = 40 then 40 else r + 1
theorem shfM_ne {M : Nat → Int32} {j : Nat} (h : j < 15 ∨ 210 ≤ j) : shfM M j = M j := by
  unfold shfM
  exact (itr_inv (fun _ (s : Nat → Int32) => s j = M j) 195 0 M rfl (fun k s h1 h2 hs => by rw [uM_ne _ _ (by omega)]; exact hs))
theorem kpM_ne {M : Nat → Int32} {q t j : Nat} (hq : q < 40) (h : j < 14 ∨ 215 ≤ j) : kpM M q t j = M j := by
  unfold kpM
  rw [uM_ne _ _ (by omega), uM_ne _ _ (by omega), uM_ne _ _ (by omega), uM_ne _ _ (by omega), uM_ne _ _ (by omega), uM_ne _ _ (by omega)]
theorem keepM_ne {M : Nat → Int32} {r t j : Nat} (hr : r ≤ 40) (h : j < 14 ∨ 215 ≤ j) : keepM M r t j = M j := by
  unfold keepM
  split
  · rw [kpM_ne (by omega) h, uM_ne _ _ (by omega), shfM_ne (by omega)]
  · exact kpM_ne (by omega) h
theorem keepM_14 {M : Nat → Int32} {r t : Nat} : keepM M r t 14 = nI (kpN r) := by
  unfold keepM kpN
  split <;> exact uM_self _ _ _
/-- what becomes of one that rang -/
def cmT (M : Nat → Int32) (t : Nat) : Nat → Int32 := if M (311 + t) > 0 then uM M (311 + t) (M (311 + t) + (-1)) else M
def cmN (M : Nat → Int32) (t : Nat) : Int32 := (M 6 - M (231 + t)) / M (295 + t) + 1
def cm1 (M : Nat → Int32) (t : Nat) : Nat → Int32 := uM M (231 + t) (M (231 + t) + cmN M t * M (295 + t))
def cmP (M : Nat → Int32) (s : Int32) (t : Nat) : Int32 := if s = 3 then mnI 1000 (2 * M (295 + t)) else M (295 + t)
def cm2 (M : Nat → Int32) (s : Int32) (t : Nat) : Nat → Int32 := uM M (295 + t) (cmP M s t)
def cmS (M : Nat → Int32) (s : Int32) (t : Nat) : Nat → Int32 :=
  if s = 1 then uM (cm1 M t) 9 (cm1 M t 9 + (cmN M t - 1)) else uM (cm2 M s t) (231 + t) (cm2 M s t 6 + cm2 M s t (295 + t))
def comesM (M : Nat → Int32) (L t : Nat) : Nat → Int32 :=
  if M (311 + t) = 1 ∨ M (279 + t) = 0 then uM M (215 + t) 0 else layM (cmS (cmT M t) (M (279 + t)) t) L t
theorem cmT_ne {M : Nat → Int32} {t j : Nat} (h : j ≠ 311 + t) : cmT M t j = M j := by
  unfold cmT
  split
  · exact uM_ne _ _ h
  · rfl
theorem cmS_ne {M : Nat → Int32} {s : Int32} {t j : Nat} (h : j ≠ 231 + t) (h2 : j ≠ 295 + t) (h9 : j ≠ 9) : cmS M s t j = M j := by
  unfold cmS cm1 cm2
  split
  · rw [uM_ne _ _ h9, uM_ne _ _ h]
  · rw [uM_ne _ _ h, uM_ne _ _ h2]
theorem comesM_lo {M : Nat → Int32} {L t j : Nat} (h : j < 215) (h9 : j ≠ 9) : comesM M L t j = M j := by
  unfold comesM
  split
  · exact uM_ne _ _ (by omega)
  · rw [layM_ne (by omega), cmS_ne (by omega) (by omega) h9, cmT_ne (by omega)]
theorem Wf_comes {M : Nat → Int32} {L t : Nat} (h : Wf M L) : Wf (comesM M L t) L := Wf_same h (fun j hj => comesM_lo (by omega) (by omega))
section OFF
theorem Met_ofF {l : Launch} {y : MethodName} {ws ws' : List Cond} {rm : Room} {Pc : Array Value → State → Prop} {Qc : Array Value → State → Outcome → State → Prop} {mc ms : Nat} {free : Addr → Prop} {cc : ByteArray} {maxL : Nat} {ret : Option FieldType}
    (hy : plainFor y = true) (hw : ws = Cond.code y cc maxL ret :: ws')
    (body : ∀ p e s m args below meth c s₁, BodyLoose p l y (headSpec ws rm) cc maxL ret e s m args below meth c s₁ → c.maxLocals = maxL → Pc args s →
      W p l e (headSpec ws rm).room s m args below meth c s.heap [] 0 0 (MQ below Qc args s mc ms free) (entryFrame m args maxL)) : Met l y ws rm Pc Qc mc ms free := by
  refine MetFree.of_bodySF (code := cc) (maxLocals := maxL) (ret := ret) hy ?_ ?_
  · intro args s m h hn
    obtain ⟨meth, c, h1, h2, h3, h4, h5, h6, -, -⟩ := Cond.code_spec hn (atoms_spec (ws := ws) h _ (by rw [hw]; exact List.mem_cons_self))
    exact ⟨meth, c, h1, h2, h3, h4, h5, h6⟩
  · intro p e s m args below meth c s₁ B hml hP _
    have hh0 : s₁.heap = s.heap := by rw [B.state]; rfl
    obtain ⟨t, a1, o, b1, b2, b3⟩ := body p e s m args below meth c s₁ B hml hP s₁ hh0 (Stand.of_body B)
    exact ⟨t, o, a1, b1, b2, ⟨b3.1, b3.2⟩⟩
theorem Ct_ofF {S : Sh} {w : Wp} {d : Nat} {M : Md} {as : List Value} {ls : List (Nat × Value)} {σ : Mm} {Q : Option Value → Mm → Prop} (hf : Fit S w) (hp : plainFor M.1 = true) (hls : lv_args 0 as = ls) (hn : (lg_sl (as.map (cvv w))).length ≤ M.2.2.1)
    (h : ∀ x : Cx, Ok S w x M.1.cls M → Rt S w x d M Q → V S w x M (0, 0) 0 ls [] σ) : Ct S w d M as σ Q := by
  refine Met_ofF (cc := M.2.1) (maxL := M.2.2.1) (ret := M.2.2.2) hp rfl ?_
  intro p e s m args below meth c s₁ B hml hv
  obtain ⟨rfl, hP, hK, hN⟩ := hv
  have hts : ∀ q ∈ gw, q.before (as.map (cvv w)).toArray s = true := fun q hq => atoms_spec (ws := Cond.code M.1 M.2.1 M.2.2.1 M.2.2.2 :: gw) B.pre q (List.mem_cons_of_mem _ hq)
  have hown : s.vm.findClass M.1.cls = some m.cls := findClass_of_methodNamed B.named
  have hl := lv_entry (as.map (cvv w)) (n := M.2.2.1) hn
  rw [lg_entry_eq]
  rw [args_map, hls] at hl
  exact h (p, e, Rm d, s, m, (as.map (cvv w)).toArray, below, meth, c, MQ below (Qw S w Q) (as.map (cvv w)).toArray s 0 0 (Aw w)) ⟨hf, ⟨B.exec, B.bytes, hml, hown, hts⟩, hK, hN⟩ ⟨rfl, rfl, B.returns, B.notSynchronized⟩ s.heap [] _ hP va_S.rf hl
end OFF
theorem ndec {a : Int32} {k : Nat} (h : a = nI (k + 1)) : a + Int32.ofInt (-1) = nI k := by
  rw [h, ← nI_pred k, Int32.sub_eq_add_neg]
  rfl
