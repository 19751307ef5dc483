section
/-! FROM THE ENTRY to the first step -/
section
variable {w : Wp} {A : Nat → Prop} {x : Cx} {own : String} {M : Md} {cn : Nat × Nat} {pc : Nat} {ls : List (Nat × Value)} {st : List Value} {ws : va_W}
theorem U_astore_n {n : Fin 4} {i v : Nat} {ls' : List (Nat × Value)} (o : Ou w A x own M) (hd : decode M.2.1 pc = .ok (.astore_n n, 1)) (hi : (n : Nat) = i) (hn : i < M.2.2.1) (hs : st1 ls i (.ref v) = ls') (k : U w A x M cn (pc + 1) ls' st ws) : U w A x M cn pc ls (.ref v :: st) ws := fun H locs la h1 h2 h3 h4 => lv_astore_n o.1.1 o.1.2.1 hd hi h4 hn rfl (fun la' h' => k H locs la' h1 h2 h3 (hs ▸ h'))
theorem U_istore {i : Nat} {v : Int32} {ls' : List (Nat × Value)} (o : Ou w A x own M) (hd : decode M.2.1 pc = .ok (.istore i, 2)) (hn : i < M.2.2.1) (hs : st1 ls i (.int v) = ls') (k : U w A x M cn (pc + 2) ls' st ws) : U w A x M cn pc ls (.int v :: st) ws := fun H locs la h1 h2 h3 h4 => lv_istore o.1.1 o.1.2.1 hd h4 hn rfl (fun la' h' => k H locs la' h1 h2 h3 (hs ▸ h'))
/-- a row of references told by other words -/
theorem U_tf {q0 a n : Nat} {cA : ClassId} {f g : Nat → Option Nat} {ws' : va_W} (hq : ws[q0]? = some (a, .inl (cA, n, .inr (.inr (.inr (.inr f)))))) (h : ∀ j, j < n → f j = g j) (hw : ws.set q0 (a, .inl (cA, n, .inr (.inr (.inr (.inr g))))) = ws') (k : U w A x M cn pc ls st ws') : U w A x M cn pc ls st ws := fun H locs la h1 h2 h3 h4 => by
  have hlt := (List.getElem?_eq_some_iff.mp hq).1
  have get : ∀ (j : Nat) (p : Nat × va_E), ws'[j]? = some p → ∃ e, ws[j]? = some (p.1, e) ∧ (j ≠ q0 → e = p.2) := fun j p hj => by
    rw [← hw] at hj
    by_cases e : j = q0
    · subst e
      rw [List.getElem?_set_self hlt] at hj
      cases hj
      exact ⟨_, hq, fun z => absurd rfl z⟩
    · rw [List.getElem?_set_ne (Ne.symm e)] at hj
      exact ⟨p.2, hj, fun _ => rfl⟩
  refine k H locs la (fun j p hj => ?_) ⟨fun i j p q hi hj e => ?_, fun j p hj => ?_⟩ h3 h4
  · by_cases e : j = q0
    · subst e
      rw [← hw, List.getElem?_set_self hlt] at hj
      cases hj
      have g1 : H[a]? = some (arrV cA n (fun j => va_rf (f j))) := h1 j _ hq
      show H[a]? = some (arrV cA n (fun j => va_rf (g j)))
      rw [g1, arrV_cg (g := fun j => va_rf (g j)) (fun j hj => by rw [h j hj])]
    · rw [← hw, List.getElem?_set_ne (Ne.symm e)] at hj
      exact h1 j p hj
  · obtain ⟨e1, g1, -⟩ := get i p hi
    obtain ⟨e2, g2, -⟩ := get j q hj
    exact h2.1 i j (p.1, e1) (q.1, e2) g1 g2 e
  · obtain ⟨e1, g1, -⟩ := get j p hj
    exact h2.2 j (p.1, e1) g1
end
/-- addresses of the law's world -/
def adW (qs : List Nat) (qo b : Nat) : Nat → Nat := fun a => if a = 79 then qo else if a = 80 then b else adL 1 qs a
def unW (qs : List Nat) : Nat → Nat := fun q => if ixL qs q < 78 then 1 + ixL qs q else 0
def unO (qs : List Nat) (qo : Nat) : Nat → Nat := fun q => if q = qo then 79 else unW qs q
def wW (w : Wp) (B : Nat) (qs : List Nat) (qo b : Nat) : Wp := (w.1, B, adW qs qo b, unW qs, w.2.2.2.2)
theorem kd_lt {a : Nat} (h : kd0 a < 14) : 1 ≤ a ∧ a < 79 := by
  by_cases e : a < 79
  · refine ⟨?_, e⟩
    cases a with
    | zero => exact absurd h (by decide)
    | succ a => omega
  · have hk : kd0 a = 99 := by
      unfold kd0
      rw [List.getD_eq_getElem?_getD, List.getElem?_eq_none (show kdl.length ≤ a by have : kdl.length = 79 := rfl; omega)]
      rfl
    rw [hk] at h
    omega
theorem mem78 {a : Nat} : a ∈ sh0.1 ↔ 1 ≤ a ∧ a < 79 := by
  have e : sh0.1 = (List.range 79).drop 1 := rfl
  rw [e, List.mem_iff_getElem?]
  constructor
  · rintro ⟨i, hi⟩
    rw [List.getElem?_drop] at hi
    have := List.getElem?_eq_some_iff.mp hi
    obtain ⟨h1, h2⟩ := this
    rw [List.length_range] at h1
    rw [List.getElem_range] at h2
    omega
  · rintro ⟨h1, h2⟩
    refine ⟨a - 1, ?_⟩
    rw [List.getElem?_drop, show 1 + (a - 1) = a by omega, List.getElem?_range h2]
theorem mem79 {a : Nat} : a ∈ sh1.1 ↔ 1 ≤ a ∧ a < 80 := by
  have e : sh1.1 = (List.range 80).drop 1 := rfl
  rw [e, List.mem_iff_getElem?]
  constructor
  · rintro ⟨i, hi⟩
    rw [List.getElem?_drop] at hi
    have := List.getElem?_eq_some_iff.mp hi
    obtain ⟨h1, h2⟩ := this
    rw [List.length_range] at h1
    rw [List.getElem_range] at h2
    omega
  · rintro ⟨h1, h2⟩
    refine ⟨a - 1, ?_⟩
    rw [List.getElem?_drop, show 1 + (a - 1) = a by omega, List.getElem?_range h2]
theorem ixL_lt : ∀ (qs : List Nat) (q : Nat), ixL qs q < qs.length → q ∈ qs
  | [], _, h => absurd h (Nat.not_lt_zero _)
  | a :: qs, q, h => by
    unfold ixL at h
    by_cases e : q = a
    · rw [e]; exact List.mem_cons_self
    · rw [if_neg e] at h
      exact List.mem_cons_of_mem _ (ixL_lt qs q (Nat.lt_of_succ_lt_succ h))
/-- they fit -/
theorem fitW {w : Wp} {B qo b : Nat} {qs : List Nat} (hl : qs.length = 78) (hn : (qs ++ [qo]).Nodup) (hB : ∀ q ∈ qs ++ [qo], B ≤ q) (hb : b < B) : Lf (wW w B qs qo b) (unO qs qo) ∧ ¬ Aw (wO (wW w B qs qo b) (unO qs qo)) b := by
  have hq := List.nodup_append.mp hn
  have hqo : qo ∉ qs := fun h => hq.2.2 qo h qo (List.mem_singleton_self qo) rfl
  have adm : ∀ a, 1 ≤ a → a < 79 → adW qs qo b a = adL 1 qs a := fun a h1 h2 => by
    unfold adW
    rw [if_neg (by omega), if_neg (by omega)]
  have mem : ∀ a, 1 ≤ a → a < 79 → adL 1 qs a ∈ qs := fun a h1 h2 => getD_mem qs (a - 1) (by omega)
  have una : ∀ a, 1 ≤ a → a < 79 → unW qs (adL 1 qs a) = a := fun a h1 h2 => by
    unfold unW adL
    rw [ixL_get qs hq.1 (a - 1) (by omega), if_pos (by omega)]
    omega
  have a79 : adW qs qo b 79 = qo := if_pos rfl
  have f0 : Fit sh0 (wW w B qs qo b) := ⟨by decide, fun a h => mem78.mpr (kd_lt h), fun a h => by
    obtain ⟨h1, h2⟩ := mem78.mp h
    refine ⟨?_, ?_⟩
    · show unW qs (adW qs qo b a) = a
      rw [adm a h1 h2, una a h1 h2]
    · show B ≤ adW qs qo b a
      rw [adm a h1 h2]
      exact hB _ (List.mem_append_left _ (mem a h1 h2))⟩
  have f1 : Fit sh1 (wO (wW w B qs qo b) (unO qs qo)) := ⟨by decide, fun a h => by
    change (if a = 79 then 11 else kd0 a) < 14 at h
    by_cases e : a = 79
    · subst e; exact mem79.mpr (by omega)
    · rw [if_neg e] at h
      have := kd_lt h
      exact mem79.mpr (by omega), fun a h => by
    obtain ⟨h1, h2⟩ := mem79.mp h
    by_cases e : a = 79
    · subst e
      refine ⟨?_, ?_⟩
      · show unO qs qo (adW qs qo b 79) = 79
        rw [a79]
        exact if_pos rfl
      · show B ≤ adW qs qo b 79
        rw [a79]
        exact hB _ (List.mem_append_right _ (List.mem_singleton_self _))
    · refine ⟨?_, ?_⟩
      · show unO qs qo (adW qs qo b a) = a
        rw [adm a h1 (by omega)]
        unfold unO
        have hz : adL 1 qs a ≠ qo := fun z => by
          have hm := mem a h1 (by omega)
          rw [z] at hm
          exact hqo hm
        rw [if_neg hz, una a h1 (by omega)]
      · show B ≤ adW qs qo b a
        rw [adm a h1 (by omega)]
        exact hB _ (List.mem_append_left _ (mem a h1 (by omega)))⟩
  have nq : ¬ Aw (wW w B qs qo b) qo := fun h => by
    have h2 : adW qs qo b (unW qs qo) = qo := h.2
    unfold unW at h2
    by_cases e : ixL qs qo < 78
    · exact hqo (ixL_lt qs qo (by omega))
    · rw [if_neg e] at h2
      have h3 : adL 1 qs 0 = qo := h2
      have h4 : adL 1 qs 0 ∈ qs := getD_mem qs (0 - 1) (by omega)
      rw [h3] at h4
      exact hqo h4
  refine ⟨⟨f0, f1, ?_, fun q h => ?_⟩, fun h => absurd (show B ≤ b from h.1) (by omega)⟩
  · show ¬ Aw (wW w B qs qo b) (adW qs qo b 79)
    rw [a79]
    exact nq
  · refine ⟨h.1, ?_⟩
    show adW qs qo b (unO qs qo q) = q
    unfold unO
    by_cases e : q = qo
    · subst e; exact absurd h nq
    · rw [if_neg e]
      exact h.2
end
