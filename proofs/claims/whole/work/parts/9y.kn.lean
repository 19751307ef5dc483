section
/-! WHAT THE TABLES GIVE at the law's entry -/
theorem ln_L_8 : Ln RL 8 8 := ⟨by decide, gw_at 17 (by decide +kernel) rfl, gw_at 18 (by decide +kernel) rfl, gw_at 1 (by decide +kernel) rfl⟩
theorem li_L_19 : Li RL 19 mX8_init 0 := ⟨⟨gw_at 21 (by decide +kernel) rfl, by decide +kernel, by decide +kernel, by decide +kernel⟩, Or.inl (gw_at 19 (by decide +kernel) rfl), gw_at 20 (by decide +kernel) rfl, gw_at 1 (by decide +kernel) rfl, rfl, rfl⟩
theorem ln_L_20 : Ln RL 20 9 := ⟨by decide, gw_at 869 (by decide +kernel) rfl, gw_at 870 (by decide +kernel) rfl, gw_at 10 (by decide +kernel) rfl⟩
theorem li_L_22 : Li RL 22 mX9_init 0 := ⟨⟨gw_at 873 (by decide +kernel) rfl, by decide +kernel, by decide +kernel, by decide +kernel⟩, Or.inl (gw_at 871 (by decide +kernel) rfl), gw_at 872 (by decide +kernel) rfl, gw_at 10 (by decide +kernel) rfl, rfl, rfl⟩
theorem inst_k : ∀ k, k < 10 → Cond.instantiable (RXn k) (nf k) ∈ gw
  | 0, _ => gw_at 258 (by decide +kernel) rfl
  | 1, _ => gw_at 58 (by decide +kernel) rfl
  | 2, _ => gw_at 205 (by decide +kernel) rfl
  | 3, _ => gw_at 189 (by decide +kernel) rfl
  | 4, _ => gw_at 32 (by decide +kernel) rfl
  | 5, _ => gw_at 243 (by decide +kernel) rfl
  | 6, _ => gw_at 73 (by decide +kernel) rfl
  | 7, _ => gw_at 26 (by decide +kernel) rfl
  | 8, _ => gw_at 18 (by decide +kernel) rfl
  | 9, _ => gw_at 870 (by decide +kernel) rfl
  | k + 10, h => absurd h (by omega)
theorem kn_all {s : State} {args : Array Value} (hts : ∀ q ∈ gw, q.before args s = true) : ∃ D : va_G, ∀ (k : Nat) (q : vw_C), vwCl[k]? = some q → u_Kn s q.1 q.2.1 q.2.2 (D.1 k) (D.2 k) := by
  have h : ∀ k : Nat, ∃ ci : ClassId × (Nat → Nat), ∀ q : vw_C, vwCl[k]? = some q → u_Kn s q.1 q.2.1 q.2.2 ci.1 ci.2 := by
    intro k
    by_cases hk : k < 10
    · obtain ⟨cC, iS, h⟩ := u_known (C := RXn k) (T := TXn k) (N := nf k) hts (wsXn_in hk) (hts _ (inst_k k hk))
      refine ⟨(cC, iS), fun q hq => ?_⟩
      rw [vwCl_at hk] at hq
      cases hq
      exact h
    · refine ⟨(0, fun _ => 0), fun q hq => ?_⟩
      have hl : vwCl.length = 10 := rfl
      rw [List.getElem?_eq_none (by omega)] at hq
      cases hq
  obtain ⟨f, hf⟩ := Classical.axiomOfChoice h
  exact ⟨(fun k => (f k).1, fun k => (f k).2), fun k q hq => hf k q hq⟩
theorem ao_in : Cond.arrayOver (.object RX6) ∈ lw_tbl := List.mem_append_right _ (List.mem_of_getElem? (i := 56) (by decide +kernel))
theorem kv_all {s : State} {args : Array Value} (hts : ∀ q ∈ lw_tbl, q.before args s = true) : ∃ (D : va_G) (cI cL cT : ClassId), va_K D vwCl [(cI, .int), (cL, .long), (cT, .object RX6)] s ∧ va_AO RX6 s := by
  have hg : ∀ q ∈ gw, q.before args s = true := fun q hq => hts q (List.mem_filter.mp hq).1
  obtain ⟨D, hD⟩ := kn_all hg
  obtain ⟨cI, kI, pI, i1, i2, i3⟩ := Cond.arrayClass_spec (hg _ gw_aI)
  obtain ⟨cL, kL, pL, l1, l2, l3⟩ := Cond.arrayClass_spec (hg _ gw_aL)
  obtain ⟨pT, cT, kT, t1, t2, t3, t4, t5⟩ := Cond.arrayOver_spec (hts _ ao_in)
  refine ⟨D, cI, cL, cT, ⟨hD, fun k q hq => ?_⟩, va_AO.of (hts _ ao_in)⟩
  match k, hq with
  | 0, hq => cases hq; exact ⟨fun N z => ⟨(fun k h => by cases h), kI, i2, pI, i3⟩, i1⟩
  | 1, hq => cases hq; exact ⟨fun N z => ⟨(fun k h => by cases h), kL, l2, pL, l3⟩, l1⟩
  | 2, hq => cases hq; exact ⟨fun N z => ⟨(fun k h => by cases h), kT, t3, pT, t4⟩, kT, pT, t3, t4, t1, t5⟩
  | k + 3, hq => cases hq
theorem nw_all {s : State} {args : Array Value} (hts : ∀ q ∈ lw_tbl, q.before args s = true) : ∀ n ∈ nws, va_Nw n s := fun n hn => by
  have h := List.mem_filter.mp hn
  refine va_Nw.of ?_ (hts n h.1)
  revert h
  cases n <;> first | (intro _; rfl) | (rintro ⟨-, z⟩; cases z)
end
