section
theorem U_eq {w : Wp} {A : Nat → Prop} {x : Cx} {M : Md} {cn : Nat × Nat} {pc : Nat} {ls : List (Nat × Value)} {st : List Value} {ws ws' : va_W} (e : ws = ws') (k : U w A x M cn pc ls st ws') : U w A x M cn pc ls st ws := e ▸ k
theorem U_Vg {w : Wp} {x : Cx} {cn : Nat × Nat} {pc qo b : Nat} {σ : Mm} {qs : List Nat} (hl : qs.length = 78) (hm : sh0.1.map (adW qs qo b) = qs) (hb : b < x.s.heap.size) (k : ∀ (w1 : Wp) (un1 : Nat → Nat), Lf w1 un1 → w1.l = w.l → w1.D = w.D → w1.ty = w.ty → w1.B = x.s.heap.size → w1.ad 80 = b → ¬ Aw (wO w1 un1) b → V sh1 (wO w1 un1) x mL_law cn pc [(4, .int 0), (3, .ref 79), (2, .ref 67), (1, .ref 1), (0, .ref 80)] [] (sO σ 0)) : U w (fun q => x.s.heap.size ≤ q) x mL_law cn pc [(4, .int 0), (3, .ref qo), (2, .ref (adW qs qo b 67)), (1, .ref (adW qs qo b 1)), (0, .ref b)] [] (WL sh0 (wW w x.s.heap.size qs qo b) σ ++ [(qo, .inl (w.2.2.2.2.2.2.1, 1, .inr (.inl (fun _ => 0))))]) := by
  intro H locs la h1 h2 h3 h4
  have hmap : (WL sh0 (wW w x.s.heap.size qs qo b) σ ++ ([(qo, .inl (w.2.2.2.2.2.2.1, 1, .inr (.inl (fun _ => 0))))] : va_W)).map Prod.fst = qs ++ [qo] := by
    rw [List.map_append]
    unfold WL
    rw [List.map_map]
    show sh0.1.map (adW qs qo b) ++ [qo] = qs ++ [qo]
    rw [hm]
  have hn := nd_of h2
  rw [hmap] at hn
  have hB : ∀ q ∈ qs ++ [qo], x.s.heap.size ≤ q := fun q hq => by
    rw [← hmap] at hq
    obtain ⟨e, he, rfl⟩ := List.mem_map.mp hq
    obtain ⟨i, hi⟩ := List.getElem?_of_mem he
    exact h2.2 i e hi
  obtain ⟨hL, hnb⟩ := fitW (w := w) (B := x.s.heap.size) (qo := qo) (b := b) (qs := qs) hl hn hB hb
  refine va_forget (fun q hq => h3.2.2 q hq) ?_
  refine k (wW w x.s.heap.size qs qo b) (unO qs qo) hL rfl rfl rfl rfl rfl hnb H [] la ?_ ⟨h3.1, fun q g1 g2 => h3.2.1 q g1 (fun z => absurd g1 (Nat.not_lt.mpr z)), fun q hq => by cases hq⟩ h4
  unfold WH
  rw [WL_eq hL.2.1, WL1]
  exact h1
end
