section ROWSB
variable {S : Sh} {w : Wp} {x : Cx} {own : String} {M : Md} {cn : Nat × Nat} {pc : Nat} {ls : List (Nat × Value)} {st : List Value} {σ : Mm}
theorem V_getIE {a ci j idx : Nat} {v : Int32} (o : Ok S w x own M) (hd : decode M.2.1 pc = .ok (.getfield idx, 3)) (hk : S.2.1 a = ci) (hl : FL own idx ci j) (hr : S.2.2.2 a j = none) (hv : σ.1 a j = v)
    (k : V S w x M cn (pc + 3) ls (.int v :: st) σ) : V S w x M cn pc ls (.ref a :: st) σ := V_getI o hd hk hl hr (by rw [hv]; exact k)
theorem V_ialdE {a n : Nat} {i v : Int32} (N : Nat) (o : Ok S w x own M) (hd : decode M.2.1 pc = .ok (.iaload, 1)) (hk : S.2.1 a = 10) (hl : S.2.2.1 a = N) (hi : i = nI n) (hn : n < N) (hN : Nat.ble N 2147483647 = true) (hv : σ.1 a n = v)
    (k : V S w x M cn (pc + 1) ls (.int v :: st) σ) : V S w x M cn pc ls (.int i :: .ref a :: st) σ := V_ialdN N o hd hk hl hi hn hN (by rw [hv]; exact k)
theorem V_topI {v v' : Int32} (h : v = v') (k : V S w x M cn pc ls (.int v' :: st) σ) : V S w x M cn pc ls (.int v :: st) σ := h ▸ k
theorem V_topL {v v' : Int64} (h : v = v') (k : V S w x M cn pc ls (.long v' :: st) σ) : V S w x M cn pc ls (.long v :: st) σ := h ▸ k
theorem V_loc {l' : List (Nat × Value)} (h : ls = l') (k : V S w x M cn pc l' st σ) : V S w x M cn pc ls st σ := h ▸ k
theorem V_drop2 {a b : Nat × Value} (k : V S w x M cn pc (a :: ls) st σ) : V S w x M cn pc (a :: b :: ls) st σ := V_sub (fun q h => by
  rcases List.mem_cons.mp h with h | h
  · rw [h]; exact List.mem_cons_self
  · exact List.mem_cons_of_mem _ (List.mem_cons_of_mem _ h)) k
theorem V_drop3 {a b c : Nat × Value} (k : V S w x M cn pc (a :: c :: ls) st σ) : V S w x M cn pc (a :: c :: b :: ls) st σ := V_sub (fun q h => by
  rcases List.mem_cons.mp h with h | h
  · rw [h]; exact List.mem_cons_self
  · rcases List.mem_cons.mp h with h | h
    · rw [h]; exact List.mem_cons_of_mem _ List.mem_cons_self
    · exact List.mem_cons_of_mem _ (List.mem_cons_of_mem _ (List.mem_cons_of_mem _ h))) k
end ROWSB
