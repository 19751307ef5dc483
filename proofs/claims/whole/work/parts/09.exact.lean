section EXACT
/-- an exact contract: the answer and the memory behind it -/
def Cf (S : Sh) (w : Wp) (d : Nat) (M : Md) (as : List Value) (σ : Mm) (r : Option Value) (τ : Mm) : Prop := Ct S w d M as σ (fun r' σ' => r' = r ∧ σ' = τ)
variable {S : Sh} {w : Wp} {x : Cx} {own : String} {M : Md} {pc d : Nat} {ls : List (Nat × Value)} {st : List Value} {σ τ : Mm} {Q' : Option Value → Mm → Prop}
theorem V_cVi {idx ci a n d' : Nat} {v : Int32} {M' : Md} {As st0 : List Value} (o : Ok S w x own M) (r : Rt S w x d M Q') (hd : decode M.2.1 pc = .ok (.invokevirtual idx, 3)) (hl : LV own idx ci M' n) (hc : Cf S w d' M' (.ref a :: As) σ (some (.int v)) τ) (hk : S.2.1 a = ci) (hn : As.length = n) (hst : st0 = As.reverse ++ .ref a :: st) (hs : (st.map Value.category).sum ≤ 8) (hR : (Nat.ble (d' + 1) d && Nat.ble (8 + (M'.2.2.1 + 11) + 40 * d') (40 * d)) = true) (k : V S w x M (0, 0) (pc + 3) ls (.int v :: st) τ) : V S w x M (0, 0) pc ls st0 σ := V_callV o r hd hl hc hk hn hst hs hR (fun r' σ' q => by obtain ⟨q1, q2⟩ := q; subst q1; subst q2; exact k)
theorem V_cVl {idx ci a n d' : Nat} {v : Int64} {M' : Md} {As st0 : List Value} (o : Ok S w x own M) (r : Rt S w x d M Q') (hd : decode M.2.1 pc = .ok (.invokevirtual idx, 3)) (hl : LV own idx ci M' n) (hc : Cf S w d' M' (.ref a :: As) σ (some (.long v)) τ) (hk : S.2.1 a = ci) (hn : As.length = n) (hst : st0 = As.reverse ++ .ref a :: st) (hs : (st.map Value.category).sum ≤ 8) (hR : (Nat.ble (d' + 1) d && Nat.ble (8 + (M'.2.2.1 + 11) + 40 * d') (40 * d)) = true) (k : V S w x M (0, 0) (pc + 3) ls (.long v :: st) τ) : V S w x M (0, 0) pc ls st0 σ := V_callV o r hd hl hc hk hn hst hs hR (fun r' σ' q => by obtain ⟨q1, q2⟩ := q; subst q1; subst q2; exact k)
theorem V_cVr {idx ci a n d' : Nat} {v : Nat} {M' : Md} {As st0 : List Value} (o : Ok S w x own M) (r : Rt S w x d M Q') (hd : decode M.2.1 pc = .ok (.invokevirtual idx, 3)) (hl : LV own idx ci M' n) (hc : Cf S w d' M' (.ref a :: As) σ (some (.ref v)) τ) (hk : S.2.1 a = ci) (hn : As.length = n) (hst : st0 = As.reverse ++ .ref a :: st) (hs : (st.map Value.category).sum ≤ 8) (hR : (Nat.ble (d' + 1) d && Nat.ble (8 + (M'.2.2.1 + 11) + 40 * d') (40 * d)) = true) (k : V S w x M (0, 0) (pc + 3) ls (.ref v :: st) τ) : V S w x M (0, 0) pc ls st0 σ := V_callV o r hd hl hc hk hn hst hs hR (fun r' σ' q => by obtain ⟨q1, q2⟩ := q; subst q1; subst q2; exact k)
theorem V_cVn {idx ci a n d' : Nat}  {M' : Md} {As st0 : List Value} (o : Ok S w x own M) (r : Rt S w x d M Q') (hd : decode M.2.1 pc = .ok (.invokevirtual idx, 3)) (hl : LV own idx ci M' n) (hc : Cf S w d' M' (.ref a :: As) σ (some .null) τ) (hk : S.2.1 a = ci) (hn : As.length = n) (hst : st0 = As.reverse ++ .ref a :: st) (hs : (st.map Value.category).sum ≤ 8) (hR : (Nat.ble (d' + 1) d && Nat.ble (8 + (M'.2.2.1 + 11) + 40 * d') (40 * d)) = true) (k : V S w x M (0, 0) (pc + 3) ls (.null :: st) τ) : V S w x M (0, 0) pc ls st0 σ := V_callV o r hd hl hc hk hn hst hs hR (fun r' σ' q => by obtain ⟨q1, q2⟩ := q; subst q1; subst q2; exact k)
theorem V_cVv {idx ci a n d' : Nat}  {M' : Md} {As st0 : List Value} (o : Ok S w x own M) (r : Rt S w x d M Q') (hd : decode M.2.1 pc = .ok (.invokevirtual idx, 3)) (hl : LV own idx ci M' n) (hc : Cf S w d' M' (.ref a :: As) σ none τ) (hk : S.2.1 a = ci) (hn : As.length = n) (hst : st0 = As.reverse ++ .ref a :: st) (hs : (st.map Value.category).sum ≤ 8) (hR : (Nat.ble (d' + 1) d && Nat.ble (8 + (M'.2.2.1 + 11) + 40 * d') (40 * d)) = true) (k : V S w x M (0, 0) (pc + 3) ls (st) τ) : V S w x M (0, 0) pc ls st0 σ := V_callV o r hd hl hc hk hn hst hs hR (fun r' σ' q => by obtain ⟨q1, q2⟩ := q; subst q1; subst q2; exact k)
theorem V_cSi {idx n d' : Nat} {v : Int32} {M' : Md} {As st0 : List Value} (o : Ok S w x own M) (r : Rt S w x d M Q') (hd : decode M.2.1 pc = .ok (.invokestatic idx, 3)) (hl : Lst own idx M' n) (hc : Cf S w d' M' As σ (some (.int v)) τ) (hn : As.length = n) (hst : st0 = As.reverse ++ st) (hs : (st.map Value.category).sum ≤ 8) (hR : (Nat.ble (d' + 1) d && Nat.ble (8 + (M'.2.2.1 + 11) + 40 * d') (40 * d)) = true) (k : V S w x M (0, 0) (pc + 3) ls (.int v :: st) τ) : V S w x M (0, 0) pc ls st0 σ := V_callS o r hd hl hc hn hst hs hR (fun r' σ' q => by obtain ⟨q1, q2⟩ := q; subst q1; subst q2; exact k)
theorem V_cSl {idx n d' : Nat} {v : Int64} {M' : Md} {As st0 : List Value} (o : Ok S w x own M) (r : Rt S w x d M Q') (hd : decode M.2.1 pc = .ok (.invokestatic idx, 3)) (hl : Lst own idx M' n) (hc : Cf S w d' M' As σ (some (.long v)) τ) (hn : As.length = n) (hst : st0 = As.reverse ++ st) (hs : (st.map Value.category).sum ≤ 8) (hR : (Nat.ble (d' + 1) d && Nat.ble (8 + (M'.2.2.1 + 11) + 40 * d') (40 * d)) = true) (k : V S w x M (0, 0) (pc + 3) ls (.long v :: st) τ) : V S w x M (0, 0) pc ls st0 σ := V_callS o r hd hl hc hn hst hs hR (fun r' σ' q => by obtain ⟨q1, q2⟩ := q; subst q1; subst q2; exact k)
theorem V_cSr {idx n d' : Nat} {v : Nat} {M' : Md} {As st0 : List Value} (o : Ok S w x own M) (r : Rt S w x d M Q') (hd : decode M.2.1 pc = .ok (.invokestatic idx, 3)) (hl : Lst own idx M' n) (hc : Cf S w d' M' As σ (some (.ref v)) τ) (hn : As.length = n) (hst : st0 = As.reverse ++ st) (hs : (st.map Value.category).sum ≤ 8) (hR : (Nat.ble (d' + 1) d && Nat.ble (8 + (M'.2.2.1 + 11) + 40 * d') (40 * d)) = true) (k : V S w x M (0, 0) (pc + 3) ls (.ref v :: st) τ) : V S w x M (0, 0) pc ls st0 σ := V_callS o r hd hl hc hn hst hs hR (fun r' σ' q => by obtain ⟨q1, q2⟩ := q; subst q1; subst q2; exact k)
theorem V_cSn {idx n d' : Nat}  {M' : Md} {As st0 : List Value} (o : Ok S w x own M) (r : Rt S w x d M Q') (hd : decode M.2.1 pc = .ok (.invokestatic idx, 3)) (hl : Lst own idx M' n) (hc : Cf S w d' M' As σ (some .null) τ) (hn : As.length = n) (hst : st0 = As.reverse ++ st) (hs : (st.map Value.category).sum ≤ 8) (hR : (Nat.ble (d' + 1) d && Nat.ble (8 + (M'.2.2.1 + 11) + 40 * d') (40 * d)) = true) (k : V S w x M (0, 0) (pc + 3) ls (.null :: st) τ) : V S w x M (0, 0) pc ls st0 σ := V_callS o r hd hl hc hn hst hs hR (fun r' σ' q => by obtain ⟨q1, q2⟩ := q; subst q1; subst q2; exact k)
theorem V_cSv {idx n d' : Nat}  {M' : Md} {As st0 : List Value} (o : Ok S w x own M) (r : Rt S w x d M Q') (hd : decode M.2.1 pc = .ok (.invokestatic idx, 3)) (hl : Lst own idx M' n) (hc : Cf S w d' M' As σ none τ) (hn : As.length = n) (hst : st0 = As.reverse ++ st) (hs : (st.map Value.category).sum ≤ 8) (hR : (Nat.ble (d' + 1) d && Nat.ble (8 + (M'.2.2.1 + 11) + 40 * d') (40 * d)) = true) (k : V S w x M (0, 0) (pc + 3) ls (st) τ) : V S w x M (0, 0) pc ls st0 σ := V_callS o r hd hl hc hn hst hs hR (fun r' σ' q => by obtain ⟨q1, q2⟩ := q; subst q1; subst q2; exact k)
theorem V_cSNi {idx n d' : Nat} {v : Int32} {M' : Md} {As st0 : List Value} (o : Ok S w x own M) (r : Rt S w x d M Q') (hd : decode M.2.1 pc = .ok (.invokestatic idx, 3)) (hl : Lsn own idx M' n) (hc : Cf S w d' M' As σ (some (.int v)) τ) (hn : As.length = n) (hst : st0 = As.reverse ++ st) (hs : (st.map Value.category).sum ≤ 8) (hR : (Nat.ble (d' + 1) d && Nat.ble (8 + (M'.2.2.1 + 11) + 40 * d') (40 * d)) = true) (k : V S w x M (0, 0) (pc + 3) ls (.int v :: st) τ) : V S w x M (0, 0) pc ls st0 σ := V_callSN o r hd hl hc hn hst hs hR (fun r' σ' q => by obtain ⟨q1, q2⟩ := q; subst q1; subst q2; exact k)
theorem V_cSNl {idx n d' : Nat} {v : Int64} {M' : Md} {As st0 : List Value} (o : Ok S w x own M) (r : Rt S w x d M Q') (hd : decode M.2.1 pc = .ok (.invokestatic idx, 3)) (hl : Lsn own idx M' n) (hc : Cf S w d' M' As σ (some (.long v)) τ) (hn : As.length = n) (hst : st0 = As.reverse ++ st) (hs : (st.map Value.category).sum ≤ 8) (hR : (Nat.ble (d' + 1) d && Nat.ble (8 + (M'.2.2.1 + 11) + 40 * d') (40 * d)) = true) (k : V S w x M (0, 0) (pc + 3) ls (.long v :: st) τ) : V S w x M (0, 0) pc ls st0 σ := V_callSN o r hd hl hc hn hst hs hR (fun r' σ' q => by obtain ⟨q1, q2⟩ := q; subst q1; subst q2; exact k)
theorem V_cSNr {idx n d' : Nat} {v : Nat} {M' : Md} {As st0 : List Value} (o : Ok S w x own M) (r : Rt S w x d M Q') (hd : decode M.2.1 pc = .ok (.invokestatic idx, 3)) (hl : Lsn own idx M' n) (hc : Cf S w d' M' As σ (some (.ref v)) τ) (hn : As.length = n) (hst : st0 = As.reverse ++ st) (hs : (st.map Value.category).sum ≤ 8) (hR : (Nat.ble (d' + 1) d && Nat.ble (8 + (M'.2.2.1 + 11) + 40 * d') (40 * d)) = true) (k : V S w x M (0, 0) (pc + 3) ls (.ref v :: st) τ) : V S w x M (0, 0) pc ls st0 σ := V_callSN o r hd hl hc hn hst hs hR (fun r' σ' q => by obtain ⟨q1, q2⟩ := q; subst q1; subst q2; exact k)
theorem V_cSNn {idx n d' : Nat}  {M' : Md} {As st0 : List Value} (o : Ok S w x own M) (r : Rt S w x d M Q') (hd : decode M.2.1 pc = .ok (.invokestatic idx, 3)) (hl : Lsn own idx M' n) (hc : Cf S w d' M' As σ (some .null) τ) (hn : As.length = n) (hst : st0 = As.reverse ++ st) (hs : (st.map Value.category).sum ≤ 8) (hR : (Nat.ble (d' + 1) d && Nat.ble (8 + (M'.2.2.1 + 11) + 40 * d') (40 * d)) = true) (k : V S w x M (0, 0) (pc + 3) ls (.null :: st) τ) : V S w x M (0, 0) pc ls st0 σ := V_callSN o r hd hl hc hn hst hs hR (fun r' σ' q => by obtain ⟨q1, q2⟩ := q; subst q1; subst q2; exact k)
theorem V_cSNv {idx n d' : Nat}  {M' : Md} {As st0 : List Value} (o : Ok S w x own M) (r : Rt S w x d M Q') (hd : decode M.2.1 pc = .ok (.invokestatic idx, 3)) (hl : Lsn own idx M' n) (hc : Cf S w d' M' As σ none τ) (hn : As.length = n) (hst : st0 = As.reverse ++ st) (hs : (st.map Value.category).sum ≤ 8) (hR : (Nat.ble (d' + 1) d && Nat.ble (8 + (M'.2.2.1 + 11) + 40 * d') (40 * d)) = true) (k : V S w x M (0, 0) (pc + 3) ls (st) τ) : V S w x M (0, 0) pc ls st0 σ := V_callSN o r hd hl hc hn hst hs hR (fun r' σ' q => by obtain ⟨q1, q2⟩ := q; subst q1; subst q2; exact k)
end EXACT
/-! THE SHAPE: 0 the script; 1 DueWheels; 2 .. 24 its works 'now' (3 shape, 4 sizes, 5 spans, 6 timers, 7 line, 8 the line's row, 9 .. 24 the timers), 25 .. 47 'then' likewise; 48 the other shape, 49, 50; 51 groups; 52 row, 53; 54 log, 55 .. 59; 60 text, 61; 62 acts, 63 .. 66; 67 the reference, 68 row, 69 tape, 70 mem, 71 line, 72 heard, 73 heardWith, 74 wish, 75 act, 76 wayClock, 77 wayLevel, 78 byGroup -/
def kdl : List Nat := [99, 8, 7, 4, 10, 10, 13, 1, 12, 6, 6, 6, 6, 6, 6, 6, 6, 6, 6, 6, 6, 6, 6, 6, 6, 7, 4, 10, 10, 13, 1, 12, 6, 6, 6, 6, 6, 6, 6, 6, 6, 6, 6, 6, 6, 6, 6, 6, 4, 10, 10, 10, 3, 11, 2, 10, 10, 10, 10, 10, 5, 10, 0, 10, 10, 10, 10, 9, 11, 10, 10, 10, 10, 10, 10, 10, 10, 10, 10]
def lnl : List Nat := [0, 0, 0, 0, 4, 4, 16, 0, 16, 0, 0, 0, 0, 0, 0, 0, 0, 0, 0, 0, 0, 0, 0, 0, 0, 0, 0, 4, 4, 16, 0, 16, 0, 0, 0, 0, 0, 0, 0, 0, 0, 0, 0, 0, 0, 0, 0, 0, 0, 4, 4, 8, 0, 40, 0, 40, 40, 40, 40, 40, 0, 100, 0, 34, 34, 34, 34, 0, 64, 100, 846, 16, 2000, 2000, 4, 400, 8, 8, 8]
def kd0 (a : Nat) : Nat := kdl.getD a 99
def ln0 (a : Nat) : Nat := lnl.getD a 0
def rck (k a j : Nat) : Option Nat := match k with
  | 0 => if j < 4 then some (a + 1 + j) else none
  | 1 => if j = 0 then some (a + 1) else none
  | 2 => if j < 5 then some (a + 1 + j) else none
  | 3 => if j = 0 then some (a + 1) else none
  | 4 => if j < 2 then some (a + 1 + j) else none
  | 5 => if j = 0 then some (a + 1) else none
  | 7 => match j with | 0 => some (a + 1) | 1 => some (a + 4) | 2 => some (a + 5) | _ => none
  | 8 => match j with | 0 => some 2 | 1 => some 25 | 2 => some 48 | 3 => some 51 | 4 => some 52 | 5 => some 54 | 6 => some 60 | 7 => some 62 | _ => none
  | 9 => match j with | 2 => some 68 | 3 => some 69 | 7 => some 70 | 9 => some 71 | 11 => some 72 | 12 => some 73 | 14 => some 74 | 15 => some 75 | 16 => some 76 | 17 => some 77 | 20 => some 78 | _ => none
  | _ => none
def rc0 (a j : Nat) : Option Nat := rck (kd0 a) a j
def sh0 : Sh := ((List.range 79).drop 1, kd0, ln0, rc0)
def bz (p : Prop) [Decidable p] : Int32 := if p then 1 else 0
theorem bz_t {p : Prop} [Decidable p] (h : p) : bz p = 1 := if_pos h
theorem bz_f {p : Prop} [Decidable p] (h : ¬ p) : bz p = 0 := if_neg h
theorem bz_0 {p : Prop} [Decidable p] : bz p = 0 ↔ ¬ p := by unfold bz; split <;> simp_all
theorem bz_n0 {p : Prop} [Decidable p] : ¬ bz p = 0 ↔ p := by unfold bz; split <;> simp_all
theorem bz_z {p : Prop} [Decidable p] : narrow .boolean (.int (bz p)) = .int (bz p) := by unfold bz; split <;> rfl
section NAT
theorem nadd {a b : Int32} {i j : Nat} (ha : a = nI i) (hb : b = nI j) : a + b = nI (i + j) := by rw [ha, hb]; exact nI_add i j
theorem nmul {a b : Int32} {i j : Nat} (ha : a = nI i) (hb : b = nI j) : a * b = nI (i * j) := by rw [ha, hb]; exact (Int32.ofNat_mul i j).symm
theorem ninc {a : Int32} {i : Nat} (c : Nat) (ha : a = nI i) : a + Int32.ofInt (c : Int) = nI (i + c) := by
  rw [ha]
  exact nI_add i c
theorem vin {v : Int32} {n N : Nat} (hv : v = nI n) (h : n < N) (hN : N < 2147483648) : vp_in v N := by rw [hv]; exact nI_in h hN
theorem ixn {v : Int32} {n : Nat} (hv : v = nI n) (h : n < 2147483648) : ix v = n := by rw [hv]; exact nI_clamp h
variable {S : Sh} {w : Wp} {x : Cx} {own : String} {M : Md} {cn : Nat × Nat} {pc : Nat} {ls : List (Nat × Value)} {st : List Value} {σ : Mm}
theorem V_ialdN {a n : Nat} {i : Int32} (N : Nat) (o : Ok S w x own M) (hd : decode M.2.1 pc = .ok (.iaload, 1)) (hk : S.2.1 a = 10) (hl : S.2.2.1 a = N) (hi : i = nI n) (hn : n < N) (hN : Nat.ble N 2147483647 = true)
    (k : V S w x M cn (pc + 1) ls (.int (σ.1 a n) :: st) σ) : V S w x M cn pc ls (.int i :: .ref a :: st) σ := by
  have hN' : N < 2147483648 := Nat.lt_succ_of_le (Nat.le_of_ble_eq_true hN)
  refine V_iald o hd hk (by rw [hl]; exact vin hi hn hN') ?_
  rw [ixn hi (Nat.lt_trans hn hN')]; exact k
theorem V_laldN {a n : Nat} {i : Int32} (N : Nat) (o : Ok S w x own M) (hd : decode M.2.1 pc = .ok (.laload, 1)) (hk : S.2.1 a = 11) (hl : S.2.2.1 a = N) (hi : i = nI n) (hn : n < N) (hN : Nat.ble N 2147483647 = true)
    (k : V S w x M cn (pc + 1) ls (.long (σ.2.1 a n) :: st) σ) : V S w x M cn pc ls (.int i :: .ref a :: st) σ := by
  have hN' : N < 2147483648 := Nat.lt_succ_of_le (Nat.le_of_ble_eq_true hN)
  refine V_lald o hd hk (by rw [hl]; exact vin hi hn hN') ?_
  rw [ixn hi (Nat.lt_trans hn hN')]; exact k
theorem V_iastN {a n : Nat} {i v : Int32} (N : Nat) (o : Ok S w x own M) (hd : decode M.2.1 pc = .ok (.iastore, 1)) (hk : S.2.1 a = 10) (hl : S.2.2.1 a = N) (hi : i = nI n) (hn : n < N) (hN : Nat.ble N 2147483647 = true)
    (k : V S w x M cn (pc + 1) ls st (wI σ a n v)) : V S w x M cn pc ls (.int v :: .int i :: .ref a :: st) σ := by
  have hN' : N < 2147483648 := Nat.lt_succ_of_le (Nat.le_of_ble_eq_true hN)
  refine V_iast o hd hk (by rw [hl]; exact vin hi hn hN') ?_
  rw [ixn hi (Nat.lt_trans hn hN')]; exact k
theorem V_lastN {a n : Nat} {i : Int32} {v : Int64} (N : Nat) (o : Ok S w x own M) (hd : decode M.2.1 pc = .ok (.lastore, 1)) (hk : S.2.1 a = 11) (hl : S.2.2.1 a = N) (hi : i = nI n) (hn : n < N) (hN : Nat.ble N 2147483647 = true)
    (k : V S w x M cn (pc + 1) ls st (wL σ a n v)) : V S w x M cn pc ls (.long v :: .int i :: .ref a :: st) σ := by
  have hN' : N < 2147483648 := Nat.lt_succ_of_le (Nat.le_of_ble_eq_true hN)
  refine V_last o hd hk (by rw [hl]; exact vin hi hn hN') ?_
  rw [ixn hi (Nat.lt_trans hn hN')]; exact k
theorem V_aaldSN {a n t : Nat} {i : Int32} (N : Nat) (o : Ok S w x own M) (hd : decode M.2.1 pc = .ok (.aaload, 1)) (hk : S.2.1 a = 12 ∨ S.2.1 a = 13) (hl : S.2.2.1 a = N) (hi : i = nI n) (hn : n < N) (hN : Nat.ble N 2147483647 = true) (ht : trr S σ a n = some t)
    (k : V S w x M cn (pc + 1) ls (.ref t :: st) σ) : V S w x M cn pc ls (.int i :: .ref a :: st) σ := by
  have hN' : N < 2147483648 := Nat.lt_succ_of_le (Nat.le_of_ble_eq_true hN)
  exact V_aaldS o hd hk (by rw [hl]; exact vin hi hn hN') (by rw [ixn hi (Nat.lt_trans hn hN')]; exact ht) k
theorem V_aastN {a n t : Nat} {i : Int32} (N : Nat) (o : Ok S w x own M) (hd : decode M.2.1 pc = .ok (.aastore, 1)) (hk : S.2.1 a = 12) (hl : S.2.2.1 a = N) (hi : i = nI n) (hn : n < N) (hN : Nat.ble N 2147483647 = true) (ht : S.2.1 t = 6)
    (k : V S w x M cn (pc + 1) ls st (wT σ a n (some t))) : V S w x M cn pc ls (.ref t :: .int i :: .ref a :: st) σ := by
  have hN' : N < 2147483648 := Nat.lt_succ_of_le (Nat.le_of_ble_eq_true hN)
  refine V_aast o hd hk (by rw [hl]; exact vin hi hn hN') ht ?_
  rw [ixn hi (Nat.lt_trans hn hN')]; exact k
theorem V_dup2 {u v : Value} (o : Ok S w x own M) (hd : decode M.2.1 pc = .ok (.dup2, 1)) (hu : u.category = 1) (hv : v.category = 1) (k : V S w x M cn (pc + 1) ls (u :: v :: u :: v :: st) σ) : V S w x M cn pc ls (u :: v :: st) σ := fun H locs la h1 h2 h3 => lv_dup2_11 o.2.1.1 o.2.1.2.1 hd ((cvv_cat w u).trans hu) ((cvv_cat w v).trans hv) (k H locs la h1 h2 h3)
theorem V_iincV {i : Nat} {n : Int} {u v : Int32} {ls' : List (Nat × Value)} (o : Ok S w x own M) (hd : decode M.2.1 pc = .ok (.iinc i n, 3)) (hl : ls.lookup i = some (.int u)) (hv : u + Int32.ofInt n = v) (hn : i < M.2.2.1) (hs : st1 ls i (.int v) = ls') (k : V S w x M cn (pc + 3) ls' st σ) : V S w x M cn pc ls st σ := V_iinc o hd hl hn (by rw [hv]; exact hs) k
end NAT
/-- a loop's steps i, i + 1, .. (n of them) -/
def itr {α : Type} (f : Nat → α → α) : Nat → Nat → α → α
  | _, 0, s => s
  | i, n + 1, s => itr f (i + 1) n (f i s)
theorem itr_succ {α : Type} (f : Nat → α → α) (i n : Nat) (s : α) : itr f i (n + 1) s = itr f (i + 1) n (f i s) := rfl
theorem itr_last {α : Type} (f : Nat → α → α) : ∀ (n i : Nat) (s : α), itr f i (n + 1) s = f (i + n) (itr f i n s)
  | 0, i, s => rfl
  | n + 1, i, s => by
    rw [itr_succ, itr_last f n (i + 1) (f i s), itr_succ]
    congr 1
    omega
theorem itr_congr {α : Type} {f g : Nat → α → α} : ∀ (n i : Nat) (s : α), (∀ j s, i ≤ j → j < i + n → f j s = g j s) → itr f i n s = itr g i n s
  | 0, _, _, _ => rfl
  | n + 1, i, s, h => by
    rw [itr_succ, itr_succ, h i s (Nat.le_refl i) (by omega)]
    exact itr_congr n (i + 1) _ (fun j s h1 h2 => h j s (by omega) (by omega))
/-- an invariant of a loop -/
theorem itr_inv {α : Type} {f : Nat → α → α} (P : Nat → α → Prop) : ∀ (n i : Nat) (s : α), P i s → (∀ j s, i ≤ j → j < i + n → P j s → P (j + 1) (f j s)) → P (i + n) (itr f i n s)
  | 0, _, _, h, _ => h
  | n + 1, i, s, h, hs => by
    have h1 := itr_inv P n (i + 1) (f i s) (hs i s (Nat.le_refl i) (by omega) h) (fun j s h1 h2 => hs j s (by omega) (by omega))
    rw [itr_succ, show i + (n + 1) = i + 1 + n by omega]
    exact h1
