/-! THE TEXT read: T its signs, n how many, p a place -/
abbrev tkP (T : Nat → Int32) (n p : Nat) (c : Int32) : Prop := p < n ∧ T p = c
def tkN (T : Nat → Int32) (n p : Nat) (c : Int32) : Nat := if tkP T n p c then p + 1 else p
theorem tkN_t {T : Nat → Int32} {n p : Nat} {c : Int32} (h : tkP T n p c) : tkN T n p c = p + 1 := if_pos h
theorem tkN_f {T : Nat → Int32} {n p : Nat} {c : Int32} (h : ¬ tkP T n p c) : tkN T n p c = p := if_neg h
abbrev dgP (T : Nat → Int32) (n p : Nat) : Prop := p < n ∧ inR (T p) 48 57
def nuF (T : Nat → Int32) (n : Nat) : Nat → Int32 → Nat → Int32 × Nat
  | 0, v, p => (v, p)
  | k + 1, v, p => if dgP T n p then nuF T n k (10 * v + T p - 48) (p + 1) else (v, p)
def nuE (T : Nat → Int32) (n : Nat) (lo hi : Int32) (p0 : Nat) (s : Int32 × Nat) : Int32 × Nat := if s.2 = p0 ∨ dgP T n s.2 then (-1, s.2) else if inR s.1 lo hi then s else (-1, s.2 - 1)
def nuR (T : Nat → Int32) (n D : Nat) (lo hi : Int32) (p : Nat) : Int32 × Nat := nuE T n lo hi p (nuF T n D 0 p)
theorem nuF_le {T : Nat → Int32} {n : Nat} : ∀ k v p, p ≤ n → p ≤ (nuF T n k v p).2 ∧ (nuF T n k v p).2 ≤ n
  | 0, _, p, h => ⟨Nat.le_refl p, h⟩
  | k + 1, v, p, h => by
    unfold nuF
    split
    · next q =>
      have := nuF_le (T := T) k (10 * v + T p - 48) (p + 1) q.1
      omega
    · exact ⟨Nat.le_refl p, h⟩
theorem nuR_le {T : Nat → Int32} {n D : Nat} {lo hi : Int32} {p : Nat} (h : p ≤ n) : p ≤ (nuR T n D lo hi p).2 ∧ (nuR T n D lo hi p).2 ≤ n := by
  have h1 := nuF_le (T := T) D 0 p h
  unfold nuR nuE
  split
  · exact h1
  · next q =>
    split
    · exact h1
    · show p ≤ (nuF T n D 0 p).2 - 1 ∧ _
      have : (nuF T n D 0 p).2 ≠ p := fun e => q (Or.inl e)
      omega
theorem nuR_in {T : Nat → Int32} {n D : Nat} {lo hi : Int32} {p : Nat} : (nuR T n D lo hi p).1 = -1 ∨ inR (nuR T n D lo hi p).1 lo hi := by
  unfold nuR nuE
  split
  · exact Or.inl rfl
  · split
    · next q => exact Or.inr q
    · exact Or.inl rfl
/-- kind, number, SORT, PERIOD -/
abbrev Act : Type := Int32 × Int32 × Int32 × Int32
def rdS3 (T : Nat → Int32) (n : Nat) (N1 N2 : Int32 × Nat) : Bool × Nat × Act :=
  if tkP T n N2.2 44 then (decide ((nuR T n 4 1 1000 (N2.2 + 1)).1 > 0), (nuR T n 4 1 1000 (N2.2 + 1)).2, 0, N1.1, N2.1, (nuR T n 4 1 1000 (N2.2 + 1)).1) else (false, N2.2, 0, 0, 0, 0)
def rdS2 (T : Nat → Int32) (n : Nat) (N1 N2 : Int32 × Nat) : Bool × Nat × Act := if N2.1 > 0 then rdS3 T n N1 N2 else (decide (N2.1 = 0), N2.2, 0, N1.1, N2.1, 1)
def rdS1 (T : Nat → Int32) (n : Nat) (N1 : Int32 × Nat) : Bool × Nat × Act := if N1.1 < 0 then (false, N1.2, 0, 0, 0, 0) else if tkP T n N1.2 44 then rdS2 T n N1 (nuR T n 1 0 3 (N1.2 + 1)) else (false, N1.2, 0, 0, 0, 0)
def rdT (N : Int32 × Nat) : Bool × Nat × Act := (decide (N.1 > 0), N.2, 1, N.1, 0, 0)
def rdL1 (b : Prop) [Decidable b] (N : Int32 × Nat) : Bool × Nat × Act := (decide (N.1 > 0), N.2, 2, if b then -N.1 else N.1, 0, 0)
def rdC (N : Int32 × Nat) : Bool × Nat × Act := (decide (N.1 ≥ 0), N.2, 3, N.1, 0, 0)
def rdA (T : Nat → Int32) (n p : Nat) : Bool × Nat × Act :=
  if tkP T n p 115 then rdS1 T n (nuR T n 4 1 9999 (p + 1))
  else if tkP T n p 116 then rdT (nuR T n 1 1 9 (p + 1))
  else if tkP T n p 108 then rdL1 (tkP T n (p + 1) 45) (nuR T n 4 1 9999 (tkN T n (p + 1) 45))
  else if tkP T n p 99 then rdC (nuR T n 2 0 99 (p + 1))
  else (false, p, 0, 0, 0, 0)
def AcOk (a : Act) : Prop := (a.1 = 0 ∧ inR a.2.1 1 9999 ∧ inR a.2.2.1 0 3 ∧ inR a.2.2.2 1 1000) ∨ (a.1 = 1 ∧ inR a.2.1 1 9) ∨ (a.1 = 2 ∧ (inR a.2.1 1 9999 ∨ inR a.2.1 (-9999) (-1))) ∨ (a.1 = 3 ∧ inR a.2.1 0 99)
theorem inR_neg {v : Int32} (h : inR v 1 9999) : inR (-v) (-9999) (-1) := by
  have h1 := Int32.le_iff_toInt_le.mp h.1
  have h2 := Int32.le_iff_toInt_le.mp h.2
  have e : (-v).toInt = -v.toInt := by
    rw [Int32.toInt_neg]
    apply Int.bmod_eq_of_le
    · have : (9999 : Int32).toInt = 9999 := by decide
      omega
    · have : (1 : Int32).toInt = 1 := by decide
      omega
  have e1 : (1 : Int32).toInt = 1 := by decide
  have e2 : (9999 : Int32).toInt = 9999 := by decide
  constructor
  · rw [Int32.le_iff_toInt_le, e, show (-9999 : Int32).toInt = -9999 from by decide]; omega
  · rw [Int32.le_iff_toInt_le, e, show (-1 : Int32).toInt = -1 from by decide]; omega
theorem n1_gt {v lo hi : Int32} (h : v = -1 ∨ inR v lo hi) (hg : ¬ v = -1) : inR v lo hi := h.elim (fun q => absurd q hg) id
theorem nu_pos {T : Nat → Int32} {n D : Nat} {lo hi : Int32} {p : Nat} (h : (nuR T n D lo hi p).1 > 0) : inR (nuR T n D lo hi p).1 lo hi := n1_gt nuR_in (fun e => absurd h (by rw [e]; decide))
theorem nu_nn {T : Nat → Int32} {n D : Nat} {lo hi : Int32} {p : Nat} (h : (nuR T n D lo hi p).1 ≥ 0) : inR (nuR T n D lo hi p).1 lo hi := n1_gt nuR_in (fun e => absurd h (by rw [e]; decide))
theorem rdA_ok {T : Nat → Int32} {n p : Nat} (h : (rdA T n p).1 = true) : AcOk (rdA T n p).2.2 := by
  unfold rdA at h ⊢
  split at h
  · next q =>
    rw [if_pos q]
    unfold rdS1 at h ⊢
    split at h
    · cases h
    · next q1 =>
      rw [if_neg q1]
      have i1 := n1_gt (nuR_in (T := T) (n := n) (D := 4) (lo := 1) (hi := 9999) (p := p + 1)) (fun e => q1 (by rw [e]; decide))
      split at h
      · next q2 =>
        rw [if_pos q2]
        unfold rdS2 at h ⊢
        split at h
        · next q3 =>
          rw [if_pos q3]
          have i2 := n1_gt (nuR_in (T := T) (n := n) (D := 1) (lo := 0) (hi := 3) (p := (nuR T n 4 1 9999 (p + 1)).2 + 1)) (fun e => absurd q3 (by rw [e]; decide))
          unfold rdS3 at h ⊢
          split at h
          · next q4 =>
            rw [if_pos q4]
            have q5 := of_decide_eq_true h
            exact Or.inl ⟨rfl, i1, i2, nu_pos q5⟩
          · cases h
        · next q3 =>
          rw [if_neg q3]
          have q5 := of_decide_eq_true h
          exact Or.inl ⟨rfl, i1, by show inR (nuR T n 1 0 3 _).1 0 3; rw [q5]; decide, show inR 1 1 1000 by decide⟩
      · cases h
  · next q =>
    rw [if_neg q]
    split at h
    · next q1 =>
      rw [if_pos q1]
      have q5 := of_decide_eq_true h
      exact Or.inr (Or.inl ⟨rfl, nu_pos q5⟩)
    · next q1 =>
      rw [if_neg q1]
      split at h
      · next q2 =>
        rw [if_pos q2]
        have q5 := of_decide_eq_true h
        have i := n1_gt (nuR_in (T := T) (n := n) (D := 4) (lo := 1) (hi := 9999)) (fun e => absurd q5 (by rw [e]; decide))
        refine Or.inr (Or.inr (Or.inl ⟨rfl, ?_⟩))
        show inR (if _ then _ else _) _ _ ∨ inR (if _ then _ else _) _ _
        split
        · exact Or.inr (inR_neg i)
        · exact Or.inl i
      · next q2 =>
        rw [if_neg q2]
        split at h
        · next q3 =>
          rw [if_pos q3]
          have q5 := of_decide_eq_true h
          exact Or.inr (Or.inr (Or.inr ⟨rfl, nu_nn q5⟩))
        · cases h
theorem rdS1_le {T : Nat → Int32} {n p : Nat} {N1 : Int32 × Nat} (h : p < N1.2 ∧ N1.2 ≤ n) : p < (rdS1 T n N1).2.1 ∧ (rdS1 T n N1).2.1 ≤ n := by
  unfold rdS1
  split
  · exact h
  · split
    · next q =>
      have h2 := nuR_le (T := T) (n := n) (D := 1) (lo := 0) (hi := 3) (p := N1.2 + 1) q.1
      generalize nuR T n 1 0 3 (N1.2 + 1) = N2 at h2
      unfold rdS2
      split
      · unfold rdS3
        split
        · next q2 =>
          have h3 := nuR_le (T := T) (n := n) (D := 4) (lo := 1) (hi := 1000) (p := N2.2 + 1) q2.1
          show p < (nuR T n 4 1 1000 (N2.2 + 1)).2 ∧ (nuR T n 4 1 1000 (N2.2 + 1)).2 ≤ n
          omega
        · show p < N2.2 ∧ N2.2 ≤ n
          omega
      · show p < N2.2 ∧ N2.2 ≤ n
        omega
    · exact h
/-- a place behind one that was read lies behind -/
theorem rdA_le {T : Nat → Int32} {n p : Nat} (hp : p ≤ n) : p ≤ (rdA T n p).2.1 ∧ (rdA T n p).2.1 ≤ n ∧ ((rdA T n p).1 = true → p < (rdA T n p).2.1) := by
  unfold rdA
  split
  · next q =>
    have h1 := nuR_le (T := T) (n := n) (D := 4) (lo := 1) (hi := 9999) (p := p + 1) q.1
    have := rdS1_le (T := T) (n := n) (p := p) (N1 := nuR T n 4 1 9999 (p + 1)) ⟨by omega, by omega⟩
    exact ⟨by omega, by omega, fun _ => this.1⟩
  · split
    · next q =>
      have h1 := nuR_le (T := T) (n := n) (D := 1) (lo := 1) (hi := 9) (p := p + 1) q.1
      show p ≤ (nuR T n 1 1 9 (p + 1)).2 ∧ (nuR T n 1 1 9 (p + 1)).2 ≤ n ∧ (_ → p < (nuR T n 1 1 9 (p + 1)).2)
      exact ⟨by omega, by omega, fun _ => by omega⟩
    · split
      · next q =>
        have h0 : p + 1 ≤ tkN T n (p + 1) 45 ∧ tkN T n (p + 1) 45 ≤ n := by
          have := q.1
          unfold tkN
          split
          · next q9 => have := q9.1; omega
          · omega
        have h1 := nuR_le (T := T) (n := n) (D := 4) (lo := 1) (hi := 9999) (p := tkN T n (p + 1) 45) h0.2
        show p ≤ (nuR T n 4 1 9999 (tkN T n (p + 1) 45)).2 ∧ (nuR T n 4 1 9999 (tkN T n (p + 1) 45)).2 ≤ n ∧ (_ → p < (nuR T n 4 1 9999 (tkN T n (p + 1) 45)).2)
        exact ⟨by omega, by omega, fun _ => by omega⟩
      · split
        · next q =>
          have h1 := nuR_le (T := T) (n := n) (D := 2) (lo := 0) (hi := 99) (p := p + 1) q.1
          show p ≤ (nuR T n 2 0 99 (p + 1)).2 ∧ (nuR T n 2 0 99 (p + 1)).2 ≤ n ∧ (_ → p < (nuR T n 2 0 99 (p + 1)).2)
          exact ⟨by omega, by omega, fun _ => by omega⟩
        · exact ⟨Nat.le_refl p, hp, fun h => by cases h⟩
/-- place and acts of the reference -/
def sPs (σ : Mm) (p : Nat) (f : Nat → Int32) : Mm := (fun a j => if a = 75 then f j else if a = 67 ∧ j = 5 then nI p else σ.1 a j, σ.2)
theorem wI_sPs5 {σ : Mm} {p q : Nat} {f : Nat → Int32} : wI (sPs σ p f) 67 5 (nI q) = sPs σ q f := by
  refine Prod.ext (funext fun a => funext fun j => ?_) rfl
  simp only [sPs, wI, up2]
  by_cases h : a = 75
  · subst h; simp
  · by_cases h2 : a = 67 ∧ j = 5
    · simp [h2]
    · simp [h, h2]
theorem wI_sPs75 {σ : Mm} {p k : Nat} {f : Nat → Int32} {v : Int32} : wI (sPs σ p f) 75 k v = sPs σ p (upd f k v) := by
  refine Prod.ext (funext fun a => funext fun j => ?_) rfl
  simp only [sPs, wI, up2, upd]
  by_cases h : a = 75
  · subst h; simp
  · simp [h]
theorem sPs_0 (σ : Mm) : wI σ 67 5 0 = sPs σ 0 (σ.1 75) := by
  refine Prod.ext (funext fun a => funext fun j => ?_) rfl
  simp only [sPs, wI, up2]
  by_cases h : a = 75
  · subst h; simp
  · by_cases h2 : a = 67 ∧ j = 5
    · simp [h2]; rfl
    · simp [h, h2]
set_option maxRecDepth 20000 in
set_option maxHeartbeats 4000000 in
theorem c9_takes {w : Wp} (hf : Fit sh0 w) {σ : Mm} {d : Nat} {M : Nat → Int32} {n p : Nat} {f T : Nat → Int32} (hto : σ.1 67 6 = nI n) (hT : σ.1 69 = T) (hn : n ≤ 100) (hp : p ≤ n) {c : Int32} : Cf sh0 w 1 mX9_takes [.ref 67, .int c] (sM (sPs σ p f) d M) (some (.int (bz (tkP T n p c)))) (sM (sPs σ (tkN T n p c) f) d M) := by
  refine Ct_of hf (by decide) rfl (Nat.le_of_ble_eq_true rfl) (fun x o rt => ?_)
  refine V_aload_n o dX9_takes_0 rfl rfl ?_
  refine V_getIE (v := nI (p)) o dX9_takes_1 rfl fl_X9_25 rfl rfl ?_
  refine V_aload_n o dX9_takes_4 rfl rfl ?_
  refine V_getIE (v := nI (n)) o dX9_takes_5 rfl fl_X9_28 rfl hto ?_
  refine V_icmp_ge (tgt := 28) o dX9_takes_8 (by decide) (fun c_8 => ?_) (fun c_8 => ?_)
  · refine V_iconst (v := 0) o dX9_takes_28 (by decide) ?_
    refine V_istore_n (ls' := [(2, _), (0, _), (1, _)]) o dX9_takes_29 rfl (by decide) rfl ?_
    refine V_aload_n o dX9_takes_30 rfl rfl ?_
    refine V_dup o dX9_takes_31 rfl ?_
    refine V_getIE (v := nI (p)) o dX9_takes_32 rfl fl_X9_25 rfl rfl ?_
    refine V_iload_n o dX9_takes_35 rfl rfl ?_
    refine V_cSi o rt dX9_takes_36 ms_X9_31 (c9_flag hf (by simp)) rfl rfl (Nat.le_of_ble_eq_true rfl) rfl ?_
    refine V_iadd o dX9_takes_39 ?_
    refine V_putI o dX9_takes_40 rfl fl_X9_25 rfl rfl rfl ?_
    refine V_iload_n o dX9_takes_43 rfl rfl ?_
    refine V_iret o rt dX9_takes_44 rfl rfl ?_
    have h : ¬ tkP T n p c := fun q => absurd q.1 (Nat.not_lt.mpr ((nI_leI (by omega) (by omega)).mp c_8))
    exact ⟨by rw [bz_f h], by rw [tkN_f h, wI_sM67, show nI p + 0 = nI p from Int32.add_zero _, wI_sPs5]⟩
  · refine V_aload_n o dX9_takes_11 rfl rfl ?_
    refine V_getR (t := 69) o dX9_takes_12 rfl fl_X9_17 rfl ?_
    refine V_aload_n o dX9_takes_15 rfl rfl ?_
    refine V_getIE (v := nI (p)) o dX9_takes_16 rfl fl_X9_25 rfl rfl ?_
    refine V_ialdN 100 o dX9_takes_19 rfl rfl rfl (Nat.lt_of_lt_of_le (Nat.lt_of_not_le (fun q => c_8 ((nI_leI (by omega) (by omega)).mpr q))) hn) rfl ?_
    refine V_iload_n o dX9_takes_20 rfl rfl ?_
    refine V_icmp_ne (tgt := 28) o dX9_takes_21 (by decide) (fun c_21 => ?_) (fun c_21 => ?_)
    · refine V_iconst (v := 0) o dX9_takes_28 (by decide) ?_
      refine V_istore_n (ls' := [(2, _), (0, _), (1, _)]) o dX9_takes_29 rfl (by decide) rfl ?_
      refine V_aload_n o dX9_takes_30 rfl rfl ?_
      refine V_dup o dX9_takes_31 rfl ?_
      refine V_getIE (v := nI (p)) o dX9_takes_32 rfl fl_X9_25 rfl rfl ?_
      refine V_iload_n o dX9_takes_35 rfl rfl ?_
      refine V_cSi o rt dX9_takes_36 ms_X9_31 (c9_flag hf (by simp)) rfl rfl (Nat.le_of_ble_eq_true rfl) rfl ?_
      refine V_iadd o dX9_takes_39 ?_
      refine V_putI o dX9_takes_40 rfl fl_X9_25 rfl rfl rfl ?_
      refine V_iload_n o dX9_takes_43 rfl rfl ?_
      refine V_iret o rt dX9_takes_44 rfl rfl ?_
      have h : ¬ tkP T n p c := fun q => c_21 (by show σ.1 69 p = c; rw [hT]; exact q.2)
      exact ⟨by rw [bz_f h], by rw [tkN_f h, wI_sM67, show nI p + 0 = nI p from Int32.add_zero _, wI_sPs5]⟩
    · refine V_iconst (v := 1) o dX9_takes_24 (by decide) ?_
      refine V_goto (tgt := 29) o dX9_takes_25 (by decide) ?_
      refine V_istore_n (ls' := [(2, _), (0, _), (1, _)]) o dX9_takes_29 rfl (by decide) rfl ?_
      refine V_aload_n o dX9_takes_30 rfl rfl ?_
      refine V_dup o dX9_takes_31 rfl ?_
      refine V_getIE (v := nI (p)) o dX9_takes_32 rfl fl_X9_25 rfl rfl ?_
      refine V_iload_n o dX9_takes_35 rfl rfl ?_
      refine V_cSi o rt dX9_takes_36 ms_X9_31 (c9_flag hf (by simp)) rfl rfl (Nat.le_of_ble_eq_true rfl) rfl ?_
      refine V_iadd o dX9_takes_39 ?_
      refine V_putI o dX9_takes_40 rfl fl_X9_25 rfl rfl rfl ?_
      refine V_iload_n o dX9_takes_43 rfl rfl ?_
      refine V_iret o rt dX9_takes_44 rfl rfl ?_
      have h : tkP T n p c := ⟨(Nat.lt_of_not_le (fun q => c_8 ((nI_leI (by omega) (by omega)).mpr q))), by rw [← hT]; exact c_21⟩
      exact ⟨by rw [bz_t h], by rw [tkN_t h, wI_sM67, show nI p + 1 = nI (p + 1) from nI_1 p, wI_sPs5]⟩
set_option maxRecDepth 20000 in
set_option maxHeartbeats 4000000 in
theorem c9_isDigit {w : Wp} (hf : Fit sh0 w) {σ : Mm} {d : Nat} {M : Nat → Int32} {n p : Nat} {f T : Nat → Int32} (hto : σ.1 67 6 = nI n) (hT : σ.1 69 = T) (hn : n ≤ 100) (hp : p ≤ n) : Cf sh0 w 1 mX9_isDigit [.ref 67] (sM (sPs σ p f) d M) (some (.int (bz (dgP T n p)))) (sM (sPs σ p f) d M) := by
  refine Ct_of hf (by decide) rfl (Nat.le_of_ble_eq_true rfl) (fun x o rt => ?_)
  refine V_aload_n o dX9_isDigit_0 rfl rfl ?_
  refine V_getIE (v := nI (p)) o dX9_isDigit_1 rfl fl_X9_25 rfl rfl ?_
  refine V_aload_n o dX9_isDigit_4 rfl rfl ?_
  refine V_getIE (v := nI (n)) o dX9_isDigit_5 rfl fl_X9_28 rfl hto ?_
  refine V_icmp_ge (tgt := 37) o dX9_isDigit_8 (by decide) (fun c_8 => ?_) (fun c_8 => ?_)
  · refine V_iconst (v := 0) o dX9_isDigit_37 (by decide) ?_
    refine V_iret o rt dX9_isDigit_38 rfl rfl ?_
    have h : ¬ dgP T n p := fun q => absurd q.1 (Nat.not_lt.mpr ((nI_leI (by omega) (by omega)).mp c_8))
    exact ⟨by rw [bz_f h], rfl⟩
  · refine V_aload_n o dX9_isDigit_11 rfl rfl ?_
    refine V_getR (t := 69) o dX9_isDigit_12 rfl fl_X9_17 rfl ?_
    refine V_aload_n o dX9_isDigit_15 rfl rfl ?_
    refine V_getIE (v := nI (p)) o dX9_isDigit_16 rfl fl_X9_25 rfl rfl ?_
    refine V_ialdN 100 o dX9_isDigit_19 rfl rfl rfl (Nat.lt_of_lt_of_le (Nat.lt_of_not_le (fun q => c_8 ((nI_leI (by omega) (by omega)).mpr q))) hn) rfl ?_
    refine V_i2l o dX9_isDigit_20 ?_
    refine V_ldc2 o dX9_isDigit_21 kc_X9_35 ?_
    refine V_ldc2 o dX9_isDigit_24 kc_X9_37 ?_
    refine V_cSi o rt dX9_isDigit_27 ms_X9_21 (c9_in hf) rfl rfl (Nat.le_of_ble_eq_true rfl) rfl ?_
    refine V_if_eq (tgt := 37) o dX9_isDigit_30 (by decide) (fun c_30 => ?_) (fun c_30 => ?_)
    · refine V_iconst (v := 0) o dX9_isDigit_37 (by decide) ?_
      refine V_iret o rt dX9_isDigit_38 rfl rfl ?_
      have h : ¬ dgP T n p := fun q => bz_0.mp c_30 ((in_lo (k := (σ.1 69 p)) (lo := 48) (hi := 57) (l := 48) (h := 57) (by decide) (by decide)).mpr (by rw [hT]; exact q.2))
      exact ⟨by rw [bz_f h], rfl⟩
    · refine V_iconst (v := 1) o dX9_isDigit_33 (by decide) ?_
      refine V_goto (tgt := 38) o dX9_isDigit_34 (by decide) ?_
      refine V_iret o rt dX9_isDigit_38 rfl rfl ?_
      have h : dgP T n p := ⟨(Nat.lt_of_not_le (fun q => c_8 ((nI_leI (by omega) (by omega)).mpr q))), by rw [← hT]; exact (in_lo (k := (σ.1 69 p)) (lo := 48) (hi := 57) (l := 48) (h := 57) (by decide) (by decide)).mp (bz_n0.mp c_30)⟩
      exact ⟨by rw [bz_t h], rfl⟩
set_option maxRecDepth 20000 in
set_option maxHeartbeats 4000000 in
theorem c9_number {w : Wp} (hf : Fit sh0 w) {σ : Mm} {d : Nat} {M : Nat → Int32} {n p0 : Nat} {f T : Nat → Int32} (hto : σ.1 67 6 = nI n) (hT : σ.1 69 = T) (hn : n ≤ 100) (hp : p0 ≤ n) {D : Nat} (hD : D ≤ 10) {k lo hi : Int32} (hk : k = nI D) {R : Int32 × Nat} (hR0 : nuR T n D lo hi p0 = R) : Cf sh0 w 2 mX9_number [.ref 67, .int k, .int lo, .int hi] (sM (sPs σ p0 f) d M) (some (.int R.1)) (sM (sPs σ R.2 f) d M) := by
  subst hk
  unfold nuR at hR0
  refine Ct_of hf (by decide) rfl (Nat.le_of_ble_eq_true rfl) (fun x o rt => ?_)
  have ex : ∀ q v p1, p1 = p0 + q → q ≤ 100 → p1 ≤ n → nuE T n lo hi p0 (v, p1) = R → V sh0 w x mX9_number (0, 0) 55 [(5, .int (nI q)), (4, .int v), (0, .ref 67), (1, .int (nI D)), (2, .int lo), (3, .int hi)] [] (sM (sPs σ p1 f) d M) := by
    intro q v p1 hq hq1 hp1 hE
    refine V_iload o dX9_number_55 rfl ?_
    refine V_if_eq (tgt := 67) o dX9_number_57 (by decide) (fun c_57 => ?_) (fun c_57 => ?_)
    · refine V_iconst (v := -1) o dX9_number_67 (by decide) ?_
      refine V_iret o rt dX9_number_68 rfl rfl ?_
      rw [nuE, if_pos (Or.inl (by have := (nI_eq0 (n := q) (by omega)).mp c_57; show p1 = p0; omega))] at hE
      subst hE
      exact ⟨rfl, rfl⟩
    · refine V_aload_n o dX9_number_60 rfl rfl ?_
      refine V_cVi o rt dX9_number_61 ml_X9_39 (c9_isDigit hf hto hT hn hp1) rfl rfl rfl (Nat.le_of_ble_eq_true rfl) rfl ?_
      refine V_if_eq (tgt := 69) o dX9_number_64 (by decide) (fun c_64 => ?_) (fun c_64 => ?_)
      · refine V_iload o dX9_number_69 rfl ?_
        refine V_i2l o dX9_number_71 ?_
        refine V_iload_n o dX9_number_72 rfl rfl ?_
        refine V_i2l o dX9_number_73 ?_
        refine V_iload_n o dX9_number_74 rfl rfl ?_
        refine V_i2l o dX9_number_75 ?_
        refine V_cSi o rt dX9_number_76 ms_X9_21 (c9_in hf) rfl rfl (Nat.le_of_ble_eq_true rfl) rfl ?_
        refine V_if_ne (tgt := 94) o dX9_number_79 (by decide) (fun c_79 => ?_) (fun c_79 => ?_)
        · refine V_iload o dX9_number_94 rfl ?_
          refine V_iret o rt dX9_number_96 rfl rfl ?_
          have hq0 : ¬ q = 0 := fun e => c_57 ((nI_eq0 (by omega)).mpr e)
          rw [nuE, if_neg (fun e => e.elim (fun e => by have e : p1 = p0 := e; omega) (bz_0.mp c_64)), if_pos ((in_lo rfl rfl).mp (bz_n0.mp c_79))] at hE
          subst hE
          exact ⟨rfl, rfl⟩
        · refine V_aload_n o dX9_number_82 rfl rfl ?_
          refine V_dup o dX9_number_83 rfl ?_
          refine V_getIE (v := nI (p1)) o dX9_number_84 rfl fl_X9_25 rfl rfl ?_
          refine V_iconst (v := 1) o dX9_number_87 (by decide) ?_
          refine V_isub o dX9_number_88 ?_
          refine V_putI o dX9_number_89 rfl fl_X9_25 rfl rfl rfl ?_
          refine V_iconst (v := -1) o dX9_number_92 (by decide) ?_
          refine V_iret o rt dX9_number_93 rfl rfl ?_
          have hq0 : ¬ q = 0 := fun e => c_57 ((nI_eq0 (by omega)).mpr e)
          rw [nuE, if_neg (fun e => e.elim (fun e => by have e : p1 = p0 := e; omega) (bz_0.mp c_64)), if_neg (fun e => bz_0.mp c_79 ((in_lo rfl rfl).mpr e))] at hE
          subst hE
          refine ⟨rfl, ?_⟩
          rw [wI_sM67, show nI p1 - 1 = nI (p1 - 1) by rw [show p1 = (p1 - 1) + 1 by omega]; exact nI_pred _, wI_sPs5]
      · refine V_iconst (v := -1) o dX9_number_67 (by decide) ?_
        refine V_iret o rt dX9_number_68 rfl rfl ?_
        rw [nuE, if_pos (Or.inr (bz_n0.mp c_64))] at hE
        subst hE
        exact ⟨rfl, rfl⟩
  have loop : ∀ k q v p1, q + k = D → p1 = p0 + q → p1 ≤ n → nuE T n lo hi p0 (nuF T n k v p1) = R → V sh0 w x mX9_number (0, 0) 6 [(5, .int (nI q)), (4, .int v), (0, .ref 67), (1, .int (nI D)), (2, .int lo), (3, .int hi)] [] (sM (sPs σ p1 f) d M) := by
    intro k
    induction k with
    | zero =>
      intro q v p1 hk hq hp1 hR
      have hqD : q = D := by omega
      refine V_aload_n o dX9_number_6 rfl rfl ?_
      refine V_cVi o rt dX9_number_7 ml_X9_39 (c9_isDigit hf hto hT hn hp1) rfl rfl rfl (Nat.le_of_ble_eq_true rfl) rfl ?_
      refine V_if_eq (tgt := 55) o dX9_number_10 (by decide) (fun c_10 => ?_) (fun c_10 => ?_)
      · exact ex q v p1 hq (by omega) hp1 hR
      · refine V_iload o dX9_number_13 rfl ?_
        refine V_iload_n o dX9_number_15 rfl rfl ?_
        refine V_icmp_ge (tgt := 55) o dX9_number_16 (by decide) (fun c_16 => ?_) (fun c_16 => False.elim (c_16 (by rw [hqD]; exact Int32.le_refl _)))
        exact ex q v p1 hq (by omega) hp1 hR
    | succ k ih =>
      intro q v p1 hk hq hp1 hR
      refine V_aload_n o dX9_number_6 rfl rfl ?_
      refine V_cVi o rt dX9_number_7 ml_X9_39 (c9_isDigit hf hto hT hn hp1) rfl rfl rfl (Nat.le_of_ble_eq_true rfl) rfl ?_
      refine V_if_eq (tgt := 55) o dX9_number_10 (by decide) (fun c_10 => ?_) (fun c_10 => ?_)
      · rw [nuF, if_neg (bz_0.mp c_10)] at hR
        exact ex q v p1 hq (by omega) hp1 hR
      · refine V_iload o dX9_number_13 rfl ?_
        refine V_iload_n o dX9_number_15 rfl rfl ?_
        refine V_icmp_ge (tgt := 55) o dX9_number_16 (by decide) (fun c_16 => False.elim (absurd c_16 (nI_ge (by omega) (by omega)))) (fun c_16 => ?_)
        refine V_bipush (v := 10) o dX9_number_19 (by decide) ?_
        refine V_iload o dX9_number_21 rfl ?_
        refine V_imul o dX9_number_23 ?_
        refine V_aload_n o dX9_number_24 rfl rfl ?_
        refine V_getR (t := 69) o dX9_number_25 rfl fl_X9_17 rfl ?_
        refine V_aload_n o dX9_number_28 rfl rfl ?_
        refine V_getIE (v := nI (p1)) o dX9_number_29 rfl fl_X9_25 rfl rfl ?_
        refine V_ialdN 100 o dX9_number_32 rfl rfl rfl (by have := (bz_n0.mp c_10).1; omega) rfl ?_
        refine V_topI (v' := T p1) (by rw [← hT]; rfl) ?_
        refine V_iadd o dX9_number_33 ?_
        refine V_bipush (v := 48) o dX9_number_34 (by decide) ?_
        refine V_isub o dX9_number_36 ?_
        refine V_istore (ls' := [(4, _), (5, _), (0, _), (1, _), (2, _), (3, _)]) o dX9_number_37 (by decide) rfl ?_
        refine V_aload_n o dX9_number_39 rfl rfl ?_
        refine V_dup o dX9_number_40 rfl ?_
        refine V_getIE (v := nI (p1)) o dX9_number_41 rfl fl_X9_25 rfl rfl ?_
        refine V_iconst (v := 1) o dX9_number_44 (by decide) ?_
        refine V_iadd o dX9_number_45 ?_
        refine V_putI o dX9_number_46 rfl fl_X9_25 rfl rfl rfl ?_
        rw [wI_sM67, show nI p1 + 1 = nI (p1 + 1) from nI_1 p1, wI_sPs5]
        refine V_iincV (v := nI (q + 1)) (ls' := [(5, _), (4, _), (0, _), (1, _), (2, _), (3, _)]) o dX9_number_49 rfl (ninc 1 rfl) (by decide) rfl ?_
        refine V_goto (tgt := 6) o dX9_number_52 (by decide) ?_
        rw [nuF, if_pos (bz_n0.mp c_10)] at hR
        exact V_sub (by simp) (ih (q + 1) (10 * v + T p1 - 48) (p1 + 1) (by omega) (by omega) (bz_n0.mp c_10).1 hR)
  refine V_iconst (v := 0) o dX9_number_0 (by decide) ?_
  refine V_istore (ls' := [(4, _), (0, _), (1, _), (2, _), (3, _)]) o dX9_number_1 (by decide) rfl ?_
  refine V_iconst (v := 0) o dX9_number_3 (by decide) ?_
  refine V_istore (ls' := [(5, _), (4, _), (0, _), (1, _), (2, _), (3, _)]) o dX9_number_4 (by decide) rfl ?_
  exact V_sub (by simp; rfl) (loop D 0 0 p0 (by omega) (by omega) hp hR0)
