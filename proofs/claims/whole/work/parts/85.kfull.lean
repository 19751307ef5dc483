/-! full: bits of slots, and counts of them -/
theorem bvbit (x : BitVec 32) (i : Nat) (hi : i < 32) : x.sshiftRight i &&& 1#32 = 1#32 ↔ x.getLsbD i = true := by
  have one : ∀ j : Fin 32, (1#32).getLsbD j.val = decide (j.val = 0) := by decide
  constructor
  · intro h
    have h1 := congrArg (fun y => BitVec.getLsbD y 0) h
    simp only [BitVec.getLsbD_and, BitVec.getLsbD_sshiftRight, one ⟨0, by omega⟩] at h1
    simp [hi] at h1
    exact h1
  · intro h
    apply BitVec.eq_of_getLsbD_eq
    intro j hj
    rw [BitVec.getLsbD_and, BitVec.getLsbD_sshiftRight, one ⟨j, hj⟩]
    by_cases e : j = 0
    · subst e
      simp [hi, h]
    · simp [e]
theorem bit_iff {b : Int32} {i : Nat} (hi : i < 16) : ((b >>> (nI i &&& 31)) &&& 1 = 1) ↔ b.toBitVec.getLsbD i = true := by
  rw [← Int32.toBitVec_inj]
  have : i = 0 ∨ i = 1 ∨ i = 2 ∨ i = 3 ∨ i = 4 ∨ i = 5 ∨ i = 6 ∨ i = 7 ∨ i = 8 ∨ i = 9 ∨ i = 10 ∨ i = 11 ∨ i = 12 ∨ i = 13 ∨ i = 14 ∨ i = 15 := by omega
  rcases this with e | e | e | e | e | e | e | e | e | e | e | e | e | e | e | e <;> subst e
  · exact bvbit b.toBitVec 0 (by omega)
  · exact bvbit b.toBitVec 1 (by omega)
  · exact bvbit b.toBitVec 2 (by omega)
  · exact bvbit b.toBitVec 3 (by omega)
  · exact bvbit b.toBitVec 4 (by omega)
  · exact bvbit b.toBitVec 5 (by omega)
  · exact bvbit b.toBitVec 6 (by omega)
  · exact bvbit b.toBitVec 7 (by omega)
  · exact bvbit b.toBitVec 8 (by omega)
  · exact bvbit b.toBitVec 9 (by omega)
  · exact bvbit b.toBitVec 10 (by omega)
  · exact bvbit b.toBitVec 11 (by omega)
  · exact bvbit b.toBitVec 12 (by omega)
  · exact bvbit b.toBitVec 13 (by omega)
  · exact bvbit b.toBitVec 14 (by omega)
  · exact bvbit b.toBitVec 15 (by omega)
theorem sh1_all : ∀ s : Fin 16, ∀ i : Fin 16, ((1 : Int32) <<< (nI s.val &&& 31)).toBitVec.getLsbD i.val = decide (i.val = s.val) := by decide +kernel
theorem bit_or {b : Int32} {i s : Nat} (hi : i < 16) (hs : s < 16) : (((b ||| ((1 : Int32) <<< (nI s &&& 31))) >>> (nI i &&& 31)) &&& 1 = 1) ↔ ((b >>> (nI i &&& 31)) &&& 1 = 1) ∨ i = s := by
  rw [bit_iff hi, bit_iff hi]
  show (b.toBitVec ||| ((1 : Int32) <<< (nI s &&& 31)).toBitVec).getLsbD i = true ↔ _
  rw [BitVec.getLsbD_or, sh1_all ⟨s, hs⟩ ⟨i, hi⟩]
  simp
theorem bit_00 {i : Nat} (hi : i < 16) : ¬ (((0 : Int32) >>> (nI i &&& 31)) &&& 1 = 1) := by
  rw [bit_iff hi]
  simp
theorem or_0 (b : Int32) : b ||| 0 = b := by
  apply Int32.toBitVec_inj.mp
  simp
/-- how many of the first n timers lie in slot i of a LEVEL -/
def cn (M : Nat → Int32) (lv : Int32) (i : Nat) : Nat → Nat
  | 0 => 0
  | n + 1 => cn M lv i n + if fuB M lv n = true ∧ M (407 + n) = nI i then 1 else 0
theorem cn_s {M : Nat → Int32} {lv : Int32} {i n : Nat} : cn M lv i (n + 1) = cn M lv i n + if fuB M lv n = true ∧ M (407 + n) = nI i then 1 else 0 := rfl
theorem cn_le (M : Nat → Int32) (lv : Int32) (i : Nat) : ∀ n, cn M lv i n ≤ n
  | 0 => Nat.le_refl 0
  | n + 1 => by
    unfold cn
    have := cn_le M lv i n
    split <;> omega
def sm (f : Nat → Nat) : Nat → Nat
  | 0 => 0
  | n + 1 => sm f n + f n
theorem sm_congr {f g : Nat → Nat} : ∀ n, (∀ i, i < n → f i = g i) → sm f n = sm g n
  | 0, _ => rfl
  | n + 1, h => by
    unfold sm
    rw [sm_congr n (fun i hi => h i (by omega)), h n (by omega)]
theorem sm_one {f : Nat → Nat} {s : Nat} : ∀ n, s < n → sm (fun i => f i + if i = s then 1 else 0) n = sm f n + 1
  | 0, h => absurd h (Nat.not_lt_zero s)
  | n + 1, h => by
    unfold sm
    by_cases e : s = n
    · subst e
      rw [if_pos rfl, sm_congr (g := f) s (fun i hi => by rw [if_neg (by omega)]; rfl)]
      omega
    · rw [sm_one n (by omega), if_neg (by omega)]
      omega
theorem sm_zero : ∀ n, sm (fun _ => 0) n = 0
  | 0 => rfl
  | n + 1 => by unfold sm; rw [sm_zero n]
/-- slots of timers that go are slots there are -/
def SlA (M : Nat → Int32) (L : Nat) : Prop := ∀ t, t < 16 → isG M t → ∀ k, k < L → M (391 + t) = nI k → ∃ s sz : Nat, M (1 + k) = nI sz ∧ M (407 + t) = nI s ∧ s < sz ∧ sz ≤ 16
theorem fu_pre {M : Nat → Int32} {k sz : Nat} (hsz : sz ≤ 16) (hs : ∀ t, t < 16 → fuB M (nI k) t = true → ∃ s, M (407 + t) = nI s ∧ s < sz) : ∀ n, n ≤ 16 →
    (∀ i, i < 16 → (((itr (fuF M (nI k)) 0 n (0, 0)).1 >>> (nI i &&& 31)) &&& 1 = 1 ↔ 0 < cn M (nI k) i n)) ∧ (itr (fuF M (nI k)) 0 n (0, 0)).2 = nI (sm (fun i => cn M (nI k) i n) sz)
  | 0, _ => ⟨fun i hi => ⟨fun h => absurd h (bit_00 hi), fun h => absurd h (Nat.lt_irrefl 0)⟩, by show (0 : Int32) = nI (sm (fun _ => 0) sz); rw [sm_zero]; rfl⟩
  | n + 1, hn => by
    obtain ⟨h1, h2⟩ := fu_pre hsz hs n (by omega)
    rw [itr_last, Nat.zero_add]
    generalize itr (fuF M (nI k)) 0 n (0, 0) = S at h1 h2
    unfold fuF
    by_cases q : fuB M (nI k) n = true
    · obtain ⟨s, e, hss⟩ := hs n (by omega) q
      rw [if_pos q, e]
      constructor
      · intro i hi
        show (((S.1 ||| _) >>> _) &&& 1 = 1) ↔ _
        rw [bit_or hi (by omega), h1 i hi]
        rw [cn_s]
        by_cases ei : i = s
        · subst ei
          rw [if_pos ⟨q, e⟩]
          exact ⟨fun _ => by omega, fun _ => Or.inr rfl⟩
        · rw [if_neg (fun h => ei ((nI_eq (by omega) (by omega)).mp (e.symm.trans h.2)).symm)]
          exact ⟨fun h => h.resolve_right ei, fun h => Or.inl h⟩
      · show S.2 + 1 = _
        rw [h2, nI_1, ← sm_one sz hss]
        congr 1
        refine sm_congr sz (fun i hi => ?_)
        rw [cn_s]
        by_cases ei : i = s
        · subst ei
          rw [if_pos rfl, if_pos ⟨q, e⟩]
        · rw [if_neg ei, if_neg (fun h => ei ((nI_eq (by omega) (by omega)).mp (e.symm.trans h.2)).symm)]
    · rw [if_neg q]
      constructor
      · intro i hi
        show (((S.1 ||| 0) >>> _) &&& 1 = 1) ↔ _
        rw [or_0, h1 i hi]
        rw [cn_s]
        rw [if_neg (fun h => q h.1)]
        rfl
      · show S.2 + 0 = _
        rw [Int32.add_zero, h2]
        congr 1
        refine sm_congr sz (fun i hi => ?_)
        rw [cn_s]
        rw [if_neg (fun h => q h.1)]
        rfl
theorem cntI_cn {M : Nat → Int32} (hB : Bo M) {k i : Nat} (hk : k < 4) : cntI M (nI k) (nI i) = nI (cn M (nI k) i 16) := by
  unfold cntI
  have : ∀ n, n ≤ 16 → itr (fun t n => n + bz (isT M t ∧ cLv M t = nI k ∧ cSl M t = nI i)) 0 n 0 = nI (cn M (nI k) i n) := by
    intro n
    induction n with
    | zero => intro _; rfl
    | succ n ih =>
      intro hn
      rw [itr_last, Nat.zero_add, ih (by omega)]
      rw [cn_s]
      have hiff : (isT M n ∧ cLv M n = nI k ∧ cSl M n = nI i) ↔ (fuB M (nI k) n = true ∧ M (407 + n) = nI i) := by
        unfold fuB
        rw [decide_eq_true_iff]
        constructor
        · intro h
          have h2 := cLv_at (hB n (by omega)).2.2 h.2.1 (nI_ne_m2 (by omega))
          exact ⟨⟨⟨h.1, h2.1⟩, h2.2⟩, (cSl_0 h2.1).symm.trans h.2.2⟩
        · intro h
          exact ⟨h.1.1.1, (cLv_0 h.1.1.2).trans h.1.2, (cSl_0 h.1.1.2).trans h.2⟩
      rw [bz_congr hiff]
      by_cases q : fuB M (nI k) n = true ∧ M (407 + n) = nI i
      · rw [if_pos q, bz_t q, nI_1]
      · rw [if_neg q, bz_f q, Int32.add_zero]
        rfl
  exact this 16 (Nat.le_refl 16)
theorem itr_add {α : Type} (f : Nat → α → α) : ∀ a b i s, itr f i (a + b) s = itr f (i + a) b (itr f i a s)
  | 0, b, i, s => by rw [Nat.zero_add]; rfl
  | a + 1, b, i, s => by
    rw [show a + 1 + b = (a + b) + 1 by omega, itr_succ, itr_succ, itr_add f a b (i + 1), show i + 1 + a = i + (a + 1) by omega]
/-- full, as the class counts -/
def flF (M : Nat → Int32) (lv : Int32) (i : Nat) (s : List Nat × Int32) : List Nat × Int32 := (if 0 < cntI M lv (nI i) then s.1 ++ [i] else s.1, s.2 + cntI M lv (nI i))
theorem full_eq {M : Nat → Int32} (hB : Bo M) {k sz : Nat} (hk : k < 4) (hsz : sz ≤ 16) (hs : ∀ t, t < 16 → fuB M (nI k) t = true → ∃ s, M (407 + t) = nI s ∧ s < sz) : itr (flF M (nI k)) 0 sz ([], 0) = (fuL (fuS M (nI k)).1, (fuS M (nI k)).2) := by
  obtain ⟨h1, h2⟩ := fu_pre hsz hs 16 (Nat.le_refl 16)
  change ∀ i, i < 16 → (((fuS M (nI k)).1 >>> (nI i &&& 31)) &&& 1 = 1 ↔ 0 < cn M (nI k) i 16) at h1
  change (fuS M (nI k)).2 = _ at h2
  rw [h2]
  generalize (fuS M (nI k)).1 = b at h1
  have z : ∀ i, sz ≤ i → i < 16 → cn M (nI k) i 16 = 0 := by
    intro i hi hi6
    have : ∀ n, n ≤ 16 → cn M (nI k) i n = 0 := by
      intro n
      induction n with
      | zero => intro _; rfl
      | succ n ih =>
        intro hn
        rw [cn_s]
        rw [ih (by omega), if_neg (fun q => ?_)]
        obtain ⟨s, e, hss⟩ := hs n (by omega) q.1
        have := (nI_eq (by omega) (by omega)).mp (e.symm.trans q.2)
        omega
    exact this 16 (Nat.le_refl 16)
  have a1 : ∀ m, m ≤ sz → itr (flF M (nI k)) 0 m ([], 0) = (itr (fuG b) 0 m [], nI (sm (fun i => cn M (nI k) i 16) m)) := by
    intro m
    induction m with
    | zero => intro _; rfl
    | succ m ih =>
      intro hm
      rw [itr_last, itr_last, Nat.zero_add, ih (by omega)]
      unfold flF fuG
      have hc := cn_le M (nI k) m 16
      rw [cntI_cn hB hk]
      have e : (0 : Int32) < nI (cn M (nI k) m 16) ↔ 0 < cn M (nI k) m 16 := nI_ltI (a := 0) (by omega) (by omega)
      refine Prod.ext ?_ (by show nI _ + nI _ = nI (sm _ (m + 1)); rw [nI_add]; rfl)
      show (if _ then _ else _) = (if _ then _ else _)
      by_cases q : 0 < cn M (nI k) m 16
      · rw [if_pos (e.mpr q), if_pos ((h1 m (by omega)).mpr q)]
      · rw [if_neg (fun h => q (e.mp h)), if_neg (fun h => q ((h1 m (by omega)).mp h))]
  rw [a1 sz (Nat.le_refl sz)]
  have a2 : fuL b = itr (fuG b) 0 sz [] := by
    unfold fuL
    rw [show (16 : Nat) = sz + (16 - sz) by omega, itr_add, Nat.zero_add]
    exact itr_inv (f := fuG b) (fun _ s => s = itr (fuG b) 0 sz []) (16 - sz) sz (itr (fuG b) 0 sz []) rfl (fun j s g1 g2 hs2 => by
      unfold fuG
      rw [if_neg (fun h => ?_)]
      · exact hs2
      · have := (h1 j (by omega)).mp h
        rw [z j g1 (by omega)] at this
        exact absurd this (Nat.lt_irrefl 0))
  rw [a2]
theorem fl_len {M : Nat → Int32} {lv : Int32} : ∀ n i (s : List Nat × Int32), (itr (flF M lv) i n s).1.length ≤ s.1.length + n
  | 0, _, _ => Nat.le_refl _
  | n + 1, i, s => by
    rw [itr_succ]
    have := fl_len (M := M) (lv := lv) n (i + 1) (flF M lv i s)
    have h2 : (flF M lv i s).1.length ≤ s.1.length + 1 := by
      unfold flF
      show (if _ then _ else _ : List Nat).length ≤ _
      split
      · simp
      · omega
    omega
