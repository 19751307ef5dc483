/-! other wheels -/
theorem wiN_congr {W W' : Nat → Int32} (h : ∀ k, k < 4 → W k = W' k) : ∀ n k, k + n ≤ 4 → wiN W n k = wiN W' n k
  | 0, _, _ => rfl
  | n + 1, k, hk => by
    unfold wiN
    rw [h k (by omega), wiN_congr h n (k + 1) (by omega)]
theorem wiOk_congr {W W' : Nat → Int32} (h : ∀ k, k < 4 → W k = W' k) : wiOk W = wiOk W' := by
  unfold wiOk
  rw [wiN_congr h 4 0 (by omega)]
  exact itr_congr _ _ _ (fun j c _ h2 => by unfold wiF; rw [h j (by omega)])
theorem and_itr {f : Nat → Bool → Bool} {P : Nat → Prop} (hf : ∀ k c, f k c = true ↔ c = true ∧ P k) : ∀ n i c, itr f i n c = true ↔ c = true ∧ ∀ k, i ≤ k → k < i + n → P k
  | 0, _, _ => ⟨fun h => ⟨h, fun k h1 h2 => absurd h2 (by omega)⟩, fun h => h.1⟩
  | n + 1, i, c => by
    rw [itr_succ, and_itr hf n (i + 1), hf]
    constructor
    · intro h
      refine ⟨h.1.1, fun k h1 h2 => ?_⟩
      by_cases e : k = i
      · rw [e]; exact h.1.2
      · exact h.2 k (by omega) (by omega)
    · intro h
      exact ⟨⟨h.1, h.2 i (by omega) (by omega)⟩, fun k h1 h2 => h.2 k (by omega) (by omega)⟩
theorem wiOk_iff {W : Nat → Int32} : wiOk W = true ↔ 0 < wiN W 4 0 ∧ ∀ k, k < 4 → (if k < wiN W 4 0 then inR (W k) 2 16 else W k = 0) := by
  unfold wiOk
  rw [and_itr (P := fun k => if k < wiN W 4 0 then inR (W k) 2 16 else W k = 0) (fun k c => ?_)]
  · exact ⟨fun h => ⟨of_decide_eq_true h.1, fun k hk => h.2 k (by omega) (by omega)⟩, fun h => ⟨decide_eq_true h.1, fun k _ hk => h.2 k (by omega)⟩⟩
  · unfold wiF
    by_cases q : k < wiN W 4 0
    · simp [q]
    · simp [q]
theorem z16 : ¬ inR 0 2 16 := by decide
theorem pos_wi {a b c e : Int32} : posC a b c e ↔ wiOk (w4 a b c e) = true := by
  rw [wiOk_iff]
  have sp : ∀ P : Nat → Prop, (∀ k, k < 4 → P k) ↔ P 0 ∧ P 1 ∧ P 2 ∧ P 3 := fun P => ⟨fun h => ⟨h 0 (by omega), h 1 (by omega), h 2 (by omega), h 3 (by omega)⟩, fun h k hk => by
    have : k = 0 ∨ k = 1 ∨ k = 2 ∨ k = 3 := by omega
    rcases this with q | q | q | q <;> subst q
    · exact h.1
    · exact h.2.1
    · exact h.2.2.1
    · exact h.2.2.2⟩
  rw [sp]
  show posC a b c e ↔ 0 < wiN (w4 a b c e) 4 0 ∧ _
  have hN : wiN (w4 a b c e) 4 0 = if a = 0 then 0 else if b = 0 then 1 else if c = 0 then 2 else if e = 0 then 3 else 4 := rfl
  rw [hN]
  show posC a b c e ↔ _ ∧ (if _ then inR a 2 16 else a = 0) ∧ (if _ then inR b 2 16 else b = 0) ∧ (if _ then inR c 2 16 else c = 0) ∧ (if _ then inR e 2 16 else e = 0)
  unfold posC
  by_cases ha : a = 0
  · rw [if_pos ha]
    exact ⟨fun h => absurd h.1.1 (by rw [ha]; exact z16), fun h => absurd h.1 (by omega)⟩
  · rw [if_neg ha]
    by_cases hb : b = 0
    · rw [if_pos hb]
      constructor
      · intro h
        have hc := h.2.1.resolve_left (fun q => q hb)
        have he := h.2.2.resolve_left (fun q => q hc)
        exact ⟨by omega, by rw [if_pos (by omega)]; exact h.1.1, by rw [if_neg (by omega)]; exact hb, by rw [if_neg (by omega)]; exact hc, by rw [if_neg (by omega)]; exact he⟩
      · intro h
        obtain ⟨-, h1, h2, h3, h4⟩ := h
        rw [if_pos (by omega)] at h1
        rw [if_neg (by omega)] at h3 h4
        exact ⟨⟨h1, Or.inl hb, Or.inl h3, Or.inl h4⟩, Or.inr h3, Or.inr h4⟩
    · rw [if_neg hb]
      by_cases hc : c = 0
      · rw [if_pos hc]
        constructor
        · intro h
          have he := h.2.2.resolve_left (fun q => q hc)
          exact ⟨by omega, by rw [if_pos (by omega)]; exact h.1.1, by rw [if_pos (by omega)]; exact h.1.2.1.resolve_left hb, by rw [if_neg (by omega)]; exact hc, by rw [if_neg (by omega)]; exact he⟩
        · intro h
          obtain ⟨-, h1, h2, h3, h4⟩ := h
          rw [if_pos (by omega)] at h1 h2
          rw [if_neg (by omega)] at h4
          exact ⟨⟨h1, Or.inr h2, Or.inl hc, Or.inl h4⟩, Or.inl hb, Or.inr h4⟩
      · rw [if_neg hc]
        by_cases he : e = 0
        · rw [if_pos he]
          constructor
          · intro h
            exact ⟨by omega, by rw [if_pos (by omega)]; exact h.1.1, by rw [if_pos (by omega)]; exact h.1.2.1.resolve_left hb, by rw [if_pos (by omega)]; exact h.1.2.2.1.resolve_left hc, by rw [if_neg (by omega)]; exact he⟩
          · intro h
            obtain ⟨-, h1, h2, h3, h4⟩ := h
            rw [if_pos (by omega)] at h1 h2 h3
            exact ⟨⟨h1, Or.inr h2, Or.inr h3, Or.inl he⟩, Or.inl hb, Or.inl hc⟩
        · rw [if_neg he]
          constructor
          · intro h
            exact ⟨by omega, by rw [if_pos (by omega)]; exact h.1.1, by rw [if_pos (by omega)]; exact h.1.2.1.resolve_left hb, by rw [if_pos (by omega)]; exact h.1.2.2.1.resolve_left hc, by rw [if_pos (by omega)]; exact h.1.2.2.2.resolve_left he⟩
          · intro h
            obtain ⟨-, h1, h2, h3, h4⟩ := h
            rw [if_pos (by omega)] at h1 h2 h3 h4
            exact ⟨⟨h1, Or.inr h2, Or.inr h3, Or.inr h4⟩, Or.inl hb, Or.inl hc⟩
theorem wiOk_z {W : Nat → Int32} (h : wiOk W = true) {k : Nat} (h1 : wiN W 4 0 ≤ k) (h2 : k < 4) : W k = 0 := by
  have := (wiOk_iff.mp h).2 k h2
  rw [if_neg (by omega)] at this
  exact this
theorem Z0_wiM {M W : Nat → Int32} (h : wiOk W = true) : Z0 (wiM M W (wiN W 4 0)) (wiN W 4 0) := fun k h1 h2 => by
  rw [wiM_at, if_neg (by omega), if_pos (by omega), Nat.add_sub_cancel_left]
  exact wiOk_z h h1 h2
theorem asW_iff {M W : Nat → Int32} {n : Nat} : asW M W n = true ↔ nI n = M 0 ∧ ∀ k, k < n → M (1 + k) = W k := by
  unfold asW
  rw [and_itr (P := fun k => M (1 + k) = W k) (fun k c => by unfold asF; simp)]
  exact ⟨fun h => ⟨of_decide_eq_true h.1, fun k hk => h.2 k (by omega) (by omega)⟩, fun h => ⟨decide_eq_true h.1, fun k _ hk => h.2 k (by omega)⟩⟩
theorem asW_congr {M W W' : Nat → Int32} {n : Nat} (hn : n ≤ 4) (h : ∀ k, k < 4 → W k = W' k) : asW M W n = asW M W' n := by
  rw [Bool.eq_iff_iff, asW_iff, asW_iff]
  exact ⟨fun q => ⟨q.1, fun k hk => (q.2 k hk).trans (h k (by omega))⟩, fun q => ⟨q.1, fun k hk => (q.2 k hk).trans (h k (by omega)).symm⟩⟩
theorem wiN_eq {W : Nat → Int32} : ∀ n k L, k ≤ L → L ≤ k + n → (∀ j, k ≤ j → j < L → W j ≠ 0) → (L < k + n → W L = 0) → wiN W n k = L
  | 0, k, L, h1, h2, _, _ => by show k = L; omega
  | n + 1, k, L, h1, h2, h3, h4 => by
    unfold wiN
    by_cases e : k = L
    · rw [if_pos (by rw [e]; exact h4 (by omega))]
      exact e
    · rw [if_neg (h3 k (Nat.le_refl k) (by omega))]
      exact wiN_eq n (k + 1) L (by omega) (by omega) (fun j h5 h6 => h3 j (by omega) h6) (fun h => h4 (by omega))
/-- as wished: all four SIZES are what they were -/
theorem as_of {M W : Nat → Int32} {L : Nat} (hF : Wf M L) (hZ : Z0 M L) (hok : wiOk W = true) : asW M W (wiN W 4 0) = true ↔ ∀ k, k < 4 → M (1 + k) = W k := by
  have hL := hF.2.2.1
  have hN := (wiN_le W 4 0).2
  rw [asW_iff, hF.1]
  constructor
  · intro h k hk
    have e : wiN W 4 0 = L := (nI_eq (by omega) (by omega)).mp h.1
    by_cases q : k < L
    · exact h.2 k (by omega)
    · rw [hZ k (by omega) hk, wiOk_z hok (by omega) hk]
  · intro h
    have e : wiN W 4 0 = L := wiN_eq 4 0 L (Nat.zero_le _) (by omega) (fun j _ hj => by
      rw [← h j (by omega)]
      obtain ⟨s, hs, h1, h2⟩ := hF.2.2.2 j hj
      rw [hs]
      exact nI_ne0 (by omega) (by omega)) (fun hl => by rw [← h L (by omega)]; exact hZ L (Nat.le_refl _) (by omega))
    rw [e]
    exact ⟨rfl, fun k hk => h k (by omega)⟩
theorem wyL_congr {M N : Nat → Int32} {L : Nat} {due : Int32} (hL : L ≤ 4) (h : ∀ j, j < 5 → M j = N j) : ∀ n its, LvOk L its → wyL M L due n its = wyL N L due n its
  | 0, _, _ => rfl
  | n + 1, its, ho => by
    have e : wyBy M L its = wyBy N L its := by
      unfold wyBy
      rcases ho with q | ⟨j, hj, q⟩
      · rw [if_pos (by rw [q]; decide), if_pos (by rw [q]; decide), spanM_congr (M := N) (M' := M) hL h]
      · have hx : ix its = j := by rw [q]; exact ix_nI (by omega)
        rw [hx, spanM_congr (M := N) (M' := M) hL h, spanM_congr (M := N) (M' := M) (by omega) h]
    unfold wyL
    rw [e, lvF_congr h L 0 (by omega), wyL_congr hL h n _ LvOk_lvF]
/-- what lies where, were it laid in other wheels -/
def wl (M M0 : Nat → Int32) (N t : Nat) : Nat := (wyL M0 N (M (231 + t)) 5 (lvF M0 (M (231 + t) - M 6) N 0)).length
def mbS (M M0 : Nat → Int32) (N : Nat) : Int32 := itr (fun t v => if isG M t then v + nI (wl M M0 N t) else v) 0 16 0
def faS (M M0 : Nat → Int32) (N : Nat) : Int32 × Int32 := itr (fun t v => if isG M t then (v.1 + bz (lvF M0 (M (231 + t) - M 6) N 0 = -1), mxI v.2 (nI (wl M M0 N t))) else v) 0 16 (0, 0)
theorem layAll_at {M : Nat → Int32} {L : Nat} (hL : L ≤ 4) {t : Nat} (ht : t < 16) (hG : isG M t) : layAllM M L (391 + t) = lvF M (M (231 + t) - M 6) L 0 := by
  unfold layAllM
  have h := itr_inv (f := fun t M => if isG M t then layM M L t else M) (fun i s => (∀ j, j < 391 → s j = M j) ∧ ∀ t, t < i → t < 16 → isG M t → s (391 + t) = lvF M (M (231 + t) - M 6) L 0) 16 0 M ⟨fun _ _ => rfl, fun t h => absurd h (Nat.not_lt_zero t)⟩ (fun j s _ h2 hs => by
    have hGs : isG s j ↔ isG M j := by unfold isG; rw [hs.1 _ (by omega), hs.1 _ (by omega)]
    by_cases hj : isG s j
    · rw [if_pos hj]
      refine ⟨fun i hi => (layM_ne hi).trans (hs.1 i hi), fun t ht ht6 hGt => ?_⟩
      by_cases e : t = j
      · subst e
        rw [lay_lv (by omega), hs.1 _ (by omega), hs.1 6 (by omega), lvF_congr (M := s) (N := M) (fun i hi => hs.1 i (by omega)) L 0 (by omega)]
      · rw [lay_lv_ne (by omega) ht6 e]
        exact hs.2 t (by omega) ht6 hGt
    · rw [if_neg hj]
      refine ⟨hs.1, fun t ht ht6 hGt => ?_⟩
      by_cases e : t = j
      · subst e; exact absurd (hGs.mpr hGt) hj
      · exact hs.2 t (by omega) ht6 hGt)
  exact h.2 t (by omega) ht hG
theorem co_eq {M M' M0 : Nat → Int32} {N : Nat} (hN : N ≤ 4) (h0 : ∀ j, 5 ≤ j → j < 423 → M0 j = M j) : (coS N (layAllM M0 N)).1 = mbS M M0 N ∧ (coS N (layAllM M0 N)).2 = faS M M0 N := by
  have hlo : ∀ j, j < 391 → layAllM M0 N j = M0 j ∨ j = 8 := fun j hj => by
    by_cases e : j = 8
    · exact Or.inr e
    · exact Or.inl (Lo_layAll j hj e)
  have step : ∀ t v, t < 16 → coF N (layAllM M0 N) t v = if isG M t then (v.1 + nI (wl M M0 N t), v.2.1 + bz (lvF M0 (M (231 + t) - M 6) N 0 = -1), mxI v.2.2 (nI (wl M M0 N t))) else v := fun t v ht => by
    have l1 := Lo_layAll (M := M0) (L := N) (215 + t) (by omega) (by omega)
    have l2 := Lo_layAll (M := M0) (L := N) (343 + t) (by omega) (by omega)
    have l3 := Lo_layAll (M := M0) (L := N) (231 + t) (by omega) (by omega)
    have hG : isG (layAllM M0 N) t ↔ isG M t := by unfold isG; rw [l1, l2, h0 _ (by omega) (by omega), h0 _ (by omega) (by omega)]
    have hG0 : isG M0 t ↔ isG M t := by unfold isG; rw [h0 _ (by omega) (by omega), h0 _ (by omega) (by omega)]
    unfold coF
    by_cases q : isG M t
    · rw [if_pos (hG.mpr q), if_pos q, layAll_at hN ht (hG0.mpr q), l3, h0 (231 + t) (by omega) (by omega), h0 6 (by omega) (by omega)]
      rw [wyL_congr (N := M0) hN (fun j hj => Lo_layAll j (by omega) (by omega)) 5 _ LvOk_lvF]
      rfl
    · rw [if_neg (fun h => q (hG.mp h)), if_neg q]
  have key : ∀ n i v, i + n = 16 → itr (coF N (layAllM M0 N)) i n v = (itr (fun t v => if isG M t then v + nI (wl M M0 N t) else v) i n v.1, itr (fun t v => if isG M t then (v.1 + bz (lvF M0 (M (231 + t) - M 6) N 0 = -1), mxI v.2 (nI (wl M M0 N t))) else v) i n v.2) := by
    intro n
    induction n with
    | zero => intro i v _; rfl
    | succ n ih =>
      intro i v hi
      rw [itr_succ, itr_succ, itr_succ, step i v (by omega), ih (i + 1) _ (by omega)]
      by_cases q : isG M i
      · rw [if_pos q, if_pos q, if_pos q]
      · rw [if_neg q, if_neg q, if_neg q]
  have := key 16 0 (0, 0, 0) (by omega)
  unfold coS mbS faS
  rw [this]
  exact ⟨rfl, rfl⟩
theorem mbS_congr {M M0 M1 : Nat → Int32} {N : Nat} (hN : N ≤ 4) (h : ∀ j, j < 5 → M0 j = M1 j) : mbS M M0 N = mbS M M1 N := by
  unfold mbS
  refine itr_congr _ _ _ (fun t v _ _ => ?_)
  unfold wl
  rw [lvF_congr h N 0 (by omega), wyL_congr hN h 5 _ LvOk_lvF]
theorem faS_congr {M M0 M1 : Nat → Int32} {N : Nat} (hN : N ≤ 4) (h : ∀ j, j < 5 → M0 j = M1 j) : faS M M0 N = faS M M1 N := by
  unfold faS
  refine itr_congr _ _ _ (fun t v _ _ => ?_)
  unfold wl
  rw [lvF_congr h N 0 (by omega), wyL_congr hN h 5 _ LvOk_lvF]
