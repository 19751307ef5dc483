theorem wI_ne {σ : Mm} {a x j : Nat} {v : Int32} (h : x ≠ a) : (wI σ a j v).1 x = σ.1 x := by
  funext y
  exact up2_ne _ _ (Or.inl h)
theorem wI_at {σ : Mm} {a j : Nat} {v : Int32} : (wI σ a j v).1 a j = v := up2_self _ _ _ _
theorem wI_nj {σ : Mm} {a i j : Nat} {v : Int32} (h : i ≠ j) : (wI σ a j v).1 a i = σ.1 a i := up2_ne _ _ (Or.inr h)
theorem WRel_live {b L t : Nat} {M : Nat → Int32} {σ : Mm} {v : Int32} (h : WRel b M L σ) (hL : L ≤ 4) (ht : t < 16) : WRel b (uM M (215 + t) v) L (wI σ (b + 7 + t) 1 v) := by
  have h0 := h.2.2 t ht
  refine h.one hL ht (fun j hj => uM_ne _ _ (by omega)) (fun j h1 h2 h3 => uM_ne _ _ (by omega)) ?_ ?_ ?_ (fun k h1 h2 h3 => wI_ne (by omega)) ⟨⟨by rw [wI_nj (by decide)]; exact h0.no, by rw [wI_at, uM_self], by rw [wI_nj (by decide), uM_ne _ _ (by omega)]; exact h0.1.2.2.1, by rw [wI_nj (by decide), uM_ne _ _ (by omega)]; exact h0.1.2.2.2.1, by rw [wI_nj (by decide), uM_ne _ _ (by omega)]; exact h0.1.2.2.2.2.1, by rw [wI_nj (by decide), uM_ne _ _ (by omega)]; exact h0.1.2.2.2.2.2.1, by rw [wI_nj (by decide), uM_ne _ _ (by omega)]; exact h0.1.2.2.2.2.2.2.1, by rw [wI_nj (by decide), uM_ne _ _ (by omega)]; exact h0.1.2.2.2.2.2.2.2.1, by rw [wI_nj (by decide), uM_ne _ _ (by omega)]; exact h0.1.2.2.2.2.2.2.2.2.1, by rw [wI_nj (by decide), uM_ne _ _ (by omega)]; exact h0.1.2.2.2.2.2.2.2.2.2.1, by rw [wI_nj (by decide), uM_ne _ _ (by omega)]; exact h0.1.2.2.2.2.2.2.2.2.2.2⟩, fun q => ?_, fun q => ?_⟩
  · rw [wI_ne (by omega), uM_ne _ _ (by omega)]; exact h.1.2.2.1
  · rw [wI_ne (by omega), uM_ne _ _ (by omega)]; exact h.1.2.2.2
  · rw [wI_ne (by omega)]; exact ⟨rfl, rfl⟩
  · rw [uM_ne _ _ (by omega)] at q
    rw [wI_nj (by decide), wI_nj (by decide), wI_nj (by decide), uM_ne _ _ (by omega)]
    exact h0.2.1 q
  · rw [uM_ne _ _ (by omega)] at q
    rw [wI_nj (by decide), wI_nj (by decide), uM_ne _ _ (by omega), uM_ne _ _ (by omega)]
    exact h0.2.2 q
theorem WRel_due {b L t : Nat} {M : Nat → Int32} {σ : Mm} {v : Int32} (h : WRel b M L σ) (hL : L ≤ 4) (ht : t < 16) : WRel b (uM M (231 + t) v) L (wI σ (b + 7 + t) 2 v) := by
  have h0 := h.2.2 t ht
  refine h.one hL ht (fun j hj => uM_ne _ _ (by omega)) (fun j h1 h2 h3 => uM_ne _ _ (by omega)) ?_ ?_ ?_ (fun k h1 h2 h3 => wI_ne (by omega)) ⟨⟨by rw [wI_nj (by decide)]; exact h0.no, by rw [wI_nj (by decide), uM_ne _ _ (by omega)]; exact h0.1.2.1, by rw [wI_at, uM_self], by rw [wI_nj (by decide), uM_ne _ _ (by omega)]; exact h0.1.2.2.2.1, by rw [wI_nj (by decide), uM_ne _ _ (by omega)]; exact h0.1.2.2.2.2.1, by rw [wI_nj (by decide), uM_ne _ _ (by omega)]; exact h0.1.2.2.2.2.2.1, by rw [wI_nj (by decide), uM_ne _ _ (by omega)]; exact h0.1.2.2.2.2.2.2.1, by rw [wI_nj (by decide), uM_ne _ _ (by omega)]; exact h0.1.2.2.2.2.2.2.2.1, by rw [wI_nj (by decide), uM_ne _ _ (by omega)]; exact h0.1.2.2.2.2.2.2.2.2.1, by rw [wI_nj (by decide), uM_ne _ _ (by omega)]; exact h0.1.2.2.2.2.2.2.2.2.2.1, by rw [wI_nj (by decide), uM_ne _ _ (by omega)]; exact h0.1.2.2.2.2.2.2.2.2.2.2⟩, fun q => ?_, fun q => ?_⟩
  · rw [wI_ne (by omega), uM_ne _ _ (by omega)]; exact h.1.2.2.1
  · rw [wI_ne (by omega), uM_ne _ _ (by omega)]; exact h.1.2.2.2
  · rw [wI_ne (by omega)]; exact ⟨rfl, rfl⟩
  · rw [uM_ne _ _ (by omega)] at q
    rw [wI_nj (by decide), wI_nj (by decide), wI_nj (by decide), uM_ne _ _ (by omega)]
    exact h0.2.1 q
  · rw [uM_ne _ _ (by omega)] at q
    rw [wI_nj (by decide), wI_nj (by decide), uM_ne _ _ (by omega), uM_ne _ _ (by omega)]
    exact h0.2.2 q
theorem WRel_arr {b L t : Nat} {M : Nat → Int32} {σ : Mm} {v : Int32} (h : WRel b M L σ) (hL : L ≤ 4) (ht : t < 16) : WRel b (uM M (247 + t) v) L (wI σ (b + 7 + t) 4 v) := by
  have h0 := h.2.2 t ht
  refine h.one hL ht (fun j hj => uM_ne _ _ (by omega)) (fun j h1 h2 h3 => uM_ne _ _ (by omega)) ?_ ?_ ?_ (fun k h1 h2 h3 => wI_ne (by omega)) ⟨⟨by rw [wI_nj (by decide)]; exact h0.no, by rw [wI_nj (by decide), uM_ne _ _ (by omega)]; exact h0.1.2.1, by rw [wI_nj (by decide), uM_ne _ _ (by omega)]; exact h0.1.2.2.1, by rw [wI_at, uM_self], by rw [wI_nj (by decide), uM_ne _ _ (by omega)]; exact h0.1.2.2.2.2.1, by rw [wI_nj (by decide), uM_ne _ _ (by omega)]; exact h0.1.2.2.2.2.2.1, by rw [wI_nj (by decide), uM_ne _ _ (by omega)]; exact h0.1.2.2.2.2.2.2.1, by rw [wI_nj (by decide), uM_ne _ _ (by omega)]; exact h0.1.2.2.2.2.2.2.2.1, by rw [wI_nj (by decide), uM_ne _ _ (by omega)]; exact h0.1.2.2.2.2.2.2.2.2.1, by rw [wI_nj (by decide), uM_ne _ _ (by omega)]; exact h0.1.2.2.2.2.2.2.2.2.2.1, by rw [wI_nj (by decide), uM_ne _ _ (by omega)]; exact h0.1.2.2.2.2.2.2.2.2.2.2⟩, fun q => ?_, fun q => ?_⟩
  · rw [wI_ne (by omega), uM_ne _ _ (by omega)]; exact h.1.2.2.1
  · rw [wI_ne (by omega), uM_ne _ _ (by omega)]; exact h.1.2.2.2
  · rw [wI_ne (by omega)]; exact ⟨rfl, rfl⟩
  · rw [uM_ne _ _ (by omega)] at q
    rw [wI_nj (by decide), wI_nj (by decide), wI_nj (by decide), uM_ne _ _ (by omega)]
    exact h0.2.1 q
  · rw [uM_ne _ _ (by omega)] at q
    rw [wI_nj (by decide), wI_nj (by decide), uM_ne _ _ (by omega), uM_ne _ _ (by omega)]
    exact h0.2.2 q
theorem WRel_grp {b L t : Nat} {M : Nat → Int32} {σ : Mm} {v : Int32} (h : WRel b M L σ) (hL : L ≤ 4) (ht : t < 16) : WRel b (uM M (263 + t) v) L (wI σ (b + 7 + t) 5 v) := by
  have h0 := h.2.2 t ht
  refine h.one hL ht (fun j hj => uM_ne _ _ (by omega)) (fun j h1 h2 h3 => uM_ne _ _ (by omega)) ?_ ?_ ?_ (fun k h1 h2 h3 => wI_ne (by omega)) ⟨⟨by rw [wI_nj (by decide)]; exact h0.no, by rw [wI_nj (by decide), uM_ne _ _ (by omega)]; exact h0.1.2.1, by rw [wI_nj (by decide), uM_ne _ _ (by omega)]; exact h0.1.2.2.1, by rw [wI_nj (by decide), uM_ne _ _ (by omega)]; exact h0.1.2.2.2.1, by rw [wI_at, uM_self], by rw [wI_nj (by decide), uM_ne _ _ (by omega)]; exact h0.1.2.2.2.2.2.1, by rw [wI_nj (by decide), uM_ne _ _ (by omega)]; exact h0.1.2.2.2.2.2.2.1, by rw [wI_nj (by decide), uM_ne _ _ (by omega)]; exact h0.1.2.2.2.2.2.2.2.1, by rw [wI_nj (by decide), uM_ne _ _ (by omega)]; exact h0.1.2.2.2.2.2.2.2.2.1, by rw [wI_nj (by decide), uM_ne _ _ (by omega)]; exact h0.1.2.2.2.2.2.2.2.2.2.1, by rw [wI_nj (by decide), uM_ne _ _ (by omega)]; exact h0.1.2.2.2.2.2.2.2.2.2.2⟩, fun q => ?_, fun q => ?_⟩
  · rw [wI_ne (by omega), uM_ne _ _ (by omega)]; exact h.1.2.2.1
  · rw [wI_ne (by omega), uM_ne _ _ (by omega)]; exact h.1.2.2.2
  · rw [wI_ne (by omega)]; exact ⟨rfl, rfl⟩
  · rw [uM_ne _ _ (by omega)] at q
    rw [wI_nj (by decide), wI_nj (by decide), wI_nj (by decide), uM_ne _ _ (by omega)]
    exact h0.2.1 q
  · rw [uM_ne _ _ (by omega)] at q
    rw [wI_nj (by decide), wI_nj (by decide), uM_ne _ _ (by omega), uM_ne _ _ (by omega)]
    exact h0.2.2 q
theorem WRel_sort {b L t : Nat} {M : Nat → Int32} {σ : Mm} {v : Int32} (h : WRel b M L σ) (hL : L ≤ 4) (ht : t < 16) : WRel b (uM M (279 + t) v) L (wI σ (b + 7 + t) 6 v) := by
  have h0 := h.2.2 t ht
  refine h.one hL ht (fun j hj => uM_ne _ _ (by omega)) (fun j h1 h2 h3 => uM_ne _ _ (by omega)) ?_ ?_ ?_ (fun k h1 h2 h3 => wI_ne (by omega)) ⟨⟨by rw [wI_nj (by decide)]; exact h0.no, by rw [wI_nj (by decide), uM_ne _ _ (by omega)]; exact h0.1.2.1, by rw [wI_nj (by decide), uM_ne _ _ (by omega)]; exact h0.1.2.2.1, by rw [wI_nj (by decide), uM_ne _ _ (by omega)]; exact h0.1.2.2.2.1, by rw [wI_nj (by decide), uM_ne _ _ (by omega)]; exact h0.1.2.2.2.2.1, by rw [wI_at, uM_self], by rw [wI_nj (by decide), uM_ne _ _ (by omega)]; exact h0.1.2.2.2.2.2.2.1, by rw [wI_nj (by decide), uM_ne _ _ (by omega)]; exact h0.1.2.2.2.2.2.2.2.1, by rw [wI_nj (by decide), uM_ne _ _ (by omega)]; exact h0.1.2.2.2.2.2.2.2.2.1, by rw [wI_nj (by decide), uM_ne _ _ (by omega)]; exact h0.1.2.2.2.2.2.2.2.2.2.1, by rw [wI_nj (by decide), uM_ne _ _ (by omega)]; exact h0.1.2.2.2.2.2.2.2.2.2.2⟩, fun q => ?_, fun q => ?_⟩
  · rw [wI_ne (by omega), uM_ne _ _ (by omega)]; exact h.1.2.2.1
  · rw [wI_ne (by omega), uM_ne _ _ (by omega)]; exact h.1.2.2.2
  · rw [wI_ne (by omega)]; exact ⟨rfl, rfl⟩
  · rw [uM_ne _ _ (by omega)] at q
    rw [wI_nj (by decide), wI_nj (by decide), wI_nj (by decide), uM_ne _ _ (by omega)]
    exact h0.2.1 q
  · rw [uM_ne _ _ (by omega)] at q
    rw [wI_nj (by decide), wI_nj (by decide), uM_ne _ _ (by omega), uM_ne _ _ (by omega)]
    exact h0.2.2 q
theorem WRel_per {b L t : Nat} {M : Nat → Int32} {σ : Mm} {v : Int32} (h : WRel b M L σ) (hL : L ≤ 4) (ht : t < 16) : WRel b (uM M (295 + t) v) L (wI σ (b + 7 + t) 7 v) := by
  have h0 := h.2.2 t ht
  refine h.one hL ht (fun j hj => uM_ne _ _ (by omega)) (fun j h1 h2 h3 => uM_ne _ _ (by omega)) ?_ ?_ ?_ (fun k h1 h2 h3 => wI_ne (by omega)) ⟨⟨by rw [wI_nj (by decide)]; exact h0.no, by rw [wI_nj (by decide), uM_ne _ _ (by omega)]; exact h0.1.2.1, by rw [wI_nj (by decide), uM_ne _ _ (by omega)]; exact h0.1.2.2.1, by rw [wI_nj (by decide), uM_ne _ _ (by omega)]; exact h0.1.2.2.2.1, by rw [wI_nj (by decide), uM_ne _ _ (by omega)]; exact h0.1.2.2.2.2.1, by rw [wI_nj (by decide), uM_ne _ _ (by omega)]; exact h0.1.2.2.2.2.2.1, by rw [wI_at, uM_self], by rw [wI_nj (by decide), uM_ne _ _ (by omega)]; exact h0.1.2.2.2.2.2.2.2.1, by rw [wI_nj (by decide), uM_ne _ _ (by omega)]; exact h0.1.2.2.2.2.2.2.2.2.1, by rw [wI_nj (by decide), uM_ne _ _ (by omega)]; exact h0.1.2.2.2.2.2.2.2.2.2.1, by rw [wI_nj (by decide), uM_ne _ _ (by omega)]; exact h0.1.2.2.2.2.2.2.2.2.2.2⟩, fun q => ?_, fun q => ?_⟩
  · rw [wI_ne (by omega), uM_ne _ _ (by omega)]; exact h.1.2.2.1
  · rw [wI_ne (by omega), uM_ne _ _ (by omega)]; exact h.1.2.2.2
  · rw [wI_ne (by omega)]; exact ⟨rfl, rfl⟩
  · rw [uM_ne _ _ (by omega)] at q
    rw [wI_nj (by decide), wI_nj (by decide), wI_nj (by decide), uM_ne _ _ (by omega)]
    exact h0.2.1 q
  · rw [uM_ne _ _ (by omega)] at q
    rw [wI_nj (by decide), wI_nj (by decide), uM_ne _ _ (by omega), uM_ne _ _ (by omega)]
    exact h0.2.2 q
theorem WRel_tms {b L t : Nat} {M : Nat → Int32} {σ : Mm} {v : Int32} (h : WRel b M L σ) (hL : L ≤ 4) (ht : t < 16) : WRel b (uM M (311 + t) v) L (wI σ (b + 7 + t) 8 v) := by
  have h0 := h.2.2 t ht
  refine h.one hL ht (fun j hj => uM_ne _ _ (by omega)) (fun j h1 h2 h3 => uM_ne _ _ (by omega)) ?_ ?_ ?_ (fun k h1 h2 h3 => wI_ne (by omega)) ⟨⟨by rw [wI_nj (by decide)]; exact h0.no, by rw [wI_nj (by decide), uM_ne _ _ (by omega)]; exact h0.1.2.1, by rw [wI_nj (by decide), uM_ne _ _ (by omega)]; exact h0.1.2.2.1, by rw [wI_nj (by decide), uM_ne _ _ (by omega)]; exact h0.1.2.2.2.1, by rw [wI_nj (by decide), uM_ne _ _ (by omega)]; exact h0.1.2.2.2.2.1, by rw [wI_nj (by decide), uM_ne _ _ (by omega)]; exact h0.1.2.2.2.2.2.1, by rw [wI_nj (by decide), uM_ne _ _ (by omega)]; exact h0.1.2.2.2.2.2.2.1, by rw [wI_at, uM_self], by rw [wI_nj (by decide), uM_ne _ _ (by omega)]; exact h0.1.2.2.2.2.2.2.2.2.1, by rw [wI_nj (by decide), uM_ne _ _ (by omega)]; exact h0.1.2.2.2.2.2.2.2.2.2.1, by rw [wI_nj (by decide), uM_ne _ _ (by omega)]; exact h0.1.2.2.2.2.2.2.2.2.2.2⟩, fun q => ?_, fun q => ?_⟩
  · rw [wI_ne (by omega), uM_ne _ _ (by omega)]; exact h.1.2.2.1
  · rw [wI_ne (by omega), uM_ne _ _ (by omega)]; exact h.1.2.2.2
  · rw [wI_ne (by omega)]; exact ⟨rfl, rfl⟩
  · rw [uM_ne _ _ (by omega)] at q
    rw [wI_nj (by decide), wI_nj (by decide), wI_nj (by decide), uM_ne _ _ (by omega)]
    exact h0.2.1 q
  · rw [uM_ne _ _ (by omega)] at q
    rw [wI_nj (by decide), wI_nj (by decide), uM_ne _ _ (by omega), uM_ne _ _ (by omega)]
    exact h0.2.2 q
theorem WRel_rang {b L t : Nat} {M : Nat → Int32} {σ : Mm} {v : Int32} (h : WRel b M L σ) (hL : L ≤ 4) (ht : t < 16) : WRel b (uM M (375 + t) v) L (wI σ (b + 7 + t) 9 v) := by
  have h0 := h.2.2 t ht
  refine h.one hL ht (fun j hj => uM_ne _ _ (by omega)) (fun j h1 h2 h3 => uM_ne _ _ (by omega)) ?_ ?_ ?_ (fun k h1 h2 h3 => wI_ne (by omega)) ⟨⟨by rw [wI_nj (by decide)]; exact h0.no, by rw [wI_nj (by decide), uM_ne _ _ (by omega)]; exact h0.1.2.1, by rw [wI_nj (by decide), uM_ne _ _ (by omega)]; exact h0.1.2.2.1, by rw [wI_nj (by decide), uM_ne _ _ (by omega)]; exact h0.1.2.2.2.1, by rw [wI_nj (by decide), uM_ne _ _ (by omega)]; exact h0.1.2.2.2.2.1, by rw [wI_nj (by decide), uM_ne _ _ (by omega)]; exact h0.1.2.2.2.2.2.1, by rw [wI_nj (by decide), uM_ne _ _ (by omega)]; exact h0.1.2.2.2.2.2.2.1, by rw [wI_nj (by decide), uM_ne _ _ (by omega)]; exact h0.1.2.2.2.2.2.2.2.1, by rw [wI_at, uM_self], by rw [wI_nj (by decide), uM_ne _ _ (by omega)]; exact h0.1.2.2.2.2.2.2.2.2.2.1, by rw [wI_nj (by decide), uM_ne _ _ (by omega)]; exact h0.1.2.2.2.2.2.2.2.2.2.2⟩, fun q => ?_, fun q => ?_⟩
  · rw [wI_ne (by omega), uM_ne _ _ (by omega)]; exact h.1.2.2.1
  · rw [wI_ne (by omega), uM_ne _ _ (by omega)]; exact h.1.2.2.2
  · rw [wI_ne (by omega)]; exact ⟨rfl, rfl⟩
  · rw [uM_ne _ _ (by omega)] at q
    rw [wI_nj (by decide), wI_nj (by decide), wI_nj (by decide), uM_ne _ _ (by omega)]
    exact h0.2.1 q
  · rw [uM_ne _ _ (by omega)] at q
    rw [wI_nj (by decide), wI_nj (by decide), uM_ne _ _ (by omega), uM_ne _ _ (by omega)]
    exact h0.2.2 q
theorem WRel_ste {b L t : Nat} {M : Nat → Int32} {σ : Mm} {v : Int32} (h : WRel b M L σ) (hL : L ≤ 4) (ht : t < 16) : WRel b (uM M (327 + t) v) L (wI σ (b + 7 + t) 10 v) := by
  have h0 := h.2.2 t ht
  refine h.one hL ht (fun j hj => uM_ne _ _ (by omega)) (fun j h1 h2 h3 => uM_ne _ _ (by omega)) ?_ ?_ ?_ (fun k h1 h2 h3 => wI_ne (by omega)) ⟨⟨by rw [wI_nj (by decide)]; exact h0.no, by rw [wI_nj (by decide), uM_ne _ _ (by omega)]; exact h0.1.2.1, by rw [wI_nj (by decide), uM_ne _ _ (by omega)]; exact h0.1.2.2.1, by rw [wI_nj (by decide), uM_ne _ _ (by omega)]; exact h0.1.2.2.2.1, by rw [wI_nj (by decide), uM_ne _ _ (by omega)]; exact h0.1.2.2.2.2.1, by rw [wI_nj (by decide), uM_ne _ _ (by omega)]; exact h0.1.2.2.2.2.2.1, by rw [wI_nj (by decide), uM_ne _ _ (by omega)]; exact h0.1.2.2.2.2.2.2.1, by rw [wI_nj (by decide), uM_ne _ _ (by omega)]; exact h0.1.2.2.2.2.2.2.2.1, by rw [wI_nj (by decide), uM_ne _ _ (by omega)]; exact h0.1.2.2.2.2.2.2.2.2.1, by rw [wI_at, uM_self], by rw [wI_nj (by decide), uM_ne _ _ (by omega)]; exact h0.1.2.2.2.2.2.2.2.2.2.2⟩, fun q => ?_, fun q => ?_⟩
  · rw [wI_ne (by omega), uM_ne _ _ (by omega)]; exact h.1.2.2.1
  · rw [wI_ne (by omega), uM_ne _ _ (by omega)]; exact h.1.2.2.2
  · rw [wI_ne (by omega)]; exact ⟨rfl, rfl⟩
  · rw [uM_ne _ _ (by omega)] at q
    rw [wI_nj (by decide), wI_nj (by decide), wI_nj (by decide), uM_ne _ _ (by omega)]
    exact h0.2.1 q
  · rw [uM_ne _ _ (by omega)] at q
    rw [wI_nj (by decide), wI_nj (by decide), uM_ne _ _ (by omega), uM_ne _ _ (by omega)]
    exact h0.2.2 q
theorem WRel_dar {b L t : Nat} {M : Nat → Int32} {σ : Mm} {v : Int32} (h : WRel b M L σ) (hL : L ≤ 4) (ht : t < 16) : WRel b M L (wI σ (b + 7 + t) 3 v) := by
  have h0 := h.2.2 t ht
  refine h.one hL ht (fun j hj => rfl) (fun j h1 h2 h3 => rfl) ?_ ?_ ?_ (fun k h1 h2 h3 => wI_ne (by omega)) ?_
  · rw [wI_ne (by omega)]; exact h.1.2.2.1
  · rw [wI_ne (by omega)]; exact h.1.2.2.2
  · rw [wI_ne (by omega)]; exact ⟨rfl, rfl⟩
  · unfold TmR at h0 ⊢
    rw [wI_nj (by decide), wI_nj (by decide), wI_nj (by decide), wI_nj (by decide), wI_nj (by decide), wI_nj (by decide), wI_nj (by decide), wI_nj (by decide), wI_nj (by decide), wI_nj (by decide), wI_nj (by decide), wI_nj (by decide), wI_nj (by decide), wI_nj (by decide)]
    exact h0
theorem WRel_clk {b L : Nat} {M : Nat → Int32} {σ : Mm} {v : Int32} (h : WRel b M L σ) (hL : L ≤ 4) : WRel b (uM M 6 v) L (wI σ b 3 v) := by
  refine ⟨⟨by rw [wI_at, uM_self], by rw [wI_nj (by decide), uM_ne _ _ (by decide)]; exact h.1.2.1, by rw [wI_nj (by decide), uM_ne _ _ (by decide)]; exact h.1.2.2.1, by rw [wI_nj (by decide), uM_ne _ _ (by decide)]; exact h.1.2.2.2⟩, h.2.1.off hL (fun j hj => uM_ne _ _ (by omega)) (wI_ne (by omega)) (wI_ne (by omega)) (wI_ne (by omega)), fun t ht => (h.2.2 t ht).sm ht (fun j h1 h2 _ => uM_ne _ _ (by omega)) (wI_ne (by omega))⟩
theorem WRel_rule {b L : Nat} {M : Nat → Int32} {σ : Mm} {v : Int32} (h : WRel b M L σ) (hL : L ≤ 4) : WRel b (uM M 5 v) L (wI σ b 4 v) := by
  refine ⟨⟨by rw [wI_nj (by decide), uM_ne _ _ (by decide)]; exact h.1.1, by rw [wI_at, uM_self], by rw [wI_nj (by decide), uM_ne _ _ (by decide)]; exact h.1.2.2.1, by rw [wI_nj (by decide), uM_ne _ _ (by decide)]; exact h.1.2.2.2⟩, h.2.1.off hL (fun j hj => uM_ne _ _ (by omega)) (wI_ne (by omega)) (wI_ne (by omega)) (wI_ne (by omega)), fun t ht => (h.2.2 t ht).sm ht (fun j h1 h2 _ => uM_ne _ _ (by omega)) (wI_ne (by omega))⟩
theorem WRel_mov {b L : Nat} {M : Nat → Int32} {σ : Mm} {v : Int32} (h : WRel b M L σ) (hL : L ≤ 4) : WRel b (uM M 8 v) L (wI σ b 5 v) := by
  refine ⟨⟨by rw [wI_nj (by decide), uM_ne _ _ (by decide)]; exact h.1.1, by rw [wI_nj (by decide), uM_ne _ _ (by decide)]; exact h.1.2.1, by rw [wI_at, uM_self], by rw [wI_nj (by decide), uM_ne _ _ (by decide)]; exact h.1.2.2.2⟩, h.2.1.off hL (fun j hj => uM_ne _ _ (by omega)) (wI_ne (by omega)) (wI_ne (by omega)) (wI_ne (by omega)), fun t ht => (h.2.2 t ht).sm ht (fun j h1 h2 _ => uM_ne _ _ (by omega)) (wI_ne (by omega))⟩
theorem WRel_mis {b L : Nat} {M : Nat → Int32} {σ : Mm} {v : Int32} (h : WRel b M L σ) (hL : L ≤ 4) : WRel b (uM M 9 v) L (wI σ b 6 v) := by
  refine ⟨⟨by rw [wI_nj (by decide), uM_ne _ _ (by decide)]; exact h.1.1, by rw [wI_nj (by decide), uM_ne _ _ (by decide)]; exact h.1.2.1, by rw [wI_nj (by decide), uM_ne _ _ (by decide)]; exact h.1.2.2.1, by rw [wI_at, uM_self]⟩, h.2.1.off hL (fun j hj => uM_ne _ _ (by omega)) (wI_ne (by omega)) (wI_ne (by omega)) (wI_ne (by omega)), fun t ht => (h.2.2 t ht).sm ht (fun j h1 h2 _ => uM_ne _ _ (by omega)) (wI_ne (by omega))⟩
/-- what a line's rows hold stays -/
def OffL (b : Nat) (σ σ' : Mm) : Prop := ∀ a, (a < b ∨ b + 23 ≤ a ∨ a = b + 5 ∨ a = b + 6) → σ'.1 a = σ.1 a ∧ σ'.2.1 a = σ.2.1 a ∧ σ'.2.2 a = σ.2.2 a
theorem OffL.rf {b : Nat} {σ : Mm} : OffL b σ σ := fun _ _ => ⟨rfl, rfl, rfl⟩
theorem OffL.tr {b : Nat} {σ τ ρ : Mm} (h1 : OffL b σ τ) (h2 : OffL b τ ρ) : OffL b σ ρ := fun a h =>
  ⟨(h2 a h).1.trans (h1 a h).1, (h2 a h).2.1.trans (h1 a h).2.1, (h2 a h).2.2.trans (h1 a h).2.2⟩
theorem OffL.wI {b a j : Nat} {σ τ : Mm} {v : Int32} (h : OffL b σ τ) (h1 : b ≤ a) (h2 : a < b + 23) (h3 : a ≠ b + 5) (h4 : a ≠ b + 6) : OffL b σ (wI τ a j v) := fun x hx => by
  refine ⟨(?_ : (up2 τ.1 a j v) x = σ.1 x), (h x hx).2.1, (h x hx).2.2⟩
  rw [← (h x hx).1]
  funext y
  exact up2_ne _ _ (Or.inl (by omega))
theorem OffL.off {b : Nat} {σ τ : Mm} (h : OffL b σ τ) : Off b (b + 23) σ τ := fun a ha => h a (by omega)
theorem LnR.offL {b n : Nat} {g : Nat → Nat} {σ σ' : Mm} (h : LnR b g n σ) (ho : OffL b σ σ') : LnR b g n σ' :=
  ⟨by rw [(ho (b + 5) (by omega)).1]; exact h.1, h.2.1, fun j hj => by rw [(ho (b + 6) (by omega)).2.2]; exact h.2.2 j hj⟩
/-- what was due as they rang stays -/
def Dr (b : Nat) (σ σ' : Mm) : Prop := ∀ u, u < 16 → σ'.1 (b + 7 + u) 3 = σ.1 (b + 7 + u) 3
theorem Dr.rf {b : Nat} {σ : Mm} : Dr b σ σ := fun _ _ => rfl
theorem Dr.tr {b : Nat} {σ τ ρ : Mm} (h1 : Dr b σ τ) (h2 : Dr b τ ρ) : Dr b σ ρ := fun u hu => (h2 u hu).trans (h1 u hu)
theorem Dr.wI {b a j : Nat} {σ τ : Mm} {v : Int32} (h : Dr b σ τ) (hj : j ≠ 3) : Dr b σ (wI τ a j v) := fun u hu => by
  rw [← h u hu]
  exact up2_ne _ _ (Or.inr (Ne.symm hj))
theorem Bo_same {M M' : Nat → Int32} (h : Bo M) (e : ∀ j, 215 ≤ j → j < 359 → (j < 231 ∨ 327 ≤ j) → M' j = M j) : Bo M' := fun t ht => by
  rw [e (215 + t) (by omega) (by omega) (by omega), e (327 + t) (by omega) (by omega) (by omega), e (343 + t) (by omega) (by omega) (by omega)]
  exact h t ht
theorem Bo_lay {M : Nat → Int32} {L t : Nat} (h : Bo M) : Bo (layM M L t) := Bo_same h (fun j h1 h2 _ => layM_ne (by omega))
theorem OffL_lay {b L t : Nat} {M : Nat → Int32} {σ τ : Mm} (h : OffL b σ τ) (ht : t < 16) : OffL b σ (laySg b M L t τ) := (h.wI (by omega) (by omega) (by omega) (by omega)).wI (by omega) (by omega) (by omega) (by omega)
theorem Dr_lay {b L t : Nat} {M : Nat → Int32} {σ τ : Mm} (h : Dr b σ τ) : Dr b σ (laySg b M L t τ) := (h.wI (by decide)).wI (by decide)
def paSg (b : Nat) (M : Nat → Int32) (t : Nat) (σ : Mm) : Mm := wI (wI (wI (wI σ (b + 7 + t) 11 1) (b + 7 + t) 12 (M (231 + t) - M 6)) (b + 7 + t) 13 (-2)) (b + 7 + t) 14 (-2)
theorem WRel_pause {b L t : Nat} {M : Nat → Int32} {σ : Mm} (h : WRel b M L σ) (hL : L ≤ 4) (ht : t < 16) : WRel b (paM M t) L (paSg b M t σ) := by
  have h0 := h.2.2 t ht
  have e : ∀ a, a ≠ b + 7 + t → (paSg b M t σ).1 a = σ.1 a := fun a ha => by unfold paSg; rw [wI_ne ha, wI_ne ha, wI_ne ha, wI_ne ha]
  have eM : ∀ j, j ≠ 343 + t → j ≠ 359 + t → paM M t j = M j := fun j h1 h2 => by unfold paM; rw [uM_ne _ _ h2, uM_ne _ _ h1]
  have el : ∀ j, j < 11 → (paSg b M t σ).1 (b + 7 + t) j = σ.1 (b + 7 + t) j := fun j hj => by unfold paSg; rw [wI_nj (by omega), wI_nj (by omega), wI_nj (by omega), wI_nj (by omega)]
  refine h.one hL ht (fun j hj => eM j (by omega) (by omega)) (fun j h1 h2 h3 => eM j (by omega) (by omega)) ?_ ?_ ?_ (fun k h1 h2 h3 => e _ (by omega)) ⟨?_, fun q => ?_, fun q => ?_⟩
  · rw [e b (by omega), eM 8 (by omega) (by omega)]; exact h.1.2.2.1
  · rw [e b (by omega), eM 9 (by omega) (by omega)]; exact h.1.2.2.2
  · rw [e b (by omega)]; exact ⟨rfl, rfl⟩
  · rw [el 0 (by omega), el 1 (by omega), el 2 (by omega), el 4 (by omega), el 5 (by omega), el 6 (by omega), el 7 (by omega), el 8 (by omega), el 9 (by omega), el 10 (by omega)]
    rw [eM (215 + t) (by omega) (by omega), eM (231 + t) (by omega) (by omega), eM (247 + t) (by omega) (by omega), eM (263 + t) (by omega) (by omega), eM (279 + t) (by omega) (by omega), eM (295 + t) (by omega) (by omega), eM (311 + t) (by omega) (by omega), eM (375 + t) (by omega) (by omega), eM (327 + t) (by omega) (by omega)]
    obtain ⟨a0, a1, a2, a3, a4, a5, a6, a7, a8, a9, a10⟩ := h0.1
    refine ⟨a0, a1, a2, a3, a4, a5, a6, a7, a8, a9, ?_⟩
    unfold paSg paM
    rw [wI_nj (by decide), wI_nj (by decide), wI_nj (by decide), wI_at, uM_ne _ _ (by omega), uM_self]
  · unfold paSg paM
    exact ⟨by rw [uM_self, wI_nj (by decide), wI_nj (by decide), wI_at], by rw [wI_nj (by decide), wI_at], wI_at⟩
  · exfalso
    unfold paM at q
    rw [uM_ne _ _ (by omega), uM_self] at q
    exact absurd q (by decide)
def reSg (b : Nat) (M : Nat → Int32) (t : Nat) (σ : Mm) : Mm := wI (wI σ (b + 7 + t) 11 0) (b + 7 + t) 2 (M 6 + M (359 + t))
def reM0 (M : Nat → Int32) (t : Nat) : Nat → Int32 := uM (uM M (343 + t) 0) (231 + t) (M 6 + M (359 + t))
theorem WPre_resume {b L t : Nat} {M : Nat → Int32} {σ : Mm} (h : WRel b M L σ) (hL : L ≤ 4) (ht : t < 16) : WPre b (reM0 M t) L t (reSg b M t σ) := by
  have h0 := h.2.2 t ht
  have e : ∀ a, a ≠ b + 7 + t → (reSg b M t σ).1 a = σ.1 a := fun a ha => by unfold reSg; rw [wI_ne ha, wI_ne ha]
  have eM : ∀ j, j ≠ 343 + t → j ≠ 231 + t → reM0 M t j = M j := fun j h1 h2 => by unfold reM0; rw [uM_ne _ _ h2, uM_ne _ _ h1]
  have el : ∀ j, j ≠ 11 → j ≠ 2 → (reSg b M t σ).1 (b + 7 + t) j = σ.1 (b + 7 + t) j := fun j h1 h2 => by unfold reSg; rw [wI_nj h2, wI_nj h1]
  refine ⟨?_, h.2.1.off hL (fun j hj => eM j (by omega) (by omega)) (e _ (by omega)) (e _ (by omega)) (e _ (by omega)), fun u hu hut => (h.2.2 u hu).sm hu (fun j h1 h2 h3 => eM j (by omega) (by omega)) (e _ (by omega)), ?_⟩
  · rw [e b (by omega), eM 6 (by omega) (by omega), eM 5 (by omega) (by omega), eM 8 (by omega) (by omega), eM 9 (by omega) (by omega)]; exact h.1
  · rw [el 0 (by omega) (by omega), el 1 (by omega) (by omega), el 4 (by omega) (by omega), el 5 (by omega) (by omega), el 6 (by omega) (by omega), el 7 (by omega) (by omega), el 8 (by omega) (by omega), el 9 (by omega) (by omega), el 10 (by omega) (by omega)]
    rw [eM (215 + t) (by omega) (by omega), eM (247 + t) (by omega) (by omega), eM (263 + t) (by omega) (by omega), eM (279 + t) (by omega) (by omega), eM (295 + t) (by omega) (by omega), eM (311 + t) (by omega) (by omega), eM (375 + t) (by omega) (by omega), eM (327 + t) (by omega) (by omega)]
    obtain ⟨a0, a1, a2, a3, a4, a5, a6, a7, a8, a9, a10⟩ := h0.1
    refine ⟨a0, a1, ?_, a3, a4, a5, a6, a7, a8, a9, ?_⟩
    · unfold reSg reM0
      rw [wI_at, uM_self]
    · unfold reSg reM0
      rw [wI_nj (by decide), wI_at, uM_ne _ _ (by omega), uM_self]
set_option maxRecDepth 20000 in
set_option maxHeartbeats 4000000 in
theorem c7_lay_2 {w : Wp} (hf : Fit sh0 w) {σ : Mm} {M : Nat → Int32} {L t : Nat} (ht : t < 16) (hP : WPre 2 M L t σ) (hF : Wf M L) : Cf sh0 w 1 mX7_lay [.ref 2, .ref (9 + t)] σ none (laySg 2 M L t σ) := by
  have hL := hF.2.2.1
  obtain ⟨lv, hlv⟩ : ∃ v, lvF M (M (231 + t) - M 6) L 0 = v := ⟨_, rfl⟩
  have hok : LvOk L lv := by rw [← hlv]; exact LvOk_lvF
  have hS2 : ShR 3 M L (wI σ (9 + t) 13 lv) := ShR.off (a := 3) hP.2.1 hL (fun _ _ => rfl) (wI_ne (by omega)) (wI_ne (by omega)) (wI_ne (by omega))
  unfold laySg
  rw [hlv]
  refine Ct_of hf (by decide) rfl (Nat.le_of_ble_eq_true rfl) (fun x o rt => ?_)
  rcases hok with hk | ⟨k, hk, hk2⟩
  · refine V_aload_n o dX7_lay_0 rfl rfl ?_
    refine V_aload_n o dX7_lay_1 rfl rfl ?_
    refine V_getR (t := 3) o dX7_lay_2 rfl fl_X7_12 rfl ?_
    refine V_aload_n o dX7_lay_5 rfl rfl ?_
    refine V_getI o dX7_lay_6 (kT9 t ht) fl_X7_72 (rT9 ht) ?_
    refine V_topI (v' := M (231 + t)) hP.2.2.2.2.2.1 ?_
    refine V_aload_n o dX7_lay_9 rfl rfl ?_
    refine V_getI o dX7_lay_10 rfl fl_X7_45 rfl ?_
    refine V_topI (v' := M 6) hP.1.1 ?_
    refine V_isub o dX7_lay_13 ?_
    refine V_cVi o rt dX7_lay_14 ml_X7_81 (c4_levelFor_3 hf (by exact hP.2.1) hL hlv) rfl rfl rfl (Nat.le_of_ble_eq_true rfl) rfl ?_
    refine V_putI o dX7_lay_17 (kT9 t ht) fl_X7_75 (rT9 ht) rfl rfl ?_
    refine V_aload_n o dX7_lay_20 rfl rfl ?_
    refine V_aload_n o dX7_lay_21 rfl rfl ?_
    refine V_getI o dX7_lay_22 (kT9 t ht) fl_X7_75 (rT9 ht) ?_
    refine V_topI (v' := lv) wI_at ?_
    refine V_iconst (v := -1) o dX7_lay_25 (by decide) ?_
    refine V_icmp_ne (tgt := 33) o dX7_lay_26 (by decide) (fun c_26 => False.elim (c_26 hk)) (fun c_26 => ?_)
    refine V_iconst (v := -1) o dX7_lay_29 (by decide) ?_
    refine V_goto (tgt := 48) o dX7_lay_30 (by decide) ?_
    refine V_putI o dX7_lay_48 (kT9 t ht) fl_X7_78 (rT9 ht) rfl rfl ?_
    refine V_ret o rt dX7_lay_51 rfl ?_
    exact ⟨rfl, by rw [slM, if_pos (by rw [hk]; decide)]⟩
  · have hn : ¬ lv < 0 := by rw [hk2]; exact Int32.not_lt.mpr (nI_le (a := 0) (Nat.zero_le _) (by omega))
    have hn1 : ¬ lv = -1 := fun q => hn (by rw [q]; decide)
    have hix : ix lv = k := by rw [hk2]; exact ix_nI (by omega)
    refine V_aload_n o dX7_lay_0 rfl rfl ?_
    refine V_aload_n o dX7_lay_1 rfl rfl ?_
    refine V_getR (t := 3) o dX7_lay_2 rfl fl_X7_12 rfl ?_
    refine V_aload_n o dX7_lay_5 rfl rfl ?_
    refine V_getI o dX7_lay_6 (kT9 t ht) fl_X7_72 (rT9 ht) ?_
    refine V_topI (v' := M (231 + t)) hP.2.2.2.2.2.1 ?_
    refine V_aload_n o dX7_lay_9 rfl rfl ?_
    refine V_getI o dX7_lay_10 rfl fl_X7_45 rfl ?_
    refine V_topI (v' := M 6) hP.1.1 ?_
    refine V_isub o dX7_lay_13 ?_
    refine V_cVi o rt dX7_lay_14 ml_X7_81 (c4_levelFor_3 hf (by exact hP.2.1) hL hlv) rfl rfl rfl (Nat.le_of_ble_eq_true rfl) rfl ?_
    refine V_putI o dX7_lay_17 (kT9 t ht) fl_X7_75 (rT9 ht) rfl rfl ?_
    refine V_aload_n o dX7_lay_20 rfl rfl ?_
    refine V_aload_n o dX7_lay_21 rfl rfl ?_
    refine V_getI o dX7_lay_22 (kT9 t ht) fl_X7_75 (rT9 ht) ?_
    refine V_topI (v' := lv) wI_at ?_
    refine V_iconst (v := -1) o dX7_lay_25 (by decide) ?_
    refine V_icmp_ne (tgt := 33) o dX7_lay_26 (by decide) (fun c_26 => ?_) (fun c_26 => False.elim (absurd c_26 hn1))
    refine V_aload_n o dX7_lay_33 rfl rfl ?_
    refine V_getR (t := 3) o dX7_lay_34 rfl fl_X7_12 rfl ?_
    refine V_aload_n o dX7_lay_37 rfl rfl ?_
    refine V_getI o dX7_lay_38 (kT9 t ht) fl_X7_75 (rT9 ht) ?_
    refine V_topI (v' := nI k) (wI_at.trans hk2) ?_
    refine V_aload_n o dX7_lay_41 rfl rfl ?_
    refine V_getI o dX7_lay_42 (kT9 t ht) fl_X7_72 (rT9 ht) ?_
    refine V_topI (v' := M (231 + t)) ((wI_nj (by decide)).trans hP.2.2.2.2.2.1) ?_
    refine V_cVi o rt dX7_lay_45 ml_X7_85 (c4_slotFor_3 hf hS2 hF hk) rfl rfl rfl (Nat.le_of_ble_eq_true rfl) rfl ?_
    refine V_putI o dX7_lay_48 (kT9 t ht) fl_X7_78 (rT9 ht) rfl rfl ?_
    refine V_ret o rt dX7_lay_51 rfl ?_
    exact ⟨rfl, by rw [slM, if_neg hn, hix]⟩
set_option maxRecDepth 20000 in
set_option maxHeartbeats 4000000 in
theorem c7_layAll_2 {w : Wp} (hf : Fit sh0 w) {σ : Mm} {M : Nat → Int32} {L : Nat} (hW0 : WRel 2 M L σ) (hB0 : Bo M) (hF0 : Wf M L) {R : Nat → Int32} (hR0 : layAllM M L = R) : Ct sh0 w 2 mX7_layAll [.ref 2] σ (fun r' σ' => r' = none ∧ OffL 2 σ σ' ∧ Dr 2 σ σ' ∧ WRel 2 R L σ') := by
  unfold layAllM at hR0
  refine Ct_of hf (by decide) rfl (Nat.le_of_ble_eq_true rfl) (fun x o rt => ?_)
  have loop : ∀ n t (τ : Mm) (N : Nat → Int32), t + n = 16 → OffL 2 σ τ → Dr 2 σ τ → WRel 2 N L τ → Bo N → Wf N L → itr (fun t M => if isG M t then layM M L t else M) t n N = R → V sh0 w x mX7_layAll (0, 0) 2 [(1, .int (nI t)), (0, .ref 2)] [] τ := by
    intro n
    induction n with
    | zero =>
      intro t τ N htn ho hD hW hB hF hR
      have h16 : t = 16 := by omega
      have hs : N = R := hR
      subst hs
      refine V_iload_n o dX7_layAll_2 rfl rfl ?_
      refine V_bipush (v := 16) o dX7_layAll_3 (by decide) ?_
      refine V_icmp_ge (tgt := 29) o dX7_layAll_5 (by decide) (fun c_5 => ?_) (fun c_5 => False.elim (c_5 (by rw [h16]; decide)))
      refine V_ret o rt dX7_layAll_29 rfl ?_
      exact ⟨rfl, ho, hD, hW⟩
    | succ n ih =>
      intro t τ N htn ho hD hW hB hF hR
      have ht : t < 16 := by omega
      rw [itr_succ] at hR
      refine V_iload_n o dX7_layAll_2 rfl rfl ?_
      refine V_bipush (v := 16) o dX7_layAll_3 (by decide) ?_
      refine V_icmp_ge (tgt := 29) o dX7_layAll_5 (by decide) (fun c_5 => False.elim (absurd c_5 (nI_ge (b := 16) (by omega) (by omega)))) (fun c_5 => ?_)
      refine V_aload_n o dX7_layAll_8 rfl rfl ?_
      refine V_iload_n o dX7_layAll_9 rfl rfl ?_
      by_cases hG : isG N t
      · refine V_cVr o rt dX7_layAll_10 ml_X7_69 (c7_run_2 hf hW ht hG) rfl rfl rfl (Nat.le_of_ble_eq_true rfl) rfl ?_
        refine V_astore_n (ls' := [(2, _), (1, _), (0, _)]) o dX7_layAll_13 rfl (by decide) rfl ?_
        refine V_aload_n o dX7_layAll_14 rfl rfl ?_
        refine V_ifnull_r o dX7_layAll_15 ?_
        refine V_aload_n o dX7_layAll_18 rfl rfl ?_
        refine V_aload_n o dX7_layAll_19 rfl rfl ?_
        refine V_cVv o rt dX7_layAll_20 ml_X7_89 (c7_lay_2 hf ht (hW.pre ht) hF) rfl rfl rfl (Nat.le_of_ble_eq_true rfl) rfl ?_
        refine V_iincV (v := nI (t + 1)) (ls' := [(1, _), (2, _), (0, _)]) o dX7_layAll_23 rfl (ninc 1 rfl) (by decide) rfl ?_
        refine V_goto (tgt := 2) o dX7_layAll_26 (by decide) ?_
        rw [if_pos hG] at hR
        exact V_sub (by simp) (ih (t + 1) (laySg 2 N L t τ) (layM N L t) (by omega) (OffL_lay ho ht) (Dr_lay hD) (WRel_lay hF.2.2.1 ht (hW.pre ht) hG.2) (Bo_lay hB) (Wf_lay hF) hR)
      · refine V_cVn o rt dX7_layAll_10 ml_X7_69 (c7_run_n_2 hf hW hB ht hG) rfl rfl rfl (Nat.le_of_ble_eq_true rfl) rfl ?_
        refine V_astore_nN (ls' := [(2, _), (1, _), (0, _)]) o dX7_layAll_13 rfl (by decide) rfl ?_
        refine V_aload_nN o dX7_layAll_14 rfl rfl ?_
        refine V_ifnull_n (tgt := 23) o dX7_layAll_15 (by decide) ?_
        refine V_iincV (v := nI (t + 1)) (ls' := [(1, _), (2, _), (0, _)]) o dX7_layAll_23 rfl (ninc 1 rfl) (by decide) rfl ?_
        refine V_goto (tgt := 2) o dX7_layAll_26 (by decide) ?_
        rw [if_neg hG] at hR
        exact V_sub (by simp) (ih (t + 1) τ N (by omega) ho hD hW hB hF hR)
  refine V_iconst (v := 0) o dX7_layAll_0 (by decide) ?_
  refine V_istore_n (ls' := [(1, _), (0, _)]) o dX7_layAll_1 rfl (by decide) rfl ?_
  exact V_sub (by simp; rfl) (loop 16 0 σ M (by omega) OffL.rf Dr.rf hW0 hB0 hF0 hR0)
set_option maxRecDepth 20000 in
set_option maxHeartbeats 4000000 in
theorem c7_pause_2 {w : Wp} (hf : Fit sh0 w) {σ : Mm} {M : Nat → Int32} {L : Nat} (hW : WRel 2 M L σ) {t : Nat} (ht : t < 16) : Cf sh0 w 0 mX7_pause [.ref 2, .ref (9 + t)] σ none (paSg 2 M t σ) := by
  refine Ct_of hf (by decide) rfl (Nat.le_of_ble_eq_true rfl) (fun x o rt => ?_)
  refine V_aload_n o dX7_pause_0 rfl rfl ?_
  refine V_iconst (v := 1) o dX7_pause_1 (by decide) ?_
  refine V_putZ o dX7_pause_2 (kT9 t ht) fl_X7_66 (rT9 ht) rfl rfl (by simp) ?_
  refine V_aload_n o dX7_pause_5 rfl rfl ?_
  refine V_aload_n o dX7_pause_6 rfl rfl ?_
  refine V_getI o dX7_pause_7 (kT9 t ht) fl_X7_72 (rT9 ht) ?_
  refine V_topI (v' := M (231 + t)) ((wI_nj (by decide)).trans (hW.2.2 t ht).due) ?_
  refine V_aload_n o dX7_pause_10 rfl rfl ?_
  refine V_getI o dX7_pause_11 rfl fl_X7_45 rfl ?_
  refine V_topI (v' := M 6) ((congrFun (wI_ne (by omega)) 3).trans hW.1.1) ?_
  refine V_isub o dX7_pause_14 ?_
  refine V_putI o dX7_pause_15 (kT9 t ht) fl_X7_92 (rT9 ht) rfl rfl ?_
  refine V_aload_n o dX7_pause_18 rfl rfl ?_
  refine V_bipush (v := -2) o dX7_pause_19 (by decide) ?_
  refine V_putI o dX7_pause_21 (kT9 t ht) fl_X7_75 (rT9 ht) rfl rfl ?_
  refine V_aload_n o dX7_pause_24 rfl rfl ?_
  refine V_bipush (v := -2) o dX7_pause_25 (by decide) ?_
  refine V_putI o dX7_pause_27 (kT9 t ht) fl_X7_78 (rT9 ht) rfl rfl ?_
  refine V_ret o rt dX7_pause_30 rfl ?_
  exact ⟨rfl, rfl⟩
set_option maxRecDepth 20000 in
set_option maxHeartbeats 4000000 in
theorem c7_resume_2 {w : Wp} (hf : Fit sh0 w) {σ : Mm} {M : Nat → Int32} {L : Nat} (hW : WRel 2 M L σ) (hF : Wf M L) {t : Nat} (ht : t < 16) (hp : M (343 + t) = 1) : Ct sh0 w 2 mX7_resume [.ref 2, .ref (9 + t)] σ (fun r' σ' => r' = none ∧ Off 9 25 σ σ' ∧ WRel 2 (reM M L t) L σ') := by
  have hP := WPre_resume hW hF.2.2.1 ht
  have hF2 : Wf (reM0 M t) L := Wf_uM (Wf_uM hF (by omega)) (by omega)
  have hR := WRel_lay (M := reM0 M t) hF.2.2.1 ht hP (by unfold reM0; rw [uM_ne _ _ (by omega), uM_self])
  refine Ct_of hf (by decide) rfl (Nat.le_of_ble_eq_true rfl) (fun x o rt => ?_)
  refine V_aload_n o dX7_resume_0 rfl rfl ?_
  refine V_iconst (v := 0) o dX7_resume_1 (by decide) ?_
  refine V_putZ o dX7_resume_2 (kT9 t ht) fl_X7_66 (rT9 ht) rfl rfl (by simp) ?_
  refine V_aload_n o dX7_resume_5 rfl rfl ?_
  refine V_aload_n o dX7_resume_6 rfl rfl ?_
  refine V_getI o dX7_resume_7 rfl fl_X7_45 rfl ?_
  refine V_topI (v' := M 6) ((congrFun (wI_ne (by omega)) 3).trans hW.1.1) ?_
  refine V_aload_n o dX7_resume_10 rfl rfl ?_
  refine V_getI o dX7_resume_11 (kT9 t ht) fl_X7_92 (rT9 ht) ?_
  refine V_topI (v' := M (359 + t)) ((wI_nj (by decide)).trans ((hW.2.2 t ht).2.1 hp).1) ?_
  refine V_iadd o dX7_resume_14 ?_
  refine V_putI o dX7_resume_15 (kT9 t ht) fl_X7_72 (rT9 ht) rfl rfl ?_
  refine V_aload_n o dX7_resume_18 rfl rfl ?_
  refine V_aload_n o dX7_resume_19 rfl rfl ?_
  refine V_cVv o rt dX7_resume_20 ml_X7_89 (c7_lay_2 hf (σ := reSg 2 M t σ) ht hP hF2) rfl rfl rfl (Nat.le_of_ble_eq_true rfl) rfl ?_
  refine V_ret o rt dX7_resume_23 rfl ?_
  exact ⟨rfl, Off_lay ((Off.rf.wI (by omega) (by omega)).wI (by omega) (by omega)) (by omega) (by omega), hR⟩
set_option maxRecDepth 20000 in
set_option maxHeartbeats 4000000 in
theorem c7_lay_25 {w : Wp} (hf : Fit sh0 w) {σ : Mm} {M : Nat → Int32} {L t : Nat} (ht : t < 16) (hP : WPre 25 M L t σ) (hF : Wf M L) : Cf sh0 w 1 mX7_lay [.ref 25, .ref (32 + t)] σ none (laySg 25 M L t σ) := by
  have hL := hF.2.2.1
  obtain ⟨lv, hlv⟩ : ∃ v, lvF M (M (231 + t) - M 6) L 0 = v := ⟨_, rfl⟩
  have hok : LvOk L lv := by rw [← hlv]; exact LvOk_lvF
  have hS2 : ShR 26 M L (wI σ (32 + t) 13 lv) := ShR.off (a := 26) hP.2.1 hL (fun _ _ => rfl) (wI_ne (by omega)) (wI_ne (by omega)) (wI_ne (by omega))
  unfold laySg
  rw [hlv]
  refine Ct_of hf (by decide) rfl (Nat.le_of_ble_eq_true rfl) (fun x o rt => ?_)
  rcases hok with hk | ⟨k, hk, hk2⟩
  · refine V_aload_n o dX7_lay_0 rfl rfl ?_
    refine V_aload_n o dX7_lay_1 rfl rfl ?_
    refine V_getR (t := 26) o dX7_lay_2 rfl fl_X7_12 rfl ?_
    refine V_aload_n o dX7_lay_5 rfl rfl ?_
    refine V_getI o dX7_lay_6 (kT32 t ht) fl_X7_72 (rT32 ht) ?_
    refine V_topI (v' := M (231 + t)) hP.2.2.2.2.2.1 ?_
    refine V_aload_n o dX7_lay_9 rfl rfl ?_
    refine V_getI o dX7_lay_10 rfl fl_X7_45 rfl ?_
    refine V_topI (v' := M 6) hP.1.1 ?_
    refine V_isub o dX7_lay_13 ?_
    refine V_cVi o rt dX7_lay_14 ml_X7_81 (c4_levelFor_26 hf (by exact hP.2.1) hL hlv) rfl rfl rfl (Nat.le_of_ble_eq_true rfl) rfl ?_
    refine V_putI o dX7_lay_17 (kT32 t ht) fl_X7_75 (rT32 ht) rfl rfl ?_
    refine V_aload_n o dX7_lay_20 rfl rfl ?_
    refine V_aload_n o dX7_lay_21 rfl rfl ?_
    refine V_getI o dX7_lay_22 (kT32 t ht) fl_X7_75 (rT32 ht) ?_
    refine V_topI (v' := lv) wI_at ?_
    refine V_iconst (v := -1) o dX7_lay_25 (by decide) ?_
    refine V_icmp_ne (tgt := 33) o dX7_lay_26 (by decide) (fun c_26 => False.elim (c_26 hk)) (fun c_26 => ?_)
    refine V_iconst (v := -1) o dX7_lay_29 (by decide) ?_
    refine V_goto (tgt := 48) o dX7_lay_30 (by decide) ?_
    refine V_putI o dX7_lay_48 (kT32 t ht) fl_X7_78 (rT32 ht) rfl rfl ?_
    refine V_ret o rt dX7_lay_51 rfl ?_
    exact ⟨rfl, by rw [slM, if_pos (by rw [hk]; decide)]⟩
  · have hn : ¬ lv < 0 := by rw [hk2]; exact Int32.not_lt.mpr (nI_le (a := 0) (Nat.zero_le _) (by omega))
    have hn1 : ¬ lv = -1 := fun q => hn (by rw [q]; decide)
    have hix : ix lv = k := by rw [hk2]; exact ix_nI (by omega)
    refine V_aload_n o dX7_lay_0 rfl rfl ?_
    refine V_aload_n o dX7_lay_1 rfl rfl ?_
    refine V_getR (t := 26) o dX7_lay_2 rfl fl_X7_12 rfl ?_
    refine V_aload_n o dX7_lay_5 rfl rfl ?_
    refine V_getI o dX7_lay_6 (kT32 t ht) fl_X7_72 (rT32 ht) ?_
    refine V_topI (v' := M (231 + t)) hP.2.2.2.2.2.1 ?_
    refine V_aload_n o dX7_lay_9 rfl rfl ?_
    refine V_getI o dX7_lay_10 rfl fl_X7_45 rfl ?_
    refine V_topI (v' := M 6) hP.1.1 ?_
    refine V_isub o dX7_lay_13 ?_
    refine V_cVi o rt dX7_lay_14 ml_X7_81 (c4_levelFor_26 hf (by exact hP.2.1) hL hlv) rfl rfl rfl (Nat.le_of_ble_eq_true rfl) rfl ?_
    refine V_putI o dX7_lay_17 (kT32 t ht) fl_X7_75 (rT32 ht) rfl rfl ?_
    refine V_aload_n o dX7_lay_20 rfl rfl ?_
    refine V_aload_n o dX7_lay_21 rfl rfl ?_
    refine V_getI o dX7_lay_22 (kT32 t ht) fl_X7_75 (rT32 ht) ?_
    refine V_topI (v' := lv) wI_at ?_
    refine V_iconst (v := -1) o dX7_lay_25 (by decide) ?_
    refine V_icmp_ne (tgt := 33) o dX7_lay_26 (by decide) (fun c_26 => ?_) (fun c_26 => False.elim (absurd c_26 hn1))
    refine V_aload_n o dX7_lay_33 rfl rfl ?_
    refine V_getR (t := 26) o dX7_lay_34 rfl fl_X7_12 rfl ?_
    refine V_aload_n o dX7_lay_37 rfl rfl ?_
    refine V_getI o dX7_lay_38 (kT32 t ht) fl_X7_75 (rT32 ht) ?_
    refine V_topI (v' := nI k) (wI_at.trans hk2) ?_
    refine V_aload_n o dX7_lay_41 rfl rfl ?_
    refine V_getI o dX7_lay_42 (kT32 t ht) fl_X7_72 (rT32 ht) ?_
    refine V_topI (v' := M (231 + t)) ((wI_nj (by decide)).trans hP.2.2.2.2.2.1) ?_
    refine V_cVi o rt dX7_lay_45 ml_X7_85 (c4_slotFor_26 hf hS2 hF hk) rfl rfl rfl (Nat.le_of_ble_eq_true rfl) rfl ?_
    refine V_putI o dX7_lay_48 (kT32 t ht) fl_X7_78 (rT32 ht) rfl rfl ?_
    refine V_ret o rt dX7_lay_51 rfl ?_
    exact ⟨rfl, by rw [slM, if_neg hn, hix]⟩
set_option maxRecDepth 20000 in
set_option maxHeartbeats 4000000 in
theorem c7_layAll_25 {w : Wp} (hf : Fit sh0 w) {σ : Mm} {M : Nat → Int32} {L : Nat} (hW0 : WRel 25 M L σ) (hB0 : Bo M) (hF0 : Wf M L) {R : Nat → Int32} (hR0 : layAllM M L = R) : Ct sh0 w 2 mX7_layAll [.ref 25] σ (fun r' σ' => r' = none ∧ OffL 25 σ σ' ∧ Dr 25 σ σ' ∧ WRel 25 R L σ') := by
  unfold layAllM at hR0
  refine Ct_of hf (by decide) rfl (Nat.le_of_ble_eq_true rfl) (fun x o rt => ?_)
  have loop : ∀ n t (τ : Mm) (N : Nat → Int32), t + n = 16 → OffL 25 σ τ → Dr 25 σ τ → WRel 25 N L τ → Bo N → Wf N L → itr (fun t M => if isG M t then layM M L t else M) t n N = R → V sh0 w x mX7_layAll (0, 0) 2 [(1, .int (nI t)), (0, .ref 25)] [] τ := by
    intro n
    induction n with
    | zero =>
      intro t τ N htn ho hD hW hB hF hR
      have h16 : t = 16 := by omega
      have hs : N = R := hR
      subst hs
      refine V_iload_n o dX7_layAll_2 rfl rfl ?_
      refine V_bipush (v := 16) o dX7_layAll_3 (by decide) ?_
      refine V_icmp_ge (tgt := 29) o dX7_layAll_5 (by decide) (fun c_5 => ?_) (fun c_5 => False.elim (c_5 (by rw [h16]; decide)))
      refine V_ret o rt dX7_layAll_29 rfl ?_
      exact ⟨rfl, ho, hD, hW⟩
    | succ n ih =>
      intro t τ N htn ho hD hW hB hF hR
      have ht : t < 16 := by omega
      rw [itr_succ] at hR
      refine V_iload_n o dX7_layAll_2 rfl rfl ?_
      refine V_bipush (v := 16) o dX7_layAll_3 (by decide) ?_
      refine V_icmp_ge (tgt := 29) o dX7_layAll_5 (by decide) (fun c_5 => False.elim (absurd c_5 (nI_ge (b := 16) (by omega) (by omega)))) (fun c_5 => ?_)
      refine V_aload_n o dX7_layAll_8 rfl rfl ?_
      refine V_iload_n o dX7_layAll_9 rfl rfl ?_
      by_cases hG : isG N t
      · refine V_cVr o rt dX7_layAll_10 ml_X7_69 (c7_run_25 hf hW ht hG) rfl rfl rfl (Nat.le_of_ble_eq_true rfl) rfl ?_
        refine V_astore_n (ls' := [(2, _), (1, _), (0, _)]) o dX7_layAll_13 rfl (by decide) rfl ?_
        refine V_aload_n o dX7_layAll_14 rfl rfl ?_
        refine V_ifnull_r o dX7_layAll_15 ?_
        refine V_aload_n o dX7_layAll_18 rfl rfl ?_
        refine V_aload_n o dX7_layAll_19 rfl rfl ?_
        refine V_cVv o rt dX7_layAll_20 ml_X7_89 (c7_lay_25 hf ht (hW.pre ht) hF) rfl rfl rfl (Nat.le_of_ble_eq_true rfl) rfl ?_
        refine V_iincV (v := nI (t + 1)) (ls' := [(1, _), (2, _), (0, _)]) o dX7_layAll_23 rfl (ninc 1 rfl) (by decide) rfl ?_
        refine V_goto (tgt := 2) o dX7_layAll_26 (by decide) ?_
        rw [if_pos hG] at hR
        exact V_sub (by simp) (ih (t + 1) (laySg 25 N L t τ) (layM N L t) (by omega) (OffL_lay ho ht) (Dr_lay hD) (WRel_lay hF.2.2.1 ht (hW.pre ht) hG.2) (Bo_lay hB) (Wf_lay hF) hR)
      · refine V_cVn o rt dX7_layAll_10 ml_X7_69 (c7_run_n_25 hf hW hB ht hG) rfl rfl rfl (Nat.le_of_ble_eq_true rfl) rfl ?_
        refine V_astore_nN (ls' := [(2, _), (1, _), (0, _)]) o dX7_layAll_13 rfl (by decide) rfl ?_
        refine V_aload_nN o dX7_layAll_14 rfl rfl ?_
        refine V_ifnull_n (tgt := 23) o dX7_layAll_15 (by decide) ?_
        refine V_iincV (v := nI (t + 1)) (ls' := [(1, _), (2, _), (0, _)]) o dX7_layAll_23 rfl (ninc 1 rfl) (by decide) rfl ?_
        refine V_goto (tgt := 2) o dX7_layAll_26 (by decide) ?_
        rw [if_neg hG] at hR
        exact V_sub (by simp) (ih (t + 1) τ N (by omega) ho hD hW hB hF hR)
  refine V_iconst (v := 0) o dX7_layAll_0 (by decide) ?_
  refine V_istore_n (ls' := [(1, _), (0, _)]) o dX7_layAll_1 rfl (by decide) rfl ?_
  exact V_sub (by simp; rfl) (loop 16 0 σ M (by omega) OffL.rf Dr.rf hW0 hB0 hF0 hR0)
set_option maxRecDepth 20000 in
set_option maxHeartbeats 4000000 in
theorem c7_pause_25 {w : Wp} (hf : Fit sh0 w) {σ : Mm} {M : Nat → Int32} {L : Nat} (hW : WRel 25 M L σ) {t : Nat} (ht : t < 16) : Cf sh0 w 0 mX7_pause [.ref 25, .ref (32 + t)] σ none (paSg 25 M t σ) := by
  refine Ct_of hf (by decide) rfl (Nat.le_of_ble_eq_true rfl) (fun x o rt => ?_)
  refine V_aload_n o dX7_pause_0 rfl rfl ?_
  refine V_iconst (v := 1) o dX7_pause_1 (by decide) ?_
  refine V_putZ o dX7_pause_2 (kT32 t ht) fl_X7_66 (rT32 ht) rfl rfl (by simp) ?_
  refine V_aload_n o dX7_pause_5 rfl rfl ?_
  refine V_aload_n o dX7_pause_6 rfl rfl ?_
  refine V_getI o dX7_pause_7 (kT32 t ht) fl_X7_72 (rT32 ht) ?_
  refine V_topI (v' := M (231 + t)) ((wI_nj (by decide)).trans (hW.2.2 t ht).due) ?_
  refine V_aload_n o dX7_pause_10 rfl rfl ?_
  refine V_getI o dX7_pause_11 rfl fl_X7_45 rfl ?_
  refine V_topI (v' := M 6) ((congrFun (wI_ne (by omega)) 3).trans hW.1.1) ?_
  refine V_isub o dX7_pause_14 ?_
  refine V_putI o dX7_pause_15 (kT32 t ht) fl_X7_92 (rT32 ht) rfl rfl ?_
  refine V_aload_n o dX7_pause_18 rfl rfl ?_
  refine V_bipush (v := -2) o dX7_pause_19 (by decide) ?_
  refine V_putI o dX7_pause_21 (kT32 t ht) fl_X7_75 (rT32 ht) rfl rfl ?_
  refine V_aload_n o dX7_pause_24 rfl rfl ?_
  refine V_bipush (v := -2) o dX7_pause_25 (by decide) ?_
  refine V_putI o dX7_pause_27 (kT32 t ht) fl_X7_78 (rT32 ht) rfl rfl ?_
  refine V_ret o rt dX7_pause_30 rfl ?_
  exact ⟨rfl, rfl⟩
set_option maxRecDepth 20000 in
set_option maxHeartbeats 4000000 in
theorem c7_resume_25 {w : Wp} (hf : Fit sh0 w) {σ : Mm} {M : Nat → Int32} {L : Nat} (hW : WRel 25 M L σ) (hF : Wf M L) {t : Nat} (ht : t < 16) (hp : M (343 + t) = 1) : Ct sh0 w 2 mX7_resume [.ref 25, .ref (32 + t)] σ (fun r' σ' => r' = none ∧ Off 32 48 σ σ' ∧ WRel 25 (reM M L t) L σ') := by
  have hP := WPre_resume hW hF.2.2.1 ht
  have hF2 : Wf (reM0 M t) L := Wf_uM (Wf_uM hF (by omega)) (by omega)
  have hR := WRel_lay (M := reM0 M t) hF.2.2.1 ht hP (by unfold reM0; rw [uM_ne _ _ (by omega), uM_self])
  refine Ct_of hf (by decide) rfl (Nat.le_of_ble_eq_true rfl) (fun x o rt => ?_)
  refine V_aload_n o dX7_resume_0 rfl rfl ?_
  refine V_iconst (v := 0) o dX7_resume_1 (by decide) ?_
  refine V_putZ o dX7_resume_2 (kT32 t ht) fl_X7_66 (rT32 ht) rfl rfl (by simp) ?_
  refine V_aload_n o dX7_resume_5 rfl rfl ?_
  refine V_aload_n o dX7_resume_6 rfl rfl ?_
  refine V_getI o dX7_resume_7 rfl fl_X7_45 rfl ?_
  refine V_topI (v' := M 6) ((congrFun (wI_ne (by omega)) 3).trans hW.1.1) ?_
  refine V_aload_n o dX7_resume_10 rfl rfl ?_
  refine V_getI o dX7_resume_11 (kT32 t ht) fl_X7_92 (rT32 ht) ?_
  refine V_topI (v' := M (359 + t)) ((wI_nj (by decide)).trans ((hW.2.2 t ht).2.1 hp).1) ?_
  refine V_iadd o dX7_resume_14 ?_
  refine V_putI o dX7_resume_15 (kT32 t ht) fl_X7_72 (rT32 ht) rfl rfl ?_
  refine V_aload_n o dX7_resume_18 rfl rfl ?_
  refine V_aload_n o dX7_resume_19 rfl rfl ?_
  refine V_cVv o rt dX7_resume_20 ml_X7_89 (c7_lay_25 hf (σ := reSg 25 M t σ) ht hP hF2) rfl rfl rfl (Nat.le_of_ble_eq_true rfl) rfl ?_
  refine V_ret o rt dX7_resume_23 rfl ?_
  exact ⟨rfl, Off_lay ((Off.rf.wI (by omega) (by omega)).wI (by omega) (by omega)) (by omega) (by omega), hR⟩
