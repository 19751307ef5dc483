def sBg (σ : Mm) (f : Nat → Int32) : Mm := (fun a j => if a = 78 then f j else σ.1 a j, σ.2)
theorem sBg_of (σ : Mm) : sBg σ (σ.1 78) = σ := by
  refine Prod.ext (funext fun a => funext fun j => ?_) rfl
  simp only [sBg]
  split
  · next q => rw [q]
  · rfl
theorem wI_sBg {σ : Mm} {f : Nat → Int32} {k : Nat} {v : Int32} : wI (sBg σ f) 78 k v = sBg σ (upd f k v) := by
  refine Prod.ext (funext fun a => funext fun j => ?_) rfl
  simp only [sBg, wI, up2, upd]
  by_cases h : a = 78
  · subst h; simp
  · simp [h]
theorem sLn_sBg {σ : Mm} {f g : Nat → Int32} {n : Nat} : sLn (sBg σ f) g n = sBg (sLn σ g n) f := by
  refine Prod.ext (funext fun a => funext fun j => ?_) rfl
  simp only [sBg, sLn]
  by_cases h : a = 78
  · subst h; simp
  · simp [h]
theorem sHd_sBg {σ : Mm} {f g1 g2 : Nat → Int32} {n : Nat} : sHd (sBg σ f) g1 g2 n = sBg (sHd σ g1 g2 n) f := by
  refine Prod.ext (funext fun a => funext fun j => ?_) rfl
  simp only [sBg, sHd]
  by_cases h : a = 78
  · subst h; simp
  · simp [h]
theorem sBg_dk {σ : Mm} {f : Nat → Int32} {M : Nat → Int32} {v : Int32} : sBg (wI (sM σ 0 M) 67 8 v) f = wI (sM (sBg σ f) 0 M) 67 8 v := by
  refine Prod.ext (funext fun a => funext fun j => ?_) rfl
  simp only [sBg, wI, up2, sM]
  by_cases h : a = 78
  · subst h; simp
  · simp [h]
/-- GROUPS in their bounds -/
def Gr (M : Nat → Int32) : Prop := ∀ t, t < 16 → ∃ q : Nat, M (263 + t) = nI q ∧ q < 8
theorem Gr_same {M M' : Nat → Int32} (h : Gr M) (e : ∀ t, t < 16 → M' (263 + t) = M (263 + t)) : Gr M' := fun t ht => by rw [e t ht]; exact h t ht
theorem comesM_gr {M : Nat → Int32} {L t j : Nat} (ht : t < 16) (h : 263 ≤ j) (h2 : j < 279) : comesM M L t j = M j := by
  unfold comesM
  split
  · exact uM_ne _ _ (by omega)
  · rw [layM_ne (by omega), cmS_ne (by omega) (by omega) (by omega), cmT_ne (by omega)]
theorem ringM_gr {M : Nat → Int32} {L r n j : Nat} {g : Nat → Nat} (hr : r ≤ 40) (h14 : M 14 = nI r) (hg : ∀ k, k < n → g k < 16) (h : 263 ≤ j) (h2 : j < 279) : ringM M L r g n j = M j := by
  unfold ringM
  have a := tellM_inv (g := g) n 0 (M, r) hr h14 (fun k _ hk => hg k (by omega))
  refine (itr_inv (f := fun k M => comesM M L (g k)) (fun _ s => s j = (tellM M r g n).1 j) n 0 (tellM M r g n).1 rfl (fun k s _ hk hs => ?_)).trans (a.2.2 j (by omega) (by omega) (by omega))
  rw [comesM_gr (hg k (by omega)) h h2]; exact hs
theorem Gr_tick {M : Nat → Int32} {L r : Nat} (hI : Iv M L r) (h : Gr M) : Gr (tickM M L r) := by
  refine Gr_same h (fun t ht => ?_)
  have hA := Iv_tkA hI
  unfold tickM
  rw [ringM_gr (g := (tkLn M L).1) (n := (tkLn M L).2) hA.2.2.1 hA.2.1 (fun k hk => lineM_lt hk) (by omega) (by omega), Lo6 Lo.tkA (by omega) (by omega) (by omega)]
def loF (M2 : Nat → Int32) (g : Nat → Nat) (i : Nat) (v : Nat → Int32) : Nat → Int32 := upd v (ix (M2 (263 + g i))) (v (ix (M2 (263 + g i))) + 1)
def loV (LN : (Nat → Nat) × Nat) (M2 : Nat → Int32) (v : Nat → Int32) : Nat → Int32 := itr (loF M2 LN.1) 0 LN.2 v
def loB (v : Nat → Int32) : Nat := itr (fun g b => if v g > v b then g else b) 1 7 0
theorem loB_lt (v : Nat → Int32) : loB v < 8 := by
  unfold loB
  have := itr_inv (f := fun g b => if v g > v b then g else b) (fun i s => s < i ∧ i ≤ 8) 7 1 0 ⟨by omega, by omega⟩ (fun j s _ h2 hs => by
    split
    · omega
    · omega)
  omega
def loL (v : Nat → Int32) (n : Nat) : List Int64 := (List.range n).map (fun g => (v g).toInt64)
theorem loL_succ (v : Nat → Int32) (n : Nat) : loL v (n + 1) = loL v n ++ [(v n).toInt64] := by simp [loL, List.range_succ]
theorem loL_len (v : Nat → Int32) (n : Nat) : (loL v n).length = n := by simp [loL]
def BgR (f v : Nat → Int32) : Prop := ∀ j, j < 8 → f j = v j
theorem BgR_up {f v : Nat → Int32} {k : Nat} {x y : Int32} (h : BgR f v) (hxy : x = y) : BgR (upd f k x) (upd v k y) := fun j hj => by
  unfold upd
  split
  · exact hxy
  · exact h j hj
set_option maxRecDepth 20000 in
set_option maxHeartbeats 4000000 in
theorem c9_loudest {w : Wp} (hf : Fit sh0 w) {σ : Mm} {M : Nat → Int32} (hd : σ.1 67 8 = nI 0) {L r c : Nat} (hI : Ck (trM M) L r c) (hG : Gr (trM M)) {k : Int32} {m : Nat} (hm : k = nI m) (hm1 : 1 ≤ m) (hm2 : m ≤ 100) (hc : c + m ≤ 1000000000) (h6 : M 6 = nI c) {R : (Nat → Int32) × Nat × (Nat → Int32)} (hR0 : askS L loV m (trM M, r, fun _ => 0) = R) : Ct sh0 w 8 mX9_loudest [.ref 67, .int k] (sM σ 0 M) (fun r' σ' => ∃ fl nl f1 f2 h f, if R.2.2 (loB R.2.2) = 0 then r' = some (.int (-2)) ∧ σ' = sM (wI (sBg (sHd (sLn (wI σ 67 0 0) fl nl) f1 f2 h) f) 67 8 0) 0 (bkM M R.1) else ∃ fr, r' = some (.int (nI (loB R.2.2))) ∧ σ' = sM (sRw (wI (sBg (sHd (sLn (wI σ 67 0 0) fl nl) f1 f2 h) f) 67 8 0) fr 8) 0 (bkM M R.1) ∧ RwR fr (loL R.2.2 8)) := by
  unfold askS at hR0
  subst hm
  refine Ct_of hf (by decide) rfl (Nat.le_of_ble_eq_true rfl) (fun x o rt => ?_)
  have hdx : (wI (sM (wI σ 67 0 0) 0 M) 67 8 423).1 67 8 = nI 423 := rfl
  have hk : inR (nI m) 1 100 := ⟨nI_le (a := 1) hm1 (by omega), nI_le (b := 100) hm2 (by omega)⟩
  have tail : ∀ (fl : Nat → Int32) (nl : Nat) (f1 f2 : Nat → Int32) (h : Nat) (f : Nat → Int32), BgR f R.2.2 → V sh0 w x mX9_loudest (0, 0) 122 [(0, .ref 67), (1, .int (nI m))] [] (sM (wI (sBg (sHd (sLn (wI σ 67 0 0) fl nl) f1 f2 h) f) 67 8 0) 0 (bkM M R.1)) := by
    intro fl nl f1 f2 h f hB
    generalize hv : R.2.2 = v at hB
    generalize hb0 : loB v = b0
    have hb8 : b0 < 8 := by rw [← hb0]; exact loB_lt v
    unfold loB at hb0
    have lastl : ∀ n g (fr : Nat → Int64), g + n = 8 → RwR fr (loL v g) → ¬ v b0 = 0 → V sh0 w x mX9_loudest (0, 0) 178 [(3, .int (nI g)), (2, .int (nI b0)), (0, .ref 67), (1, .int (nI m))] [] (sM (sRw (wI (sBg (sHd (sLn (wI σ 67 0 0) fl nl) f1 f2 h) f) 67 8 0) fr g) 0 (bkM M R.1)) := by
      intro n
      induction n with
      | zero =>
        intro g fr hg hF hne
        have h8 : g = 8 := by omega
        subst h8
        refine V_iload_n o dX9_loudest_178 rfl rfl ?_
        refine V_bipush (v := 8) o dX9_loudest_179 (by decide) ?_
        refine V_icmp_ge (tgt := 201) o dX9_loudest_181 (by decide) (fun c_181 => ?_) (fun c_181 => False.elim (c_181 (by decide)))
        refine V_iload_n o dX9_loudest_201 rfl rfl ?_
        refine V_iret o rt dX9_loudest_202 rfl rfl ?_
        refine ⟨fl, nl, f1, f2, h, f, ?_⟩
        rw [hv, show loB v = b0 from hb0, if_neg hne]
        exact ⟨fr, rfl, rfl, hF⟩
      | succ n ih =>
        intro g fr hg hF hne
        refine V_iload_n o dX9_loudest_178 rfl rfl ?_
        refine V_bipush (v := 8) o dX9_loudest_179 (by decide) ?_
        refine V_icmp_ge (tgt := 201) o dX9_loudest_181 (by decide) (fun c_181 => False.elim (absurd c_181 (nI_ge (b := 8) (by omega) (by omega)))) (fun c_181 => ?_)
        refine V_aload_n o dX9_loudest_184 rfl rfl ?_
        refine V_aload_n o dX9_loudest_185 rfl rfl ?_
        refine V_getR (t := 78) o dX9_loudest_186 rfl fl_X9_73 rfl ?_
        refine V_iload_n o dX9_loudest_189 rfl rfl ?_
        refine V_ialdN 8 o dX9_loudest_190 rfl rfl rfl (by omega) rfl ?_
        refine V_topI (v' := v g) (hB g (by omega)) ?_
        refine V_i2l o dX9_loudest_191 ?_
        refine V_cVv o rt dX9_loudest_192 ml_X9_153 (c9_enters hf (by omega)) rfl rfl rfl (Nat.le_of_ble_eq_true rfl) rfl ?_
        refine V_iincV (v := nI (g + 1)) (ls' := [(3, _), (2, _), (0, _), (1, _)]) o dX9_loudest_195 rfl (ninc 1 rfl) (by decide) rfl ?_
        refine V_goto (tgt := 178) o dX9_loudest_198 (by decide) ?_
        exact ih (g + 1) (updL fr g (v g).toInt64) (by omega) (by rw [loL_succ]; exact RwR_push (loL_len v g).symm hF) hne
    have bestl : ∀ n g b, g + n = 8 → 1 ≤ g → b < g → itr (fun g b => if v g > v b then g else b) g n b = b0 → V sh0 w x mX9_loudest (0, 0) 126 [(3, .int (nI g)), (2, .int (nI b)), (0, .ref 67), (1, .int (nI m))] [] (sM (wI (sBg (sHd (sLn (wI σ 67 0 0) fl nl) f1 f2 h) f) 67 8 0) 0 (bkM M R.1)) := by
      intro n
      induction n with
      | zero =>
        intro g b hg h1 hb hR
        have hs : b = b0 := hR
        subst hs
        have h8 : g = 8 := by omega
        refine V_iload_n o dX9_loudest_126 rfl rfl ?_
        refine V_bipush (v := 8) o dX9_loudest_127 (by decide) ?_
        refine V_icmp_ge (tgt := 159) o dX9_loudest_129 (by decide) (fun c_129 => ?_) (fun c_129 => False.elim (c_129 (by rw [h8]; decide)))
        refine V_aload_n o dX9_loudest_159 rfl rfl ?_
        refine V_getR (t := 78) o dX9_loudest_160 rfl fl_X9_73 rfl ?_
        refine V_iload_n o dX9_loudest_163 rfl rfl ?_
        refine V_ialdN 8 o dX9_loudest_164 rfl rfl rfl (by omega) rfl ?_
        refine V_topI (v' := v b) (hB b (by omega)) ?_
        refine V_if_ne (tgt := 171) o dX9_loudest_165 (by decide) (fun c_165 => ?_) (fun c_165 => ?_)
        · refine V_aload_n o dX9_loudest_171 rfl rfl ?_
          refine V_iconst (v := 0) o dX9_loudest_172 (by decide) ?_
          refine V_putI o dX9_loudest_173 rfl fl_X9_11 rfl rfl rfl ?_
          rw [wI_sM67]
          rw [wI_sRw0]
          refine V_iconst (v := 0) o dX9_loudest_176 (by decide) ?_
          refine V_istore_n (ls' := [(3, _), (2, _), (0, _), (1, _)]) o dX9_loudest_177 rfl (by decide) rfl ?_
          exact V_sub (by simp; rfl) (lastl 8 0 ((wI (sBg (sHd (sLn (wI σ 67 0 0) fl nl) f1 f2 h) f) 67 8 0).2.1 68) (by omega) RwR_nil c_165)
        · refine V_bipush (v := -2) o dX9_loudest_168 (by decide) ?_
          refine V_iret o rt dX9_loudest_170 rfl rfl ?_
          refine ⟨fl, nl, f1, f2, h, f, ?_⟩
          rw [hv, show loB v = b from hb0, if_pos c_165]
          exact ⟨rfl, rfl⟩
      | succ n ih =>
        intro g b hg h1 hb hR
        rw [itr_succ] at hR
        refine V_iload_n o dX9_loudest_126 rfl rfl ?_
        refine V_bipush (v := 8) o dX9_loudest_127 (by decide) ?_
        refine V_icmp_ge (tgt := 159) o dX9_loudest_129 (by decide) (fun c_129 => False.elim (absurd c_129 (nI_ge (b := 8) (by omega) (by omega)))) (fun c_129 => ?_)
        refine V_aload_n o dX9_loudest_132 rfl rfl ?_
        refine V_getR (t := 78) o dX9_loudest_133 rfl fl_X9_73 rfl ?_
        refine V_iload_n o dX9_loudest_136 rfl rfl ?_
        refine V_ialdN 8 o dX9_loudest_137 rfl rfl rfl (by omega) rfl ?_
        refine V_aload_n o dX9_loudest_138 rfl rfl ?_
        refine V_getR (t := 78) o dX9_loudest_139 rfl fl_X9_73 rfl ?_
        refine V_iload_n o dX9_loudest_142 rfl rfl ?_
        refine V_ialdN 8 o dX9_loudest_143 rfl rfl rfl (by omega) rfl ?_
        refine V_icmp_le (tgt := 151) o dX9_loudest_144 (by decide) (fun c_144 => ?_) (fun c_144 => ?_)
        · refine V_iload_n o dX9_loudest_151 rfl rfl ?_
          refine V_istore_n (ls' := [(2, _), (3, _), (0, _), (1, _)]) o dX9_loudest_152 rfl (by decide) rfl ?_
          refine V_iincV (v := nI (g + 1)) (ls' := [(3, _), (2, _), (0, _), (1, _)]) o dX9_loudest_153 rfl (ninc 1 rfl) (by decide) rfl ?_
          refine V_goto (tgt := 126) o dX9_loudest_156 (by decide) ?_
          have hc2 : ¬ v g > v b := by
            rw [← hB g (by omega), ← hB b (by omega)]; exact Int32.not_lt.mpr c_144
          rw [if_neg hc2] at hR
          exact V_sub (by simp) (ih (g + 1) b (by omega) (by omega) (by omega) hR)
        · refine V_iload_n o dX9_loudest_147 rfl rfl ?_
          refine V_goto (tgt := 152) o dX9_loudest_148 (by decide) ?_
          refine V_istore_n (ls' := [(2, _), (3, _), (0, _), (1, _)]) o dX9_loudest_152 rfl (by decide) rfl ?_
          refine V_iincV (v := nI (g + 1)) (ls' := [(3, _), (2, _), (0, _), (1, _)]) o dX9_loudest_153 rfl (ninc 1 rfl) (by decide) rfl ?_
          refine V_goto (tgt := 126) o dX9_loudest_156 (by decide) ?_
          have hc2 : v g > v b := by
            rw [← hB g (by omega), ← hB b (by omega)]; exact Int32.not_le.mp c_144
          rw [if_pos hc2] at hR
          exact V_sub (by simp) (ih (g + 1) g (by omega) (by omega) (by omega) hR)
    refine V_iconst (v := 0) o dX9_loudest_122 (by decide) ?_
    refine V_istore_n (ls' := [(2, _), (0, _), (1, _)]) o dX9_loudest_123 rfl (by decide) rfl ?_
    refine V_iconst (v := 1) o dX9_loudest_124 (by decide) ?_
    refine V_istore_n (ls' := [(3, _), (2, _), (0, _), (1, _)]) o dX9_loudest_125 rfl (by decide) rfl ?_
    exact V_sub (by simp; exact ⟨rfl, rfl⟩) (bestl 7 1 0 (by omega) (by omega) (by omega) hb0)
  have loop : ∀ n i (s : (Nat → Int32) × Nat × (Nat → Int32)) c fl nl f1 f2 h f, i + n = m → Ck s.1 L s.2.1 c → Gr s.1 → BgR f s.2.2 → c + n ≤ 1000000000 → itr (askF L loV) i n s = R → V sh0 w x mX9_loudest (0, 0) 62 [(2, .int (nI i)), (0, .ref 67), (1, .int (nI m))] [] (sM (sBg (sHd (sLn (wI (sM (wI σ 67 0 0) 0 M) 67 8 423) fl nl) f1 f2 h) f) 423 s.1) := by
    intro n
    induction n with
    | zero =>
      intro i s c fl nl f1 f2 h f him hCk hGr hB hcn hR
      have hi : i = m := by omega
      have hs : s = R := hR
      subst hs
      refine V_iload_n o dX9_loudest_62 rfl rfl ?_
      refine V_iload_n o dX9_loudest_63 rfl rfl ?_
      refine V_icmp_ge (tgt := 118) o dX9_loudest_64 (by decide) (fun c_64 => ?_) (fun c_64 => False.elim (c_64 (by rw [hi]; exact Int32.le_refl _)))
      rw [sLn_dk, sHd_dk, sBg_dk]
      refine V_aload_n o dX9_loudest_118 rfl rfl ?_
      refine V_cVv o rt dX9_loudest_119 ml_X9_249 (c9_isBack hf) rfl rfl rfl (Nat.le_of_ble_eq_true rfl) rfl ?_
      exact V_sub (by simp) (tail fl nl f1 f2 h f hB)
    | succ n ih =>
      intro i s c fl nl f1 f2 h f him hCk hGr hB hcn hR
      rw [itr_succ, askF] at hR
      have hle : (tkLn s.1 L).2 ≤ 16 := lineM_le
      have hlt : ∀ j, j < (tkLn s.1 L).2 → (tkLn s.1 L).1 j < 16 := fun j hj => lineM_lt hj
      have hk2 := Ck_tick hCk
      have hg2 := Gr_tick hCk.1 hGr
      generalize hLN : tkLn s.1 L = LN at hR hle hlt
      generalize hM2 : tickM s.1 L s.2.1 = M2 at hR hk2 hg2
      generalize tkR s.1 L s.2.1 = r2 at hR hk2
      generalize hV : loV LN M2 s.2.2 = v2 at hR
      have inner : ∀ n2 q (v : Nat → Int32) (fl2 : Nat → Int32) (nl2 : Nat) (g1 g2 : Nat → Int32) (f : Nat → Int32), q + n2 = LN.2 → (∀ j, j < LN.2 → g1 j = nI (LN.1 j)) → BgR f v → itr (loF M2 LN.1) q n2 v = v2 → V sh0 w x mX9_loudest (0, 0) 76 [(4, .int (nI q)), (3, .int (nI LN.2)), (2, .int (nI i)), (0, .ref 67), (1, .int (nI m))] [] (sM (sBg (sHd (sLn (wI (sM (wI σ 67 0 0) 0 M) 67 8 423) fl2 nl2) g1 g2 LN.2) f) 423 M2) := by
        intro n2
        induction n2 with
        | zero =>
          intro q v fl2 nl2 g1 g2 f hq hg1 hB2 hR2
          have hs : v = v2 := hR2
          subst hs
          have hq2 : q = LN.2 := by omega
          refine V_iload o dX9_loudest_76 rfl ?_
          refine V_iload_n o dX9_loudest_78 rfl rfl ?_
          refine V_icmp_ge (tgt := 112) o dX9_loudest_79 (by decide) (fun c_79 => ?_) (fun c_79 => False.elim (c_79 (by rw [hq2]; exact Int32.le_refl _)))
          refine V_iincV (v := nI (i + 1)) (ls' := [(2, _), (4, _), (3, _), (0, _), (1, _)]) o dX9_loudest_112 rfl (ninc 1 rfl) (by decide) rfl ?_
          refine V_goto (tgt := 62) o dX9_loudest_115 (by decide) ?_
          exact V_sub (by simp) (ih (i + 1) (M2, r2, v) (c + 1) fl2 nl2 g1 g2 LN.2 f (by omega) hk2 hg2 hB2 (by omega) hR)
        | succ n2 ih2 =>
          intro q v fl2 nl2 g1 g2 f hq hg1 hB2 hR2
          rw [itr_succ] at hR2
          have hlq := hlt q (by omega)
          obtain ⟨gq, hgq, hgq8⟩ := hg2 (LN.1 q) hlq
          have e8 : ix (M2 (263 + LN.1 q)) = gq := by rw [hgq]; exact nI_clamp (by omega)
          refine V_iload o dX9_loudest_76 rfl ?_
          refine V_iload_n o dX9_loudest_78 rfl rfl ?_
          refine V_icmp_ge (tgt := 112) o dX9_loudest_79 (by decide) (fun c_79 => False.elim (absurd c_79 (nI_ge (by omega) (by omega)))) (fun c_79 => ?_)
          refine V_aload_n o dX9_loudest_82 rfl rfl ?_
          refine V_getR (t := 78) o dX9_loudest_83 rfl fl_X9_73 rfl ?_
          refine V_aload_n o dX9_loudest_86 rfl rfl ?_
          refine V_sipush (v := 263) o dX9_loudest_87 (by decide) ?_
          refine V_aload_n o dX9_loudest_90 rfl rfl ?_
          refine V_getR (t := 72) o dX9_loudest_91 rfl fl_X9_55 rfl ?_
          refine V_iload o dX9_loudest_94 rfl ?_
          refine V_ialdE (v := nI (LN.1 q)) 2000 o dX9_loudest_96 rfl rfl rfl (by omega) rfl (hg1 q (by omega)) ?_
          refine V_iadd o dX9_loudest_97 ?_
          refine V_cVi o rt dX9_loudest_98 ml_X9_85 (c9_of hf (by exact hdx) (nadd (show (263 : Int32) = nI 263 from rfl) rfl) (by omega)) rfl rfl rfl (Nat.le_of_ble_eq_true rfl) rfl ?_
          refine V_topI (v' := nI (gq)) hgq ?_
          refine V_dup2 o dX9_loudest_101 rfl rfl ?_
          refine V_ialdN 8 o dX9_loudest_102 rfl rfl rfl (by omega) rfl ?_
          refine V_iconst (v := 1) o dX9_loudest_103 (by decide) ?_
          refine V_iadd o dX9_loudest_104 ?_
          refine V_iastN 8 o dX9_loudest_105 rfl rfl rfl (by omega) rfl ?_
          rw [wI_sM78, wI_sBg]
          refine V_iincV (v := nI (q + 1)) (ls' := [(4, _), (3, _), (2, _), (0, _), (1, _)]) o dX9_loudest_106 rfl (ninc 1 rfl) (by decide) rfl ?_
          refine V_goto (tgt := 76) o dX9_loudest_109 (by decide) ?_
          have hB3 : BgR (upd f gq (f gq + 1)) (loF M2 LN.1 q v) := by
            unfold loF
            rw [e8]
            exact BgR_up hB2 (by rw [hB2 gq hgq8])
          exact ih2 (q + 1) (loF M2 LN.1 q v) fl2 nl2 g1 g2 (upd f gq (f gq + 1)) (by omega) hg1 hB3 hR2
      unfold loV at hV
      refine V_iload_n o dX9_loudest_62 rfl rfl ?_
      refine V_iload_n o dX9_loudest_63 rfl rfl ?_
      refine V_icmp_ge (tgt := 118) o dX9_loudest_64 (by decide) (fun c_64 => False.elim (absurd c_64 (nI_ge (by omega) (by omega)))) (fun c_64 => ?_)
      refine V_aload_n o dX9_loudest_67 rfl rfl ?_
      refine V_iconst (v := 1) o dX9_loudest_68 (by decide) ?_
      refine V_callV o rt dX9_loudest_69 ml_X9_185 (c9_tick1 hf (by exact hdx) (Nat.le_refl 423) hCk (by omega) hLN hM2) rfl rfl rfl (Nat.le_of_ble_eq_true rfl) rfl (fun r_69 σ_69 q_69 => ?_)
      obtain ⟨fl2, nl2, g1, g2, rfl, rfl, hg1⟩ := q_69
      rw [sLn_sBg, sHd_sBg, sLn_sHd, sLn_sLn, sHd_sHd]
      show V sh0 w x mX9_loudest (0, 0) _ _ (.int (nI LN.2) :: []) _
      refine V_istore_n (ls' := [(3, _), (2, _), (0, _), (1, _)]) o dX9_loudest_72 rfl (by decide) rfl ?_
      refine V_iconst (v := 0) o dX9_loudest_73 (by decide) ?_
      refine V_istore (ls' := [(4, _), (3, _), (2, _), (0, _), (1, _)]) o dX9_loudest_74 (by decide) rfl ?_
      exact inner LN.2 0 s.2.2 fl2 nl2 g1 g2 f (by omega) hg1 hB hV
  have zero : ∀ n i (f : Nat → Int32), i + n = 8 → (∀ j, j < i → f j = 0) → V sh0 w x mX9_loudest (0, 0) 37 [(2, .int (nI i)), (0, .ref 67), (1, .int (nI m))] [] (sM (sBg (wI σ 67 0 0) f) 0 M) := by
    intro n
    induction n with
    | zero =>
      intro i f hi hz
      have h8 : i = 8 := by omega
      refine V_iload_n o dX9_loudest_37 rfl rfl ?_
      refine V_bipush (v := 8) o dX9_loudest_38 (by decide) ?_
      refine V_icmp_ge (tgt := 56) o dX9_loudest_40 (by decide) (fun c_40 => ?_) (fun c_40 => False.elim (c_40 (by rw [h8]; decide)))
      refine V_aload_n o dX9_loudest_56 rfl rfl ?_
      refine V_cVv o rt dX9_loudest_57 ml_X9_246 (c9_tries hf) rfl rfl rfl (Nat.le_of_ble_eq_true rfl) rfl ?_
      refine V_iconst (v := 0) o dX9_loudest_60 (by decide) ?_
      refine V_istore_n (ls' := [(2, _), (0, _), (1, _)]) o dX9_loudest_61 rfl (by decide) rfl ?_
      obtain ⟨nl, hnl⟩ := ex_nI ((wI (sM (wI σ 67 0 0) 0 M) 67 8 423).1 67 10)
      obtain ⟨h, hh⟩ := ex_nI ((wI (sM (wI σ 67 0 0) 0 M) 67 8 423).1 67 13)
      have h0 := loop m 0 (trM M, r, fun _ => 0) c ((wI (sM (wI σ 67 0 0) 0 M) 67 8 423).1 71) nl ((wI (sM (wI σ 67 0 0) 0 M) 67 8 423).1 72) ((wI (sM (wI σ 67 0 0) 0 M) 67 8 423).1 73) h f (by omega) hI hG (fun j hj => hz j (by omega)) hc hR0
      rw [sLn_of hnl, sHd_of hh, sBg_dk] at h0
      exact V_sub (by simp; rfl) h0
    | succ n ih =>
      intro i f hi hz
      refine V_iload_n o dX9_loudest_37 rfl rfl ?_
      refine V_bipush (v := 8) o dX9_loudest_38 (by decide) ?_
      refine V_icmp_ge (tgt := 56) o dX9_loudest_40 (by decide) (fun c_40 => False.elim (absurd c_40 (nI_ge (b := 8) (by omega) (by omega)))) (fun c_40 => ?_)
      refine V_aload_n o dX9_loudest_43 rfl rfl ?_
      refine V_getR (t := 78) o dX9_loudest_44 rfl fl_X9_73 rfl ?_
      refine V_iload_n o dX9_loudest_47 rfl rfl ?_
      refine V_iconst (v := 0) o dX9_loudest_48 (by decide) ?_
      refine V_iastN 8 o dX9_loudest_49 rfl rfl rfl (by omega) rfl ?_
      rw [wI_sM78, wI_sBg]
      refine V_iincV (v := nI (i + 1)) (ls' := [(2, _), (0, _), (1, _)]) o dX9_loudest_50 rfl (ninc 1 rfl) (by decide) rfl ?_
      refine V_goto (tgt := 37) o dX9_loudest_53 (by decide) ?_
      exact ih (i + 1) (upd f i 0) (by omega) (fun j hj => by
        unfold upd
        split
        · rfl
        · exact hz j (by omega))
  refine V_aload_n o dX9_loudest_0 rfl rfl ?_
  refine V_iconst (v := 0) o dX9_loudest_1 (by decide) ?_
  refine V_putI o dX9_loudest_2 rfl fl_X9_1 rfl rfl rfl ?_
  rw [wI_sM67]
  refine V_iload_n o dX9_loudest_5 rfl rfl ?_
  refine V_i2l o dX9_loudest_6 ?_
  refine V_lconst (v := 1) o dX9_loudest_7 (by decide) ?_
  refine V_ldc2 o dX9_loudest_8 kc_X9_183 ?_
  refine V_cSi o rt dX9_loudest_11 ms_X9_21 (c9_in hf) rfl rfl (Nat.le_of_ble_eq_true rfl) rfl ?_
  refine V_if_ne (tgt := 19) o dX9_loudest_14 (by decide) (fun c_14 => ?_) (fun c_14 => False.elim (bz_n0.mpr ((in_lo (k := (nI m)) (lo := 1) (hi := 100) (l := 1) (h := 100) (by decide) (by decide)).mpr hk) c_14))
  refine V_aload_n o dX9_loudest_19 rfl rfl ?_
  refine V_bipush (v := 6) o dX9_loudest_20 (by decide) ?_
  refine V_cVi o rt dX9_loudest_22 ml_X9_85 (c9_of hf (by exact hd) (show (6 : Int32) = nI 6 from rfl) (by omega)) rfl rfl rfl (Nat.le_of_ble_eq_true rfl) rfl ?_
  refine V_iload_n o dX9_loudest_25 rfl rfl ?_
  refine V_iadd o dX9_loudest_26 ?_
  refine V_ldc o dX9_loudest_27 kc_X9_157 ?_
  refine V_icmp_le (tgt := 35) o dX9_loudest_29 (by decide) (fun c_29 => ?_) (fun c_29 => False.elim (c_29 (by rw [h6, nI_add]; exact nI_le (b := 1000000000) hc (by omega))))
  refine V_iconst (v := 0) o dX9_loudest_35 (by decide) ?_
  refine V_istore_n (ls' := [(2, _), (0, _), (1, _)]) o dX9_loudest_36 rfl (by decide) rfl ?_
  have h0 := zero 8 0 ((wI σ 67 0 0).1 78) (by omega) (fun j hj => absurd hj (Nat.not_lt_zero j))
  rw [sBg_of] at h0
  exact h0
set_option maxRecDepth 20000 in
set_option maxHeartbeats 4000000 in
theorem c9_loudest_no {w : Wp} (hf : Fit sh0 w) {σ : Mm} {M : Nat → Int32} (hd : σ.1 67 8 = nI 0) {k : Int32} (hk : ¬ inR k 1 100) : Cf sh0 w 8 mX9_loudest [.ref 67, .int k] (sM σ 0 M) (some (.int (-1))) (sM (wI σ 67 0 0) 0 M) := by
  refine Ct_of hf (by decide) rfl (Nat.le_of_ble_eq_true rfl) (fun x o rt => ?_)
  refine V_aload_n o dX9_loudest_0 rfl rfl ?_
  refine V_iconst (v := 0) o dX9_loudest_1 (by decide) ?_
  refine V_putI o dX9_loudest_2 rfl fl_X9_1 rfl rfl rfl ?_
  rw [wI_sM67]
  refine V_iload_n o dX9_loudest_5 rfl rfl ?_
  refine V_i2l o dX9_loudest_6 ?_
  refine V_lconst (v := 1) o dX9_loudest_7 (by decide) ?_
  refine V_ldc2 o dX9_loudest_8 kc_X9_183 ?_
  refine V_cSi o rt dX9_loudest_11 ms_X9_21 (c9_in hf) rfl rfl (Nat.le_of_ble_eq_true rfl) rfl ?_
  refine V_if_ne (tgt := 19) o dX9_loudest_14 (by decide) (fun c_14 => False.elim (hk ((in_lo (k := k) (lo := 1) (hi := 100) (l := 1) (h := 100) (by decide) (by decide)).mp (bz_n0.mp c_14)))) (fun c_14 => ?_)
  refine V_iconst (v := -1) o dX9_loudest_17 (by decide) ?_
  refine V_iret o rt dX9_loudest_18 rfl rfl ?_
  exact ⟨rfl, rfl⟩
set_option maxRecDepth 20000 in
set_option maxHeartbeats 4000000 in
theorem c9_loudest_end {w : Wp} (hf : Fit sh0 w) {σ : Mm} {M : Nat → Int32} (hd : σ.1 67 8 = nI 0) {k : Int32} (hk : inR k 1 100) (hc : M 6 + k > 1000000000) : Cf sh0 w 8 mX9_loudest [.ref 67, .int k] (sM σ 0 M) (some (.int (-4))) (sM (wI σ 67 0 0) 0 M) := by
  refine Ct_of hf (by decide) rfl (Nat.le_of_ble_eq_true rfl) (fun x o rt => ?_)
  refine V_aload_n o dX9_loudest_0 rfl rfl ?_
  refine V_iconst (v := 0) o dX9_loudest_1 (by decide) ?_
  refine V_putI o dX9_loudest_2 rfl fl_X9_1 rfl rfl rfl ?_
  rw [wI_sM67]
  refine V_iload_n o dX9_loudest_5 rfl rfl ?_
  refine V_i2l o dX9_loudest_6 ?_
  refine V_lconst (v := 1) o dX9_loudest_7 (by decide) ?_
  refine V_ldc2 o dX9_loudest_8 kc_X9_183 ?_
  refine V_cSi o rt dX9_loudest_11 ms_X9_21 (c9_in hf) rfl rfl (Nat.le_of_ble_eq_true rfl) rfl ?_
  refine V_if_ne (tgt := 19) o dX9_loudest_14 (by decide) (fun c_14 => ?_) (fun c_14 => False.elim (bz_n0.mpr ((in_lo (k := k) (lo := 1) (hi := 100) (l := 1) (h := 100) (by decide) (by decide)).mpr hk) c_14))
  refine V_aload_n o dX9_loudest_19 rfl rfl ?_
  refine V_bipush (v := 6) o dX9_loudest_20 (by decide) ?_
  refine V_cVi o rt dX9_loudest_22 ml_X9_85 (c9_of hf (by exact hd) (show (6 : Int32) = nI 6 from rfl) (by omega)) rfl rfl rfl (Nat.le_of_ble_eq_true rfl) rfl ?_
  refine V_iload_n o dX9_loudest_25 rfl rfl ?_
  refine V_iadd o dX9_loudest_26 ?_
  refine V_ldc o dX9_loudest_27 kc_X9_157 ?_
  refine V_icmp_le (tgt := 35) o dX9_loudest_29 (by decide) (fun c_29 => False.elim (absurd c_29 (Int32.not_le.mpr hc))) (fun c_29 => ?_)
  refine V_bipush (v := -4) o dX9_loudest_32 (by decide) ?_
  refine V_iret o rt dX9_loudest_34 rfl rfl ?_
  exact ⟨rfl, rfl⟩
