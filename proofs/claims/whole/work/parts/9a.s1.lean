section
set_option maxRecDepth 20000 in
set_option maxHeartbeats 4000000 in
theorem p_order {w : Wp} (hf : Fit sh0 w) {k : Nat} {σ : Mm} (hS : St k σ) (hk : k < 512) {v : Int32} : Pr w k 1 1 mX8_order mX9_order [.int v] σ := by
  obtain ⟨M, L, r, n, l, hJ, hK, hX⟩ := hS
  have hC := hJ.cv
  have hF := hC.1.1
  have hB := hC.2.1
  exact Pr_of hX (Jk_order hJ hk) (c8_order hf hK hF hB) (fun σ1 a e => ⟨_, c9_order (σ := σ1) (M := M) hf a.2.1, fun r2 σ2 q => by
    obtain ⟨rfl, rfl⟩ := q
    exact ⟨rfl, _, _, rfl, fun _ _ => rfl, by repeat first | exact Off.rf | refine o_I ?_ | refine o_Rw ?_ | refine o_Ln ?_ | refine o_Hd ?_ | refine o_Wy ?_ | refine o_Wi ?_ | refine o_Co ?_ | refine o_Bg ?_ | refine o_Ps ?_ | refine o_Tp ?_, (by first | exact a.2.1 | rfl), a.2.2.1, a.2.2.2.1, a.2.2.2.2, fun j _ => congrFun e j⟩⟩)
set_option maxRecDepth 20000 in
set_option maxHeartbeats 4000000 in
theorem p_cancels {w : Wp} (hf : Fit sh0 w) {k : Nat} {σ : Mm} (hS : St k σ) (hk : k < 512) {v : Int32} : Pr w k 2 3 mX8_cancels mX9_cancels [.int v] σ := by
  obtain ⟨M, L, r, n, l, hJ, hK, hX⟩ := hS
  have hC := hJ.cv
  have hF := hC.1.1
  have hB := hC.2.1
  exact Pr_of hX (Jk_cancels hJ hk) (wd67 (c8_cancels hf hK hF hB)) (fun σ1 a e => ⟨_, c9_cancels (σ := σ1) (M := M) hf a.2.1, fun r2 σ2 q => by
    obtain ⟨rfl, rfl⟩ := q
    exact ⟨rfl, _, _, rfl, fun _ _ => rfl, by repeat first | exact Off.rf | refine o_I ?_ | refine o_Rw ?_ | refine o_Ln ?_ | refine o_Hd ?_ | refine o_Wy ?_ | refine o_Wi ?_ | refine o_Co ?_ | refine o_Bg ?_ | refine o_Ps ?_ | refine o_Tp ?_, (by first | exact a.2.1 | rfl), a.2.2.1, a.2.2.2.1, a.2.2.2.2, fun j _ => congrFun e j⟩⟩)
set_option maxRecDepth 20000 in
set_option maxHeartbeats 4000000 in
theorem p_steady {w : Wp} (hf : Fit sh0 w) {k : Nat} {σ : Mm} (hS : St k σ) (hk : k < 512) {v b : Int32} (hb : b = 0 ∨ b = 1) : Pr w k 1 2 mX8_steady mX9_steady [.int v, .int b] σ := by
  obtain ⟨M, L, r, n, l, hJ, hK, hX⟩ := hS
  have hC := hJ.cv
  have hF := hC.1.1
  have hB := hC.2.1
  exact Pr_of hX (Jk_steady hJ hk hb) (c8_steady hf hK hF hB hb) (fun σ1 a e => ⟨_, c9_steady (σ := σ1) (M := M) hf a.2.1 hb, fun r2 σ2 q => by
    obtain ⟨rfl, rfl⟩ := q
    exact ⟨rfl, _, _, rfl, fun _ _ => rfl, by repeat first | exact Off.rf | refine o_I ?_ | refine o_Rw ?_ | refine o_Ln ?_ | refine o_Hd ?_ | refine o_Wy ?_ | refine o_Wi ?_ | refine o_Co ?_ | refine o_Bg ?_ | refine o_Ps ?_ | refine o_Tp ?_, (by first | exact a.2.1 | rfl), a.2.2.1, a.2.2.2.1, a.2.2.2.2, fun j _ => congrFun e j⟩⟩)
set_option maxRecDepth 20000 in
set_option maxHeartbeats 4000000 in
theorem p_pauses {w : Wp} (hf : Fit sh0 w) {k : Nat} {σ : Mm} (hS : St k σ) (hk : k < 512) {v : Int32} : Pr w k 1 2 mX8_pauses mX9_pauses [.int v] σ := by
  obtain ⟨M, L, r, n, l, hJ, hK, hX⟩ := hS
  have hC := hJ.cv
  have hF := hC.1.1
  have hB := hC.2.1
  exact Pr_of hX (Jk_pauses hJ hk) (c8_pauses hf hK hF hB) (fun σ1 a e => ⟨_, c9_pauses (σ := σ1) (M := M) hf a.2.1, fun r2 σ2 q => by
    obtain ⟨rfl, rfl⟩ := q
    exact ⟨rfl, _, _, rfl, fun _ _ => rfl, by repeat first | exact Off.rf | refine o_I ?_ | refine o_Rw ?_ | refine o_Ln ?_ | refine o_Hd ?_ | refine o_Wy ?_ | refine o_Wi ?_ | refine o_Co ?_ | refine o_Bg ?_ | refine o_Ps ?_ | refine o_Tp ?_, (by first | exact a.2.1 | rfl), a.2.2.1, a.2.2.2.1, a.2.2.2.2, fun j _ => congrFun e j⟩⟩)
set_option maxRecDepth 20000 in
set_option maxHeartbeats 4000000 in
theorem p_resumes {w : Wp} (hf : Fit sh0 w) {k : Nat} {σ : Mm} (hS : St k σ) (hk : k < 512) {v : Int32} : Pr w k 3 5 mX8_resumes mX9_resumes [.int v] σ := by
  obtain ⟨M, L, r, n, l, hJ, hK, hX⟩ := hS
  have hC := hJ.cv
  have hF := hC.1.1
  have hB := hC.2.1
  exact Pr_of hX (Jk_resumes hJ hk) (c8_resumes hf hK hF hB) (fun σ1 a e => ⟨_, c9_resumes (σ := σ1) (M := M) hf a.2.1 hF, fun r2 σ2 q => by
    obtain ⟨rfl, rfl⟩ := q
    exact ⟨rfl, _, _, rfl, fun _ _ => rfl, by repeat first | exact Off.rf | refine o_I ?_ | refine o_Rw ?_ | refine o_Ln ?_ | refine o_Hd ?_ | refine o_Wy ?_ | refine o_Wi ?_ | refine o_Co ?_ | refine o_Bg ?_ | refine o_Ps ?_ | refine o_Tp ?_, (by first | exact a.2.1 | rfl), a.2.2.1, a.2.2.2.1, a.2.2.2.2, fun j _ => congrFun e j⟩⟩)
set_option maxRecDepth 20000 in
set_option maxHeartbeats 4000000 in
theorem p_cancelsAll {w : Wp} (hf : Fit sh0 w) {k : Nat} {σ : Mm} (hS : St k σ) (hk : k < 512) {v : Int32} : Pr w k 2 3 mX8_cancelsAll mX9_cancelsAll [.int v] σ := by
  obtain ⟨M, L, r, n, l, hJ, hK, hX⟩ := hS
  have hC := hJ.cv
  have hF := hC.1.1
  have hB := hC.2.1
  by_cases hv : inR v 0 7
  · have hJ' := Jk_cancelsAll (v := v) hJ hk
    have c9 := fun (σ1 : Mm) (a : Rf M l n σ1) => c9_cancelsAll (σ := σ1) (M := M) hf a.2.1 hv
    obtain ⟨RG, hRG⟩ : ∃ RG, grpS (caP v) caM M = RG := ⟨_, rfl⟩
    rw [hRG] at hJ' c9
    exact Pr_of hX hJ' (c8_cancelsAll hf hK hF hB hv hRG) (fun σ1 a e => ⟨_, c9 σ1 a, fun r2 σ2 q => by
    obtain ⟨rfl, rfl⟩ := q
    exact ⟨rfl, _, _, rfl, fun _ _ => rfl, by repeat first | exact Off.rf | refine o_I ?_ | refine o_Rw ?_ | refine o_Ln ?_ | refine o_Hd ?_ | refine o_Wy ?_ | refine o_Wi ?_ | refine o_Co ?_ | refine o_Bg ?_ | refine o_Ps ?_ | refine o_Tp ?_, (by first | exact a.2.1 | rfl), a.2.2.1, a.2.2.2.1, a.2.2.2.2, fun j _ => congrFun e j⟩⟩)
  · exact Pr_of hX (hJ.st hk) (c8_cancelsAll_no hf hK hF hB hv) (fun σ1 a e => ⟨_, c9_cancelsAll_no (σ := σ1) (M := M) hf a.2.1 hv, fun r2 σ2 q => by
    obtain ⟨rfl, rfl⟩ := q
    exact ⟨rfl, _, _, rfl, fun _ _ => rfl, by repeat first | exact Off.rf | refine o_I ?_ | refine o_Rw ?_ | refine o_Ln ?_ | refine o_Hd ?_ | refine o_Wy ?_ | refine o_Wi ?_ | refine o_Co ?_ | refine o_Bg ?_ | refine o_Ps ?_ | refine o_Tp ?_, (by first | exact a.2.1 | rfl), a.2.2.1, a.2.2.2.1, a.2.2.2.2, fun j _ => congrFun e j⟩⟩)
set_option maxRecDepth 20000 in
set_option maxHeartbeats 4000000 in
theorem p_holds {w : Wp} (hf : Fit sh0 w) {k : Nat} {σ : Mm} (hS : St k σ) (hk : k < 512) {v : Int32} : Pr w k 3 3 mX8_holds mX9_holds [.int v] σ := by
  obtain ⟨M, L, r, n, l, hJ, hK, hX⟩ := hS
  have hC := hJ.cv
  have hF := hC.1.1
  have hB := hC.2.1
  by_cases hv : inR v 0 7
  · have hJ' := Jk_holds (v := v) hJ hk
    have c9 := fun (σ1 : Mm) (a : Rf M l n σ1) => c9_holds (σ := σ1) (M := M) hf a.2.1 hv
    obtain ⟨RG, hRG⟩ : ∃ RG, grpS (hoP v) paM M = RG := ⟨_, rfl⟩
    rw [hRG] at hJ' c9
    exact Pr_of hX hJ' (c8_holds hf hK hF hB hv hRG) (fun σ1 a e => ⟨_, c9 σ1 a, fun r2 σ2 q => by
    obtain ⟨rfl, rfl⟩ := q
    exact ⟨rfl, _, _, rfl, fun _ _ => rfl, by repeat first | exact Off.rf | refine o_I ?_ | refine o_Rw ?_ | refine o_Ln ?_ | refine o_Hd ?_ | refine o_Wy ?_ | refine o_Wi ?_ | refine o_Co ?_ | refine o_Bg ?_ | refine o_Ps ?_ | refine o_Tp ?_, (by first | exact a.2.1 | rfl), a.2.2.1, a.2.2.2.1, a.2.2.2.2, fun j _ => congrFun e j⟩⟩)
  · exact Pr_of hX (hJ.st hk) (c8_holds_no hf hK hF hB hv) (fun σ1 a e => ⟨_, c9_holds_no (σ := σ1) (M := M) hf a.2.1 hv, fun r2 σ2 q => by
    obtain ⟨rfl, rfl⟩ := q
    exact ⟨rfl, _, _, rfl, fun _ _ => rfl, by repeat first | exact Off.rf | refine o_I ?_ | refine o_Rw ?_ | refine o_Ln ?_ | refine o_Hd ?_ | refine o_Wy ?_ | refine o_Wi ?_ | refine o_Co ?_ | refine o_Bg ?_ | refine o_Ps ?_ | refine o_Tp ?_, (by first | exact a.2.1 | rfl), a.2.2.1, a.2.2.2.1, a.2.2.2.2, fun j _ => congrFun e j⟩⟩)
set_option maxRecDepth 20000 in
set_option maxHeartbeats 4000000 in
theorem p_goesOn {w : Wp} (hf : Fit sh0 w) {k : Nat} {σ : Mm} (hS : St k σ) (hk : k < 512) {v : Int32} : Pr w k 4 5 mX8_goesOn mX9_goesOn [.int v] σ := by
  obtain ⟨M, L, r, n, l, hJ, hK, hX⟩ := hS
  have hC := hJ.cv
  have hF := hC.1.1
  have hB := hC.2.1
  by_cases hv : inR v 0 7
  · have hJ' := Jk_goesOn (v := v) hJ hk
    have c9 := fun (σ1 : Mm) (a : Rf M l n σ1) => c9_goesOn (σ := σ1) (M := M) hf a.2.1 hF hv
    obtain ⟨RG, hRG⟩ : ∃ RG, grpS (goP v) (fun M t => reM M L t) M = RG := ⟨_, rfl⟩
    rw [hRG] at hJ' c9
    exact Pr_of hX hJ' (c8_goesOn hf hK hF hB hv hRG) (fun σ1 a e => ⟨_, c9 σ1 a, fun r2 σ2 q => by
    obtain ⟨rfl, rfl⟩ := q
    exact ⟨rfl, _, _, rfl, fun _ _ => rfl, by repeat first | exact Off.rf | refine o_I ?_ | refine o_Rw ?_ | refine o_Ln ?_ | refine o_Hd ?_ | refine o_Wy ?_ | refine o_Wi ?_ | refine o_Co ?_ | refine o_Bg ?_ | refine o_Ps ?_ | refine o_Tp ?_, (by first | exact a.2.1 | rfl), a.2.2.1, a.2.2.2.1, a.2.2.2.2, fun j _ => congrFun e j⟩⟩)
  · exact Pr_of hX (hJ.st hk) (c8_goesOn_no hf hK hF hB hv) (fun σ1 a e => ⟨_, c9_goesOn_no (σ := σ1) (M := M) hf a.2.1 hv, fun r2 σ2 q => by
    obtain ⟨rfl, rfl⟩ := q
    exact ⟨rfl, _, _, rfl, fun _ _ => rfl, by repeat first | exact Off.rf | refine o_I ?_ | refine o_Rw ?_ | refine o_Ln ?_ | refine o_Hd ?_ | refine o_Wy ?_ | refine o_Wi ?_ | refine o_Co ?_ | refine o_Bg ?_ | refine o_Ps ?_ | refine o_Tp ?_, (by first | exact a.2.1 | rfl), a.2.2.1, a.2.2.2.1, a.2.2.2.2, fun j _ => congrFun e j⟩⟩)
set_option maxRecDepth 20000 in
set_option maxHeartbeats 4000000 in
theorem p_sets {w : Wp} (hf : Fit sh0 w) {k : Nat} {σ : Mm} (hS : St k σ) (hk : k < 512) {dl gr so pe ti : Int32} : Pr w k 2 5 mX8_sets mX9_sets [.int dl, .int gr, .int so, .int pe, .int ti] σ := by
  obtain ⟨M, L, r, n, l, hJ, hK, hX⟩ := hS
  have hC := hJ.cv
  have hF := hC.1.1
  have hB := hC.2.1
  by_cases hc : setsC dl gr so pe ti
  · exact Pr_of hX (Jk_sets hJ hk hc) (wd67 (c8_sets hf hK hF hB hc)) (fun σ1 a e => ⟨_, c9_sets (σ := σ1) (M := M) hf a.2.1 hF hc, fun r2 σ2 q => by
    obtain ⟨rfl, rfl⟩ := q
    exact ⟨rfl, _, _, rfl, fun _ _ => rfl, by repeat first | exact Off.rf | refine o_I ?_ | refine o_Rw ?_ | refine o_Ln ?_ | refine o_Hd ?_ | refine o_Wy ?_ | refine o_Wi ?_ | refine o_Co ?_ | refine o_Bg ?_ | refine o_Ps ?_ | refine o_Tp ?_, (by first | exact a.2.1 | rfl), a.2.2.1, a.2.2.2.1, a.2.2.2.2, fun j _ => congrFun e j⟩⟩)
  · exact Pr_of hX (hJ.st hk) (wd67 (c8_sets_no hf hK hF hB hc)) (fun σ1 a e => ⟨_, c9_sets_no (σ := σ1) (M := M) hf a.2.1 hc, fun r2 σ2 q => by
    obtain ⟨rfl, rfl⟩ := q
    exact ⟨rfl, _, _, rfl, fun _ _ => rfl, by repeat first | exact Off.rf | refine o_I ?_ | refine o_Rw ?_ | refine o_Ln ?_ | refine o_Hd ?_ | refine o_Wy ?_ | refine o_Wi ?_ | refine o_Co ?_ | refine o_Bg ?_ | refine o_Ps ?_ | refine o_Tp ?_, (by first | exact a.2.1 | rfl), a.2.2.1, a.2.2.2.1, a.2.2.2.2, fun j _ => congrFun e j⟩⟩)
theorem wiW4 {f : Nat → Int32} {a b c e : Int32} : ∀ k, k < 4 → wiW f a b c e k = w4 a b c e k := fun k hk => by
  rcases (show k = 0 ∨ k = 1 ∨ k = 2 ∨ k = 3 by omega) with rfl | rfl | rfl | rfl <;> rfl
set_option maxRecDepth 20000 in
set_option maxHeartbeats 4000000 in
theorem p_wheels {w : Wp} (hf : Fit sh0 w) {k : Nat} {σ : Mm} (hS : St k σ) (hk : k < 512) {x y z u : Int32} : Pr w k 4 6 mX8_wheels mX9_wheels [.int x, .int y, .int z, .int u] σ := by
  obtain ⟨M, L, r, n, l, hJ, hK, hX⟩ := hS
  have hC := hJ.cv
  have hF := hC.1.1
  have hB := hC.2.1
  have hcg : ∀ f : Nat → Int32, wiOk (wiW f x y z u) = wiOk (w4 x y z u) ∧ wiN (wiW f x y z u) 4 0 = wiN (w4 x y z u) 4 0 ∧ wiM M (wiW f x y z u) (wiN (w4 x y z u) 4 0) = wiM M (w4 x y z u) (wiN (w4 x y z u) 4 0) ∧ asW M (wiW f x y z u) (wiN (w4 x y z u) 4 0) = asW M (w4 x y z u) (wiN (w4 x y z u) 4 0) := fun f => ⟨wiOk_congr wiW4, wiN_congr wiW4 4 0 (by omega), wiM_congr wiW4, asW_congr (by have := wiN_le (w4 x y z u) 4 0; omega) wiW4⟩
  have c9 := fun (σ1 : Mm) (a : Rf M l n σ1) => c9_wheels (σ := σ1) (M := M) hf a.2.1 (a := x) (b := y) (c := z) (e := u)
  unfold wheelsR wheelsM at c9
  by_cases hok : wiOk (w4 x y z u) = true
  · by_cases has : asW M (w4 x y z u) (wiN (w4 x y z u) 4 0) = true
    · refine Pr_of hX (hJ.st hk) (c8_wheels_so hf hK hF hB hJ.z hok has) (fun σ1 a e => ?_)
      have c := c9 σ1 a
      have h := hcg (σ1.1 74)
      rw [h.1, h.2.1, h.2.2.1, h.2.2.2, if_pos hok, if_pos has, if_neg (fun z => z.2 has)] at c
      refine ⟨_, c, fun r2 σ2 q => ?_⟩
      obtain ⟨rfl, rfl⟩ := q
      exact ⟨rfl, _, _, rfl, fun _ _ => rfl, by repeat first | exact Off.rf | refine o_I ?_ | refine o_Rw ?_ | refine o_Ln ?_ | refine o_Hd ?_ | refine o_Wy ?_ | refine o_Wi ?_ | refine o_Co ?_ | refine o_Bg ?_ | refine o_Ps ?_ | refine o_Tp ?_, (by first | exact a.2.1 | rfl), a.2.2.1, a.2.2.2.1, a.2.2.2.2, fun j _ => congrFun e j⟩
    · have hJ' := Jk_wheels hJ hk hok
      refine Pr_of hX hJ' (c8_wheels hf hK hF hB hJ.z hok has rfl rfl) (fun σ1 a e => ?_)
      have c := c9 σ1 a
      have h := hcg (σ1.1 74)
      rw [h.1, h.2.1, h.2.2.1, h.2.2.2, if_pos hok, if_neg has, if_pos ⟨hok, has⟩] at c
      refine ⟨_, c, fun r2 σ2 q => ?_⟩
      obtain ⟨rfl, rfl⟩ := q
      exact ⟨rfl, _, _, rfl, fun _ _ => rfl, by repeat first | exact Off.rf | refine o_I ?_ | refine o_Rw ?_ | refine o_Ln ?_ | refine o_Hd ?_ | refine o_Wy ?_ | refine o_Wi ?_ | refine o_Co ?_ | refine o_Bg ?_ | refine o_Ps ?_ | refine o_Tp ?_, (by first | exact a.2.1 | rfl), a.2.2.1, a.2.2.2.1, a.2.2.2.2, fun j _ => congrFun e j⟩
  · refine Pr_of hX (hJ.st hk) (c8_wheels_no hf hK hF hB hok) (fun σ1 a e => ?_)
    have c := c9 σ1 a
    have h := hcg (σ1.1 74)
    rw [h.1, h.2.1, h.2.2.1, h.2.2.2, if_neg hok, if_neg (fun z => hok z.1)] at c
    refine ⟨_, c, fun r2 σ2 q => ?_⟩
    obtain ⟨rfl, rfl⟩ := q
    exact ⟨rfl, _, _, rfl, fun _ _ => rfl, by repeat first | exact Off.rf | refine o_I ?_ | refine o_Rw ?_ | refine o_Ln ?_ | refine o_Hd ?_ | refine o_Wy ?_ | refine o_Wi ?_ | refine o_Co ?_ | refine o_Bg ?_ | refine o_Ps ?_ | refine o_Tp ?_, (by first | exact a.2.1 | rfl), a.2.2.1, a.2.2.2.1, a.2.2.2.2, fun j _ => congrFun e j⟩
set_option maxRecDepth 20000 in
set_option maxHeartbeats 4000000 in
theorem p_ticks {w : Wp} (hf : Fit sh0 w) {k : Nat} {σ : Mm} (hS : St k σ) (hk : k < 512) {v : Int32} : Pr w k 4 8 mX8_ticks mX9_ticks [.int v] σ := by
  obtain ⟨M, L, r, n, l, hJ, hK, hX⟩ := hS
  have hC := hJ.cv
  have hF := hC.1.1
  have hB := hC.2.1
  obtain ⟨c, h6, hc6⟩ := hJ.ck
  by_cases hv : inR v 1 100
  · obtain ⟨m, rfl, m1, m2⟩ := inR_ex (lo := 1) (hi := 100) hv (by omega) (by omega)
    have hJ' := Jk_tks (m := m) (hl := []) hJ hk m2
    have c9 := fun (σ1 : Mm) (a : Rf M l n σ1) => c9_ticks (σ := σ1) (M := M) hf a.2.1 hC.1 (k := nI m) rfl m1 m2 (by rw [h6, nI_add]; exact nI_ngt (by omega))
    obtain ⟨S, hS⟩ : ∃ S, tks L m (M, r, ([] : List (Nat × Int32))) = S := ⟨_, rfl⟩
    rw [hS] at hJ' c9
    exact Pr_of hX hJ' (wd67 (c8_ticks hf hK hF hB hC h6 m1 m2 (by omega) hS)) (fun σ1 a e => ⟨_, c9 σ1 a, fun r2 σ2 q => by
    obtain ⟨fl, nl, f1, f2, f, rfl, rfl, hrw⟩ := q
    exact ⟨rfl, _, _, rfl, fun _ _ => rfl, by repeat first | exact Off.rf | refine o_I ?_ | refine o_Rw ?_ | refine o_Ln ?_ | refine o_Hd ?_ | refine o_Wy ?_ | refine o_Wi ?_ | refine o_Co ?_ | refine o_Bg ?_ | refine o_Ps ?_ | refine o_Tp ?_, (by first | exact a.2.1 | rfl), (congrArg nI (rowH_len _)).symm, hrw, a.2.2.2.2, fun j _ => congrFun e j⟩⟩)
  · exact Pr_of hX (hJ.st hk) (wd67 (c8_ticks_no hf hK hF hB hv)) (fun σ1 a e => ⟨_, c9_ticks_no (σ := σ1) (M := M) hf a.2.1 hv, fun r2 σ2 q => by
    obtain ⟨rfl, rfl⟩ := q
    exact ⟨rfl, _, _, rfl, fun _ _ => rfl, by repeat first | exact Off.rf | refine o_I ?_ | refine o_Rw ?_ | refine o_Ln ?_ | refine o_Hd ?_ | refine o_Wy ?_ | refine o_Wi ?_ | refine o_Co ?_ | refine o_Bg ?_ | refine o_Ps ?_ | refine o_Tp ?_, (by first | exact a.2.1 | rfl), a.2.2.1, a.2.2.2.1, a.2.2.2.2, fun j _ => congrFun e j⟩⟩)
set_option maxRecDepth 20000 in
set_option maxHeartbeats 4000000 in
theorem p_leaps {w : Wp} (hf : Fit sh0 w) {k : Nat} {σ : Mm} (hS : St k σ) (hk : k < 512) {v : Int32} : Pr w k 4 8 mX8_leaps mX9_leaps [.int v] σ := by
  obtain ⟨M, L, r, n, l, hJ, hK, hX⟩ := hS
  have hC := hJ.cv
  have hF := hC.1.1
  have hB := hC.2.1
  obtain ⟨c, h6, hc6⟩ := hJ.ck
  by_cases hv : v ≠ 0 ∧ -1000000 ≤ v ∧ v ≤ 1000000
  · by_cases h64 : C64 M v
    · have hJ' := Jk_leap hJ hk hv.2 h64
      obtain ⟨S, hS⟩ : ∃ S, lpS M v = S := ⟨_, rfl⟩
      have c9 := fun (σ1 : Mm) (a : Rf M l n σ1) => c9_leaps (σ := σ1) (M := M) hf a.2.1 hC.1 hv h64 hS
      have hR : leapM M L r v = layAllM (ringM S.1 L r S.2.1 S.2.2) L := by unfold leapM; rw [hS]
      rw [hS] at hJ'
      rw [← hR] at c9
      obtain ⟨R, hR'⟩ : ∃ R, leapM M L r v = R := ⟨_, rfl⟩
      obtain ⟨r2, hr2⟩ : ∃ r2, (tellM S.1 r S.2.1 S.2.2).2 = r2 := ⟨_, rfl⟩
      rw [hR'] at hJ' c9
      rw [hr2] at hJ'
      exact Pr_of hX hJ' (wd67 (c8_leapsS hf hK hF hB hC h6 (by omega) hv h64 hS hR' hr2)) (fun σ1 a e => ⟨_, c9 σ1 a, fun r2 σ2 q => by
    obtain ⟨fl, f1, f2, f, rfl, rfl, hrw⟩ := q
    exact ⟨rfl, _, _, rfl, fun _ _ => rfl, by repeat first | exact Off.rf | refine o_I ?_ | refine o_Rw ?_ | refine o_Ln ?_ | refine o_Hd ?_ | refine o_Wy ?_ | refine o_Wi ?_ | refine o_Co ?_ | refine o_Bg ?_ | refine o_Ps ?_ | refine o_Tp ?_, (by first | exact a.2.1 | rfl), (congrArg nI (rowH_len _)).symm, hrw, a.2.2.2.2, fun j _ => congrFun e j⟩⟩)
    · exact Pr_of hX (hJ.st hk) (wd67 (c8_leaps_end hf hK hF hB h6 (by omega) hv h64)) (fun σ1 a e => ⟨_, c9_leaps_end (σ := σ1) (M := M) hf a.2.1 hv h64, fun r2 σ2 q => by
    obtain ⟨rfl, rfl⟩ := q
    exact ⟨rfl, _, _, rfl, fun _ _ => rfl, by repeat first | exact Off.rf | refine o_I ?_ | refine o_Rw ?_ | refine o_Ln ?_ | refine o_Hd ?_ | refine o_Wy ?_ | refine o_Wi ?_ | refine o_Co ?_ | refine o_Bg ?_ | refine o_Ps ?_ | refine o_Tp ?_, (by first | exact a.2.1 | rfl), a.2.2.1, a.2.2.2.1, a.2.2.2.2, fun j _ => congrFun e j⟩⟩)
  · exact Pr_of hX (hJ.st hk) (wd67 (c8_leaps_no hf hK hF hB hv)) (fun σ1 a e => ⟨_, c9_leaps_no (σ := σ1) (M := M) hf a.2.1 hv, fun r2 σ2 q => by
    obtain ⟨rfl, rfl⟩ := q
    exact ⟨rfl, _, _, rfl, fun _ _ => rfl, by repeat first | exact Off.rf | refine o_I ?_ | refine o_Rw ?_ | refine o_Ln ?_ | refine o_Hd ?_ | refine o_Wy ?_ | refine o_Wi ?_ | refine o_Co ?_ | refine o_Bg ?_ | refine o_Ps ?_ | refine o_Tp ?_, (by first | exact a.2.1 | rfl), a.2.2.1, a.2.2.2.1, a.2.2.2.2, fun j _ => congrFun e j⟩⟩)
set_option maxRecDepth 20000 in
set_option maxHeartbeats 4000000 in
theorem p_spreads {w : Wp} (hf : Fit sh0 w) {k : Nat} {σ : Mm} (hS : St k σ) (hk : k < 512) {v gap : Int32} : Pr w k 3 5 mX8_spreads mX9_spreads [.int v, .int gap] σ := by
  obtain ⟨M, L, r, n, l, hJ, hK, hX⟩ := hS
  have hC := hJ.cv
  have hF := hC.1.1
  have hB := hC.2.1
  by_cases hv : inR v 0 7 ∧ inR gap 0 1000
  · obtain ⟨LN, hLN⟩ : ∃ LN, lineM M true (hoP v M) = LN := ⟨_, rfl⟩
    obtain ⟨S, hS⟩ : ∃ S, spS M L gap LN = S := ⟨_, rfl⟩
    have c8 := c8_spreads hf hK hF hB hC.2.2.1 hC.2.2.2 hv.1 hv.2 hLN hS
    have c9 := fun (σ1 : Mm) (a : Rf M l n σ1) => c9_spreads (σ := σ1) (M := M) hf a.2.1 hF hv.1 hv.2 hLN hS
    by_cases h2 : LN.2 < 2
    · refine Pr_of (v := -2) (l' := l) (n' := n) (T' := σ.1 69) hX (hJ.st hk) (c8.mo (fun r1 s1 q => ⟨?_, q.1, ?_⟩)) (fun σ1 a e => ⟨_, c9 σ1 a, fun r2 σ2 q => ?_⟩)
      · have q2 := q.2
        rw [if_pos h2] at q2
        exact q2.1
      · have q2 := q.2
        rw [if_pos h2] at q2
        exact q2.2
      · rw [if_pos h2] at q
        obtain ⟨rfl, fl, rfl⟩ := q
        exact ⟨rfl, _, _, rfl, fun _ _ => rfl, by repeat first | exact Off.rf | refine o_I ?_ | refine o_Rw ?_ | refine o_Ln ?_ | refine o_Hd ?_ | refine o_Wy ?_ | refine o_Wi ?_ | refine o_Co ?_ | refine o_Bg ?_ | refine o_Ps ?_ | refine o_Tp ?_, (by first | exact a.2.1 | rfl), a.2.2.1, a.2.2.2.1, a.2.2.2.2, fun j _ => congrFun e j⟩
    · have hJ' := Jk_sp hJ hk hLN h2 hv.2
      rw [hS] at hJ'
      refine Pr_of (v := S.2) (l' := [(S.1 (231 + LN.1 (LN.2 - 1))).toInt64]) (n' := n) (T' := σ.1 69) hX hJ' (c8.mo (fun r1 s1 q => ⟨?_, q.1, ?_⟩)) (fun σ1 a e => ⟨_, c9 σ1 a, fun r2 σ2 q => ?_⟩)
      · have q2 := q.2
        rw [if_neg h2] at q2
        exact q2.1
      · have q2 := q.2
        rw [if_neg h2] at q2
        exact q2.2
      · rw [if_neg h2] at q
        obtain ⟨fl, fr, rfl, rfl, hrw⟩ := q
        exact ⟨rfl, _, _, rfl, fun _ _ => rfl, by repeat first | exact Off.rf | refine o_I ?_ | refine o_Rw ?_ | refine o_Ln ?_ | refine o_Hd ?_ | refine o_Wy ?_ | refine o_Wi ?_ | refine o_Co ?_ | refine o_Bg ?_ | refine o_Ps ?_ | refine o_Tp ?_, (by first | exact a.2.1 | rfl), rfl, hrw, a.2.2.2.2, fun j _ => congrFun e j⟩
  · exact Pr_of hX (hJ.st hk) (c8_spreads_no hf hK hF hB hv) (fun σ1 a e => ⟨_, c9_spreads_no (σ := σ1) (M := M) hf a.2.1 hv, fun r2 σ2 q => by
    obtain ⟨rfl, rfl⟩ := q
    exact ⟨rfl, _, _, rfl, fun _ _ => rfl, by repeat first | exact Off.rf | refine o_I ?_ | refine o_Rw ?_ | refine o_Ln ?_ | refine o_Hd ?_ | refine o_Wy ?_ | refine o_Wi ?_ | refine o_Co ?_ | refine o_Bg ?_ | refine o_Ps ?_ | refine o_Tp ?_, (by first | exact a.2.1 | rfl), a.2.2.1, a.2.2.2.1, a.2.2.2.2, fun j _ => congrFun e j⟩⟩)
set_option maxRecDepth 20000 in
set_option maxHeartbeats 4000000 in
theorem p_delays {w : Wp} (hf : Fit sh0 w) {k : Nat} {σ : Mm} (hS : St k σ) (hk : k < 512) {v dl : Int32} : Pr w k 2 4 mX8_delays mX9_delays [.int v, .int dl] σ := by
  obtain ⟨M, L, r, n, l, hJ, hK, hX⟩ := hS
  have hC := hJ.cv
  have hF := hC.1.1
  have hB := hC.2.1
  by_cases hv : isTm M v ∧ inR dl 1 1000000
  · obtain ⟨ev, ht⟩ := isTm_ix hv.1.1
    obtain ⟨t, et⟩ : ∃ t, ix v = t := ⟨_, rfl⟩
    have hT := hv.1.2
    by_cases hw : dlWas M (ix v) = dl
    · have c9 := fun (σ1 : Mm) (a : Rf M l n σ1) => c9_delays_so (σ := σ1) (M := M) hf a.2.1 hv.1 hv.2 hw
      rw [et] at ev ht hT hw
      rw [ev] at c9 ⊢
      exact Pr_of hX (hJ.st hk) (c8_delays_so hf hK hF hB ht hT hv.2 hw) (fun σ1 a e => ⟨_, c9 σ1 a, fun r2 σ2 q => by
    obtain ⟨rfl, rfl⟩ := q
    exact ⟨rfl, _, _, rfl, fun _ _ => rfl, by repeat first | exact Off.rf | refine o_I ?_ | refine o_Rw ?_ | refine o_Ln ?_ | refine o_Hd ?_ | refine o_Wy ?_ | refine o_Wi ?_ | refine o_Co ?_ | refine o_Bg ?_ | refine o_Ps ?_ | refine o_Tp ?_, (by first | exact a.2.1 | rfl), a.2.2.1, a.2.2.2.1, a.2.2.2.2, fun j _ => congrFun e j⟩⟩)
    · have c9 := fun (σ1 : Mm) (a : Rf M l n σ1) => c9_delays (σ := σ1) (M := M) hf a.2.1 hF hv.1 hv.2 hw
      rw [et] at ev ht hT hw c9
      rw [ev] at c9 ⊢
      exact Pr_of hX (Jk_dl hJ hk ht hv.2) (c8_delays hf hK hF hB ht hT hv.2 hw) (fun σ1 a e => ⟨_, c9 σ1 a, fun r2 σ2 q => by
    obtain ⟨fr, rfl, rfl, hrw⟩ := q
    exact ⟨rfl, _, _, rfl, fun _ _ => rfl, by repeat first | exact Off.rf | refine o_I ?_ | refine o_Rw ?_ | refine o_Ln ?_ | refine o_Hd ?_ | refine o_Wy ?_ | refine o_Wi ?_ | refine o_Co ?_ | refine o_Bg ?_ | refine o_Ps ?_ | refine o_Tp ?_, (by first | exact a.2.1 | rfl), rfl, hrw, a.2.2.2.2, fun j _ => congrFun e j⟩⟩)
  · exact Pr_of hX (hJ.st hk) (c8_delays_no hf hK hF hB hv) (fun σ1 a e => ⟨_, c9_delays_no (σ := σ1) (M := M) hf a.2.1 hv, fun r2 σ2 q => by
    obtain ⟨rfl, rfl⟩ := q
    exact ⟨rfl, _, _, rfl, fun _ _ => rfl, by repeat first | exact Off.rf | refine o_I ?_ | refine o_Rw ?_ | refine o_Ln ?_ | refine o_Hd ?_ | refine o_Wy ?_ | refine o_Wi ?_ | refine o_Co ?_ | refine o_Bg ?_ | refine o_Ps ?_ | refine o_Tp ?_, (by first | exact a.2.1 | rfl), a.2.2.1, a.2.2.2.1, a.2.2.2.2, fun j _ => congrFun e j⟩⟩)
set_option maxRecDepth 20000 in
set_option maxHeartbeats 4000000 in
theorem p_run {w : Wp} (hf : Fit sh0 w) {k : Nat} {σ : Mm} (hS : St k σ) (hk : k < 512)  : Pr w k 6 9 mX8_run mX9_run [] σ := by
  obtain ⟨M, L, r, n, l, hJ, hK, hX⟩ := hS
  have hC := hJ.cv
  have hF := hC.1.1
  have hB := hC.2.1
  have hn : n ≤ 100 := hK.2.2.2.2.1.2.1
  obtain ⟨R, hR0⟩ : ∃ R, rdL (σ.1 69) n 101 [] 0 = R := ⟨_, rfl⟩
  obtain ⟨g1, g2⟩ := rdL_ok (T := σ.1 69) (n := n) 101 [] 0 (fun a ha => absurd ha List.not_mem_nil)
  rw [hR0] at g1 g2
  have g1 : R.2.2.length ≤ 101 := by simpa using g1
  have hJ' := Jk_doL hJ hk g1 g2
  obtain ⟨S, hS0⟩ : ∃ S, doL L R.2.2 (M, r, 0, 0) = S := ⟨_, rfl⟩
  rw [hS0] at hJ'
  have c9 := fun (σ1 : Mm) (a : Rf M l n σ1) (e : σ1.1 69 = σ.1 69) => c9_run (σ := σ1) (M := M) hf a.2.1 (n := n) a.2.2.2.2 hn (T := σ.1 69) e hR0 (L := L) (r := r) (P := Ra k L) (Ra_0 hJ) (fun i M r h => ⟨(Ra_cv h).1.1, fun t ht => ((Ra_cv h).1.2.1 t ht).1⟩) (fun i M r b s hi h hO hD => Ra_st h (by omega) hO hD) hS0
  cases hRt : R.1 with
  | true =>
    refine Pr_of hX hJ' (c8_run_t hf hK hF hB hR0 hRt (P := Ra k L) (Ra_0 hJ) (fun i M r h => Ra_cv h) (fun i M r b s hi h hO hD => Ra_st h (by omega) hO hD) hS0) (fun σ1 a e => ⟨_, c9 σ1 a e, fun r2 σ2 q => ?_⟩)
    rcases q with ⟨q, -⟩ | ⟨-, fl, nl, f1, f2, h, f, p, fr, rfl, rfl, hrw⟩
    · rw [hRt] at q; cases q
    · exact ⟨rfl, _, _, rfl, fun _ _ => rfl, by repeat first | exact Off.rf | refine o_I ?_ | refine o_Rw ?_ | refine o_Ln ?_ | refine o_Hd ?_ | refine o_Wy ?_ | refine o_Wi ?_ | refine o_Co ?_ | refine o_Bg ?_ | refine o_Ps ?_ | refine o_Tp ?_, (by first | exact a.2.1 | rfl), rfl, hrw, rfl, fun j hj => absurd hj (Nat.not_lt_zero j)⟩
  | false =>
    refine Pr_of hX (hJ.st hk) (c8_run_f hf hK hF hB hR0 hRt) (fun σ1 a e => ⟨_, c9 σ1 a e, fun r2 σ2 q => ?_⟩)
    rcases q with ⟨-, rfl, f, rfl⟩ | ⟨q, -⟩
    · exact ⟨rfl, _, _, rfl, fun _ _ => rfl, by repeat first | exact Off.rf | refine o_I ?_ | refine o_Rw ?_ | refine o_Ln ?_ | refine o_Hd ?_ | refine o_Wy ?_ | refine o_Wi ?_ | refine o_Co ?_ | refine o_Bg ?_ | refine o_Ps ?_ | refine o_Tp ?_, (by first | exact a.2.1 | rfl), a.2.2.1, a.2.2.2.1, rfl, fun j hj => absurd hj (Nat.not_lt_zero j)⟩
    · rw [hRt] at q; cases q
end
