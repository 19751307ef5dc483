def AcE (f : Nat → Int32) (k : Nat) (a : Act) : Prop := f (4 * k) = a.1 ∧ f (4 * k + 1) = a.2.1 ∧ (a.1 = 0 → f (4 * k + 2) = a.2.2.1 ∧ f (4 * k + 3) = a.2.2.2)
set_option maxRecDepth 20000 in
set_option maxHeartbeats 4000000 in
theorem c9_readsAct {w : Wp} (hf : Fit sh0 w) {σ : Mm} {d : Nat} {M : Nat → Int32} {n p : Nat} {f T : Nat → Int32} (hto : σ.1 67 6 = nI n) (hT : σ.1 69 = T) (hn : n ≤ 100) (hp : p ≤ n) {k : Nat} (hk : k < 100) {kk : Int32} (hkk : kk = nI k) {R : Bool × Nat × Act} (hR0 : rdA T n p = R) : Ct sh0 w 3 mX9_readsAct [.ref 67, .int kk] (sM (sPs σ p f) d M) (fun r' σ' => ∃ f', r' = some (.int (bz (R.1 = true))) ∧ σ' = sM (sPs σ R.2.1 f') d M ∧ (∀ j, j < 4 * k → f' j = f j) ∧ (R.1 = true → AcE f' k R.2.2)) := by
  subst hkk
  refine Ct_of hf (by decide) rfl (Nat.le_of_ble_eq_true rfl) (fun x o rt => ?_)
  refine V_iconst (v := 4) o dX9_readsAct_0 (by decide) ?_
  refine V_iload_n o dX9_readsAct_1 rfl rfl ?_
  refine V_imul o dX9_readsAct_2 ?_
  refine V_istore_n (ls' := [(2, _), (0, _), (1, _)]) o dX9_readsAct_3 rfl (by decide) rfl ?_
  refine V_aload_n o dX9_readsAct_4 rfl rfl ?_
  refine V_bipush (v := 115) o dX9_readsAct_5 (by decide) ?_
  refine V_cVi o rt dX9_readsAct_7 ml_X9_228 (c9_takes hf hto hT hn hp) rfl rfl rfl (Nat.le_of_ble_eq_true rfl) rfl ?_
  refine V_if_eq (tgt := 156) o dX9_readsAct_10 (by decide) (fun c_10 => ?_) (fun c_10 => ?_)
  · have t1 := bz_0.mp c_10
    rw [tkN_f t1]
    refine V_aload_n o dX9_readsAct_156 rfl rfl ?_
    refine V_bipush (v := 116) o dX9_readsAct_157 (by decide) ?_
    refine V_cVi o rt dX9_readsAct_159 ml_X9_228 (c9_takes hf hto hT hn hp) rfl rfl rfl (Nat.le_of_ble_eq_true rfl) rfl ?_
    refine V_if_eq (tgt := 205) o dX9_readsAct_162 (by decide) (fun c_162 => ?_) (fun c_162 => ?_)
    · have u1 := bz_0.mp c_162
      rw [tkN_f u1]
      refine V_aload_n o dX9_readsAct_205 rfl rfl ?_
      refine V_bipush (v := 108) o dX9_readsAct_206 (by decide) ?_
      refine V_cVi o rt dX9_readsAct_208 ml_X9_228 (c9_takes hf hto hT hn hp) rfl rfl rfl (Nat.le_of_ble_eq_true rfl) rfl ?_
      refine V_if_eq (tgt := 270) o dX9_readsAct_211 (by decide) (fun c_211 => ?_) (fun c_211 => ?_)
      · have v1 := bz_0.mp c_211
        rw [tkN_f v1]
        refine V_aload_n o dX9_readsAct_270 rfl rfl ?_
        refine V_bipush (v := 99) o dX9_readsAct_271 (by decide) ?_
        refine V_cVi o rt dX9_readsAct_273 ml_X9_228 (c9_takes hf hto hT hn hp) rfl rfl rfl (Nat.le_of_ble_eq_true rfl) rfl ?_
        refine V_if_eq (tgt := 319) o dX9_readsAct_276 (by decide) (fun c_276 => ?_) (fun c_276 => ?_)
        · have w1 := bz_0.mp c_276
          rw [tkN_f w1]
          refine V_iconst (v := 0) o dX9_readsAct_319 (by decide) ?_
          refine V_iret o rt dX9_readsAct_320 rfl rfl ?_
          have e : R = (false, p, 0, 0, 0, 0) := by rw [← hR0, rdA, if_neg t1, if_neg u1, if_neg v1, if_neg w1]
          rw [e]
          exact ⟨_, rfl, rfl, fun j hj => by simp [upd, show ¬ j = 4 * k by omega, show ¬ j = 4 * k + 1 by omega, show ¬ j = 4 * k + 2 by omega, show ¬ j = 4 * k + 3 by omega], fun q => by cases q⟩
        · have w1 := bz_n0.mp c_276
          rw [tkN_t w1]
          obtain ⟨N1, hN1⟩ : ∃ N, nuR T n 2 0 99 (p + 1) = N := ⟨_, rfl⟩
          have lN1 := nuR_le (T := T) (n := n) (D := 2) (lo := 0) (hi := 99) (p := p + 1) w1.1
          rw [hN1] at lN1
          refine V_aload_n o dX9_readsAct_279 rfl rfl ?_
          refine V_getR (t := 75) o dX9_readsAct_280 rfl fl_X9_64 rfl ?_
          refine V_iload_n o dX9_readsAct_283 rfl rfl ?_
          refine V_iconst (v := 3) o dX9_readsAct_284 (by decide) ?_
          refine V_iastN 400 o dX9_readsAct_285 rfl rfl (nmul (show (4 : Int32) = nI 4 from rfl) rfl) (by omega) rfl ?_
          rw [wI_sM75]
          rw [wI_sPs75]
          refine V_aload_n o dX9_readsAct_286 rfl rfl ?_
          refine V_getR (t := 75) o dX9_readsAct_287 rfl fl_X9_64 rfl ?_
          refine V_iload_n o dX9_readsAct_290 rfl rfl ?_
          refine V_iconst (v := 1) o dX9_readsAct_291 (by decide) ?_
          refine V_iadd o dX9_readsAct_292 ?_
          refine V_aload_n o dX9_readsAct_293 rfl rfl ?_
          refine V_iconst (v := 2) o dX9_readsAct_294 (by decide) ?_
          refine V_iconst (v := 0) o dX9_readsAct_295 (by decide) ?_
          refine V_bipush (v := 99) o dX9_readsAct_296 (by decide) ?_
          refine V_cVi o rt dX9_readsAct_298 ml_X9_231 (c9_number hf hto hT hn w1.1 (D := 2) (by omega) (show (2 : Int32) = nI 2 from rfl) hN1) rfl rfl rfl (Nat.le_of_ble_eq_true rfl) rfl ?_
          refine V_iastN 400 o dX9_readsAct_301 rfl rfl (nadd (nmul (show (4 : Int32) = nI 4 from rfl) rfl) (show (1 : Int32) = nI 1 from rfl)) (by omega) rfl ?_
          rw [wI_sM75]
          rw [wI_sPs75]
          refine V_aload_n o dX9_readsAct_302 rfl rfl ?_
          refine V_getR (t := 75) o dX9_readsAct_303 rfl fl_X9_64 rfl ?_
          refine V_iload_n o dX9_readsAct_306 rfl rfl ?_
          refine V_iconst (v := 1) o dX9_readsAct_307 (by decide) ?_
          refine V_iadd o dX9_readsAct_308 ?_
          refine V_ialdN 400 o dX9_readsAct_309 rfl rfl (nadd (nmul (show (4 : Int32) = nI 4 from rfl) rfl) (show (1 : Int32) = nI 1 from rfl)) (by omega) rfl ?_
          refine V_topI (v' := N1.1) (by simp [sM, sPs, upd]) ?_
          refine V_if_lt (tgt := 317) o dX9_readsAct_310 (by decide) (fun c_310 => ?_) (fun c_310 => ?_)
          · refine V_iconst (v := 0) o dX9_readsAct_317 (by decide) ?_
            refine V_iret o rt dX9_readsAct_318 rfl rfl ?_
            have e : R = (false, N1.2, 3, N1.1, 0, 0) := by rw [← hR0, rdA, if_neg t1, if_neg u1, if_neg v1, if_pos w1, hN1, rdC, decide_eq_false (Int32.not_le.mpr c_310)]
            rw [e]
            exact ⟨_, rfl, rfl, fun j hj => by simp [upd, show ¬ j = 4 * k by omega, show ¬ j = 4 * k + 1 by omega, show ¬ j = 4 * k + 2 by omega, show ¬ j = 4 * k + 3 by omega], fun q => by cases q⟩
          · refine V_iconst (v := 1) o dX9_readsAct_313 (by decide) ?_
            refine V_goto (tgt := 318) o dX9_readsAct_314 (by decide) ?_
            refine V_iret o rt dX9_readsAct_318 rfl rfl ?_
            have e : R = (true, N1.2, 3, N1.1, 0, 0) := by rw [← hR0, rdA, if_neg t1, if_neg u1, if_neg v1, if_pos w1, hN1, rdC, decide_eq_true (Int32.not_lt.mp c_310)]
            rw [e]
            exact ⟨_, rfl, rfl, fun j hj => by simp [upd, show ¬ j = 4 * k by omega, show ¬ j = 4 * k + 1 by omega, show ¬ j = 4 * k + 2 by omega, show ¬ j = 4 * k + 3 by omega], fun _ => ⟨by simp [upd], by simp [upd], fun q => absurd (show (3 : Int32) = 0 from q) (by decide)⟩⟩
      · have v1 := bz_n0.mp c_211
        rw [tkN_t v1]
        
        refine V_aload_n o dX9_readsAct_214 rfl rfl ?_
        refine V_getR (t := 75) o dX9_readsAct_215 rfl fl_X9_64 rfl ?_
        refine V_iload_n o dX9_readsAct_218 rfl rfl ?_
        refine V_iconst (v := 2) o dX9_readsAct_219 (by decide) ?_
        refine V_iastN 400 o dX9_readsAct_220 rfl rfl (nmul (show (4 : Int32) = nI 4 from rfl) rfl) (by omega) rfl ?_
        rw [wI_sM75]
        rw [wI_sPs75]
        refine V_aload_n o dX9_readsAct_221 rfl rfl ?_
        refine V_bipush (v := 45) o dX9_readsAct_222 (by decide) ?_
        refine V_cVi o rt dX9_readsAct_224 ml_X9_228 (c9_takes hf hto hT hn v1.1) rfl rfl rfl (Nat.le_of_ble_eq_true rfl) rfl ?_
        refine V_istore_n (ls' := [(3, _), (2, _), (0, _), (1, _)]) o dX9_readsAct_227 rfl (by decide) rfl ?_
        have hk9 : tkN T n (p + 1) 45 ≤ n := by
          have := v1.1
          unfold tkN
          split
          · next q9 => exact q9.1
          · omega
        obtain ⟨N1, hN1⟩ : ∃ N, nuR T n 4 1 9999 (tkN T n (p + 1) 45) = N := ⟨_, rfl⟩
        have lN1 := nuR_le (T := T) (n := n) (D := 4) (lo := 1) (hi := 9999) (p := tkN T n (p + 1) 45) hk9
        rw [hN1] at lN1
        refine V_aload_n o dX9_readsAct_228 rfl rfl ?_
        refine V_iconst (v := 4) o dX9_readsAct_229 (by decide) ?_
        refine V_iconst (v := 1) o dX9_readsAct_230 (by decide) ?_
        refine V_sipush (v := 9999) o dX9_readsAct_231 (by decide) ?_
        refine V_cVi o rt dX9_readsAct_234 ml_X9_231 (c9_number hf hto hT hn hk9 (D := 4) (by omega) (show (4 : Int32) = nI 4 from rfl) hN1) rfl rfl rfl (Nat.le_of_ble_eq_true rfl) rfl ?_
        refine V_istore (ls' := [(4, _), (3, _), (2, _), (0, _), (1, _)]) o dX9_readsAct_237 (by decide) rfl ?_
        refine V_aload_n o dX9_readsAct_239 rfl rfl ?_
        refine V_getR (t := 75) o dX9_readsAct_240 rfl fl_X9_64 rfl ?_
        refine V_iload_n o dX9_readsAct_243 rfl rfl ?_
        refine V_iconst (v := 1) o dX9_readsAct_244 (by decide) ?_
        refine V_iadd o dX9_readsAct_245 ?_
        refine V_iload_n o dX9_readsAct_246 rfl rfl ?_
        refine V_if_eq (tgt := 256) o dX9_readsAct_247 (by decide) (fun c_247 => ?_) (fun c_247 => ?_)
        · refine V_iload o dX9_readsAct_256 rfl ?_
          refine V_iastN 400 o dX9_readsAct_258 rfl rfl (nadd (nmul (show (4 : Int32) = nI 4 from rfl) rfl) (show (1 : Int32) = nI 1 from rfl)) (by omega) rfl ?_
          rw [wI_sM75]
          rw [wI_sPs75]
          refine V_iload o dX9_readsAct_259 rfl ?_
          refine V_if_le (tgt := 268) o dX9_readsAct_261 (by decide) (fun c_261 => ?_) (fun c_261 => ?_)
          · refine V_iconst (v := 0) o dX9_readsAct_268 (by decide) ?_
            refine V_iret o rt dX9_readsAct_269 rfl rfl ?_
            have e : R = (false, N1.2, 2, N1.1, 0, 0) := by rw [← hR0, rdA, if_neg t1, if_neg u1, if_pos v1, hN1, rdL1, if_neg (bz_0.mp c_247), decide_eq_false (Int32.not_lt.mpr c_261)]
            rw [e]
            exact ⟨_, rfl, rfl, fun j hj => by simp [upd, show ¬ j = 4 * k by omega, show ¬ j = 4 * k + 1 by omega, show ¬ j = 4 * k + 2 by omega, show ¬ j = 4 * k + 3 by omega], fun q => by cases q⟩
          · refine V_iconst (v := 1) o dX9_readsAct_264 (by decide) ?_
            refine V_goto (tgt := 269) o dX9_readsAct_265 (by decide) ?_
            refine V_iret o rt dX9_readsAct_269 rfl rfl ?_
            have e : R = (true, N1.2, 2, N1.1, 0, 0) := by rw [← hR0, rdA, if_neg t1, if_neg u1, if_pos v1, hN1, rdL1, if_neg (bz_0.mp c_247), decide_eq_true (Int32.not_le.mp c_261)]
            rw [e]
            exact ⟨_, rfl, rfl, fun j hj => by simp [upd, show ¬ j = 4 * k by omega, show ¬ j = 4 * k + 1 by omega, show ¬ j = 4 * k + 2 by omega, show ¬ j = 4 * k + 3 by omega], fun _ => ⟨by simp [upd], by simp [upd], fun q => absurd (show (2 : Int32) = 0 from q) (by decide)⟩⟩
        · refine V_iload o dX9_readsAct_250 rfl ?_
          refine V_ineg o dX9_readsAct_252 ?_
          refine V_goto (tgt := 258) o dX9_readsAct_253 (by decide) ?_
          refine V_iastN 400 o dX9_readsAct_258 rfl rfl (nadd (nmul (show (4 : Int32) = nI 4 from rfl) rfl) (show (1 : Int32) = nI 1 from rfl)) (by omega) rfl ?_
          rw [wI_sM75]
          rw [wI_sPs75]
          refine V_iload o dX9_readsAct_259 rfl ?_
          refine V_if_le (tgt := 268) o dX9_readsAct_261 (by decide) (fun c_261 => ?_) (fun c_261 => ?_)
          · refine V_iconst (v := 0) o dX9_readsAct_268 (by decide) ?_
            refine V_iret o rt dX9_readsAct_269 rfl rfl ?_
            have e : R = (false, N1.2, 2, -N1.1, 0, 0) := by rw [← hR0, rdA, if_neg t1, if_neg u1, if_pos v1, hN1, rdL1, if_pos (bz_n0.mp c_247), decide_eq_false (Int32.not_lt.mpr c_261)]
            rw [e]
            exact ⟨_, rfl, rfl, fun j hj => by simp [upd, show ¬ j = 4 * k by omega, show ¬ j = 4 * k + 1 by omega, show ¬ j = 4 * k + 2 by omega, show ¬ j = 4 * k + 3 by omega], fun q => by cases q⟩
          · refine V_iconst (v := 1) o dX9_readsAct_264 (by decide) ?_
            refine V_goto (tgt := 269) o dX9_readsAct_265 (by decide) ?_
            refine V_iret o rt dX9_readsAct_269 rfl rfl ?_
            have e : R = (true, N1.2, 2, -N1.1, 0, 0) := by rw [← hR0, rdA, if_neg t1, if_neg u1, if_pos v1, hN1, rdL1, if_pos (bz_n0.mp c_247), decide_eq_true (Int32.not_le.mp c_261)]
            rw [e]
            exact ⟨_, rfl, rfl, fun j hj => by simp [upd, show ¬ j = 4 * k by omega, show ¬ j = 4 * k + 1 by omega, show ¬ j = 4 * k + 2 by omega, show ¬ j = 4 * k + 3 by omega], fun _ => ⟨by simp [upd], by simp [upd], fun q => absurd (show (2 : Int32) = 0 from q) (by decide)⟩⟩
    · have u1 := bz_n0.mp c_162
      rw [tkN_t u1]
      obtain ⟨N1, hN1⟩ : ∃ N, nuR T n 1 1 9 (p + 1) = N := ⟨_, rfl⟩
      have lN1 := nuR_le (T := T) (n := n) (D := 1) (lo := 1) (hi := 9) (p := p + 1) u1.1
      rw [hN1] at lN1
      refine V_aload_n o dX9_readsAct_165 rfl rfl ?_
      refine V_getR (t := 75) o dX9_readsAct_166 rfl fl_X9_64 rfl ?_
      refine V_iload_n o dX9_readsAct_169 rfl rfl ?_
      refine V_iconst (v := 1) o dX9_readsAct_170 (by decide) ?_
      refine V_iastN 400 o dX9_readsAct_171 rfl rfl (nmul (show (4 : Int32) = nI 4 from rfl) rfl) (by omega) rfl ?_
      rw [wI_sM75]
      rw [wI_sPs75]
      refine V_aload_n o dX9_readsAct_172 rfl rfl ?_
      refine V_getR (t := 75) o dX9_readsAct_173 rfl fl_X9_64 rfl ?_
      refine V_iload_n o dX9_readsAct_176 rfl rfl ?_
      refine V_iconst (v := 1) o dX9_readsAct_177 (by decide) ?_
      refine V_iadd o dX9_readsAct_178 ?_
      refine V_aload_n o dX9_readsAct_179 rfl rfl ?_
      refine V_iconst (v := 1) o dX9_readsAct_180 (by decide) ?_
      refine V_iconst (v := 1) o dX9_readsAct_181 (by decide) ?_
      refine V_bipush (v := 9) o dX9_readsAct_182 (by decide) ?_
      refine V_cVi o rt dX9_readsAct_184 ml_X9_231 (c9_number hf hto hT hn u1.1 (D := 1) (by omega) (show (1 : Int32) = nI 1 from rfl) hN1) rfl rfl rfl (Nat.le_of_ble_eq_true rfl) rfl ?_
      refine V_iastN 400 o dX9_readsAct_187 rfl rfl (nadd (nmul (show (4 : Int32) = nI 4 from rfl) rfl) (show (1 : Int32) = nI 1 from rfl)) (by omega) rfl ?_
      rw [wI_sM75]
      rw [wI_sPs75]
      refine V_aload_n o dX9_readsAct_188 rfl rfl ?_
      refine V_getR (t := 75) o dX9_readsAct_189 rfl fl_X9_64 rfl ?_
      refine V_iload_n o dX9_readsAct_192 rfl rfl ?_
      refine V_iconst (v := 1) o dX9_readsAct_193 (by decide) ?_
      refine V_iadd o dX9_readsAct_194 ?_
      refine V_ialdN 400 o dX9_readsAct_195 rfl rfl (nadd (nmul (show (4 : Int32) = nI 4 from rfl) rfl) (show (1 : Int32) = nI 1 from rfl)) (by omega) rfl ?_
      refine V_topI (v' := N1.1) (by simp [sM, sPs, upd]) ?_
      refine V_if_le (tgt := 203) o dX9_readsAct_196 (by decide) (fun c_196 => ?_) (fun c_196 => ?_)
      · refine V_iconst (v := 0) o dX9_readsAct_203 (by decide) ?_
        refine V_iret o rt dX9_readsAct_204 rfl rfl ?_
        have e : R = (false, N1.2, 1, N1.1, 0, 0) := by rw [← hR0, rdA, if_neg t1, if_pos u1, hN1, rdT, decide_eq_false (Int32.not_lt.mpr c_196)]
        rw [e]
        exact ⟨_, rfl, rfl, fun j hj => by simp [upd, show ¬ j = 4 * k by omega, show ¬ j = 4 * k + 1 by omega, show ¬ j = 4 * k + 2 by omega, show ¬ j = 4 * k + 3 by omega], fun q => by cases q⟩
      · refine V_iconst (v := 1) o dX9_readsAct_199 (by decide) ?_
        refine V_goto (tgt := 204) o dX9_readsAct_200 (by decide) ?_
        refine V_iret o rt dX9_readsAct_204 rfl rfl ?_
        have e : R = (true, N1.2, 1, N1.1, 0, 0) := by rw [← hR0, rdA, if_neg t1, if_pos u1, hN1, rdT, decide_eq_true (Int32.not_le.mp c_196)]
        rw [e]
        exact ⟨_, rfl, rfl, fun j hj => by simp [upd, show ¬ j = 4 * k by omega, show ¬ j = 4 * k + 1 by omega, show ¬ j = 4 * k + 2 by omega, show ¬ j = 4 * k + 3 by omega], fun _ => ⟨by simp [upd], by simp [upd], fun q => absurd (show (1 : Int32) = 0 from q) (by decide)⟩⟩
  · have t1 := bz_n0.mp c_10
    rw [tkN_t t1]
    obtain ⟨N1, hN1⟩ : ∃ N, nuR T n 4 1 9999 (p + 1) = N := ⟨_, rfl⟩
    have lN1 := nuR_le (T := T) (n := n) (D := 4) (lo := 1) (hi := 9999) (p := p + 1) t1.1
    rw [hN1] at lN1
    refine V_aload_n o dX9_readsAct_13 rfl rfl ?_
    refine V_getR (t := 75) o dX9_readsAct_14 rfl fl_X9_64 rfl ?_
    refine V_iload_n o dX9_readsAct_17 rfl rfl ?_
    refine V_iconst (v := 0) o dX9_readsAct_18 (by decide) ?_
    refine V_iastN 400 o dX9_readsAct_19 rfl rfl (nmul (show (4 : Int32) = nI 4 from rfl) rfl) (by omega) rfl ?_
    rw [wI_sM75]
    rw [wI_sPs75]
    refine V_aload_n o dX9_readsAct_20 rfl rfl ?_
    refine V_getR (t := 75) o dX9_readsAct_21 rfl fl_X9_64 rfl ?_
    refine V_iload_n o dX9_readsAct_24 rfl rfl ?_
    refine V_iconst (v := 1) o dX9_readsAct_25 (by decide) ?_
    refine V_iadd o dX9_readsAct_26 ?_
    refine V_aload_n o dX9_readsAct_27 rfl rfl ?_
    refine V_iconst (v := 4) o dX9_readsAct_28 (by decide) ?_
    refine V_iconst (v := 1) o dX9_readsAct_29 (by decide) ?_
    refine V_sipush (v := 9999) o dX9_readsAct_30 (by decide) ?_
    refine V_cVi o rt dX9_readsAct_33 ml_X9_231 (c9_number hf hto hT hn t1.1 (D := 4) (by omega) (show (4 : Int32) = nI 4 from rfl) hN1) rfl rfl rfl (Nat.le_of_ble_eq_true rfl) rfl ?_
    refine V_iastN 400 o dX9_readsAct_36 rfl rfl (nadd (nmul (show (4 : Int32) = nI 4 from rfl) rfl) (show (1 : Int32) = nI 1 from rfl)) (by omega) rfl ?_
    rw [wI_sM75]
    rw [wI_sPs75]
    refine V_aload_n o dX9_readsAct_37 rfl rfl ?_
    refine V_getR (t := 75) o dX9_readsAct_38 rfl fl_X9_64 rfl ?_
    refine V_iload_n o dX9_readsAct_41 rfl rfl ?_
    refine V_iconst (v := 1) o dX9_readsAct_42 (by decide) ?_
    refine V_iadd o dX9_readsAct_43 ?_
    refine V_ialdN 400 o dX9_readsAct_44 rfl rfl (nadd (nmul (show (4 : Int32) = nI 4 from rfl) rfl) (show (1 : Int32) = nI 1 from rfl)) (by omega) rfl ?_
    refine V_topI (v' := N1.1) (by simp [sM, sPs, upd]) ?_
    refine V_if_lt (tgt := 57) o dX9_readsAct_45 (by decide) (fun c_45 => ?_) (fun c_45 => ?_)
    · refine V_iconst (v := 0) o dX9_readsAct_57 (by decide) ?_
      refine V_iret o rt dX9_readsAct_58 rfl rfl ?_
      have e : R = (false, N1.2, 0, 0, 0, 0) := by rw [← hR0, rdA, if_pos t1, hN1, rdS1, if_pos c_45]
      rw [e]
      exact ⟨_, rfl, rfl, fun j hj => by simp [upd, show ¬ j = 4 * k by omega, show ¬ j = 4 * k + 1 by omega, show ¬ j = 4 * k + 2 by omega, show ¬ j = 4 * k + 3 by omega], fun q => by cases q⟩
    · refine V_aload_n o dX9_readsAct_48 rfl rfl ?_
      refine V_bipush (v := 44) o dX9_readsAct_49 (by decide) ?_
      refine V_cVi o rt dX9_readsAct_51 ml_X9_228 (c9_takes hf hto hT hn lN1.2) rfl rfl rfl (Nat.le_of_ble_eq_true rfl) rfl ?_
      refine V_if_ne (tgt := 59) o dX9_readsAct_54 (by decide) (fun c_54 => ?_) (fun c_54 => ?_)
      · have t2 := bz_n0.mp c_54
        rw [tkN_t t2]
        obtain ⟨N2, hN2⟩ : ∃ N, nuR T n 1 0 3 (N1.2 + 1) = N := ⟨_, rfl⟩
        have lN2 := nuR_le (T := T) (n := n) (D := 1) (lo := 0) (hi := 3) (p := N1.2 + 1) t2.1
        rw [hN2] at lN2
        refine V_aload_n o dX9_readsAct_59 rfl rfl ?_
        refine V_getR (t := 75) o dX9_readsAct_60 rfl fl_X9_64 rfl ?_
        refine V_iload_n o dX9_readsAct_63 rfl rfl ?_
        refine V_iconst (v := 2) o dX9_readsAct_64 (by decide) ?_
        refine V_iadd o dX9_readsAct_65 ?_
        refine V_aload_n o dX9_readsAct_66 rfl rfl ?_
        refine V_iconst (v := 1) o dX9_readsAct_67 (by decide) ?_
        refine V_iconst (v := 0) o dX9_readsAct_68 (by decide) ?_
        refine V_iconst (v := 3) o dX9_readsAct_69 (by decide) ?_
        refine V_cVi o rt dX9_readsAct_70 ml_X9_231 (c9_number hf hto hT hn t2.1 (D := 1) (by omega) (show (1 : Int32) = nI 1 from rfl) hN2) rfl rfl rfl (Nat.le_of_ble_eq_true rfl) rfl ?_
        refine V_iastN 400 o dX9_readsAct_73 rfl rfl (nadd (nmul (show (4 : Int32) = nI 4 from rfl) rfl) (show (2 : Int32) = nI 2 from rfl)) (by omega) rfl ?_
        rw [wI_sM75]
        rw [wI_sPs75]
        refine V_aload_n o dX9_readsAct_74 rfl rfl ?_
        refine V_getR (t := 75) o dX9_readsAct_75 rfl fl_X9_64 rfl ?_
        refine V_iload_n o dX9_readsAct_78 rfl rfl ?_
        refine V_iconst (v := 3) o dX9_readsAct_79 (by decide) ?_
        refine V_iadd o dX9_readsAct_80 ?_
        refine V_iconst (v := 1) o dX9_readsAct_81 (by decide) ?_
        refine V_iastN 400 o dX9_readsAct_82 rfl rfl (nadd (nmul (show (4 : Int32) = nI 4 from rfl) rfl) (show (3 : Int32) = nI 3 from rfl)) (by omega) rfl ?_
        rw [wI_sM75]
        rw [wI_sPs75]
        refine V_aload_n o dX9_readsAct_83 rfl rfl ?_
        refine V_getR (t := 75) o dX9_readsAct_84 rfl fl_X9_64 rfl ?_
        refine V_iload_n o dX9_readsAct_87 rfl rfl ?_
        refine V_iconst (v := 2) o dX9_readsAct_88 (by decide) ?_
        refine V_iadd o dX9_readsAct_89 ?_
        refine V_ialdN 400 o dX9_readsAct_90 rfl rfl (nadd (nmul (show (4 : Int32) = nI 4 from rfl) rfl) (show (2 : Int32) = nI 2 from rfl)) (by omega) rfl ?_
        refine V_topI (v' := N2.1) (by simp [sM, sPs, upd]) ?_
        refine V_if_gt (tgt := 111) o dX9_readsAct_91 (by decide) (fun c_91 => ?_) (fun c_91 => ?_)
        · refine V_aload_n o dX9_readsAct_111 rfl rfl ?_
          refine V_bipush (v := 44) o dX9_readsAct_112 (by decide) ?_
          refine V_cVi o rt dX9_readsAct_114 ml_X9_228 (c9_takes hf hto hT hn lN2.2) rfl rfl rfl (Nat.le_of_ble_eq_true rfl) rfl ?_
          refine V_if_ne (tgt := 122) o dX9_readsAct_117 (by decide) (fun c_117 => ?_) (fun c_117 => ?_)
          · have t3 := bz_n0.mp c_117
            rw [tkN_t t3]
            obtain ⟨N3, hN3⟩ : ∃ N, nuR T n 4 1 1000 (N2.2 + 1) = N := ⟨_, rfl⟩
            have lN3 := nuR_le (T := T) (n := n) (D := 4) (lo := 1) (hi := 1000) (p := N2.2 + 1) t3.1
            rw [hN3] at lN3
            refine V_aload_n o dX9_readsAct_122 rfl rfl ?_
            refine V_getR (t := 75) o dX9_readsAct_123 rfl fl_X9_64 rfl ?_
            refine V_iload_n o dX9_readsAct_126 rfl rfl ?_
            refine V_iconst (v := 3) o dX9_readsAct_127 (by decide) ?_
            refine V_iadd o dX9_readsAct_128 ?_
            refine V_aload_n o dX9_readsAct_129 rfl rfl ?_
            refine V_iconst (v := 4) o dX9_readsAct_130 (by decide) ?_
            refine V_iconst (v := 1) o dX9_readsAct_131 (by decide) ?_
            refine V_sipush (v := 1000) o dX9_readsAct_132 (by decide) ?_
            refine V_cVi o rt dX9_readsAct_135 ml_X9_231 (c9_number hf hto hT hn t3.1 (D := 4) (by omega) (show (4 : Int32) = nI 4 from rfl) hN3) rfl rfl rfl (Nat.le_of_ble_eq_true rfl) rfl ?_
            refine V_iastN 400 o dX9_readsAct_138 rfl rfl (nadd (nmul (show (4 : Int32) = nI 4 from rfl) rfl) (show (3 : Int32) = nI 3 from rfl)) (by omega) rfl ?_
            rw [wI_sM75]
            rw [wI_sPs75]
            refine V_aload_n o dX9_readsAct_139 rfl rfl ?_
            refine V_getR (t := 75) o dX9_readsAct_140 rfl fl_X9_64 rfl ?_
            refine V_iload_n o dX9_readsAct_143 rfl rfl ?_
            refine V_iconst (v := 3) o dX9_readsAct_144 (by decide) ?_
            refine V_iadd o dX9_readsAct_145 ?_
            refine V_ialdN 400 o dX9_readsAct_146 rfl rfl (nadd (nmul (show (4 : Int32) = nI 4 from rfl) rfl) (show (3 : Int32) = nI 3 from rfl)) (by omega) rfl ?_
            refine V_topI (v' := N3.1) (by simp [sM, sPs, upd]) ?_
            refine V_if_le (tgt := 154) o dX9_readsAct_147 (by decide) (fun c_147 => ?_) (fun c_147 => ?_)
            · refine V_iconst (v := 0) o dX9_readsAct_154 (by decide) ?_
              refine V_iret o rt dX9_readsAct_155 rfl rfl ?_
              have e : R = (false, N3.2, 0, N1.1, N2.1, N3.1) := by rw [← hR0, rdA, if_pos t1, hN1, rdS1, if_neg c_45, if_pos t2, hN2, rdS2, if_pos c_91, rdS3, if_pos t3, hN3, decide_eq_false (Int32.not_lt.mpr c_147)]
              rw [e]
              exact ⟨_, rfl, rfl, fun j hj => by simp [upd, show ¬ j = 4 * k by omega, show ¬ j = 4 * k + 1 by omega, show ¬ j = 4 * k + 2 by omega, show ¬ j = 4 * k + 3 by omega], fun q => by cases q⟩
            · refine V_iconst (v := 1) o dX9_readsAct_150 (by decide) ?_
              refine V_goto (tgt := 155) o dX9_readsAct_151 (by decide) ?_
              refine V_iret o rt dX9_readsAct_155 rfl rfl ?_
              have e : R = (true, N3.2, 0, N1.1, N2.1, N3.1) := by rw [← hR0, rdA, if_pos t1, hN1, rdS1, if_neg c_45, if_pos t2, hN2, rdS2, if_pos c_91, rdS3, if_pos t3, hN3, decide_eq_true (Int32.not_le.mp c_147)]
              rw [e]
              exact ⟨_, rfl, rfl, fun j hj => by simp [upd, show ¬ j = 4 * k by omega, show ¬ j = 4 * k + 1 by omega, show ¬ j = 4 * k + 2 by omega, show ¬ j = 4 * k + 3 by omega], fun _ => ⟨by simp [upd], by simp [upd], fun _ => ⟨by simp [upd], by simp [upd]⟩⟩⟩
          · refine V_iconst (v := 0) o dX9_readsAct_120 (by decide) ?_
            refine V_iret o rt dX9_readsAct_121 rfl rfl ?_
            rw [tkN_f (bz_0.mp c_117)]
            have e : R = (false, N2.2, 0, 0, 0, 0) := by rw [← hR0, rdA, if_pos t1, hN1, rdS1, if_neg c_45, if_pos t2, hN2, rdS2, if_pos c_91, rdS3, if_neg (bz_0.mp c_117)]
            rw [e]
            exact ⟨_, rfl, rfl, fun j hj => by simp [upd, show ¬ j = 4 * k by omega, show ¬ j = 4 * k + 1 by omega, show ¬ j = 4 * k + 2 by omega, show ¬ j = 4 * k + 3 by omega], fun q => by cases q⟩
        · refine V_aload_n o dX9_readsAct_94 rfl rfl ?_
          refine V_getR (t := 75) o dX9_readsAct_95 rfl fl_X9_64 rfl ?_
          refine V_iload_n o dX9_readsAct_98 rfl rfl ?_
          refine V_iconst (v := 2) o dX9_readsAct_99 (by decide) ?_
          refine V_iadd o dX9_readsAct_100 ?_
          refine V_ialdN 400 o dX9_readsAct_101 rfl rfl (nadd (nmul (show (4 : Int32) = nI 4 from rfl) rfl) (show (2 : Int32) = nI 2 from rfl)) (by omega) rfl ?_
          refine V_topI (v' := N2.1) (by simp [sM, sPs, upd]) ?_
          refine V_if_ne (tgt := 109) o dX9_readsAct_102 (by decide) (fun c_102 => ?_) (fun c_102 => ?_)
          · refine V_iconst (v := 0) o dX9_readsAct_109 (by decide) ?_
            refine V_iret o rt dX9_readsAct_110 rfl rfl ?_
            have e : R = (false, N2.2, 0, N1.1, N2.1, 1) := by rw [← hR0, rdA, if_pos t1, hN1, rdS1, if_neg c_45, if_pos t2, hN2, rdS2, if_neg c_91, decide_eq_false c_102]
            rw [e]
            exact ⟨_, rfl, rfl, fun j hj => by simp [upd, show ¬ j = 4 * k by omega, show ¬ j = 4 * k + 1 by omega, show ¬ j = 4 * k + 2 by omega, show ¬ j = 4 * k + 3 by omega], fun q => by cases q⟩
          · refine V_iconst (v := 1) o dX9_readsAct_105 (by decide) ?_
            refine V_goto (tgt := 110) o dX9_readsAct_106 (by decide) ?_
            refine V_iret o rt dX9_readsAct_110 rfl rfl ?_
            have e : R = (true, N2.2, 0, N1.1, N2.1, 1) := by rw [← hR0, rdA, if_pos t1, hN1, rdS1, if_neg c_45, if_pos t2, hN2, rdS2, if_neg c_91, decide_eq_true c_102]
            rw [e]
            exact ⟨_, rfl, rfl, fun j hj => by simp [upd, show ¬ j = 4 * k by omega, show ¬ j = 4 * k + 1 by omega, show ¬ j = 4 * k + 2 by omega, show ¬ j = 4 * k + 3 by omega], fun _ => ⟨by simp [upd], by simp [upd], fun _ => ⟨by simp [upd], by simp [upd]⟩⟩⟩
      · refine V_iconst (v := 0) o dX9_readsAct_57 (by decide) ?_
        refine V_iret o rt dX9_readsAct_58 rfl rfl ?_
        rw [tkN_f (bz_0.mp c_54)]
        have e : R = (false, N1.2, 0, 0, 0, 0) := by rw [← hR0, rdA, if_pos t1, hN1, rdS1, if_neg c_45, if_neg (bz_0.mp c_54)]
        rw [e]
        exact ⟨_, rfl, rfl, fun j hj => by simp [upd, show ¬ j = 4 * k by omega, show ¬ j = 4 * k + 1 by omega, show ¬ j = 4 * k + 2 by omega, show ¬ j = 4 * k + 3 by omega], fun q => by cases q⟩
