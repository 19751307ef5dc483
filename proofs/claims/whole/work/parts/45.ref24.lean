abbrev tmC (M : Nat → Int32) (k b : Int32) : Prop := isTm M k ∧ inR b 0 10
def timerR (M : Nat → Int32) (t : Nat) (b : Int32) : Int32 :=
  if b = 0 then (if M (343 + t) = 1 then M 6 + M (359 + t) else M (231 + t)) else if b = 1 then (if M (343 + t) = 1 then -2 else M (391 + t)) else if b = 2 then (if M (343 + t) = 1 then -2 else M (407 + t))
  else if b = 3 then M (247 + t) else if b = 4 then M (263 + t) else if b = 5 then M (279 + t) else if b = 6 then M (295 + t) else if b = 7 then M (311 + t) else if b = 8 then M (375 + t) else if b = 9 then M (327 + t) else (if M (343 + t) = 1 then M (359 + t) else -1)
set_option maxRecDepth 20000 in
set_option maxHeartbeats 4000000 in
theorem c9_timer {w : Wp} (hf : Fit sh0 w) {σ : Mm} {M : Nat → Int32} (hd : σ.1 67 8 = nI 0) {k b : Int32} (hc : tmC M k b) : Cf sh0 w 2 mX9_timer [.ref 67, .int k, .int b] (sM σ 0 M) (some (.int (timerR M (ix k) b))) (sM (wI σ 67 0 0) 0 M) := by
  refine Ct_of hf (by decide) rfl (Nat.le_of_ble_eq_true rfl) (fun x o rt => ?_)
  have hx := isTm_ix hc.1.1
  refine V_aload_n o dX9_timer_0 rfl rfl ?_
  refine V_aload_n o dX9_timer_1 rfl rfl ?_
  refine V_iload_n o dX9_timer_2 rfl rfl ?_
  refine V_cVi o rt dX9_timer_3 ml_X9_89 (c9_isTm hf (by exact hd) (Nat.zero_le 423)) rfl rfl rfl (Nat.le_of_ble_eq_true rfl) rfl ?_
  refine V_if_eq (tgt := 21) o dX9_timer_6 (by decide) (fun c_6 => False.elim (bz_0.mp c_6 hc.1)) (fun c_6 => ?_)
  refine V_iload_n o dX9_timer_9 rfl rfl ?_
  refine V_i2l o dX9_timer_10 ?_
  refine V_lconst (v := 0) o dX9_timer_11 (by decide) ?_
  refine V_ldc2 o dX9_timer_12 kc_X9_241 ?_
  refine V_cSi o rt dX9_timer_15 ms_X9_21 (c9_in hf) rfl rfl (Nat.le_of_ble_eq_true rfl) rfl ?_
  refine V_if_ne (tgt := 25) o dX9_timer_18 (by decide) (fun c_18 => ?_) (fun c_18 => False.elim (bz_n0.mpr ((in_lo (k := b) (lo := 0) (hi := 10) (l := 0) (h := 10) (by decide) (by decide)).mpr hc.2) c_18))
  refine V_iconst (v := 0) o dX9_timer_25 (by decide) ?_
  refine V_cSi o rt dX9_timer_26 ms_X9_31 (c9_flag hf (by simp)) rfl rfl (Nat.le_of_ble_eq_true rfl) rfl ?_
  refine V_putI o dX9_timer_29 rfl fl_X9_1 rfl rfl rfl ?_
  rw [wI_sM67]
  refine V_aload_n o dX9_timer_32 rfl rfl ?_
  refine V_getI o dX9_timer_33 rfl fl_X9_1 rfl ?_
  refine V_iconst (v := 1) o dX9_timer_36 (by decide) ?_
  refine V_icmp_ne (tgt := 42) o dX9_timer_37 (by decide) (fun c_37 => ?_) (fun c_37 => False.elim (absurd (show (0 : Int32) = 1 from c_37) (by decide)))
  refine V_aload_n o dX9_timer_42 rfl rfl ?_
  refine V_sipush (v := 343) o dX9_timer_43 (by decide) ?_
  refine V_iload_n o dX9_timer_46 rfl rfl ?_
  refine V_iadd o dX9_timer_47 ?_
  refine V_cVi o rt dX9_timer_48 ml_X9_85 (c9_of hf (by exact hd) (nadd (show (343 : Int32) = nI 343 from rfl) hx.1) (by omega)) rfl rfl rfl (Nat.le_of_ble_eq_true rfl) rfl ?_
  refine V_iconst (v := 1) o dX9_timer_51 (by decide) ?_
  refine V_icmp_ne (tgt := 59) o dX9_timer_52 (by decide) (fun c_52 => ?_) (fun c_52 => ?_)
  · refine V_iconst (v := 0) o dX9_timer_59 (by decide) ?_
    refine V_istore_n (ls' := [(3, _), (0, _), (1, _), (2, _)]) o dX9_timer_60 rfl (by decide) rfl ?_
    refine V_iload_n o dX9_timer_61 rfl rfl ?_
    by_cases h0 : b = 0
    · refine V_tableIn (off := 54) (tgt := 116) o dX9_timer_62 (by rw [h0]; decide) (by rw [h0]; decide) (by rw [h0]; decide) (by decide) ?_
      refine V_iload_n o dX9_timer_116 rfl rfl ?_
      refine V_if_eq (tgt := 139) o dX9_timer_117 (by decide) (fun c_117 => ?_) (fun c_117 => False.elim (c_117 rfl))
      refine V_aload_n o dX9_timer_139 rfl rfl ?_
      refine V_sipush (v := 231) o dX9_timer_140 (by decide) ?_
      refine V_iload_n o dX9_timer_143 rfl rfl ?_
      refine V_iadd o dX9_timer_144 ?_
      refine V_cVi o rt dX9_timer_145 ml_X9_85 (c9_of hf (by exact hd) (nadd (show (231 : Int32) = nI 231 from rfl) hx.1) (by omega)) rfl rfl rfl (Nat.le_of_ble_eq_true rfl) rfl ?_
      refine V_iret o rt dX9_timer_148 rfl rfl ?_
      exact ⟨by rw [timerR, if_pos h0, if_neg c_52], rfl⟩
    by_cases h1 : b = 1
    · refine V_tableIn (off := 87) (tgt := 149) o dX9_timer_62 (by rw [h1]; decide) (by rw [h1]; decide) (by rw [h1]; decide) (by decide) ?_
      refine V_iload_n o dX9_timer_149 rfl rfl ?_
      refine V_if_eq (tgt := 158) o dX9_timer_150 (by decide) (fun c_150 => ?_) (fun c_150 => False.elim (c_150 rfl))
      refine V_aload_n o dX9_timer_158 rfl rfl ?_
      refine V_sipush (v := 391) o dX9_timer_159 (by decide) ?_
      refine V_iload_n o dX9_timer_162 rfl rfl ?_
      refine V_iadd o dX9_timer_163 ?_
      refine V_cVi o rt dX9_timer_164 ml_X9_85 (c9_of hf (by exact hd) (nadd (show (391 : Int32) = nI 391 from rfl) hx.1) (by omega)) rfl rfl rfl (Nat.le_of_ble_eq_true rfl) rfl ?_
      refine V_iret o rt dX9_timer_167 rfl rfl ?_
      exact ⟨by rw [timerR, if_neg h0, if_pos h1, if_neg c_52], rfl⟩
    by_cases h2 : b = 2
    · refine V_tableIn (off := 106) (tgt := 168) o dX9_timer_62 (by rw [h2]; decide) (by rw [h2]; decide) (by rw [h2]; decide) (by decide) ?_
      refine V_iload_n o dX9_timer_168 rfl rfl ?_
      refine V_if_eq (tgt := 177) o dX9_timer_169 (by decide) (fun c_169 => ?_) (fun c_169 => False.elim (c_169 rfl))
      refine V_aload_n o dX9_timer_177 rfl rfl ?_
      refine V_sipush (v := 407) o dX9_timer_178 (by decide) ?_
      refine V_iload_n o dX9_timer_181 rfl rfl ?_
      refine V_iadd o dX9_timer_182 ?_
      refine V_cVi o rt dX9_timer_183 ml_X9_85 (c9_of hf (by exact hd) (nadd (show (407 : Int32) = nI 407 from rfl) hx.1) (by omega)) rfl rfl rfl (Nat.le_of_ble_eq_true rfl) rfl ?_
      refine V_iret o rt dX9_timer_186 rfl rfl ?_
      exact ⟨by rw [timerR, if_neg h0, if_neg h1, if_pos h2, if_neg c_52], rfl⟩
    by_cases h3 : b = 3
    · refine V_tableIn (off := 125) (tgt := 187) o dX9_timer_62 (by rw [h3]; decide) (by rw [h3]; decide) (by rw [h3]; decide) (by decide) ?_
      refine V_aload_n o dX9_timer_187 rfl rfl ?_
      refine V_sipush (v := 247) o dX9_timer_188 (by decide) ?_
      refine V_iload_n o dX9_timer_191 rfl rfl ?_
      refine V_iadd o dX9_timer_192 ?_
      refine V_cVi o rt dX9_timer_193 ml_X9_85 (c9_of hf (by exact hd) (nadd (show (247 : Int32) = nI 247 from rfl) hx.1) (by omega)) rfl rfl rfl (Nat.le_of_ble_eq_true rfl) rfl ?_
      refine V_iret o rt dX9_timer_196 rfl rfl ?_
      exact ⟨by rw [timerR, if_neg h0, if_neg h1, if_neg h2, if_pos h3], rfl⟩
    by_cases h4 : b = 4
    · refine V_tableIn (off := 135) (tgt := 197) o dX9_timer_62 (by rw [h4]; decide) (by rw [h4]; decide) (by rw [h4]; decide) (by decide) ?_
      refine V_aload_n o dX9_timer_197 rfl rfl ?_
      refine V_sipush (v := 263) o dX9_timer_198 (by decide) ?_
      refine V_iload_n o dX9_timer_201 rfl rfl ?_
      refine V_iadd o dX9_timer_202 ?_
      refine V_cVi o rt dX9_timer_203 ml_X9_85 (c9_of hf (by exact hd) (nadd (show (263 : Int32) = nI 263 from rfl) hx.1) (by omega)) rfl rfl rfl (Nat.le_of_ble_eq_true rfl) rfl ?_
      refine V_iret o rt dX9_timer_206 rfl rfl ?_
      exact ⟨by rw [timerR, if_neg h0, if_neg h1, if_neg h2, if_neg h3, if_pos h4], rfl⟩
    by_cases h5 : b = 5
    · refine V_tableIn (off := 145) (tgt := 207) o dX9_timer_62 (by rw [h5]; decide) (by rw [h5]; decide) (by rw [h5]; decide) (by decide) ?_
      refine V_aload_n o dX9_timer_207 rfl rfl ?_
      refine V_sipush (v := 279) o dX9_timer_208 (by decide) ?_
      refine V_iload_n o dX9_timer_211 rfl rfl ?_
      refine V_iadd o dX9_timer_212 ?_
      refine V_cVi o rt dX9_timer_213 ml_X9_85 (c9_of hf (by exact hd) (nadd (show (279 : Int32) = nI 279 from rfl) hx.1) (by omega)) rfl rfl rfl (Nat.le_of_ble_eq_true rfl) rfl ?_
      refine V_iret o rt dX9_timer_216 rfl rfl ?_
      exact ⟨by rw [timerR, if_neg h0, if_neg h1, if_neg h2, if_neg h3, if_neg h4, if_pos h5], rfl⟩
    by_cases h6 : b = 6
    · refine V_tableIn (off := 155) (tgt := 217) o dX9_timer_62 (by rw [h6]; decide) (by rw [h6]; decide) (by rw [h6]; decide) (by decide) ?_
      refine V_aload_n o dX9_timer_217 rfl rfl ?_
      refine V_sipush (v := 295) o dX9_timer_218 (by decide) ?_
      refine V_iload_n o dX9_timer_221 rfl rfl ?_
      refine V_iadd o dX9_timer_222 ?_
      refine V_cVi o rt dX9_timer_223 ml_X9_85 (c9_of hf (by exact hd) (nadd (show (295 : Int32) = nI 295 from rfl) hx.1) (by omega)) rfl rfl rfl (Nat.le_of_ble_eq_true rfl) rfl ?_
      refine V_iret o rt dX9_timer_226 rfl rfl ?_
      exact ⟨by rw [timerR, if_neg h0, if_neg h1, if_neg h2, if_neg h3, if_neg h4, if_neg h5, if_pos h6], rfl⟩
    by_cases h7 : b = 7
    · refine V_tableIn (off := 165) (tgt := 227) o dX9_timer_62 (by rw [h7]; decide) (by rw [h7]; decide) (by rw [h7]; decide) (by decide) ?_
      refine V_aload_n o dX9_timer_227 rfl rfl ?_
      refine V_sipush (v := 311) o dX9_timer_228 (by decide) ?_
      refine V_iload_n o dX9_timer_231 rfl rfl ?_
      refine V_iadd o dX9_timer_232 ?_
      refine V_cVi o rt dX9_timer_233 ml_X9_85 (c9_of hf (by exact hd) (nadd (show (311 : Int32) = nI 311 from rfl) hx.1) (by omega)) rfl rfl rfl (Nat.le_of_ble_eq_true rfl) rfl ?_
      refine V_iret o rt dX9_timer_236 rfl rfl ?_
      exact ⟨by rw [timerR, if_neg h0, if_neg h1, if_neg h2, if_neg h3, if_neg h4, if_neg h5, if_neg h6, if_pos h7], rfl⟩
    by_cases h8 : b = 8
    · refine V_tableIn (off := 175) (tgt := 237) o dX9_timer_62 (by rw [h8]; decide) (by rw [h8]; decide) (by rw [h8]; decide) (by decide) ?_
      refine V_aload_n o dX9_timer_237 rfl rfl ?_
      refine V_sipush (v := 375) o dX9_timer_238 (by decide) ?_
      refine V_iload_n o dX9_timer_241 rfl rfl ?_
      refine V_iadd o dX9_timer_242 ?_
      refine V_cVi o rt dX9_timer_243 ml_X9_85 (c9_of hf (by exact hd) (nadd (show (375 : Int32) = nI 375 from rfl) hx.1) (by omega)) rfl rfl rfl (Nat.le_of_ble_eq_true rfl) rfl ?_
      refine V_iret o rt dX9_timer_246 rfl rfl ?_
      exact ⟨by rw [timerR, if_neg h0, if_neg h1, if_neg h2, if_neg h3, if_neg h4, if_neg h5, if_neg h6, if_neg h7, if_pos h8], rfl⟩
    by_cases h9 : b = 9
    · refine V_tableIn (off := 185) (tgt := 247) o dX9_timer_62 (by rw [h9]; decide) (by rw [h9]; decide) (by rw [h9]; decide) (by decide) ?_
      refine V_aload_n o dX9_timer_247 rfl rfl ?_
      refine V_sipush (v := 327) o dX9_timer_248 (by decide) ?_
      refine V_iload_n o dX9_timer_251 rfl rfl ?_
      refine V_iadd o dX9_timer_252 ?_
      refine V_cVi o rt dX9_timer_253 ml_X9_85 (c9_of hf (by exact hd) (nadd (show (327 : Int32) = nI 327 from rfl) hx.1) (by omega)) rfl rfl rfl (Nat.le_of_ble_eq_true rfl) rfl ?_
      refine V_iret o rt dX9_timer_256 rfl rfl ?_
      exact ⟨by rw [timerR, if_neg h0, if_neg h1, if_neg h2, if_neg h3, if_neg h4, if_neg h5, if_neg h6, if_neg h7, if_neg h8, if_pos h9], rfl⟩
    refine V_tableOut (tgt := 257) o dX9_timer_62 (toInt_out (fun c hc => ?_)) (by decide) ?_
    · have : c = 0 ∨ c = 1 ∨ c = 2 ∨ c = 3 ∨ c = 4 ∨ c = 5 ∨ c = 6 ∨ c = 7 ∨ c = 8 ∨ c = 9 := by omega
      rcases this with rfl | rfl | rfl | rfl | rfl | rfl | rfl | rfl | rfl | rfl <;> assumption
    · refine V_iload_n o dX9_timer_257 rfl rfl ?_
      refine V_if_eq (tgt := 273) o dX9_timer_258 (by decide) (fun c_258 => ?_) (fun c_258 => False.elim (c_258 rfl))
      refine V_iconst (v := -1) o dX9_timer_273 (by decide) ?_
      refine V_iret o rt dX9_timer_274 rfl rfl ?_
      exact ⟨by rw [timerR, if_neg h0, if_neg h1, if_neg h2, if_neg h3, if_neg h4, if_neg h5, if_neg h6, if_neg h7, if_neg h8, if_neg h9, if_neg c_52], rfl⟩
  · refine V_iconst (v := 1) o dX9_timer_55 (by decide) ?_
    refine V_goto (tgt := 60) o dX9_timer_56 (by decide) ?_
    refine V_istore_n (ls' := [(3, _), (0, _), (1, _), (2, _)]) o dX9_timer_60 rfl (by decide) rfl ?_
    refine V_iload_n o dX9_timer_61 rfl rfl ?_
    by_cases h0 : b = 0
    · refine V_tableIn (off := 54) (tgt := 116) o dX9_timer_62 (by rw [h0]; decide) (by rw [h0]; decide) (by rw [h0]; decide) (by decide) ?_
      refine V_iload_n o dX9_timer_116 rfl rfl ?_
      refine V_if_eq (tgt := 139) o dX9_timer_117 (by decide) (fun c_117 => False.elim (absurd c_117 (by decide))) (fun c_117 => ?_)
      refine V_aload_n o dX9_timer_120 rfl rfl ?_
      refine V_bipush (v := 6) o dX9_timer_121 (by decide) ?_
      refine V_cVi o rt dX9_timer_123 ml_X9_85 (c9_of hf (by exact hd) (show (6 : Int32) = nI 6 from rfl) (by omega)) rfl rfl rfl (Nat.le_of_ble_eq_true rfl) rfl ?_
      refine V_aload_n o dX9_timer_126 rfl rfl ?_
      refine V_sipush (v := 359) o dX9_timer_127 (by decide) ?_
      refine V_iload_n o dX9_timer_130 rfl rfl ?_
      refine V_iadd o dX9_timer_131 ?_
      refine V_cVi o rt dX9_timer_132 ml_X9_85 (c9_of hf (by exact hd) (nadd (show (359 : Int32) = nI 359 from rfl) hx.1) (by omega)) rfl rfl rfl (Nat.le_of_ble_eq_true rfl) rfl ?_
      refine V_iadd o dX9_timer_135 ?_
      refine V_goto (tgt := 148) o dX9_timer_136 (by decide) ?_
      refine V_iret o rt dX9_timer_148 rfl rfl ?_
      exact ⟨by rw [timerR, if_pos h0, if_pos c_52], rfl⟩
    by_cases h1 : b = 1
    · refine V_tableIn (off := 87) (tgt := 149) o dX9_timer_62 (by rw [h1]; decide) (by rw [h1]; decide) (by rw [h1]; decide) (by decide) ?_
      refine V_iload_n o dX9_timer_149 rfl rfl ?_
      refine V_if_eq (tgt := 158) o dX9_timer_150 (by decide) (fun c_150 => False.elim (absurd c_150 (by decide))) (fun c_150 => ?_)
      refine V_bipush (v := -2) o dX9_timer_153 (by decide) ?_
      refine V_goto (tgt := 167) o dX9_timer_155 (by decide) ?_
      refine V_iret o rt dX9_timer_167 rfl rfl ?_
      exact ⟨by rw [timerR, if_neg h0, if_pos h1, if_pos c_52], rfl⟩
    by_cases h2 : b = 2
    · refine V_tableIn (off := 106) (tgt := 168) o dX9_timer_62 (by rw [h2]; decide) (by rw [h2]; decide) (by rw [h2]; decide) (by decide) ?_
      refine V_iload_n o dX9_timer_168 rfl rfl ?_
      refine V_if_eq (tgt := 177) o dX9_timer_169 (by decide) (fun c_169 => False.elim (absurd c_169 (by decide))) (fun c_169 => ?_)
      refine V_bipush (v := -2) o dX9_timer_172 (by decide) ?_
      refine V_goto (tgt := 186) o dX9_timer_174 (by decide) ?_
      refine V_iret o rt dX9_timer_186 rfl rfl ?_
      exact ⟨by rw [timerR, if_neg h0, if_neg h1, if_pos h2, if_pos c_52], rfl⟩
    by_cases h3 : b = 3
    · refine V_tableIn (off := 125) (tgt := 187) o dX9_timer_62 (by rw [h3]; decide) (by rw [h3]; decide) (by rw [h3]; decide) (by decide) ?_
      refine V_aload_n o dX9_timer_187 rfl rfl ?_
      refine V_sipush (v := 247) o dX9_timer_188 (by decide) ?_
      refine V_iload_n o dX9_timer_191 rfl rfl ?_
      refine V_iadd o dX9_timer_192 ?_
      refine V_cVi o rt dX9_timer_193 ml_X9_85 (c9_of hf (by exact hd) (nadd (show (247 : Int32) = nI 247 from rfl) hx.1) (by omega)) rfl rfl rfl (Nat.le_of_ble_eq_true rfl) rfl ?_
      refine V_iret o rt dX9_timer_196 rfl rfl ?_
      exact ⟨by rw [timerR, if_neg h0, if_neg h1, if_neg h2, if_pos h3], rfl⟩
    by_cases h4 : b = 4
    · refine V_tableIn (off := 135) (tgt := 197) o dX9_timer_62 (by rw [h4]; decide) (by rw [h4]; decide) (by rw [h4]; decide) (by decide) ?_
      refine V_aload_n o dX9_timer_197 rfl rfl ?_
      refine V_sipush (v := 263) o dX9_timer_198 (by decide) ?_
      refine V_iload_n o dX9_timer_201 rfl rfl ?_
      refine V_iadd o dX9_timer_202 ?_
      refine V_cVi o rt dX9_timer_203 ml_X9_85 (c9_of hf (by exact hd) (nadd (show (263 : Int32) = nI 263 from rfl) hx.1) (by omega)) rfl rfl rfl (Nat.le_of_ble_eq_true rfl) rfl ?_
      refine V_iret o rt dX9_timer_206 rfl rfl ?_
      exact ⟨by rw [timerR, if_neg h0, if_neg h1, if_neg h2, if_neg h3, if_pos h4], rfl⟩
    by_cases h5 : b = 5
    · refine V_tableIn (off := 145) (tgt := 207) o dX9_timer_62 (by rw [h5]; decide) (by rw [h5]; decide) (by rw [h5]; decide) (by decide) ?_
      refine V_aload_n o dX9_timer_207 rfl rfl ?_
      refine V_sipush (v := 279) o dX9_timer_208 (by decide) ?_
      refine V_iload_n o dX9_timer_211 rfl rfl ?_
      refine V_iadd o dX9_timer_212 ?_
      refine V_cVi o rt dX9_timer_213 ml_X9_85 (c9_of hf (by exact hd) (nadd (show (279 : Int32) = nI 279 from rfl) hx.1) (by omega)) rfl rfl rfl (Nat.le_of_ble_eq_true rfl) rfl ?_
      refine V_iret o rt dX9_timer_216 rfl rfl ?_
      exact ⟨by rw [timerR, if_neg h0, if_neg h1, if_neg h2, if_neg h3, if_neg h4, if_pos h5], rfl⟩
    by_cases h6 : b = 6
    · refine V_tableIn (off := 155) (tgt := 217) o dX9_timer_62 (by rw [h6]; decide) (by rw [h6]; decide) (by rw [h6]; decide) (by decide) ?_
      refine V_aload_n o dX9_timer_217 rfl rfl ?_
      refine V_sipush (v := 295) o dX9_timer_218 (by decide) ?_
      refine V_iload_n o dX9_timer_221 rfl rfl ?_
      refine V_iadd o dX9_timer_222 ?_
      refine V_cVi o rt dX9_timer_223 ml_X9_85 (c9_of hf (by exact hd) (nadd (show (295 : Int32) = nI 295 from rfl) hx.1) (by omega)) rfl rfl rfl (Nat.le_of_ble_eq_true rfl) rfl ?_
      refine V_iret o rt dX9_timer_226 rfl rfl ?_
      exact ⟨by rw [timerR, if_neg h0, if_neg h1, if_neg h2, if_neg h3, if_neg h4, if_neg h5, if_pos h6], rfl⟩
    by_cases h7 : b = 7
    · refine V_tableIn (off := 165) (tgt := 227) o dX9_timer_62 (by rw [h7]; decide) (by rw [h7]; decide) (by rw [h7]; decide) (by decide) ?_
      refine V_aload_n o dX9_timer_227 rfl rfl ?_
      refine V_sipush (v := 311) o dX9_timer_228 (by decide) ?_
      refine V_iload_n o dX9_timer_231 rfl rfl ?_
      refine V_iadd o dX9_timer_232 ?_
      refine V_cVi o rt dX9_timer_233 ml_X9_85 (c9_of hf (by exact hd) (nadd (show (311 : Int32) = nI 311 from rfl) hx.1) (by omega)) rfl rfl rfl (Nat.le_of_ble_eq_true rfl) rfl ?_
      refine V_iret o rt dX9_timer_236 rfl rfl ?_
      exact ⟨by rw [timerR, if_neg h0, if_neg h1, if_neg h2, if_neg h3, if_neg h4, if_neg h5, if_neg h6, if_pos h7], rfl⟩
    by_cases h8 : b = 8
    · refine V_tableIn (off := 175) (tgt := 237) o dX9_timer_62 (by rw [h8]; decide) (by rw [h8]; decide) (by rw [h8]; decide) (by decide) ?_
      refine V_aload_n o dX9_timer_237 rfl rfl ?_
      refine V_sipush (v := 375) o dX9_timer_238 (by decide) ?_
      refine V_iload_n o dX9_timer_241 rfl rfl ?_
      refine V_iadd o dX9_timer_242 ?_
      refine V_cVi o rt dX9_timer_243 ml_X9_85 (c9_of hf (by exact hd) (nadd (show (375 : Int32) = nI 375 from rfl) hx.1) (by omega)) rfl rfl rfl (Nat.le_of_ble_eq_true rfl) rfl ?_
      refine V_iret o rt dX9_timer_246 rfl rfl ?_
      exact ⟨by rw [timerR, if_neg h0, if_neg h1, if_neg h2, if_neg h3, if_neg h4, if_neg h5, if_neg h6, if_neg h7, if_pos h8], rfl⟩
    by_cases h9 : b = 9
    · refine V_tableIn (off := 185) (tgt := 247) o dX9_timer_62 (by rw [h9]; decide) (by rw [h9]; decide) (by rw [h9]; decide) (by decide) ?_
      refine V_aload_n o dX9_timer_247 rfl rfl ?_
      refine V_sipush (v := 327) o dX9_timer_248 (by decide) ?_
      refine V_iload_n o dX9_timer_251 rfl rfl ?_
      refine V_iadd o dX9_timer_252 ?_
      refine V_cVi o rt dX9_timer_253 ml_X9_85 (c9_of hf (by exact hd) (nadd (show (327 : Int32) = nI 327 from rfl) hx.1) (by omega)) rfl rfl rfl (Nat.le_of_ble_eq_true rfl) rfl ?_
      refine V_iret o rt dX9_timer_256 rfl rfl ?_
      exact ⟨by rw [timerR, if_neg h0, if_neg h1, if_neg h2, if_neg h3, if_neg h4, if_neg h5, if_neg h6, if_neg h7, if_neg h8, if_pos h9], rfl⟩
    refine V_tableOut (tgt := 257) o dX9_timer_62 (toInt_out (fun c hc => ?_)) (by decide) ?_
    · have : c = 0 ∨ c = 1 ∨ c = 2 ∨ c = 3 ∨ c = 4 ∨ c = 5 ∨ c = 6 ∨ c = 7 ∨ c = 8 ∨ c = 9 := by omega
      rcases this with rfl | rfl | rfl | rfl | rfl | rfl | rfl | rfl | rfl | rfl <;> assumption
    · refine V_iload_n o dX9_timer_257 rfl rfl ?_
      refine V_if_eq (tgt := 273) o dX9_timer_258 (by decide) (fun c_258 => False.elim (absurd c_258 (by decide))) (fun c_258 => ?_)
      refine V_aload_n o dX9_timer_261 rfl rfl ?_
      refine V_sipush (v := 359) o dX9_timer_262 (by decide) ?_
      refine V_iload_n o dX9_timer_265 rfl rfl ?_
      refine V_iadd o dX9_timer_266 ?_
      refine V_cVi o rt dX9_timer_267 ml_X9_85 (c9_of hf (by exact hd) (nadd (show (359 : Int32) = nI 359 from rfl) hx.1) (by omega)) rfl rfl rfl (Nat.le_of_ble_eq_true rfl) rfl ?_
      refine V_goto (tgt := 274) o dX9_timer_270 (by decide) ?_
      refine V_iret o rt dX9_timer_274 rfl rfl ?_
      exact ⟨by rw [timerR, if_neg h0, if_neg h1, if_neg h2, if_neg h3, if_neg h4, if_neg h5, if_neg h6, if_neg h7, if_neg h8, if_neg h9, if_pos c_52], rfl⟩
set_option maxRecDepth 20000 in
set_option maxHeartbeats 4000000 in
theorem c9_timer_no {w : Wp} (hf : Fit sh0 w) {σ : Mm} {M : Nat → Int32} (hd : σ.1 67 8 = nI 0) {k b : Int32} (hc : ¬ tmC M k b) : Cf sh0 w 2 mX9_timer [.ref 67, .int k, .int b] (sM σ 0 M) (some (.int 0)) (sM (wI σ 67 0 1) 0 M) := by
  refine Ct_of hf (by decide) rfl (Nat.le_of_ble_eq_true rfl) (fun x o rt => ?_)
  refine V_aload_n o dX9_timer_0 rfl rfl ?_
  refine V_aload_n o dX9_timer_1 rfl rfl ?_
  refine V_iload_n o dX9_timer_2 rfl rfl ?_
  refine V_cVi o rt dX9_timer_3 ml_X9_89 (c9_isTm hf (by exact hd) (Nat.zero_le 423)) rfl rfl rfl (Nat.le_of_ble_eq_true rfl) rfl ?_
  refine V_if_eq (tgt := 21) o dX9_timer_6 (by decide) (fun c_6 => ?_) (fun c_6 => ?_)
  · refine V_iconst (v := 1) o dX9_timer_21 (by decide) ?_
    refine V_goto (tgt := 26) o dX9_timer_22 (by decide) ?_
    refine V_cSi o rt dX9_timer_26 ms_X9_31 (c9_flag hf (by simp)) rfl rfl (Nat.le_of_ble_eq_true rfl) rfl ?_
    refine V_putI o dX9_timer_29 rfl fl_X9_1 rfl rfl rfl ?_
    rw [wI_sM67]
    refine V_aload_n o dX9_timer_32 rfl rfl ?_
    refine V_getI o dX9_timer_33 rfl fl_X9_1 rfl ?_
    refine V_iconst (v := 1) o dX9_timer_36 (by decide) ?_
    refine V_icmp_ne (tgt := 42) o dX9_timer_37 (by decide) (fun c_37 => False.elim (c_37 rfl)) (fun c_37 => ?_)
    refine V_iconst (v := 0) o dX9_timer_40 (by decide) ?_
    refine V_iret o rt dX9_timer_41 rfl rfl ?_
    exact ⟨rfl, rfl⟩
  · refine V_iload_n o dX9_timer_9 rfl rfl ?_
    refine V_i2l o dX9_timer_10 ?_
    refine V_lconst (v := 0) o dX9_timer_11 (by decide) ?_
    refine V_ldc2 o dX9_timer_12 kc_X9_241 ?_
    refine V_cSi o rt dX9_timer_15 ms_X9_21 (c9_in hf) rfl rfl (Nat.le_of_ble_eq_true rfl) rfl ?_
    refine V_if_ne (tgt := 25) o dX9_timer_18 (by decide) (fun c_18 => False.elim (hc ⟨bz_n0.mp c_6, (in_lo (k := b) (lo := 0) (hi := 10) (l := 0) (h := 10) (by decide) (by decide)).mp (bz_n0.mp c_18)⟩)) (fun c_18 => ?_)
    refine V_iconst (v := 1) o dX9_timer_21 (by decide) ?_
    refine V_goto (tgt := 26) o dX9_timer_22 (by decide) ?_
    refine V_cSi o rt dX9_timer_26 ms_X9_31 (c9_flag hf (by simp)) rfl rfl (Nat.le_of_ble_eq_true rfl) rfl ?_
    refine V_putI o dX9_timer_29 rfl fl_X9_1 rfl rfl rfl ?_
    rw [wI_sM67]
    refine V_aload_n o dX9_timer_32 rfl rfl ?_
    refine V_getI o dX9_timer_33 rfl fl_X9_1 rfl ?_
    refine V_iconst (v := 1) o dX9_timer_36 (by decide) ?_
    refine V_icmp_ne (tgt := 42) o dX9_timer_37 (by decide) (fun c_37 => False.elim (c_37 rfl)) (fun c_37 => ?_)
    refine V_iconst (v := 0) o dX9_timer_40 (by decide) ?_
    refine V_iret o rt dX9_timer_41 rfl rfl ?_
    exact ⟨rfl, rfl⟩
set_option maxRecDepth 20000 in
set_option maxHeartbeats 4000000 in
theorem c9_delays {w : Wp} (hf : Fit sh0 w) {σ : Mm} {M : Nat → Int32} (hd : σ.1 67 8 = nI 0) {L : Nat} (hW : Wf M L) {k dl : Int32} (hT : isTm M k) (hr : inR dl 1 1000000) (hw : ¬ dlWas M (ix k) = dl) : Ct sh0 w 4 mX9_delays [.ref 67, .int k, .int dl] (sM σ 0 M) (fun r' σ' => ∃ fr, r' = some (.int 0) ∧ σ' = sM (sRw (wI σ 67 0 0) fr 1) 0 (dlM M L (ix k) dl) ∧ RwR fr [(dl - dlWas M (ix k)).toInt64]) := by
  refine Ct_of hf (by decide) rfl (Nat.le_of_ble_eq_true rfl) (fun x o rt => ?_)
  have hx := isTm_ix hT.1
  refine V_aload_n o dX9_delays_0 rfl rfl ?_
  refine V_iconst (v := 0) o dX9_delays_1 (by decide) ?_
  refine V_putI o dX9_delays_2 rfl fl_X9_1 rfl rfl rfl ?_
  rw [wI_sM67]
  refine V_aload_n o dX9_delays_5 rfl rfl ?_
  refine V_iload_n o dX9_delays_6 rfl rfl ?_
  refine V_cVi o rt dX9_delays_7 ml_X9_89 (c9_isTm hf (by exact hd) (Nat.zero_le 423)) rfl rfl rfl (Nat.le_of_ble_eq_true rfl) rfl ?_
  refine V_if_eq (tgt := 25) o dX9_delays_10 (by decide) (fun c_10 => False.elim (bz_0.mp c_10 hT)) (fun c_10 => ?_)
  refine V_iload_n o dX9_delays_13 rfl rfl ?_
  refine V_i2l o dX9_delays_14 ?_
  refine V_lconst (v := 1) o dX9_delays_15 (by decide) ?_
  refine V_ldc2 o dX9_delays_16 kc_X9_193 ?_
  refine V_cSi o rt dX9_delays_19 ms_X9_21 (c9_in hf) rfl rfl (Nat.le_of_ble_eq_true rfl) rfl ?_
  refine V_if_ne (tgt := 27) o dX9_delays_22 (by decide) (fun c_22 => ?_) (fun c_22 => False.elim (bz_n0.mpr ((in_lo (k := dl) (lo := 1) (hi := 1000000) (l := 1) (h := 1000000) (by decide) (by decide)).mpr hr) c_22))
  refine V_aload_n o dX9_delays_27 rfl rfl ?_
  refine V_sipush (v := 343) o dX9_delays_28 (by decide) ?_
  refine V_iload_n o dX9_delays_31 rfl rfl ?_
  refine V_iadd o dX9_delays_32 ?_
  refine V_cVi o rt dX9_delays_33 ml_X9_85 (c9_of hf (by exact hd) (nadd (show (343 : Int32) = nI 343 from rfl) hx.1) (by omega)) rfl rfl rfl (Nat.le_of_ble_eq_true rfl) rfl ?_
  refine V_iconst (v := 1) o dX9_delays_36 (by decide) ?_
  refine V_icmp_ne (tgt := 44) o dX9_delays_37 (by decide) (fun c_37 => ?_) (fun c_37 => ?_)
  · refine V_iconst (v := 0) o dX9_delays_44 (by decide) ?_
    refine V_istore_n (ls' := [(3, _), (0, _), (1, _), (2, _)]) o dX9_delays_45 rfl (by decide) rfl ?_
    refine V_iload_n o dX9_delays_46 rfl rfl ?_
    refine V_if_eq (tgt := 62) o dX9_delays_47 (by decide) (fun c_47 => ?_) (fun c_47 => False.elim (c_47 rfl))
    refine V_aload_n o dX9_delays_62 rfl rfl ?_
    refine V_sipush (v := 231) o dX9_delays_63 (by decide) ?_
    refine V_iload_n o dX9_delays_66 rfl rfl ?_
    refine V_iadd o dX9_delays_67 ?_
    refine V_cVi o rt dX9_delays_68 ml_X9_85 (c9_of hf (by exact hd) (nadd (show (231 : Int32) = nI 231 from rfl) hx.1) (by omega)) rfl rfl rfl (Nat.le_of_ble_eq_true rfl) rfl ?_
    refine V_aload_n o dX9_delays_71 rfl rfl ?_
    refine V_bipush (v := 6) o dX9_delays_72 (by decide) ?_
    refine V_cVi o rt dX9_delays_74 ml_X9_85 (c9_of hf (by exact hd) (show (6 : Int32) = nI 6 from rfl) (by omega)) rfl rfl rfl (Nat.le_of_ble_eq_true rfl) rfl ?_
    refine V_isub o dX9_delays_77 ?_
    refine V_istore (ls' := [(4, _), (3, _), (0, _), (1, _), (2, _)]) o dX9_delays_78 (by decide) rfl ?_
    refine V_iload o dX9_delays_80 rfl ?_
    refine V_iload_n o dX9_delays_82 rfl rfl ?_
    refine V_icmp_ne (tgt := 89) o dX9_delays_83 (by decide) (fun c_83 => ?_) (fun c_83 => False.elim (hw (by rw [dlWas]; (first | rw [if_neg c_37] | rw [if_pos c_37]); exact c_83)))
    refine V_iload_n o dX9_delays_89 rfl rfl ?_
    refine V_if_eq (tgt := 106) o dX9_delays_90 (by decide) (fun c_90 => ?_) (fun c_90 => False.elim (c_90 rfl))
    refine V_aload_n o dX9_delays_106 rfl rfl ?_
    refine V_sipush (v := 231) o dX9_delays_107 (by decide) ?_
    refine V_iload_n o dX9_delays_110 rfl rfl ?_
    refine V_iadd o dX9_delays_111 ?_
    refine V_aload_n o dX9_delays_112 rfl rfl ?_
    refine V_bipush (v := 6) o dX9_delays_113 (by decide) ?_
    refine V_cVi o rt dX9_delays_115 ml_X9_85 (c9_of hf (by exact hd) (show (6 : Int32) = nI 6 from rfl) (by omega)) rfl rfl rfl (Nat.le_of_ble_eq_true rfl) rfl ?_
    refine V_iload_n o dX9_delays_118 rfl rfl ?_
    refine V_iadd o dX9_delays_119 ?_
    refine V_cVv o rt dX9_delays_120 ml_X9_76 (c9_puts hf (by exact hd) (nadd (show (231 : Int32) = nI 231 from rfl) hx.1) (by omega)) rfl rfl rfl (Nat.le_of_ble_eq_true rfl) rfl ?_
    refine V_aload_n o dX9_delays_123 rfl rfl ?_
    refine V_iload_n o dX9_delays_124 rfl rfl ?_
    refine V_cVv o rt dX9_delays_125 ml_X9_102 (c9_lays hf (by exact hd) (Nat.zero_le 423) (Wf_uM hW (by omega)) hx.1 hx.2) rfl rfl rfl (Nat.le_of_ble_eq_true rfl) rfl ?_
    refine V_aload_n o dX9_delays_128 rfl rfl ?_
    refine V_iconst (v := 0) o dX9_delays_129 (by decide) ?_
    refine V_putI o dX9_delays_130 rfl fl_X9_11 rfl rfl rfl ?_
    rw [wI_sM67]
    rw [wI_sRw0]
    refine V_aload_n o dX9_delays_133 rfl rfl ?_
    refine V_iload_n o dX9_delays_134 rfl rfl ?_
    refine V_iload o dX9_delays_135 rfl ?_
    refine V_isub o dX9_delays_137 ?_
    refine V_i2l o dX9_delays_138 ?_
    refine V_cVv o rt dX9_delays_139 ml_X9_153 (c9_enters hf (by omega)) rfl rfl rfl (Nat.le_of_ble_eq_true rfl) rfl ?_
    refine V_iconst (v := 0) o dX9_delays_142 (by decide) ?_
    refine V_iret o rt dX9_delays_143 rfl rfl ?_
    refine ⟨_, rfl, by rw [dlM, if_neg c_37], ?_⟩
    rw [dlWas, if_neg c_37]
    exact RwR_push (l := []) rfl RwR_nil
  · refine V_iconst (v := 1) o dX9_delays_40 (by decide) ?_
    refine V_goto (tgt := 45) o dX9_delays_41 (by decide) ?_
    refine V_istore_n (ls' := [(3, _), (0, _), (1, _), (2, _)]) o dX9_delays_45 rfl (by decide) rfl ?_
    refine V_iload_n o dX9_delays_46 rfl rfl ?_
    refine V_if_eq (tgt := 62) o dX9_delays_47 (by decide) (fun c_47 => False.elim (absurd c_47 (by decide))) (fun c_47 => ?_)
    refine V_aload_n o dX9_delays_50 rfl rfl ?_
    refine V_sipush (v := 359) o dX9_delays_51 (by decide) ?_
    refine V_iload_n o dX9_delays_54 rfl rfl ?_
    refine V_iadd o dX9_delays_55 ?_
    refine V_cVi o rt dX9_delays_56 ml_X9_85 (c9_of hf (by exact hd) (nadd (show (359 : Int32) = nI 359 from rfl) hx.1) (by omega)) rfl rfl rfl (Nat.le_of_ble_eq_true rfl) rfl ?_
    refine V_goto (tgt := 78) o dX9_delays_59 (by decide) ?_
    refine V_istore (ls' := [(4, _), (3, _), (0, _), (1, _), (2, _)]) o dX9_delays_78 (by decide) rfl ?_
    refine V_iload o dX9_delays_80 rfl ?_
    refine V_iload_n o dX9_delays_82 rfl rfl ?_
    refine V_icmp_ne (tgt := 89) o dX9_delays_83 (by decide) (fun c_83 => ?_) (fun c_83 => False.elim (hw (by rw [dlWas]; (first | rw [if_neg c_37] | rw [if_pos c_37]); exact c_83)))
    refine V_iload_n o dX9_delays_89 rfl rfl ?_
    refine V_if_eq (tgt := 106) o dX9_delays_90 (by decide) (fun c_90 => False.elim (absurd c_90 (by decide))) (fun c_90 => ?_)
    refine V_aload_n o dX9_delays_93 rfl rfl ?_
    refine V_sipush (v := 359) o dX9_delays_94 (by decide) ?_
    refine V_iload_n o dX9_delays_97 rfl rfl ?_
    refine V_iadd o dX9_delays_98 ?_
    refine V_iload_n o dX9_delays_99 rfl rfl ?_
    refine V_cVv o rt dX9_delays_100 ml_X9_76 (c9_puts hf (by exact hd) (nadd (show (359 : Int32) = nI 359 from rfl) hx.1) (by omega)) rfl rfl rfl (Nat.le_of_ble_eq_true rfl) rfl ?_
    refine V_goto (tgt := 128) o dX9_delays_103 (by decide) ?_
    refine V_aload_n o dX9_delays_128 rfl rfl ?_
    refine V_iconst (v := 0) o dX9_delays_129 (by decide) ?_
    refine V_putI o dX9_delays_130 rfl fl_X9_11 rfl rfl rfl ?_
    rw [wI_sM67]
    rw [wI_sRw0]
    refine V_aload_n o dX9_delays_133 rfl rfl ?_
    refine V_iload_n o dX9_delays_134 rfl rfl ?_
    refine V_iload o dX9_delays_135 rfl ?_
    refine V_isub o dX9_delays_137 ?_
    refine V_i2l o dX9_delays_138 ?_
    refine V_cVv o rt dX9_delays_139 ml_X9_153 (c9_enters hf (by omega)) rfl rfl rfl (Nat.le_of_ble_eq_true rfl) rfl ?_
    refine V_iconst (v := 0) o dX9_delays_142 (by decide) ?_
    refine V_iret o rt dX9_delays_143 rfl rfl ?_
    refine ⟨_, rfl, by rw [dlM, if_pos c_37], ?_⟩
    rw [dlWas, if_pos c_37]
    exact RwR_push (l := []) rfl RwR_nil
set_option maxRecDepth 20000 in
set_option maxHeartbeats 4000000 in
theorem c9_delays_so {w : Wp} (hf : Fit sh0 w) {σ : Mm} {M : Nat → Int32} (hd : σ.1 67 8 = nI 0) {k dl : Int32} (hT : isTm M k) (hr : inR dl 1 1000000) (hw : dlWas M (ix k) = dl) : Cf sh0 w 4 mX9_delays [.ref 67, .int k, .int dl] (sM σ 0 M) (some (.int (-2))) (sM (wI σ 67 0 0) 0 M) := by
  refine Ct_of hf (by decide) rfl (Nat.le_of_ble_eq_true rfl) (fun x o rt => ?_)
  have hx := isTm_ix hT.1
  refine V_aload_n o dX9_delays_0 rfl rfl ?_
  refine V_iconst (v := 0) o dX9_delays_1 (by decide) ?_
  refine V_putI o dX9_delays_2 rfl fl_X9_1 rfl rfl rfl ?_
  rw [wI_sM67]
  refine V_aload_n o dX9_delays_5 rfl rfl ?_
  refine V_iload_n o dX9_delays_6 rfl rfl ?_
  refine V_cVi o rt dX9_delays_7 ml_X9_89 (c9_isTm hf (by exact hd) (Nat.zero_le 423)) rfl rfl rfl (Nat.le_of_ble_eq_true rfl) rfl ?_
  refine V_if_eq (tgt := 25) o dX9_delays_10 (by decide) (fun c_10 => False.elim (bz_0.mp c_10 hT)) (fun c_10 => ?_)
  refine V_iload_n o dX9_delays_13 rfl rfl ?_
  refine V_i2l o dX9_delays_14 ?_
  refine V_lconst (v := 1) o dX9_delays_15 (by decide) ?_
  refine V_ldc2 o dX9_delays_16 kc_X9_193 ?_
  refine V_cSi o rt dX9_delays_19 ms_X9_21 (c9_in hf) rfl rfl (Nat.le_of_ble_eq_true rfl) rfl ?_
  refine V_if_ne (tgt := 27) o dX9_delays_22 (by decide) (fun c_22 => ?_) (fun c_22 => False.elim (bz_n0.mpr ((in_lo (k := dl) (lo := 1) (hi := 1000000) (l := 1) (h := 1000000) (by decide) (by decide)).mpr hr) c_22))
  refine V_aload_n o dX9_delays_27 rfl rfl ?_
  refine V_sipush (v := 343) o dX9_delays_28 (by decide) ?_
  refine V_iload_n o dX9_delays_31 rfl rfl ?_
  refine V_iadd o dX9_delays_32 ?_
  refine V_cVi o rt dX9_delays_33 ml_X9_85 (c9_of hf (by exact hd) (nadd (show (343 : Int32) = nI 343 from rfl) hx.1) (by omega)) rfl rfl rfl (Nat.le_of_ble_eq_true rfl) rfl ?_
  refine V_iconst (v := 1) o dX9_delays_36 (by decide) ?_
  refine V_icmp_ne (tgt := 44) o dX9_delays_37 (by decide) (fun c_37 => ?_) (fun c_37 => ?_)
  · refine V_iconst (v := 0) o dX9_delays_44 (by decide) ?_
    refine V_istore_n (ls' := [(3, _), (0, _), (1, _), (2, _)]) o dX9_delays_45 rfl (by decide) rfl ?_
    refine V_iload_n o dX9_delays_46 rfl rfl ?_
    refine V_if_eq (tgt := 62) o dX9_delays_47 (by decide) (fun c_47 => ?_) (fun c_47 => False.elim (c_47 rfl))
    refine V_aload_n o dX9_delays_62 rfl rfl ?_
    refine V_sipush (v := 231) o dX9_delays_63 (by decide) ?_
    refine V_iload_n o dX9_delays_66 rfl rfl ?_
    refine V_iadd o dX9_delays_67 ?_
    refine V_cVi o rt dX9_delays_68 ml_X9_85 (c9_of hf (by exact hd) (nadd (show (231 : Int32) = nI 231 from rfl) hx.1) (by omega)) rfl rfl rfl (Nat.le_of_ble_eq_true rfl) rfl ?_
    refine V_aload_n o dX9_delays_71 rfl rfl ?_
    refine V_bipush (v := 6) o dX9_delays_72 (by decide) ?_
    refine V_cVi o rt dX9_delays_74 ml_X9_85 (c9_of hf (by exact hd) (show (6 : Int32) = nI 6 from rfl) (by omega)) rfl rfl rfl (Nat.le_of_ble_eq_true rfl) rfl ?_
    refine V_isub o dX9_delays_77 ?_
    refine V_istore (ls' := [(4, _), (3, _), (0, _), (1, _), (2, _)]) o dX9_delays_78 (by decide) rfl ?_
    refine V_iload o dX9_delays_80 rfl ?_
    refine V_iload_n o dX9_delays_82 rfl rfl ?_
    refine V_icmp_ne (tgt := 89) o dX9_delays_83 (by decide) (fun c_83 => False.elim (c_83 (by rw [dlWas] at hw; (first | rw [if_neg c_37] at hw | rw [if_pos c_37] at hw); exact hw))) (fun c_83 => ?_)
    refine V_bipush (v := -2) o dX9_delays_86 (by decide) ?_
    refine V_iret o rt dX9_delays_88 rfl rfl ?_
    exact ⟨rfl, rfl⟩
  · refine V_iconst (v := 1) o dX9_delays_40 (by decide) ?_
    refine V_goto (tgt := 45) o dX9_delays_41 (by decide) ?_
    refine V_istore_n (ls' := [(3, _), (0, _), (1, _), (2, _)]) o dX9_delays_45 rfl (by decide) rfl ?_
    refine V_iload_n o dX9_delays_46 rfl rfl ?_
    refine V_if_eq (tgt := 62) o dX9_delays_47 (by decide) (fun c_47 => False.elim (absurd c_47 (by decide))) (fun c_47 => ?_)
    refine V_aload_n o dX9_delays_50 rfl rfl ?_
    refine V_sipush (v := 359) o dX9_delays_51 (by decide) ?_
    refine V_iload_n o dX9_delays_54 rfl rfl ?_
    refine V_iadd o dX9_delays_55 ?_
    refine V_cVi o rt dX9_delays_56 ml_X9_85 (c9_of hf (by exact hd) (nadd (show (359 : Int32) = nI 359 from rfl) hx.1) (by omega)) rfl rfl rfl (Nat.le_of_ble_eq_true rfl) rfl ?_
    refine V_goto (tgt := 78) o dX9_delays_59 (by decide) ?_
    refine V_istore (ls' := [(4, _), (3, _), (0, _), (1, _), (2, _)]) o dX9_delays_78 (by decide) rfl ?_
    refine V_iload o dX9_delays_80 rfl ?_
    refine V_iload_n o dX9_delays_82 rfl rfl ?_
    refine V_icmp_ne (tgt := 89) o dX9_delays_83 (by decide) (fun c_83 => False.elim (c_83 (by rw [dlWas] at hw; (first | rw [if_neg c_37] at hw | rw [if_pos c_37] at hw); exact hw))) (fun c_83 => ?_)
    refine V_bipush (v := -2) o dX9_delays_86 (by decide) ?_
    refine V_iret o rt dX9_delays_88 rfl rfl ?_
    exact ⟨rfl, rfl⟩
set_option maxRecDepth 20000 in
set_option maxHeartbeats 4000000 in
theorem c9_delays_no {w : Wp} (hf : Fit sh0 w) {σ : Mm} {M : Nat → Int32} (hd : σ.1 67 8 = nI 0) {k dl : Int32} (hc : ¬ (isTm M k ∧ inR dl 1 1000000)) : Cf sh0 w 4 mX9_delays [.ref 67, .int k, .int dl] (sM σ 0 M) (some (.int (-1))) (sM (wI σ 67 0 0) 0 M) := by
  refine Ct_of hf (by decide) rfl (Nat.le_of_ble_eq_true rfl) (fun x o rt => ?_)
  refine V_aload_n o dX9_delays_0 rfl rfl ?_
  refine V_iconst (v := 0) o dX9_delays_1 (by decide) ?_
  refine V_putI o dX9_delays_2 rfl fl_X9_1 rfl rfl rfl ?_
  rw [wI_sM67]
  refine V_aload_n o dX9_delays_5 rfl rfl ?_
  refine V_iload_n o dX9_delays_6 rfl rfl ?_
  refine V_cVi o rt dX9_delays_7 ml_X9_89 (c9_isTm hf (by exact hd) (Nat.zero_le 423)) rfl rfl rfl (Nat.le_of_ble_eq_true rfl) rfl ?_
  refine V_if_eq (tgt := 25) o dX9_delays_10 (by decide) (fun c_10 => ?_) (fun c_10 => ?_)
  · refine V_iconst (v := -1) o dX9_delays_25 (by decide) ?_
    refine V_iret o rt dX9_delays_26 rfl rfl ?_
    exact ⟨rfl, rfl⟩
  · refine V_iload_n o dX9_delays_13 rfl rfl ?_
    refine V_i2l o dX9_delays_14 ?_
    refine V_lconst (v := 1) o dX9_delays_15 (by decide) ?_
    refine V_ldc2 o dX9_delays_16 kc_X9_193 ?_
    refine V_cSi o rt dX9_delays_19 ms_X9_21 (c9_in hf) rfl rfl (Nat.le_of_ble_eq_true rfl) rfl ?_
    refine V_if_ne (tgt := 27) o dX9_delays_22 (by decide) (fun c_22 => False.elim (hc ⟨bz_n0.mp c_10, (in_lo (k := dl) (lo := 1) (hi := 1000000) (l := 1) (h := 1000000) (by decide) (by decide)).mp (bz_n0.mp c_22)⟩)) (fun c_22 => ?_)
    refine V_iconst (v := -1) o dX9_delays_25 (by decide) ?_
    refine V_iret o rt dX9_delays_26 rfl rfl ?_
    exact ⟨rfl, rfl⟩
set_option maxRecDepth 20000 in
set_option maxHeartbeats 4000000 in
theorem c9_rings_no {w : Wp} (hf : Fit sh0 w) {σ : Mm} {M : Nat → Int32} (hd : σ.1 67 8 = nI 0) {k : Int32} (hk : ¬ inR k 1 100) : Cf sh0 w 8 mX9_rings [.ref 67, .int k] (sM σ 0 M) (some (.int (-1))) (sM (wI σ 67 0 0) 0 M) := by
  refine Ct_of hf (by decide) rfl (Nat.le_of_ble_eq_true rfl) (fun x o rt => ?_)
  refine V_aload_n o dX9_rings_0 rfl rfl ?_
  refine V_iconst (v := 0) o dX9_rings_1 (by decide) ?_
  refine V_putI o dX9_rings_2 rfl fl_X9_1 rfl rfl rfl ?_
  rw [wI_sM67]
  refine V_iload_n o dX9_rings_5 rfl rfl ?_
  refine V_i2l o dX9_rings_6 ?_
  refine V_lconst (v := 1) o dX9_rings_7 (by decide) ?_
  refine V_ldc2 o dX9_rings_8 kc_X9_183 ?_
  refine V_cSi o rt dX9_rings_11 ms_X9_21 (c9_in hf) rfl rfl (Nat.le_of_ble_eq_true rfl) rfl ?_
  refine V_if_ne (tgt := 19) o dX9_rings_14 (by decide) (fun c_14 => False.elim (hk ((in_lo (k := k) (lo := 1) (hi := 100) (l := 1) (h := 100) (by decide) (by decide)).mp (bz_n0.mp c_14)))) (fun c_14 => ?_)
  refine V_iconst (v := -1) o dX9_rings_17 (by decide) ?_
  refine V_iret o rt dX9_rings_18 rfl rfl ?_
  exact ⟨rfl, rfl⟩
set_option maxRecDepth 20000 in
set_option maxHeartbeats 4000000 in
theorem c9_rings_end {w : Wp} (hf : Fit sh0 w) {σ : Mm} {M : Nat → Int32} (hd : σ.1 67 8 = nI 0) {k : Int32} (hk : inR k 1 100) (hc : M 6 + k > 1000000000) : Cf sh0 w 8 mX9_rings [.ref 67, .int k] (sM σ 0 M) (some (.int (-4))) (sM (wI (wI σ 67 0 0) 67 8 0) 0 (bkM M (trM M))) := by
  have hdx : (wI (sM (wI σ 67 0 0) 0 M) 67 8 423).1 67 8 = nI 423 := rfl
  refine Ct_of hf (by decide) rfl (Nat.le_of_ble_eq_true rfl) (fun x o rt => ?_)
  refine V_aload_n o dX9_rings_0 rfl rfl ?_
  refine V_iconst (v := 0) o dX9_rings_1 (by decide) ?_
  refine V_putI o dX9_rings_2 rfl fl_X9_1 rfl rfl rfl ?_
  rw [wI_sM67]
  refine V_iload_n o dX9_rings_5 rfl rfl ?_
  refine V_i2l o dX9_rings_6 ?_
  refine V_lconst (v := 1) o dX9_rings_7 (by decide) ?_
  refine V_ldc2 o dX9_rings_8 kc_X9_183 ?_
  refine V_cSi o rt dX9_rings_11 ms_X9_21 (c9_in hf) rfl rfl (Nat.le_of_ble_eq_true rfl) rfl ?_
  refine V_if_ne (tgt := 19) o dX9_rings_14 (by decide) (fun c_14 => ?_) (fun c_14 => False.elim (bz_n0.mpr ((in_lo (k := k) (lo := 1) (hi := 100) (l := 1) (h := 100) (by decide) (by decide)).mpr hk) c_14))
  refine V_aload_n o dX9_rings_19 rfl rfl ?_
  refine V_cVv o rt dX9_rings_20 ml_X9_246 (c9_tries hf) rfl rfl rfl (Nat.le_of_ble_eq_true rfl) rfl ?_
  refine V_aload_n o dX9_rings_23 rfl rfl ?_
  refine V_iload_n o dX9_rings_24 rfl rfl ?_
  refine V_cVi o rt dX9_rings_25 ml_X9_185 (c9_ticksOf_no hf (by exact hdx) (Nat.le_refl 423) (show trM M 6 + k > 1000000000 from hc)) rfl rfl rfl (Nat.le_of_ble_eq_true rfl) rfl ?_
  refine V_istore_n (ls' := [(2, _), (0, _), (1, _)]) o dX9_rings_28 rfl (by decide) rfl ?_
  refine V_aload_n o dX9_rings_29 rfl rfl ?_
  refine V_cVv o rt dX9_rings_30 ml_X9_249 (c9_isBack hf) rfl rfl rfl (Nat.le_of_ble_eq_true rfl) rfl ?_
  refine V_iload_n o dX9_rings_33 rfl rfl ?_
  refine V_if_lt (tgt := 41) o dX9_rings_34 (by decide) (fun c_34 => ?_) (fun c_34 => False.elim (c_34 (by decide)))
  refine V_iload_n o dX9_rings_41 rfl rfl ?_
  refine V_iret o rt dX9_rings_42 rfl rfl ?_
  exact ⟨rfl, rfl⟩
set_option maxRecDepth 20000 in
set_option maxHeartbeats 4000000 in
theorem c9_rings {w : Wp} (hf : Fit sh0 w) {σ : Mm} {M : Nat → Int32} (hd : σ.1 67 8 = nI 0) {L r : Nat} (hI : Iv (trM M) L r) {k : Int32} {m : Nat} (hm : k = nI m) (hm1 : 1 ≤ m) (hm2 : m ≤ 100) (hc : ¬ M 6 + k > 1000000000) {S : (Nat → Int32) × Nat × List (Nat × Int32)} (hS : (tks L m (trM M, r, ([] : List (Nat × Int32)))) = S) : Ct sh0 w 8 mX9_rings [.ref 67, .int k] (sM σ 0 M) (fun r' σ' => ∃ fl nl f1 f2 f, r' = some (.int (nI S.2.2.length)) ∧ σ' = sM (sRw (wI (sHd (sLn (wI σ 67 0 0) fl nl) f1 f2 S.2.2.length) 67 8 0) f (2 * (S.2.2.take 20).length)) 0 (bkM M S.1) ∧ RwR f (rowH (S.2.2.take 20))) := by
  have hlen := (Iv_tks (hl := []) hI m).2
  rw [hS] at hlen
  have hlen2 : S.2.2.length ≤ 1600 := by
    have : ([] : List (Nat × Int32)).length = 0 := rfl
    omega
  have hdx : (wI (sM (wI σ 67 0 0) 0 M) 67 8 423).1 67 8 = nI 423 := rfl
  refine Ct_of hf (by decide) rfl (Nat.le_of_ble_eq_true rfl) (fun x o rt => ?_)
  have hk : inR k 1 100 := by rw [hm]; exact ⟨nI_le (a := 1) hm1 (by omega), nI_le (b := 100) hm2 (by omega)⟩
  refine V_aload_n o dX9_rings_0 rfl rfl ?_
  refine V_iconst (v := 0) o dX9_rings_1 (by decide) ?_
  refine V_putI o dX9_rings_2 rfl fl_X9_1 rfl rfl rfl ?_
  rw [wI_sM67]
  refine V_iload_n o dX9_rings_5 rfl rfl ?_
  refine V_i2l o dX9_rings_6 ?_
  refine V_lconst (v := 1) o dX9_rings_7 (by decide) ?_
  refine V_ldc2 o dX9_rings_8 kc_X9_183 ?_
  refine V_cSi o rt dX9_rings_11 ms_X9_21 (c9_in hf) rfl rfl (Nat.le_of_ble_eq_true rfl) rfl ?_
  refine V_if_ne (tgt := 19) o dX9_rings_14 (by decide) (fun c_14 => ?_) (fun c_14 => False.elim (bz_n0.mpr ((in_lo (k := k) (lo := 1) (hi := 100) (l := 1) (h := 100) (by decide) (by decide)).mpr hk) c_14))
  refine V_aload_n o dX9_rings_19 rfl rfl ?_
  refine V_cVv o rt dX9_rings_20 ml_X9_246 (c9_tries hf) rfl rfl rfl (Nat.le_of_ble_eq_true rfl) rfl ?_
  refine V_aload_n o dX9_rings_23 rfl rfl ?_
  refine V_iload_n o dX9_rings_24 rfl rfl ?_
  refine V_callV o rt dX9_rings_25 ml_X9_185 (c9_ticksOf hf (by exact hdx) (Nat.le_refl 423) hI hm hm2 (show ¬ trM M 6 + k > 1000000000 from hc)) rfl rfl rfl (Nat.le_of_ble_eq_true rfl) rfl (fun r_25 σ_25 q_25 => ?_)
  obtain ⟨fl, nl, f1, f2, rfl, rfl, hH⟩ := q_25
  rw [hS] at hH ⊢
  rw [sLn_dk, sHd_dk]
  show V sh0 w x mX9_rings (0, 0) _ _ (.int (nI S.2.2.length) :: []) _
  refine V_istore_n (ls' := [(2, _), (0, _), (1, _)]) o dX9_rings_28 rfl (by decide) rfl ?_
  refine V_aload_n o dX9_rings_29 rfl rfl ?_
  refine V_cVv o rt dX9_rings_30 ml_X9_249 (c9_isBack hf) rfl rfl rfl (Nat.le_of_ble_eq_true rfl) rfl ?_
  refine V_iload_n o dX9_rings_33 rfl rfl ?_
  refine V_if_lt (tgt := 41) o dX9_rings_34 (by decide) (fun c_34 => False.elim (absurd c_34 (nI_pos (by omega)))) (fun c_34 => ?_)
  refine V_aload_n o dX9_rings_37 rfl rfl ?_
  refine V_callV o rt dX9_rings_38 ml_X9_252 (c9_tellsFirst (hl := S.2.2) hf rfl (by omega) hH) rfl rfl rfl (Nat.le_of_ble_eq_true rfl) rfl (fun r_38 σ_38 q_38 => ?_)
  obtain ⟨rfl, f, rfl, hRw⟩ := q_38
  show V sh0 w x mX9_rings (0, 0) _ _ [] _
  refine V_iload_n o dX9_rings_41 rfl rfl ?_
  refine V_iret o rt dX9_rings_42 rfl rfl ?_
  exact ⟨fl, nl, f1, f2, f, rfl, rfl, hRw⟩
