section THROW
abbrev NSE : String := "java/util/NoSuchElementException"
abbrev NSN : List String := ["java/lang/RuntimeException", "java/lang/Exception"]
theorem vx_bad : (vx_at0 RX8 237 NSE NSN).filter (fun w => !goodWord w) = [.castable NSE NSE] := by decide +kernel
theorem vx_gd : ∀ w ∈ (vx_at0 RX8 237 NSE NSN).filter goodWord, w ∈ lw_tbl := by decide +kernel
theorem vx_okk : ∀ w ∈ Cond.classLink RX8 235 NSE :: Cond.initialized NSE :: vx_at0 RX8 237 NSE NSN, vx_ot w = true := by decide +kernel
theorem flg : ∀ l : Launch, l.flags = flags0 → l.stackTraces = false := fun l h => by
  first
    | (rw [Launch.stackTraces, h]; rfl)
    | (unfold Launch.stackTraces; rw [h]; rfl)
    | (simp [Launch.stackTraces, h, flags0])
end THROW
