section ZA1
variable {l : Launch} {D : va_G} {cI cII cF : ClassId} {o rk sp pp fp mo m1 m2 m3 m4 m5 m6 m7 m8 m9 : Nat}
set_option maxRecDepth 100000 in
set_option maxHeartbeats 4000000 in
theorem c_X3_isBank {w : va_W} (b : Int32) : zz_Mi l D (zt cI cII cF) yX3_isBank cX3_isBank 1 (some .boolean) 0 0 0 0 [.int b] w (fun r w' => w' = w ∧ ((r = 1 ∧ zk_b b) ∨ (r = 0 ∧ ¬ zk_b b))) := by
  refine zz_mk (by decide) (Nat.le_of_ble_eq_true rfl) ?_
  intro p e s m below meth c A hC hr hk hnm
  have hC : zz_C p s m _ c A D (zt cI cII cF) 1 cX3_isBank RX3 := hC
  refine zr_iload_n 0 hC dX3_isBank_0 rfl rfl ?_
  refine zr_if_lt (tgt := 14) hC dX3_isBank_1 (by decide) (fun c1 => ?_) (fun c1 => ?_)
  · refine zr_iconst (v := (0 : Int32)) hC dX3_isBank_14 rfl ?_
    refine zr_zret hC hr hk dX3_isBank_15 rfl (by decide) (by decide) ⟨_, rfl, ?_⟩
    exact ⟨rfl, Or.inr ⟨rfl, fun h => absurd h.1 (Int32.not_le.mpr c1)⟩⟩
  · refine zr_iload_n 0 hC dX3_isBank_4 rfl rfl ?_
    refine zr_bipush (v := (6 : Int32)) hC dX3_isBank_5 rfl ?_
    refine zr_icmp_ge (tgt := 14) hC dX3_isBank_7 (by decide) (fun c7 => ?_) (fun c7 => ?_)
    · refine zr_iconst (v := (0 : Int32)) hC dX3_isBank_14 rfl ?_
      refine zr_zret hC hr hk dX3_isBank_15 rfl (by decide) (by decide) ⟨_, rfl, ?_⟩
      exact ⟨rfl, Or.inr ⟨rfl, fun h => absurd h.2 (Int32.not_lt.mpr c7)⟩⟩
    · refine zr_iconst (v := (1 : Int32)) hC dX3_isBank_10 rfl ?_
      refine zr_goto (tgt := 15) hC dX3_isBank_11 (by decide) ?_
      refine zr_zret hC hr hk dX3_isBank_15 rfl (by decide) (by decide) ⟨_, rfl, ?_⟩
      exact ⟨rfl, Or.inl ⟨rfl, Int32.not_lt.mp c1, Int32.not_le.mp c7⟩⟩
set_option maxRecDepth 100000 in
set_option maxHeartbeats 4000000 in
theorem c_X3_isStrip {w : va_W} (b : Int32) : zz_Mi l D (zt cI cII cF) yX3_isStrip cX3_isStrip 1 (some .boolean) 0 0 0 0 [.int b] w (fun r w' => w' = w ∧ ((r = 1 ∧ zk_s b) ∨ (r = 0 ∧ ¬ zk_s b))) := by
  refine zz_mk (by decide) (Nat.le_of_ble_eq_true rfl) ?_
  intro p e s m below meth c A hC hr hk hnm
  have hC : zz_C p s m _ c A D (zt cI cII cF) 1 cX3_isStrip RX3 := hC
  refine zr_iload_n 0 hC dX3_isStrip_0 rfl rfl ?_
  refine zr_if_lt (tgt := 13) hC dX3_isStrip_1 (by decide) (fun c1 => ?_) (fun c1 => ?_)
  · refine zr_iconst (v := (0 : Int32)) hC dX3_isStrip_13 rfl ?_
    refine zr_zret hC hr hk dX3_isStrip_14 rfl (by decide) (by decide) ⟨_, rfl, ?_⟩
    exact ⟨rfl, Or.inr ⟨rfl, fun h => absurd h.1 (Int32.not_le.mpr c1)⟩⟩
  · refine zr_iload_n 0 hC dX3_isStrip_4 rfl rfl ?_
    refine zr_iconst (v := (4 : Int32)) hC dX3_isStrip_5 rfl ?_
    refine zr_icmp_ge (tgt := 13) hC dX3_isStrip_6 (by decide) (fun c6 => ?_) (fun c6 => ?_)
    · refine zr_iconst (v := (0 : Int32)) hC dX3_isStrip_13 rfl ?_
      refine zr_zret hC hr hk dX3_isStrip_14 rfl (by decide) (by decide) ⟨_, rfl, ?_⟩
      exact ⟨rfl, Or.inr ⟨rfl, fun h => absurd h.2 (Int32.not_lt.mpr c6)⟩⟩
    · refine zr_iconst (v := (1 : Int32)) hC dX3_isStrip_9 rfl ?_
      refine zr_goto (tgt := 14) hC dX3_isStrip_10 (by decide) ?_
      refine zr_zret hC hr hk dX3_isStrip_14 rfl (by decide) (by decide) ⟨_, rfl, ?_⟩
      exact ⟨rfl, Or.inl ⟨rfl, Int32.not_lt.mp c1, Int32.not_le.mp c6⟩⟩
set_option maxRecDepth 100000 in
set_option maxHeartbeats 4000000 in
theorem c_X3_digitOf {w : va_W} (r0 : Int32) : zz_Mi l D (zt cI cII cF) yX3_digitOf cX3_digitOf 1 (some .int) 0 0 0 0 [.int r0] w (fun r w' => r = zf_dig r0 ∧ w' = w) := by
  refine zz_mk (by decide) (Nat.le_of_ble_eq_true rfl) ?_
  intro p e s m below meth c A hC hr hk hnm
  have hC : zz_C p s m _ c A D (zt cI cII cF) 1 cX3_digitOf RX3 := hC
  refine zr_iload_n 0 hC dX3_digitOf_0 rfl rfl ?_
  refine zr_iconst (v := (2 : Int32)) hC dX3_digitOf_1 rfl ?_
  refine zr_icmp_ne (tgt := 7) hC dX3_digitOf_2 (by decide) (fun c2 => ?_) (fun c2 => ?_)
  · refine zr_iload_n 0 hC dX3_digitOf_7 rfl rfl ?_
    refine zr_iconst (v := (3 : Int32)) hC dX3_digitOf_8 rfl ?_
    refine zr_icmp_ne (tgt := 16) hC dX3_digitOf_9 (by decide) (fun c9 => ?_) (fun c9 => ?_)
    · refine zr_iconst (v := (0 : Int32)) hC dX3_digitOf_16 rfl ?_
      refine zr_iret hC hr hk dX3_digitOf_17 (by decide) (by decide) ⟨_, rfl, ?_⟩
      exact ⟨by simp [zf_dig, c2, c9], rfl⟩
    · refine zr_iconst (v := (2 : Int32)) hC dX3_digitOf_12 rfl ?_
      refine zr_goto (tgt := 17) hC dX3_digitOf_13 (by decide) ?_
      refine zr_iret hC hr hk dX3_digitOf_17 (by decide) (by decide) ⟨_, rfl, ?_⟩
      exact ⟨by simp [zf_dig, c2, c9], rfl⟩
  · refine zr_iconst (v := (1 : Int32)) hC dX3_digitOf_5 rfl ?_
    refine zr_iret hC hr hk dX3_digitOf_6 (by decide) (by decide) ⟨_, rfl, ?_⟩
    exact ⟨by simp [zf_dig, c2], rfl⟩
set_option maxRecDepth 100000 in
set_option maxHeartbeats 4000000 in
theorem c_X3_asLevel {w : va_W} (v : Int32) : zz_Mi l D (zt cI cII cF) yX3_asLevel cX3_asLevel 1 (some .int) 1 21 0 0 [.int v] w (fun r w' => r = zf_lev v ∧ w' = w) := by
  refine zz_mk (by decide) (Nat.le_of_ble_eq_true rfl) ?_
  intro p e s m below meth c A hC hr hk hnm
  have hC : zz_C p s m _ c A D (zt cI cII cF) 1 cX3_asLevel RX3 := hC
  refine zr_ldc hC dX3_asLevel_0 kc_X3_187 ?_
  refine zr_ldc hC dX3_asLevel_2 kc_X3_188 ?_
  refine zr_iload_n 0 hC dX3_asLevel_4 rfl rfl ?_
  refine zr_min hC dX3_asLevel_5 ml_X3_189 ms_min in_Math mc_min (by decide) (by decide) (by decide) (by decide) ?_
  refine zr_max hC dX3_asLevel_8 ml_X3_194 ms_max in_Math mc_max (by decide) (by decide) (by decide) (by decide) ?_
  refine zr_iret hC hr hk dX3_asLevel_11 (by decide) (by decide) ⟨_, rfl, ?_⟩
  exact ⟨rfl, rfl⟩
end ZA1
