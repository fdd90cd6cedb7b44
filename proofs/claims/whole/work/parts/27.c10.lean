section ZA10
variable {l : Launch} {D : va_G} {cI cII cF : ClassId} {o rk sp pp fp mo m1 m2 m3 m4 m5 m6 m7 m8 m9 : Nat}
/-- the state of a new object -/
def ax_0 : ax_A := ((fun _ => none, fun _ _ => 0, fun _ _ => false), (none, fun _ => false, fun _ _ => 0, fun _ _ => false), [], 0, 0, 0, 0, 0, 0, 0, 0, 0)
def cx_0 : cx_X := (0, 0, fun _ => none, fun _ => none, none, [], fun _ => .inr (0, []))
theorem rc_0 (cI cII : ClassId) : rc_R cI cII ax_0 cx_0 := by
  refine ⟨⟨⟨fun k _ => ⟨fun _ => rfl, fun _ => rfl⟩, fun k q _ h => (by cases h), fun j k _ _ h => absurd rfl h⟩, ⟨fun _ => rfl, fun _ => rfl⟩, fun q h => (by cases h)⟩, fun j q h => (by cases h), rfl, Nat.zero_le _⟩
set_option maxRecDepth 100000 in
set_option maxHeartbeats 4000000 in
theorem c_X1_init {w : va_W} {q : Nat} : zz_Mv l D (zt cI cII cF) yX1_init cX1_init 1 none 1 20 0 0 [.ref q] w (fun w' => w' = w) := by
  refine zz_mk (by decide) (Nat.le_of_ble_eq_true rfl) ?_
  intro p e s m below meth c A hC hr hk hnm
  have hC : zz_C p s m _ c A D (zt cI cII cF) 1 cX1_init RX1 := hC
  refine zr_aload_n 0 hC dX1_init_0 rfl rfl ?_
  refine zr_objInit hC dX1_init_1 ml_X1_3 oi_inst oi_code (by decide) (Nat.le_of_ble_eq_true rfl) ?_
  refine zr_vret hC hr hk dX1_init_4 (by decide) (by decide) ⟨rfl, ?_⟩
  exact rfl
set_option maxRecDepth 100000 in
set_option maxHeartbeats 4000000 in
theorem c_X2_init {o q : Nat} {E0 : va_E} : zz_Mv l D (zt cI cII cF) yX2_init cX2_init 1 none 1 20 1 24 [.ref q] [(o, E0), (q, .inr (2, [.null, .int 0]))] (fun w' => ∃ sp, w' = [(o, E0), (q, .inr (2, [.ref sp, .int 0])), (sp, ze_q cII 24 (fun _ => none))]) := by
  refine zz_mk (by decide) (Nat.le_of_ble_eq_true rfl) ?_
  intro p e s m below meth c A hC hr hk hnm
  have hC : zz_C p s m _ c A D (zt cI cII cF) 1 cX2_init RX2 := hC
  refine zr_aload_n 0 hC dX2_init_0 rfl rfl ?_
  refine zr_objInit hC dX2_init_1 ml_X2_3 oi_inst oi_code (by decide) (Nat.le_of_ble_eq_true rfl) ?_
  refine zr_aload_n 0 hC dX2_init_4 rfl rfl ?_
  refine zr_bipush (v := (24 : Int32)) hC dX2_init_5 rfl ?_
  refine zr_newA (N' := 24) 1 hC dX2_init_7 cl_X2_9 rfl (by decide) (by decide) (by decide) (by decide) (by decide) (fun sp hDq => ?_)
  refine zr_putF (w' := [(o, E0), (q, .inr (2, [.ref sp, .int 0])), (sp, ze_q cII 24 (fun _ => none))]) 1 0 hC iu_X2 tyX2_ok nmX2 rfl dX2_init_10 fl_X2_11 (by decide) rfl hnm rfl rfl rfl rfl (Nat.le_of_ble_eq_true rfl) rfl ?_
  refine zr_vret hC hr hk dX2_init_13 (by decide) (by decide) ⟨rfl, ?_⟩
  exact ⟨sp, rfl⟩
set_option maxRecDepth 100000 in
set_option maxHeartbeats 4000000 in
theorem c_X3_init {o : Nat} : zz_Mv l D (zt cI cII cF) yX3_init cX3_init 1 none 2 40 4 44 [.ref o] [(o, .inr (3, [.null, .null, .null, .int 0, .int 0, .int 0, .int 0, .int 0, .int 0, .int 0, .int 0, .int 0]))] (fun w' => ∃ rk sp pp fp, w' = cw_W o rk sp pp fp cII cF ax_0 cx_0) := by
  refine zz_mk (by decide) (Nat.le_of_ble_eq_true rfl) ?_
  intro p e s m below meth c A hC hr hk hnm
  have hC : zz_C p s m _ c A D (zt cI cII cF) 1 cX3_init RX3 := hC
  refine zr_aload_n 0 hC dX3_init_0 rfl rfl ?_
  refine zr_objInit hC dX3_init_1 ml_X3_1 oi_inst oi_code (by decide) (Nat.le_of_ble_eq_true rfl) ?_
  refine zr_aload_n 0 hC dX3_init_4 rfl rfl ?_
  refine zr_new (ci := 2) (fs := [.null, .int 0]) hC iu_X2 tyX2_ok rfl dX3_init_5 cl_X3_7 it_X2 in_X2 (fun j hj => by rcases (show j = 0 ∨ j = 1 by omega) with rfl | rfl <;> rfl) (by decide) (by decide) (fun rk hDrk => ?_)
  refine zr_dup hC dX3_init_8 rfl ?_
  refine zr_cIv hC ci_X2_init ml_X3_9 (c_X2_init (o := o) (q := rk) (E0 := .inr (3, [.null, .null, .null, .int 0, .int 0, .int 0, .int 0, .int 0, .int 0, .int 0, .int 0, .int 0]))) dX3_init_9 ⟨Nat.le_of_ble_eq_true rfl, Nat.le_of_ble_eq_true rfl⟩ ⟨Nat.le_of_ble_eq_true rfl, Nat.le_of_ble_eq_true rfl⟩ rfl rfl (Nat.le_of_ble_eq_true rfl) ?_
  rintro _ ⟨sp, rfl⟩
  refine zr_putF (w' := [(o, .inr (3, [.ref rk, .null, .null, .int 0, .int 0, .int 0, .int 0, .int 0, .int 0, .int 0, .int 0, .int 0])), (rk, .inr (2, [.ref sp, .int 0])), (sp, ze_q cII 24 (fun _ => none))]) 0 0 hC iu_X3 tyX3_ok nmX3 rfl dX3_init_12 fl_X3_10 (by decide) rfl hnm rfl rfl rfl rfl (Nat.le_of_ble_eq_true rfl) rfl ?_
  refine zr_aload_n 0 hC dX3_init_15 rfl rfl ?_
  refine zr_new (ci := 1) (fs := [.null, .int 0]) hC iu_X1 tyX1_ok rfl dX3_init_16 cl_X3_16 it_X1 in_X1 (fun j hj => by rcases (show j = 0 ∨ j = 1 by omega) with rfl | rfl <;> rfl) (by decide) (by decide) (fun pp hDpp => ?_)
  refine zr_dup hC dX3_init_19 rfl ?_
  refine zr_cINv hC ci_X1_init hC.2.2.2.2.2.2.2.2.2.2.1 (c_X1_init (w := [(o, .inr (3, [.ref rk, .null, .null, .int 0, .int 0, .int 0, .int 0, .int 0, .int 0, .int 0, .int 0, .int 0])), (rk, .inr (2, [.ref sp, .int 0])), (sp, ze_q cII 24 (fun _ => none)), (pp, .inr (1, [.null, .int 0]))]) (q := pp)) dX3_init_20 ⟨Nat.le_of_ble_eq_true rfl, Nat.le_of_ble_eq_true rfl⟩ ⟨Nat.le_of_ble_eq_true rfl, Nat.le_of_ble_eq_true rfl⟩ rfl rfl (Nat.le_of_ble_eq_true rfl) ?_
  rintro _ rfl
  refine zr_putF (w' := [(o, .inr (3, [.ref rk, .ref pp, .null, .int 0, .int 0, .int 0, .int 0, .int 0, .int 0, .int 0, .int 0, .int 0])), (rk, .inr (2, [.ref sp, .int 0])), (sp, ze_q cII 24 (fun _ => none)), (pp, .inr (1, [.null, .int 0]))]) 0 1 hC iu_X3 tyX3_ok nmX3 rfl dX3_init_23 fl_X3_19 (by decide) rfl hnm rfl rfl rfl rfl (Nat.le_of_ble_eq_true rfl) rfl ?_
  refine zr_aload_n 0 hC dX3_init_26 rfl rfl ?_
  refine zr_bipush (v := (16 : Int32)) hC dX3_init_27 rfl ?_
  refine zr_newq (N' := 16) 2 hC dX3_init_29 cl_X3_23 rfl (by decide) (by decide) (by decide) (by decide) (by decide) (fun fp hDq => ?_)
  refine zr_putF (w' := [(o, .inr (3, [.ref rk, .ref pp, .ref fp, .int 0, .int 0, .int 0, .int 0, .int 0, .int 0, .int 0, .int 0, .int 0])), (rk, .inr (2, [.ref sp, .int 0])), (sp, ze_q cII 24 (fun _ => none)), (pp, .inr (1, [.null, .int 0])), (fp, ze_q cF 16 (fun _ => none))]) 0 2 hC iu_X3 tyX3_ok nmX3 rfl dX3_init_32 fl_X3_25 (by decide) rfl hnm rfl rfl rfl rfl (Nat.le_of_ble_eq_true rfl) rfl ?_
  refine zr_vret hC hr hk dX3_init_35 (by decide) (by decide) ⟨rfl, ?_⟩
  exact ⟨rk, sp, pp, fp, rfl⟩
end ZA10
