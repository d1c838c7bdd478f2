set_option maxHeartbeats 4000000 in
theorem k_X2 (l : Launch) (dC : Nat → ClassId) (dI : Nat → Nat → Nat) (cy : Nat → ClassId) (h sz : Nat) : b_K l dC dI cy 1 0 0 yX2_init cX2_init 1 h sz (.inr (2, [.int 0, .int 0, .int 0, .int 0, .int 0])) (fun X => X = [(h, .inr (2, [.int 0, .int 0, .int 0, .int 0, .int 0]))]) := by
  refine b_met (by decide +kernel) rfl (by decide) ?_
  intro p e s m args below meth c Z A ls hC hW hL hret
  refine b_aload hC hL dX2_init_0 rfl rfl ?_
  refine b_obj hC hL oi_X2 oi_1 oi_2 dX2_init_1 (Nat.le_of_ble_eq_true rfl) (Nat.le_of_ble_eq_true rfl) ?_
  exact hret _ _ _ _ _ _ _ (Nat.le_of_ble_eq_true rfl) (Nat.le_of_ble_eq_true rfl) hW rfl dX2_init_4
set_option maxHeartbeats 4000000 in
theorem k_X3 (l : Launch) (dC : Nat → ClassId) (dI : Nat → Nat → Nat) (cy : Nat → ClassId) (h sz : Nat) : b_K l dC dI cy 1 1 10 yX3_init cX3_init 1 h sz (.inr (3, [.null, .int 0, .int 0, .int 0, .int 0, .int 0])) (fun X => ∃ q1, X = [(h, .inr (3, [.ref q1, .int 0, .int 0, .int 0, .int 0, .int 0])), (q1, .inl (cy 0, 10, .inl (fun _ => 0)))]) := by
  refine b_met (by decide +kernel) rfl (by decide) ?_
  intro p e s m args below meth c Z A ls hC hW hL hret
  refine b_aload hC hL dX3_init_0 rfl rfl ?_
  refine b_obj hC hL oi_X3 oi_1 oi_2 dX3_init_1 (Nat.le_of_ble_eq_true rfl) (Nat.le_of_ble_eq_true rfl) ?_
  refine b_aload hC hL dX3_init_4 rfl rfl ?_
  refine lv_bipush (v := 10) hC.1 hC.2.1 dX3_init_5 (by decide) ?_
  refine b_newi 10 (by decide) rfl hC hW dX3_init_7 ac_i (Nat.le_of_ble_eq_true rfl) (Nat.le_of_ble_eq_true rfl) (fun q1 H hW => ?_)
  have hW : b_W s A dC dI [(h, .inr (3, [.null, .int 0, .int 0, .int 0, .int 0, .int 0])), (q1, .inl (cy 0, 10, .inl (fun _ => 0)))] H _ := hW
  refine b_putF (ty := (.array .int)) 0 rfl hC hW fl_X3_9 rfl rfl rfl (by decide +kernel) rfl rfl (by decide) lk_X3_9 dX3_init_9 (fun H locs hW => ?_)
  have hW : b_W s A dC dI [(h, .inr (3, [.ref q1, .int 0, .int 0, .int 0, .int 0, .int 0])), (q1, .inl (cy 0, 10, .inl (fun _ => 0)))] H _ := hW
  exact hret _ _ _ _ _ _ _ (Nat.le_of_ble_eq_true rfl) (Nat.le_of_ble_eq_true rfl) hW ⟨q1, rfl⟩ dX3_init_12
set_option maxHeartbeats 4000000 in
theorem k_X4 (l : Launch) (dC : Nat → ClassId) (dI : Nat → Nat → Nat) (cy : Nat → ClassId) (h sz : Nat) : b_K l dC dI cy 1 1 40 yX4_init cX4_init 1 h sz (.inr (4, [.null, .int 0, .int 0, .int 0])) (fun X => ∃ q1, X = [(h, .inr (4, [.ref q1, .int 1, .int 0, .int 0])), (q1, .inl (cy 0, 40, .inl (fun _ => 0)))]) := by
  refine b_met (by decide +kernel) rfl (by decide) ?_
  intro p e s m args below meth c Z A ls hC hW hL hret
  refine b_aload hC hL dX4_init_0 rfl rfl ?_
  refine b_obj hC hL oi_X4 oi_1 oi_2 dX4_init_1 (Nat.le_of_ble_eq_true rfl) (Nat.le_of_ble_eq_true rfl) ?_
  refine b_aload hC hL dX4_init_4 rfl rfl ?_
  refine lv_bipush (v := 40) hC.1 hC.2.1 dX4_init_5 (by decide) ?_
  refine b_newi 40 (by decide) rfl hC hW dX4_init_7 ac_i (Nat.le_of_ble_eq_true rfl) (Nat.le_of_ble_eq_true rfl) (fun q1 H hW => ?_)
  have hW : b_W s A dC dI [(h, .inr (4, [.null, .int 0, .int 0, .int 0])), (q1, .inl (cy 0, 40, .inl (fun _ => 0)))] H _ := hW
  refine b_putF (ty := (.array .int)) 0 rfl hC hW fl_X4_9 rfl rfl rfl (by decide +kernel) rfl rfl (by decide) lk_X4_9 dX4_init_9 (fun H locs hW => ?_)
  have hW : b_W s A dC dI [(h, .inr (4, [.ref q1, .int 0, .int 0, .int 0])), (q1, .inl (cy 0, 40, .inl (fun _ => 0)))] H _ := hW
  refine b_aload hC hL dX4_init_12 rfl rfl ?_
  refine lv_iconst (v := 1) hC.1 hC.2.1 dX4_init_13 (by decide) ?_
  refine b_putZ (ty := .boolean) 0 hC hW fl_X4_15 rfl rfl (by decide +kernel) (by decide +kernel) rfl (by decide) lk_X4_15 dX4_init_14 (fun H locs hW => ?_)
  have hW : b_W s A dC dI [(h, .inr (4, [.ref q1, .int 1, .int 0, .int 0])), (q1, .inl (cy 0, 40, .inl (fun _ => 0)))] H _ := hW
  exact hret _ _ _ _ _ _ _ (Nat.le_of_ble_eq_true rfl) (Nat.le_of_ble_eq_true rfl) hW ⟨q1, rfl⟩ dX4_init_17
set_option maxHeartbeats 4000000 in
theorem k_X6 (l : Launch) (dC : Nat → ClassId) (dI : Nat → Nat → Nat) (cy : Nat → ClassId) (h sz : Nat) : b_K l dC dI cy 1 1 100 yX6_init cX6_init 1 h sz (.inr (6, [.null, .int 0, .int 0, .int 0, .int 0])) (fun X => ∃ q1, X = [(h, .inr (6, [.ref q1, .int 0, .int 0, .int 0, .int 0])), (q1, .inl (cy 0, 100, .inl (fun _ => 0)))]) := by
  refine b_met (by decide +kernel) rfl (by decide) ?_
  intro p e s m args below meth c Z A ls hC hW hL hret
  refine b_aload hC hL dX6_init_0 rfl rfl ?_
  refine b_obj hC hL oi_X6 oi_1 oi_2 dX6_init_1 (Nat.le_of_ble_eq_true rfl) (Nat.le_of_ble_eq_true rfl) ?_
  refine b_aload hC hL dX6_init_4 rfl rfl ?_
  refine lv_bipush (v := 100) hC.1 hC.2.1 dX6_init_5 (by decide) ?_
  refine b_newi 100 (by decide) rfl hC hW dX6_init_7 ac_i (Nat.le_of_ble_eq_true rfl) (Nat.le_of_ble_eq_true rfl) (fun q1 H hW => ?_)
  have hW : b_W s A dC dI [(h, .inr (6, [.null, .int 0, .int 0, .int 0, .int 0])), (q1, .inl (cy 0, 100, .inl (fun _ => 0)))] H _ := hW
  refine b_putF (ty := (.array .int)) 0 rfl hC hW fl_X6_9 rfl rfl rfl (by decide +kernel) rfl rfl (by decide) lk_X6_9 dX6_init_9 (fun H locs hW => ?_)
  have hW : b_W s A dC dI [(h, .inr (6, [.ref q1, .int 0, .int 0, .int 0, .int 0])), (q1, .inl (cy 0, 100, .inl (fun _ => 0)))] H _ := hW
  exact hret _ _ _ _ _ _ _ (Nat.le_of_ble_eq_true rfl) (Nat.le_of_ble_eq_true rfl) hW ⟨q1, rfl⟩ dX6_init_12
set_option maxHeartbeats 4000000 in
theorem k_X7 (l : Launch) (dC : Nat → ClassId) (dI : Nat → Nat → Nat) (cy : Nat → ClassId) (h sz : Nat) : b_K l dC dI cy 1 1 16 yX7_init cX7_init 1 h sz (.inr (7, [.null, .int 0])) (fun X => ∃ q1, X = [(h, .inr (7, [.ref q1, .int 0])), (q1, .inl (cy 0, 16, .inl (fun _ => 0)))]) := by
  refine b_met (by decide +kernel) rfl (by decide) ?_
  intro p e s m args below meth c Z A ls hC hW hL hret
  refine b_aload hC hL dX7_init_0 rfl rfl ?_
  refine b_obj hC hL oi_X7 oi_1 oi_2 dX7_init_1 (Nat.le_of_ble_eq_true rfl) (Nat.le_of_ble_eq_true rfl) ?_
  refine b_aload hC hL dX7_init_4 rfl rfl ?_
  refine lv_bipush (v := 16) hC.1 hC.2.1 dX7_init_5 (by decide) ?_
  refine b_newi 16 (by decide) rfl hC hW dX7_init_7 ac_i (Nat.le_of_ble_eq_true rfl) (Nat.le_of_ble_eq_true rfl) (fun q1 H hW => ?_)
  have hW : b_W s A dC dI [(h, .inr (7, [.null, .int 0])), (q1, .inl (cy 0, 16, .inl (fun _ => 0)))] H _ := hW
  refine b_putF (ty := (.array .int)) 0 rfl hC hW fl_X7_9 rfl rfl rfl (by decide +kernel) rfl rfl (by decide) lk_X7_9 dX7_init_9 (fun H locs hW => ?_)
  have hW : b_W s A dC dI [(h, .inr (7, [.ref q1, .int 0])), (q1, .inl (cy 0, 16, .inl (fun _ => 0)))] H _ := hW
  exact hret _ _ _ _ _ _ _ (Nat.le_of_ble_eq_true rfl) (Nat.le_of_ble_eq_true rfl) hW ⟨q1, rfl⟩ dX7_init_12
set_option maxHeartbeats 4000000 in
theorem k_X0 (l : Launch) (dC : Nat → ClassId) (dI : Nat → Nat → Nat) (cy : Nat → ClassId) (h sz : Nat) : b_K l dC dI cy 1 3 72 yX0_init cX0_init 1 h sz (.inr (0, [.null, .null, .null, .int 0])) (fun X => ∃ q1 q2 q3, X = [(h, .inr (0, [.ref q1, .ref q2, .ref q3, .int 0])), (q1, .inl (cy 0, 24, .inl (fun _ => 0))), (q2, .inl (cy 0, 24, .inl (fun _ => 0))), (q3, .inl (cy 0, 24, .inl (fun _ => 0)))]) := by
  refine b_met (by decide +kernel) rfl (by decide) ?_
  intro p e s m args below meth c Z A ls hC hW hL hret
  refine b_aload hC hL dX0_init_0 rfl rfl ?_
  refine b_obj hC hL oi_X0 oi_1 oi_2 dX0_init_1 (Nat.le_of_ble_eq_true rfl) (Nat.le_of_ble_eq_true rfl) ?_
  refine b_aload hC hL dX0_init_4 rfl rfl ?_
  refine lv_bipush (v := 24) hC.1 hC.2.1 dX0_init_5 (by decide) ?_
  refine b_newi 24 (by decide) rfl hC hW dX0_init_7 ac_i (Nat.le_of_ble_eq_true rfl) (Nat.le_of_ble_eq_true rfl) (fun q1 H hW => ?_)
  have hW : b_W s A dC dI [(h, .inr (0, [.null, .null, .null, .int 0])), (q1, .inl (cy 0, 24, .inl (fun _ => 0)))] H _ := hW
  refine b_putF (ty := (.array .int)) 0 rfl hC hW fl_X0_9 rfl rfl rfl (by decide +kernel) rfl rfl (by decide) lk_X0_9 dX0_init_9 (fun H locs hW => ?_)
  have hW : b_W s A dC dI [(h, .inr (0, [.ref q1, .null, .null, .int 0])), (q1, .inl (cy 0, 24, .inl (fun _ => 0)))] H _ := hW
  refine b_aload hC hL dX0_init_12 rfl rfl ?_
  refine lv_bipush (v := 24) hC.1 hC.2.1 dX0_init_13 (by decide) ?_
  refine b_newi 24 (by decide) rfl hC hW dX0_init_15 ac_i (Nat.le_of_ble_eq_true rfl) (Nat.le_of_ble_eq_true rfl) (fun q2 H hW => ?_)
  have hW : b_W s A dC dI [(h, .inr (0, [.ref q1, .null, .null, .int 0])), (q1, .inl (cy 0, 24, .inl (fun _ => 0))), (q2, .inl (cy 0, 24, .inl (fun _ => 0)))] H _ := hW
  refine b_putF (ty := (.array .int)) 0 rfl hC hW fl_X0_15 rfl rfl rfl (by decide +kernel) rfl rfl (by decide) lk_X0_15 dX0_init_17 (fun H locs hW => ?_)
  have hW : b_W s A dC dI [(h, .inr (0, [.ref q1, .ref q2, .null, .int 0])), (q1, .inl (cy 0, 24, .inl (fun _ => 0))), (q2, .inl (cy 0, 24, .inl (fun _ => 0)))] H _ := hW
  refine b_aload hC hL dX0_init_20 rfl rfl ?_
  refine lv_bipush (v := 24) hC.1 hC.2.1 dX0_init_21 (by decide) ?_
  refine b_newi 24 (by decide) rfl hC hW dX0_init_23 ac_i (Nat.le_of_ble_eq_true rfl) (Nat.le_of_ble_eq_true rfl) (fun q3 H hW => ?_)
  have hW : b_W s A dC dI [(h, .inr (0, [.ref q1, .ref q2, .null, .int 0])), (q1, .inl (cy 0, 24, .inl (fun _ => 0))), (q2, .inl (cy 0, 24, .inl (fun _ => 0))), (q3, .inl (cy 0, 24, .inl (fun _ => 0)))] H _ := hW
  refine b_putF (ty := (.array .int)) 0 rfl hC hW fl_X0_18 rfl rfl rfl (by decide +kernel) rfl rfl (by decide) lk_X0_18 dX0_init_25 (fun H locs hW => ?_)
  have hW : b_W s A dC dI [(h, .inr (0, [.ref q1, .ref q2, .ref q3, .int 0])), (q1, .inl (cy 0, 24, .inl (fun _ => 0))), (q2, .inl (cy 0, 24, .inl (fun _ => 0))), (q3, .inl (cy 0, 24, .inl (fun _ => 0)))] H _ := hW
  exact hret _ _ _ _ _ _ _ (Nat.le_of_ble_eq_true rfl) (Nat.le_of_ble_eq_true rfl) hW ⟨q1, q2, q3, rfl⟩ dX0_init_28
set_option maxHeartbeats 4000000 in
theorem k_X1 (l : Launch) (dC : Nat → ClassId) (dI : Nat → Nat → Nat) (cy : Nat → ClassId) (h sz : Nat) : b_K l dC dI cy 2 9 52 yX1_init cX1_init 2 h sz (.inr (1, [.null, .null, .int 0, .int 0, .int 0, .int 0, .int 0, .int 0, .int 0, .int 0, .int 0, .int 0])) (fun X => ∃ q1 q2 q3 q4 q5 q6 q7 q8 q9, X = [(h, .inr (1, [.ref q1, .ref q2, .int 0, .int 0, .int 0, .int 0, .int 0, .int 0, .int 0, .int 0, .int 0, .int 0])), (q1, .inl (cy (2 + 0), b_q 6 (va_up (va_up (va_up (va_up (va_up (va_up (fun _ => none) 0 (some q4)) 1 (some q5)) 2 (some q6)) 3 (some q7)) 4 (some q8)) 5 (some q9)))), (q2, .inr (3, [.ref q3, .int 0, .int 0, .int 0, .int 0, .int 0])), (q3, .inl (cy 0, 10, .inl (fun _ => 0))), (q4, .inr (2, [.int 0, .int 0, .int 0, .int 0, .int 0])), (q5, .inr (2, [.int 0, .int 0, .int 0, .int 0, .int 0])), (q6, .inr (2, [.int 0, .int 0, .int 0, .int 0, .int 0])), (q7, .inr (2, [.int 0, .int 0, .int 0, .int 0, .int 0])), (q8, .inr (2, [.int 0, .int 0, .int 0, .int 0, .int 0])), (q9, .inr (2, [.int 0, .int 0, .int 0, .int 0, .int 0]))]) := by
  refine b_met (by decide +kernel) rfl (by decide) ?_
  intro p e s m args below meth c Z A ls hC hW hL hret
  refine b_aload hC hL dX1_init_0 rfl rfl ?_
  refine b_obj hC hL oi_X1 oi_1 oi_2 dX1_init_1 (Nat.le_of_ble_eq_true rfl) (Nat.le_of_ble_eq_true rfl) ?_
  refine b_aload hC hL dX1_init_4 rfl rfl ?_
  refine lv_bipush (v := 6) hC.1 hC.2.1 dX1_init_5 (by decide) ?_
  refine b_newq 0 rfl (by decide) 6 (by decide) rfl hC hW cl_X1_9 dX1_init_7 (Nat.le_of_ble_eq_true rfl) (Nat.le_of_ble_eq_true rfl) (fun q1 H hW => ?_)
  have hW : b_W s A dC dI [(h, .inr (1, [.null, .null, .int 0, .int 0, .int 0, .int 0, .int 0, .int 0, .int 0, .int 0, .int 0, .int 0])), (q1, .inl (cy (2 + 0), b_q 6 (fun _ => none)))] H _ := hW
  refine b_putF (ty := (.array (.object "SaintHill$House"))) 0 rfl hC hW fl_X1_11 rfl rfl rfl (by decide +kernel) rfl rfl (by decide) lk_X1_11 dX1_init_10 (fun H locs hW => ?_)
  have hW : b_W s A dC dI [(h, .inr (1, [.ref q1, .null, .int 0, .int 0, .int 0, .int 0, .int 0, .int 0, .int 0, .int 0, .int 0, .int 0])), (q1, .inl (cy (2 + 0), b_q 6 (fun _ => none)))] H _ := hW
  refine b_aload hC hL dX1_init_13 rfl rfl ?_
  refine b_new (t := 3) (by decide) hC hW cl_X1_17 is_X3 ii_X3 df_3 dX1_init_14 (Nat.le_of_ble_eq_true rfl) (Nat.le_of_ble_eq_true rfl) (fun q2 H hW => ?_)
  refine lv_dup hC.1 hC.2.1 dX1_init_17 rfl ?_
  refine b_call (fun sz => k_X3 l dC dI cy q2 sz) bo_X3_init ml_X1_19 hC hL hW ⟨(Nat.le_of_ble_eq_true rfl), (Nat.le_of_ble_eq_true rfl)⟩ ⟨(Nat.le_of_ble_eq_true rfl), (Nat.le_of_ble_eq_true rfl)⟩ (Nat.le_of_ble_eq_true rfl) dX1_init_18 (fun w1 H locs hq hW => ?_)
  obtain ⟨q3, rfl⟩ := hq
  have hW : b_W s A dC dI [(h, .inr (1, [.ref q1, .null, .int 0, .int 0, .int 0, .int 0, .int 0, .int 0, .int 0, .int 0, .int 0, .int 0])), (q1, .inl (cy (2 + 0), b_q 6 (fun _ => none))), (q2, .inr (3, [.ref q3, .int 0, .int 0, .int 0, .int 0, .int 0])), (q3, .inl (cy 0, 10, .inl (fun _ => 0)))] H _ := hW
  refine b_putF (ty := (.object "SaintHill$Roll")) 0 rfl hC hW fl_X1_20 rfl rfl rfl (by decide +kernel) rfl rfl (by decide) lk_X1_20 dX1_init_21 (fun H locs hW => ?_)
  have hW : b_W s A dC dI [(h, .inr (1, [.ref q1, .ref q2, .int 0, .int 0, .int 0, .int 0, .int 0, .int 0, .int 0, .int 0, .int 0, .int 0])), (q1, .inl (cy (2 + 0), b_q 6 (fun _ => none))), (q2, .inr (3, [.ref q3, .int 0, .int 0, .int 0, .int 0, .int 0])), (q3, .inl (cy 0, 10, .inl (fun _ => 0)))] H _ := hW
  refine lv_iconst (v := 0) hC.1 hC.2.1 dX1_init_24 (by decide) ?_
  refine b_istore hC hL dX1_init_25 rfl (by decide) rfl rfl (fun ls hL => ?_)
  refine b_iload hC hL dX1_init_26 rfl rfl ?_
  refine lv_bipush (v := 6) hC.1 hC.2.1 dX1_init_27 (by decide) ?_
  refine lv_icmp_ge (t := 51) hC.1 hC.2.1 dX1_init_29 (by decide) (fun h => absurd h (by decide)) (fun _ => ?_)
  refine b_aload hC hL dX1_init_32 rfl rfl ?_
  refine b_get 0 hC hW fl_X1_11 rfl rfl lk_X1_11 dX1_init_33 ?_
  refine b_iload hC hL dX1_init_36 rfl rfl ?_
  refine b_new (t := 2) (by decide) hC hW cl_X1_9 is_X2 ii_X2 df_2 dX1_init_37 (Nat.le_of_ble_eq_true rfl) (Nat.le_of_ble_eq_true rfl) (fun q4 H hW => ?_)
  refine lv_dup hC.1 hC.2.1 dX1_init_40 rfl ?_
  refine b_call (fun sz => k_X2 l dC dI cy q4 sz) bo_X2_init ml_X1_24 hC hL hW ⟨(Nat.le_of_ble_eq_true rfl), (Nat.le_of_ble_eq_true rfl)⟩ ⟨(Nat.le_of_ble_eq_true rfl), (Nat.le_of_ble_eq_true rfl)⟩ (Nat.le_of_ble_eq_true rfl) dX1_init_41 (fun w1 H locs hq hW => ?_)
  subst hq
  have hW : b_W s A dC dI [(h, .inr (1, [.ref q1, .ref q2, .int 0, .int 0, .int 0, .int 0, .int 0, .int 0, .int 0, .int 0, .int 0, .int 0])), (q1, .inl (cy (2 + 0), b_q 6 (fun _ => none))), (q2, .inr (3, [.ref q3, .int 0, .int 0, .int 0, .int 0, .int 0])), (q3, .inl (cy 0, 10, .inl (fun _ => 0))), (q4, .inr (2, [.int 0, .int 0, .int 0, .int 0, .int 0]))] H _ := hW
  refine b_astq 1 0 4 0 hC hW rfl rfl (by decide) rfl rfl (by decide) (by decide) dX1_init_44 (fun H locs hW => ?_)
  have hW : b_W s A dC dI [(h, .inr (1, [.ref q1, .ref q2, .int 0, .int 0, .int 0, .int 0, .int 0, .int 0, .int 0, .int 0, .int 0, .int 0])), (q1, .inl (cy (2 + 0), b_q 6 (va_up (fun _ => none) 0 (some q4)))), (q2, .inr (3, [.ref q3, .int 0, .int 0, .int 0, .int 0, .int 0])), (q3, .inl (cy 0, 10, .inl (fun _ => 0))), (q4, .inr (2, [.int 0, .int 0, .int 0, .int 0, .int 0]))] H _ := hW
  refine b_iinc (v := 1) hC hL dX1_init_45 (by decide) rfl rfl (by decide) rfl (fun ls hL => ?_)
  refine lv_goto (t := 26) hC.1 hC.2.1 dX1_init_48 (by decide) ?_
  refine b_iload hC hL dX1_init_26 rfl rfl ?_
  refine lv_bipush (v := 6) hC.1 hC.2.1 dX1_init_27 (by decide) ?_
  refine lv_icmp_ge (t := 51) hC.1 hC.2.1 dX1_init_29 (by decide) (fun h => absurd h (by decide)) (fun _ => ?_)
  refine b_aload hC hL dX1_init_32 rfl rfl ?_
  refine b_get 0 hC hW fl_X1_11 rfl rfl lk_X1_11 dX1_init_33 ?_
  refine b_iload hC hL dX1_init_36 rfl rfl ?_
  refine b_new (t := 2) (by decide) hC hW cl_X1_9 is_X2 ii_X2 df_2 dX1_init_37 (Nat.le_of_ble_eq_true rfl) (Nat.le_of_ble_eq_true rfl) (fun q5 H hW => ?_)
  refine lv_dup hC.1 hC.2.1 dX1_init_40 rfl ?_
  refine b_call (fun sz => k_X2 l dC dI cy q5 sz) bo_X2_init ml_X1_24 hC hL hW ⟨(Nat.le_of_ble_eq_true rfl), (Nat.le_of_ble_eq_true rfl)⟩ ⟨(Nat.le_of_ble_eq_true rfl), (Nat.le_of_ble_eq_true rfl)⟩ (Nat.le_of_ble_eq_true rfl) dX1_init_41 (fun w1 H locs hq hW => ?_)
  subst hq
  have hW : b_W s A dC dI [(h, .inr (1, [.ref q1, .ref q2, .int 0, .int 0, .int 0, .int 0, .int 0, .int 0, .int 0, .int 0, .int 0, .int 0])), (q1, .inl (cy (2 + 0), b_q 6 (va_up (fun _ => none) 0 (some q4)))), (q2, .inr (3, [.ref q3, .int 0, .int 0, .int 0, .int 0, .int 0])), (q3, .inl (cy 0, 10, .inl (fun _ => 0))), (q4, .inr (2, [.int 0, .int 0, .int 0, .int 0, .int 0])), (q5, .inr (2, [.int 0, .int 0, .int 0, .int 0, .int 0]))] H _ := hW
  refine b_astq 1 0 5 1 hC hW rfl rfl (by decide) rfl rfl (by decide) (by decide) dX1_init_44 (fun H locs hW => ?_)
  have hW : b_W s A dC dI [(h, .inr (1, [.ref q1, .ref q2, .int 0, .int 0, .int 0, .int 0, .int 0, .int 0, .int 0, .int 0, .int 0, .int 0])), (q1, .inl (cy (2 + 0), b_q 6 (va_up (va_up (fun _ => none) 0 (some q4)) 1 (some q5)))), (q2, .inr (3, [.ref q3, .int 0, .int 0, .int 0, .int 0, .int 0])), (q3, .inl (cy 0, 10, .inl (fun _ => 0))), (q4, .inr (2, [.int 0, .int 0, .int 0, .int 0, .int 0])), (q5, .inr (2, [.int 0, .int 0, .int 0, .int 0, .int 0]))] H _ := hW
  refine b_iinc (v := 2) hC hL dX1_init_45 (by decide) rfl rfl (by decide) rfl (fun ls hL => ?_)
  refine lv_goto (t := 26) hC.1 hC.2.1 dX1_init_48 (by decide) ?_
  refine b_iload hC hL dX1_init_26 rfl rfl ?_
  refine lv_bipush (v := 6) hC.1 hC.2.1 dX1_init_27 (by decide) ?_
  refine lv_icmp_ge (t := 51) hC.1 hC.2.1 dX1_init_29 (by decide) (fun h => absurd h (by decide)) (fun _ => ?_)
  refine b_aload hC hL dX1_init_32 rfl rfl ?_
  refine b_get 0 hC hW fl_X1_11 rfl rfl lk_X1_11 dX1_init_33 ?_
  refine b_iload hC hL dX1_init_36 rfl rfl ?_
  refine b_new (t := 2) (by decide) hC hW cl_X1_9 is_X2 ii_X2 df_2 dX1_init_37 (Nat.le_of_ble_eq_true rfl) (Nat.le_of_ble_eq_true rfl) (fun q6 H hW => ?_)
  refine lv_dup hC.1 hC.2.1 dX1_init_40 rfl ?_
  refine b_call (fun sz => k_X2 l dC dI cy q6 sz) bo_X2_init ml_X1_24 hC hL hW ⟨(Nat.le_of_ble_eq_true rfl), (Nat.le_of_ble_eq_true rfl)⟩ ⟨(Nat.le_of_ble_eq_true rfl), (Nat.le_of_ble_eq_true rfl)⟩ (Nat.le_of_ble_eq_true rfl) dX1_init_41 (fun w1 H locs hq hW => ?_)
  subst hq
  have hW : b_W s A dC dI [(h, .inr (1, [.ref q1, .ref q2, .int 0, .int 0, .int 0, .int 0, .int 0, .int 0, .int 0, .int 0, .int 0, .int 0])), (q1, .inl (cy (2 + 0), b_q 6 (va_up (va_up (fun _ => none) 0 (some q4)) 1 (some q5)))), (q2, .inr (3, [.ref q3, .int 0, .int 0, .int 0, .int 0, .int 0])), (q3, .inl (cy 0, 10, .inl (fun _ => 0))), (q4, .inr (2, [.int 0, .int 0, .int 0, .int 0, .int 0])), (q5, .inr (2, [.int 0, .int 0, .int 0, .int 0, .int 0])), (q6, .inr (2, [.int 0, .int 0, .int 0, .int 0, .int 0]))] H _ := hW
  refine b_astq 1 0 6 2 hC hW rfl rfl (by decide) rfl rfl (by decide) (by decide) dX1_init_44 (fun H locs hW => ?_)
  have hW : b_W s A dC dI [(h, .inr (1, [.ref q1, .ref q2, .int 0, .int 0, .int 0, .int 0, .int 0, .int 0, .int 0, .int 0, .int 0, .int 0])), (q1, .inl (cy (2 + 0), b_q 6 (va_up (va_up (va_up (fun _ => none) 0 (some q4)) 1 (some q5)) 2 (some q6)))), (q2, .inr (3, [.ref q3, .int 0, .int 0, .int 0, .int 0, .int 0])), (q3, .inl (cy 0, 10, .inl (fun _ => 0))), (q4, .inr (2, [.int 0, .int 0, .int 0, .int 0, .int 0])), (q5, .inr (2, [.int 0, .int 0, .int 0, .int 0, .int 0])), (q6, .inr (2, [.int 0, .int 0, .int 0, .int 0, .int 0]))] H _ := hW
  refine b_iinc (v := 3) hC hL dX1_init_45 (by decide) rfl rfl (by decide) rfl (fun ls hL => ?_)
  refine lv_goto (t := 26) hC.1 hC.2.1 dX1_init_48 (by decide) ?_
  refine b_iload hC hL dX1_init_26 rfl rfl ?_
  refine lv_bipush (v := 6) hC.1 hC.2.1 dX1_init_27 (by decide) ?_
  refine lv_icmp_ge (t := 51) hC.1 hC.2.1 dX1_init_29 (by decide) (fun h => absurd h (by decide)) (fun _ => ?_)
  refine b_aload hC hL dX1_init_32 rfl rfl ?_
  refine b_get 0 hC hW fl_X1_11 rfl rfl lk_X1_11 dX1_init_33 ?_
  refine b_iload hC hL dX1_init_36 rfl rfl ?_
  refine b_new (t := 2) (by decide) hC hW cl_X1_9 is_X2 ii_X2 df_2 dX1_init_37 (Nat.le_of_ble_eq_true rfl) (Nat.le_of_ble_eq_true rfl) (fun q7 H hW => ?_)
  refine lv_dup hC.1 hC.2.1 dX1_init_40 rfl ?_
  refine b_call (fun sz => k_X2 l dC dI cy q7 sz) bo_X2_init ml_X1_24 hC hL hW ⟨(Nat.le_of_ble_eq_true rfl), (Nat.le_of_ble_eq_true rfl)⟩ ⟨(Nat.le_of_ble_eq_true rfl), (Nat.le_of_ble_eq_true rfl)⟩ (Nat.le_of_ble_eq_true rfl) dX1_init_41 (fun w1 H locs hq hW => ?_)
  subst hq
  have hW : b_W s A dC dI [(h, .inr (1, [.ref q1, .ref q2, .int 0, .int 0, .int 0, .int 0, .int 0, .int 0, .int 0, .int 0, .int 0, .int 0])), (q1, .inl (cy (2 + 0), b_q 6 (va_up (va_up (va_up (fun _ => none) 0 (some q4)) 1 (some q5)) 2 (some q6)))), (q2, .inr (3, [.ref q3, .int 0, .int 0, .int 0, .int 0, .int 0])), (q3, .inl (cy 0, 10, .inl (fun _ => 0))), (q4, .inr (2, [.int 0, .int 0, .int 0, .int 0, .int 0])), (q5, .inr (2, [.int 0, .int 0, .int 0, .int 0, .int 0])), (q6, .inr (2, [.int 0, .int 0, .int 0, .int 0, .int 0])), (q7, .inr (2, [.int 0, .int 0, .int 0, .int 0, .int 0]))] H _ := hW
  refine b_astq 1 0 7 3 hC hW rfl rfl (by decide) rfl rfl (by decide) (by decide) dX1_init_44 (fun H locs hW => ?_)
  have hW : b_W s A dC dI [(h, .inr (1, [.ref q1, .ref q2, .int 0, .int 0, .int 0, .int 0, .int 0, .int 0, .int 0, .int 0, .int 0, .int 0])), (q1, .inl (cy (2 + 0), b_q 6 (va_up (va_up (va_up (va_up (fun _ => none) 0 (some q4)) 1 (some q5)) 2 (some q6)) 3 (some q7)))), (q2, .inr (3, [.ref q3, .int 0, .int 0, .int 0, .int 0, .int 0])), (q3, .inl (cy 0, 10, .inl (fun _ => 0))), (q4, .inr (2, [.int 0, .int 0, .int 0, .int 0, .int 0])), (q5, .inr (2, [.int 0, .int 0, .int 0, .int 0, .int 0])), (q6, .inr (2, [.int 0, .int 0, .int 0, .int 0, .int 0])), (q7, .inr (2, [.int 0, .int 0, .int 0, .int 0, .int 0]))] H _ := hW
  refine b_iinc (v := 4) hC hL dX1_init_45 (by decide) rfl rfl (by decide) rfl (fun ls hL => ?_)
  refine lv_goto (t := 26) hC.1 hC.2.1 dX1_init_48 (by decide) ?_
  refine b_iload hC hL dX1_init_26 rfl rfl ?_
  refine lv_bipush (v := 6) hC.1 hC.2.1 dX1_init_27 (by decide) ?_
  refine lv_icmp_ge (t := 51) hC.1 hC.2.1 dX1_init_29 (by decide) (fun h => absurd h (by decide)) (fun _ => ?_)
  refine b_aload hC hL dX1_init_32 rfl rfl ?_
  refine b_get 0 hC hW fl_X1_11 rfl rfl lk_X1_11 dX1_init_33 ?_
  refine b_iload hC hL dX1_init_36 rfl rfl ?_
  refine b_new (t := 2) (by decide) hC hW cl_X1_9 is_X2 ii_X2 df_2 dX1_init_37 (Nat.le_of_ble_eq_true rfl) (Nat.le_of_ble_eq_true rfl) (fun q8 H hW => ?_)
  refine lv_dup hC.1 hC.2.1 dX1_init_40 rfl ?_
  refine b_call (fun sz => k_X2 l dC dI cy q8 sz) bo_X2_init ml_X1_24 hC hL hW ⟨(Nat.le_of_ble_eq_true rfl), (Nat.le_of_ble_eq_true rfl)⟩ ⟨(Nat.le_of_ble_eq_true rfl), (Nat.le_of_ble_eq_true rfl)⟩ (Nat.le_of_ble_eq_true rfl) dX1_init_41 (fun w1 H locs hq hW => ?_)
  subst hq
  have hW : b_W s A dC dI [(h, .inr (1, [.ref q1, .ref q2, .int 0, .int 0, .int 0, .int 0, .int 0, .int 0, .int 0, .int 0, .int 0, .int 0])), (q1, .inl (cy (2 + 0), b_q 6 (va_up (va_up (va_up (va_up (fun _ => none) 0 (some q4)) 1 (some q5)) 2 (some q6)) 3 (some q7)))), (q2, .inr (3, [.ref q3, .int 0, .int 0, .int 0, .int 0, .int 0])), (q3, .inl (cy 0, 10, .inl (fun _ => 0))), (q4, .inr (2, [.int 0, .int 0, .int 0, .int 0, .int 0])), (q5, .inr (2, [.int 0, .int 0, .int 0, .int 0, .int 0])), (q6, .inr (2, [.int 0, .int 0, .int 0, .int 0, .int 0])), (q7, .inr (2, [.int 0, .int 0, .int 0, .int 0, .int 0])), (q8, .inr (2, [.int 0, .int 0, .int 0, .int 0, .int 0]))] H _ := hW
  refine b_astq 1 0 8 4 hC hW rfl rfl (by decide) rfl rfl (by decide) (by decide) dX1_init_44 (fun H locs hW => ?_)
  have hW : b_W s A dC dI [(h, .inr (1, [.ref q1, .ref q2, .int 0, .int 0, .int 0, .int 0, .int 0, .int 0, .int 0, .int 0, .int 0, .int 0])), (q1, .inl (cy (2 + 0), b_q 6 (va_up (va_up (va_up (va_up (va_up (fun _ => none) 0 (some q4)) 1 (some q5)) 2 (some q6)) 3 (some q7)) 4 (some q8)))), (q2, .inr (3, [.ref q3, .int 0, .int 0, .int 0, .int 0, .int 0])), (q3, .inl (cy 0, 10, .inl (fun _ => 0))), (q4, .inr (2, [.int 0, .int 0, .int 0, .int 0, .int 0])), (q5, .inr (2, [.int 0, .int 0, .int 0, .int 0, .int 0])), (q6, .inr (2, [.int 0, .int 0, .int 0, .int 0, .int 0])), (q7, .inr (2, [.int 0, .int 0, .int 0, .int 0, .int 0])), (q8, .inr (2, [.int 0, .int 0, .int 0, .int 0, .int 0]))] H _ := hW
  refine b_iinc (v := 5) hC hL dX1_init_45 (by decide) rfl rfl (by decide) rfl (fun ls hL => ?_)
  refine lv_goto (t := 26) hC.1 hC.2.1 dX1_init_48 (by decide) ?_
  refine b_iload hC hL dX1_init_26 rfl rfl ?_
  refine lv_bipush (v := 6) hC.1 hC.2.1 dX1_init_27 (by decide) ?_
  refine lv_icmp_ge (t := 51) hC.1 hC.2.1 dX1_init_29 (by decide) (fun h => absurd h (by decide)) (fun _ => ?_)
  refine b_aload hC hL dX1_init_32 rfl rfl ?_
  refine b_get 0 hC hW fl_X1_11 rfl rfl lk_X1_11 dX1_init_33 ?_
  refine b_iload hC hL dX1_init_36 rfl rfl ?_
  refine b_new (t := 2) (by decide) hC hW cl_X1_9 is_X2 ii_X2 df_2 dX1_init_37 (Nat.le_of_ble_eq_true rfl) (Nat.le_of_ble_eq_true rfl) (fun q9 H hW => ?_)
  refine lv_dup hC.1 hC.2.1 dX1_init_40 rfl ?_
  refine b_call (fun sz => k_X2 l dC dI cy q9 sz) bo_X2_init ml_X1_24 hC hL hW ⟨(Nat.le_of_ble_eq_true rfl), (Nat.le_of_ble_eq_true rfl)⟩ ⟨(Nat.le_of_ble_eq_true rfl), (Nat.le_of_ble_eq_true rfl)⟩ (Nat.le_of_ble_eq_true rfl) dX1_init_41 (fun w1 H locs hq hW => ?_)
  subst hq
  have hW : b_W s A dC dI [(h, .inr (1, [.ref q1, .ref q2, .int 0, .int 0, .int 0, .int 0, .int 0, .int 0, .int 0, .int 0, .int 0, .int 0])), (q1, .inl (cy (2 + 0), b_q 6 (va_up (va_up (va_up (va_up (va_up (fun _ => none) 0 (some q4)) 1 (some q5)) 2 (some q6)) 3 (some q7)) 4 (some q8)))), (q2, .inr (3, [.ref q3, .int 0, .int 0, .int 0, .int 0, .int 0])), (q3, .inl (cy 0, 10, .inl (fun _ => 0))), (q4, .inr (2, [.int 0, .int 0, .int 0, .int 0, .int 0])), (q5, .inr (2, [.int 0, .int 0, .int 0, .int 0, .int 0])), (q6, .inr (2, [.int 0, .int 0, .int 0, .int 0, .int 0])), (q7, .inr (2, [.int 0, .int 0, .int 0, .int 0, .int 0])), (q8, .inr (2, [.int 0, .int 0, .int 0, .int 0, .int 0])), (q9, .inr (2, [.int 0, .int 0, .int 0, .int 0, .int 0]))] H _ := hW
  refine b_astq 1 0 9 5 hC hW rfl rfl (by decide) rfl rfl (by decide) (by decide) dX1_init_44 (fun H locs hW => ?_)
  have hW : b_W s A dC dI [(h, .inr (1, [.ref q1, .ref q2, .int 0, .int 0, .int 0, .int 0, .int 0, .int 0, .int 0, .int 0, .int 0, .int 0])), (q1, .inl (cy (2 + 0), b_q 6 (va_up (va_up (va_up (va_up (va_up (va_up (fun _ => none) 0 (some q4)) 1 (some q5)) 2 (some q6)) 3 (some q7)) 4 (some q8)) 5 (some q9)))), (q2, .inr (3, [.ref q3, .int 0, .int 0, .int 0, .int 0, .int 0])), (q3, .inl (cy 0, 10, .inl (fun _ => 0))), (q4, .inr (2, [.int 0, .int 0, .int 0, .int 0, .int 0])), (q5, .inr (2, [.int 0, .int 0, .int 0, .int 0, .int 0])), (q6, .inr (2, [.int 0, .int 0, .int 0, .int 0, .int 0])), (q7, .inr (2, [.int 0, .int 0, .int 0, .int 0, .int 0])), (q8, .inr (2, [.int 0, .int 0, .int 0, .int 0, .int 0])), (q9, .inr (2, [.int 0, .int 0, .int 0, .int 0, .int 0]))] H _ := hW
  refine b_iinc (v := 6) hC hL dX1_init_45 (by decide) rfl rfl (by decide) rfl (fun ls hL => ?_)
  refine lv_goto (t := 26) hC.1 hC.2.1 dX1_init_48 (by decide) ?_
  refine b_iload hC hL dX1_init_26 rfl rfl ?_
  refine lv_bipush (v := 6) hC.1 hC.2.1 dX1_init_27 (by decide) ?_
  refine lv_icmp_ge (t := 51) hC.1 hC.2.1 dX1_init_29 (by decide) (fun _ => ?_) (fun h => absurd (by decide) h)
  exact hret _ _ _ _ _ _ _ (Nat.le_of_ble_eq_true rfl) (Nat.le_of_ble_eq_true rfl) hW ⟨q1, q2, q3, q4, q5, q6, q7, q8, q9, rfl⟩ dX1_init_51
set_option maxHeartbeats 4000000 in
theorem k_X5 (l : Launch) (dC : Nat → ClassId) (dI : Nat → Nat → Nat) (cy : Nat → ClassId) (h sz : Nat) : b_K l dC dI cy 3 10 64 yX5_init cX5_init 1 h sz (.inr (5, [.null, .int 0])) (fun X => ∃ q1 q2 q3 q4 q5 q6 q7 q8 q9 q10, X = [(h, .inr (5, [.ref q1, .int 0])), (q1, .inr (1, [.ref q2, .ref q3, .int 0, .int 0, .int 0, .int 0, .int 0, .int 0, .int 0, .int 0, .int 0, .int 0])), (q2, .inl (cy (2 + 0), b_q 6 (va_up (va_up (va_up (va_up (va_up (va_up (fun _ => none) 0 (some q5)) 1 (some q6)) 2 (some q7)) 3 (some q8)) 4 (some q9)) 5 (some q10)))), (q3, .inr (3, [.ref q4, .int 0, .int 0, .int 0, .int 0, .int 0])), (q4, .inl (cy 0, 10, .inl (fun _ => 0))), (q5, .inr (2, [.int 0, .int 0, .int 0, .int 0, .int 0])), (q6, .inr (2, [.int 0, .int 0, .int 0, .int 0, .int 0])), (q7, .inr (2, [.int 0, .int 0, .int 0, .int 0, .int 0])), (q8, .inr (2, [.int 0, .int 0, .int 0, .int 0, .int 0])), (q9, .inr (2, [.int 0, .int 0, .int 0, .int 0, .int 0])), (q10, .inr (2, [.int 0, .int 0, .int 0, .int 0, .int 0]))]) := by
  refine b_met (by decide +kernel) rfl (by decide) ?_
  intro p e s m args below meth c Z A ls hC hW hL hret
  refine b_aload hC hL dX5_init_0 rfl rfl ?_
  refine b_obj hC hL oi_X5 oi_1 oi_2 dX5_init_1 (Nat.le_of_ble_eq_true rfl) (Nat.le_of_ble_eq_true rfl) ?_
  refine b_aload hC hL dX5_init_4 rfl rfl ?_
  refine b_new (t := 1) (by decide) hC hW cl_X5_9 is_X1 ii_X1 df_1 dX5_init_5 (Nat.le_of_ble_eq_true rfl) (Nat.le_of_ble_eq_true rfl) (fun q1 H hW => ?_)
  refine lv_dup hC.1 hC.2.1 dX5_init_8 rfl ?_
  refine b_call (fun sz => k_X1 l dC dI cy q1 sz) bo_X1_init ml_X5_11 hC hL hW ⟨(Nat.le_of_ble_eq_true rfl), (Nat.le_of_ble_eq_true rfl)⟩ ⟨(Nat.le_of_ble_eq_true rfl), (Nat.le_of_ble_eq_true rfl)⟩ (Nat.le_of_ble_eq_true rfl) dX5_init_9 (fun w1 H locs hq hW => ?_)
  obtain ⟨q2, q3, q4, q5, q6, q7, q8, q9, q10, rfl⟩ := hq
  have hW : b_W s A dC dI [(h, .inr (5, [.null, .int 0])), (q1, .inr (1, [.ref q2, .ref q3, .int 0, .int 0, .int 0, .int 0, .int 0, .int 0, .int 0, .int 0, .int 0, .int 0])), (q2, .inl (cy (2 + 0), b_q 6 (va_up (va_up (va_up (va_up (va_up (va_up (fun _ => none) 0 (some q5)) 1 (some q6)) 2 (some q7)) 3 (some q8)) 4 (some q9)) 5 (some q10)))), (q3, .inr (3, [.ref q4, .int 0, .int 0, .int 0, .int 0, .int 0])), (q4, .inl (cy 0, 10, .inl (fun _ => 0))), (q5, .inr (2, [.int 0, .int 0, .int 0, .int 0, .int 0])), (q6, .inr (2, [.int 0, .int 0, .int 0, .int 0, .int 0])), (q7, .inr (2, [.int 0, .int 0, .int 0, .int 0, .int 0])), (q8, .inr (2, [.int 0, .int 0, .int 0, .int 0, .int 0])), (q9, .inr (2, [.int 0, .int 0, .int 0, .int 0, .int 0])), (q10, .inr (2, [.int 0, .int 0, .int 0, .int 0, .int 0]))] H _ := hW
  refine b_putF (ty := (.object "SaintHill$Hill")) 0 rfl hC hW fl_X5_12 rfl rfl rfl (by decide +kernel) rfl rfl (by decide) lk_X5_12 dX5_init_12 (fun H locs hW => ?_)
  have hW : b_W s A dC dI [(h, .inr (5, [.ref q1, .int 0])), (q1, .inr (1, [.ref q2, .ref q3, .int 0, .int 0, .int 0, .int 0, .int 0, .int 0, .int 0, .int 0, .int 0, .int 0])), (q2, .inl (cy (2 + 0), b_q 6 (va_up (va_up (va_up (va_up (va_up (va_up (fun _ => none) 0 (some q5)) 1 (some q6)) 2 (some q7)) 3 (some q8)) 4 (some q9)) 5 (some q10)))), (q3, .inr (3, [.ref q4, .int 0, .int 0, .int 0, .int 0, .int 0])), (q4, .inl (cy 0, 10, .inl (fun _ => 0))), (q5, .inr (2, [.int 0, .int 0, .int 0, .int 0, .int 0])), (q6, .inr (2, [.int 0, .int 0, .int 0, .int 0, .int 0])), (q7, .inr (2, [.int 0, .int 0, .int 0, .int 0, .int 0])), (q8, .inr (2, [.int 0, .int 0, .int 0, .int 0, .int 0])), (q9, .inr (2, [.int 0, .int 0, .int 0, .int 0, .int 0])), (q10, .inr (2, [.int 0, .int 0, .int 0, .int 0, .int 0]))] H _ := hW
  exact hret _ _ _ _ _ _ _ (Nat.le_of_ble_eq_true rfl) (Nat.le_of_ble_eq_true rfl) hW ⟨q1, q2, q3, q4, q5, q6, q7, q8, q9, q10, rfl⟩ dX5_init_15
set_option maxHeartbeats 4000000 in
theorem k_X9 (l : Launch) (dC : Nat → ClassId) (dI : Nat → Nat → Nat) (cy : Nat → ClassId) (h sz : Nat) : b_K l dC dI cy 1 14 1588 yX9_init cX9_init 1 h sz (.inr (9, [.null, .int 0, .int 0, .null, .null, .null, .null, .null, .int 0, .int 0, .int 0, .null, .int 0, .int 0, .int 0, .int 0, .null, .null, .null, .null, .int 0, .null, .null, .null])) (fun X => ∃ q1 q2 q3 q4 q5 q6 q7 q8 q9 q10 q11 q12 q13 q14, X = [(h, .inr (9, [.ref q1, .int 0, .int 0, .ref q2, .ref q3, .ref q4, .ref q5, .ref q6, .int 0, .int 0, .int 0, .ref q7, .int 0, .int 0, .int 0, .int 0, .ref q8, .ref q9, .ref q10, .ref q11, .int 0, .ref q12, .ref q13, .ref q14])), (q1, .inl (cy 0, 1092, .inl (fun _ => 0))), (q2, .inl (cy 1, 2, .inl (fun _ => 0))), (q3, .inl (cy 0, 8, .inl (fun _ => 0))), (q4, .inl (cy 0, 8, .inl (upd (upd (upd (upd (upd (upd (upd (upd (fun _ => 0) 0 (-1)) 1 (-1)) 2 (-1)) 3 (-1)) 4 (-1)) 5 (-1)) 6 (-1)) 7 (-1)))), (q5, .inl (cy 0, 320, .inl (fun _ => 0))), (q6, .inl (cy 0, 100, .inl (fun _ => 0))), (q7, .inl (cy 0, 16, .inl (fun _ => 0))), (q8, .inl (cy 0, 6, .inl (upd (upd (upd (upd (upd (upd (fun _ => 0) 0 2) 1 0) 2 0) 3 1) 4 0) 5 1))), (q9, .inl (cy 0, 6, .inl (upd (upd (upd (upd (upd (upd (fun _ => 0) 0 9) 1 6) 2 6) 3 9) 4 2) 5 9))), (q10, .inl (cy 0, 6, .inl (upd (upd (upd (upd (upd (upd (fun _ => 0) 0 0) 1 2) 2 3) 3 4) 4 5) 5 6))), (q11, .inl (cy 0, 10, .inl (fun _ => 0))), (q12, .inl (cy 0, 4, .inl (upd (upd (upd (upd (fun _ => 0) 0 2) 1 3) 2 4) 3 5))), (q13, .inl (cy 0, 4, .inl (upd (upd (upd (upd (fun _ => 0) 0 6) 1 6) 2 9) 3 2))), (q14, .inl (cy 0, 6, .inl (fun _ => 0)))]) := by
  refine b_met (by decide +kernel) rfl (by decide) ?_
  intro p e s m args below meth c Z A ls hC hW hL hret
  refine b_aload hC hL dX9_init_0 rfl rfl ?_
  refine b_obj hC hL oi_X9 oi_1 oi_2 dX9_init_1 (Nat.le_of_ble_eq_true rfl) (Nat.le_of_ble_eq_true rfl) ?_
  refine b_aload hC hL dX9_init_4 rfl rfl ?_
  refine lv_sipush (v := 1092) hC.1 hC.2.1 dX9_init_5 (by decide) ?_
  refine b_newi 1092 (by decide) rfl hC hW dX9_init_8 ac_i (Nat.le_of_ble_eq_true rfl) (Nat.le_of_ble_eq_true rfl) (fun q1 H hW => ?_)
  have hW : b_W s A dC dI [(h, .inr (9, [.null, .int 0, .int 0, .null, .null, .null, .null, .null, .int 0, .int 0, .int 0, .null, .int 0, .int 0, .int 0, .int 0, .null, .null, .null, .null, .int 0, .null, .null, .null])), (q1, .inl (cy 0, 1092, .inl (fun _ => 0)))] H _ := hW
  refine b_putF (ty := (.array .int)) 0 rfl hC hW fl_X9_7 rfl rfl rfl (by decide +kernel) rfl rfl (by decide) lk_X9_7 dX9_init_10 (fun H locs hW => ?_)
  have hW : b_W s A dC dI [(h, .inr (9, [.ref q1, .int 0, .int 0, .null, .null, .null, .null, .null, .int 0, .int 0, .int 0, .null, .int 0, .int 0, .int 0, .int 0, .null, .null, .null, .null, .int 0, .null, .null, .null])), (q1, .inl (cy 0, 1092, .inl (fun _ => 0)))] H _ := hW
  refine b_aload hC hL dX9_init_13 rfl rfl ?_
  refine lv_iconst (v := 2) hC.1 hC.2.1 dX9_init_14 (by decide) ?_
  refine b_newz 2 (by decide) rfl hC hW dX9_init_15 ac_z (Nat.le_of_ble_eq_true rfl) (Nat.le_of_ble_eq_true rfl) (fun q2 H hW => ?_)
  have hW : b_W s A dC dI [(h, .inr (9, [.ref q1, .int 0, .int 0, .null, .null, .null, .null, .null, .int 0, .int 0, .int 0, .null, .int 0, .int 0, .int 0, .int 0, .null, .null, .null, .null, .int 0, .null, .null, .null])), (q1, .inl (cy 0, 1092, .inl (fun _ => 0))), (q2, .inl (cy 1, 2, .inl (fun _ => 0)))] H _ := hW
  refine b_putF (ty := (.array .boolean)) 0 rfl hC hW fl_X9_13 rfl rfl rfl (by decide +kernel) rfl rfl (by decide) lk_X9_13 dX9_init_17 (fun H locs hW => ?_)
  have hW : b_W s A dC dI [(h, .inr (9, [.ref q1, .int 0, .int 0, .ref q2, .null, .null, .null, .null, .int 0, .int 0, .int 0, .null, .int 0, .int 0, .int 0, .int 0, .null, .null, .null, .null, .int 0, .null, .null, .null])), (q1, .inl (cy 0, 1092, .inl (fun _ => 0))), (q2, .inl (cy 1, 2, .inl (fun _ => 0)))] H _ := hW
  refine b_aload hC hL dX9_init_20 rfl rfl ?_
  refine lv_bipush (v := 8) hC.1 hC.2.1 dX9_init_21 (by decide) ?_
  refine b_newi 8 (by decide) rfl hC hW dX9_init_23 ac_i (Nat.le_of_ble_eq_true rfl) (Nat.le_of_ble_eq_true rfl) (fun q3 H hW => ?_)
  have hW : b_W s A dC dI [(h, .inr (9, [.ref q1, .int 0, .int 0, .ref q2, .null, .null, .null, .null, .int 0, .int 0, .int 0, .null, .int 0, .int 0, .int 0, .int 0, .null, .null, .null, .null, .int 0, .null, .null, .null])), (q1, .inl (cy 0, 1092, .inl (fun _ => 0))), (q2, .inl (cy 1, 2, .inl (fun _ => 0))), (q3, .inl (cy 0, 8, .inl (fun _ => 0)))] H _ := hW
  refine b_putF (ty := (.array .int)) 0 rfl hC hW fl_X9_17 rfl rfl rfl (by decide +kernel) rfl rfl (by decide) lk_X9_17 dX9_init_25 (fun H locs hW => ?_)
  have hW : b_W s A dC dI [(h, .inr (9, [.ref q1, .int 0, .int 0, .ref q2, .ref q3, .null, .null, .null, .int 0, .int 0, .int 0, .null, .int 0, .int 0, .int 0, .int 0, .null, .null, .null, .null, .int 0, .null, .null, .null])), (q1, .inl (cy 0, 1092, .inl (fun _ => 0))), (q2, .inl (cy 1, 2, .inl (fun _ => 0))), (q3, .inl (cy 0, 8, .inl (fun _ => 0)))] H _ := hW
  refine b_aload hC hL dX9_init_28 rfl rfl ?_
  refine lv_bipush (v := 8) hC.1 hC.2.1 dX9_init_29 (by decide) ?_
  refine b_newi 8 (by decide) rfl hC hW dX9_init_31 ac_i (Nat.le_of_ble_eq_true rfl) (Nat.le_of_ble_eq_true rfl) (fun q4 H hW => ?_)
  have hW : b_W s A dC dI [(h, .inr (9, [.ref q1, .int 0, .int 0, .ref q2, .ref q3, .null, .null, .null, .int 0, .int 0, .int 0, .null, .int 0, .int 0, .int 0, .int 0, .null, .null, .null, .null, .int 0, .null, .null, .null])), (q1, .inl (cy 0, 1092, .inl (fun _ => 0))), (q2, .inl (cy 1, 2, .inl (fun _ => 0))), (q3, .inl (cy 0, 8, .inl (fun _ => 0))), (q4, .inl (cy 0, 8, .inl (fun _ => 0)))] H _ := hW
  refine lv_dup hC.1 hC.2.1 dX9_init_33 rfl ?_
  refine lv_iconst (v := 0) hC.1 hC.2.1 dX9_init_34 (by decide) ?_
  refine lv_iconst (v := -1) hC.1 hC.2.1 dX9_init_35 (by decide) ?_
  refine b_iast 4 0 hC hW rfl rfl (by decide) (by decide) dX9_init_36 (fun H locs hW => ?_)
  have hW : b_W s A dC dI [(h, .inr (9, [.ref q1, .int 0, .int 0, .ref q2, .ref q3, .null, .null, .null, .int 0, .int 0, .int 0, .null, .int 0, .int 0, .int 0, .int 0, .null, .null, .null, .null, .int 0, .null, .null, .null])), (q1, .inl (cy 0, 1092, .inl (fun _ => 0))), (q2, .inl (cy 1, 2, .inl (fun _ => 0))), (q3, .inl (cy 0, 8, .inl (fun _ => 0))), (q4, .inl (cy 0, 8, .inl (upd (fun _ => 0) 0 (-1))))] H _ := hW
  refine lv_dup hC.1 hC.2.1 dX9_init_37 rfl ?_
  refine lv_iconst (v := 1) hC.1 hC.2.1 dX9_init_38 (by decide) ?_
  refine lv_iconst (v := -1) hC.1 hC.2.1 dX9_init_39 (by decide) ?_
  refine b_iast 4 1 hC hW rfl rfl (by decide) (by decide) dX9_init_40 (fun H locs hW => ?_)
  have hW : b_W s A dC dI [(h, .inr (9, [.ref q1, .int 0, .int 0, .ref q2, .ref q3, .null, .null, .null, .int 0, .int 0, .int 0, .null, .int 0, .int 0, .int 0, .int 0, .null, .null, .null, .null, .int 0, .null, .null, .null])), (q1, .inl (cy 0, 1092, .inl (fun _ => 0))), (q2, .inl (cy 1, 2, .inl (fun _ => 0))), (q3, .inl (cy 0, 8, .inl (fun _ => 0))), (q4, .inl (cy 0, 8, .inl (upd (upd (fun _ => 0) 0 (-1)) 1 (-1))))] H _ := hW
  refine lv_dup hC.1 hC.2.1 dX9_init_41 rfl ?_
  refine lv_iconst (v := 2) hC.1 hC.2.1 dX9_init_42 (by decide) ?_
  refine lv_iconst (v := -1) hC.1 hC.2.1 dX9_init_43 (by decide) ?_
  refine b_iast 4 2 hC hW rfl rfl (by decide) (by decide) dX9_init_44 (fun H locs hW => ?_)
  have hW : b_W s A dC dI [(h, .inr (9, [.ref q1, .int 0, .int 0, .ref q2, .ref q3, .null, .null, .null, .int 0, .int 0, .int 0, .null, .int 0, .int 0, .int 0, .int 0, .null, .null, .null, .null, .int 0, .null, .null, .null])), (q1, .inl (cy 0, 1092, .inl (fun _ => 0))), (q2, .inl (cy 1, 2, .inl (fun _ => 0))), (q3, .inl (cy 0, 8, .inl (fun _ => 0))), (q4, .inl (cy 0, 8, .inl (upd (upd (upd (fun _ => 0) 0 (-1)) 1 (-1)) 2 (-1))))] H _ := hW
  refine lv_dup hC.1 hC.2.1 dX9_init_45 rfl ?_
  refine lv_iconst (v := 3) hC.1 hC.2.1 dX9_init_46 (by decide) ?_
  refine lv_iconst (v := -1) hC.1 hC.2.1 dX9_init_47 (by decide) ?_
  refine b_iast 4 3 hC hW rfl rfl (by decide) (by decide) dX9_init_48 (fun H locs hW => ?_)
  have hW : b_W s A dC dI [(h, .inr (9, [.ref q1, .int 0, .int 0, .ref q2, .ref q3, .null, .null, .null, .int 0, .int 0, .int 0, .null, .int 0, .int 0, .int 0, .int 0, .null, .null, .null, .null, .int 0, .null, .null, .null])), (q1, .inl (cy 0, 1092, .inl (fun _ => 0))), (q2, .inl (cy 1, 2, .inl (fun _ => 0))), (q3, .inl (cy 0, 8, .inl (fun _ => 0))), (q4, .inl (cy 0, 8, .inl (upd (upd (upd (upd (fun _ => 0) 0 (-1)) 1 (-1)) 2 (-1)) 3 (-1))))] H _ := hW
  refine lv_dup hC.1 hC.2.1 dX9_init_49 rfl ?_
  refine lv_iconst (v := 4) hC.1 hC.2.1 dX9_init_50 (by decide) ?_
  refine lv_iconst (v := -1) hC.1 hC.2.1 dX9_init_51 (by decide) ?_
  refine b_iast 4 4 hC hW rfl rfl (by decide) (by decide) dX9_init_52 (fun H locs hW => ?_)
  have hW : b_W s A dC dI [(h, .inr (9, [.ref q1, .int 0, .int 0, .ref q2, .ref q3, .null, .null, .null, .int 0, .int 0, .int 0, .null, .int 0, .int 0, .int 0, .int 0, .null, .null, .null, .null, .int 0, .null, .null, .null])), (q1, .inl (cy 0, 1092, .inl (fun _ => 0))), (q2, .inl (cy 1, 2, .inl (fun _ => 0))), (q3, .inl (cy 0, 8, .inl (fun _ => 0))), (q4, .inl (cy 0, 8, .inl (upd (upd (upd (upd (upd (fun _ => 0) 0 (-1)) 1 (-1)) 2 (-1)) 3 (-1)) 4 (-1))))] H _ := hW
  refine lv_dup hC.1 hC.2.1 dX9_init_53 rfl ?_
  refine lv_iconst (v := 5) hC.1 hC.2.1 dX9_init_54 (by decide) ?_
  refine lv_iconst (v := -1) hC.1 hC.2.1 dX9_init_55 (by decide) ?_
  refine b_iast 4 5 hC hW rfl rfl (by decide) (by decide) dX9_init_56 (fun H locs hW => ?_)
  have hW : b_W s A dC dI [(h, .inr (9, [.ref q1, .int 0, .int 0, .ref q2, .ref q3, .null, .null, .null, .int 0, .int 0, .int 0, .null, .int 0, .int 0, .int 0, .int 0, .null, .null, .null, .null, .int 0, .null, .null, .null])), (q1, .inl (cy 0, 1092, .inl (fun _ => 0))), (q2, .inl (cy 1, 2, .inl (fun _ => 0))), (q3, .inl (cy 0, 8, .inl (fun _ => 0))), (q4, .inl (cy 0, 8, .inl (upd (upd (upd (upd (upd (upd (fun _ => 0) 0 (-1)) 1 (-1)) 2 (-1)) 3 (-1)) 4 (-1)) 5 (-1))))] H _ := hW
  refine lv_dup hC.1 hC.2.1 dX9_init_57 rfl ?_
  refine lv_bipush (v := 6) hC.1 hC.2.1 dX9_init_58 (by decide) ?_
  refine lv_iconst (v := -1) hC.1 hC.2.1 dX9_init_60 (by decide) ?_
  refine b_iast 4 6 hC hW rfl rfl (by decide) (by decide) dX9_init_61 (fun H locs hW => ?_)
  have hW : b_W s A dC dI [(h, .inr (9, [.ref q1, .int 0, .int 0, .ref q2, .ref q3, .null, .null, .null, .int 0, .int 0, .int 0, .null, .int 0, .int 0, .int 0, .int 0, .null, .null, .null, .null, .int 0, .null, .null, .null])), (q1, .inl (cy 0, 1092, .inl (fun _ => 0))), (q2, .inl (cy 1, 2, .inl (fun _ => 0))), (q3, .inl (cy 0, 8, .inl (fun _ => 0))), (q4, .inl (cy 0, 8, .inl (upd (upd (upd (upd (upd (upd (upd (fun _ => 0) 0 (-1)) 1 (-1)) 2 (-1)) 3 (-1)) 4 (-1)) 5 (-1)) 6 (-1))))] H _ := hW
  refine lv_dup hC.1 hC.2.1 dX9_init_62 rfl ?_
  refine lv_bipush (v := 7) hC.1 hC.2.1 dX9_init_63 (by decide) ?_
  refine lv_iconst (v := -1) hC.1 hC.2.1 dX9_init_65 (by decide) ?_
  refine b_iast 4 7 hC hW rfl rfl (by decide) (by decide) dX9_init_66 (fun H locs hW => ?_)
  have hW : b_W s A dC dI [(h, .inr (9, [.ref q1, .int 0, .int 0, .ref q2, .ref q3, .null, .null, .null, .int 0, .int 0, .int 0, .null, .int 0, .int 0, .int 0, .int 0, .null, .null, .null, .null, .int 0, .null, .null, .null])), (q1, .inl (cy 0, 1092, .inl (fun _ => 0))), (q2, .inl (cy 1, 2, .inl (fun _ => 0))), (q3, .inl (cy 0, 8, .inl (fun _ => 0))), (q4, .inl (cy 0, 8, .inl (upd (upd (upd (upd (upd (upd (upd (upd (fun _ => 0) 0 (-1)) 1 (-1)) 2 (-1)) 3 (-1)) 4 (-1)) 5 (-1)) 6 (-1)) 7 (-1))))] H _ := hW
  refine b_putF (ty := (.array .int)) 0 rfl hC hW fl_X9_20 rfl rfl rfl (by decide +kernel) rfl rfl (by decide) lk_X9_20 dX9_init_67 (fun H locs hW => ?_)
  have hW : b_W s A dC dI [(h, .inr (9, [.ref q1, .int 0, .int 0, .ref q2, .ref q3, .ref q4, .null, .null, .int 0, .int 0, .int 0, .null, .int 0, .int 0, .int 0, .int 0, .null, .null, .null, .null, .int 0, .null, .null, .null])), (q1, .inl (cy 0, 1092, .inl (fun _ => 0))), (q2, .inl (cy 1, 2, .inl (fun _ => 0))), (q3, .inl (cy 0, 8, .inl (fun _ => 0))), (q4, .inl (cy 0, 8, .inl (upd (upd (upd (upd (upd (upd (upd (upd (fun _ => 0) 0 (-1)) 1 (-1)) 2 (-1)) 3 (-1)) 4 (-1)) 5 (-1)) 6 (-1)) 7 (-1))))] H _ := hW
  refine b_aload hC hL dX9_init_70 rfl rfl ?_
  refine lv_sipush (v := 320) hC.1 hC.2.1 dX9_init_71 (by decide) ?_
  refine b_newi 320 (by decide) rfl hC hW dX9_init_74 ac_i (Nat.le_of_ble_eq_true rfl) (Nat.le_of_ble_eq_true rfl) (fun q5 H hW => ?_)
  have hW : b_W s A dC dI [(h, .inr (9, [.ref q1, .int 0, .int 0, .ref q2, .ref q3, .ref q4, .null, .null, .int 0, .int 0, .int 0, .null, .int 0, .int 0, .int 0, .int 0, .null, .null, .null, .null, .int 0, .null, .null, .null])), (q1, .inl (cy 0, 1092, .inl (fun _ => 0))), (q2, .inl (cy 1, 2, .inl (fun _ => 0))), (q3, .inl (cy 0, 8, .inl (fun _ => 0))), (q4, .inl (cy 0, 8, .inl (upd (upd (upd (upd (upd (upd (upd (upd (fun _ => 0) 0 (-1)) 1 (-1)) 2 (-1)) 3 (-1)) 4 (-1)) 5 (-1)) 6 (-1)) 7 (-1)))), (q5, .inl (cy 0, 320, .inl (fun _ => 0)))] H _ := hW
  refine b_putF (ty := (.array .int)) 0 rfl hC hW fl_X9_23 rfl rfl rfl (by decide +kernel) rfl rfl (by decide) lk_X9_23 dX9_init_76 (fun H locs hW => ?_)
  have hW : b_W s A dC dI [(h, .inr (9, [.ref q1, .int 0, .int 0, .ref q2, .ref q3, .ref q4, .ref q5, .null, .int 0, .int 0, .int 0, .null, .int 0, .int 0, .int 0, .int 0, .null, .null, .null, .null, .int 0, .null, .null, .null])), (q1, .inl (cy 0, 1092, .inl (fun _ => 0))), (q2, .inl (cy 1, 2, .inl (fun _ => 0))), (q3, .inl (cy 0, 8, .inl (fun _ => 0))), (q4, .inl (cy 0, 8, .inl (upd (upd (upd (upd (upd (upd (upd (upd (fun _ => 0) 0 (-1)) 1 (-1)) 2 (-1)) 3 (-1)) 4 (-1)) 5 (-1)) 6 (-1)) 7 (-1)))), (q5, .inl (cy 0, 320, .inl (fun _ => 0)))] H _ := hW
  refine b_aload hC hL dX9_init_79 rfl rfl ?_
  refine lv_bipush (v := 100) hC.1 hC.2.1 dX9_init_80 (by decide) ?_
  refine b_newi 100 (by decide) rfl hC hW dX9_init_82 ac_i (Nat.le_of_ble_eq_true rfl) (Nat.le_of_ble_eq_true rfl) (fun q6 H hW => ?_)
  have hW : b_W s A dC dI [(h, .inr (9, [.ref q1, .int 0, .int 0, .ref q2, .ref q3, .ref q4, .ref q5, .null, .int 0, .int 0, .int 0, .null, .int 0, .int 0, .int 0, .int 0, .null, .null, .null, .null, .int 0, .null, .null, .null])), (q1, .inl (cy 0, 1092, .inl (fun _ => 0))), (q2, .inl (cy 1, 2, .inl (fun _ => 0))), (q3, .inl (cy 0, 8, .inl (fun _ => 0))), (q4, .inl (cy 0, 8, .inl (upd (upd (upd (upd (upd (upd (upd (upd (fun _ => 0) 0 (-1)) 1 (-1)) 2 (-1)) 3 (-1)) 4 (-1)) 5 (-1)) 6 (-1)) 7 (-1)))), (q5, .inl (cy 0, 320, .inl (fun _ => 0))), (q6, .inl (cy 0, 100, .inl (fun _ => 0)))] H _ := hW
  refine b_putF (ty := (.array .int)) 0 rfl hC hW fl_X9_26 rfl rfl rfl (by decide +kernel) rfl rfl (by decide) lk_X9_26 dX9_init_84 (fun H locs hW => ?_)
  have hW : b_W s A dC dI [(h, .inr (9, [.ref q1, .int 0, .int 0, .ref q2, .ref q3, .ref q4, .ref q5, .ref q6, .int 0, .int 0, .int 0, .null, .int 0, .int 0, .int 0, .int 0, .null, .null, .null, .null, .int 0, .null, .null, .null])), (q1, .inl (cy 0, 1092, .inl (fun _ => 0))), (q2, .inl (cy 1, 2, .inl (fun _ => 0))), (q3, .inl (cy 0, 8, .inl (fun _ => 0))), (q4, .inl (cy 0, 8, .inl (upd (upd (upd (upd (upd (upd (upd (upd (fun _ => 0) 0 (-1)) 1 (-1)) 2 (-1)) 3 (-1)) 4 (-1)) 5 (-1)) 6 (-1)) 7 (-1)))), (q5, .inl (cy 0, 320, .inl (fun _ => 0))), (q6, .inl (cy 0, 100, .inl (fun _ => 0)))] H _ := hW
  refine b_aload hC hL dX9_init_87 rfl rfl ?_
  refine lv_bipush (v := 16) hC.1 hC.2.1 dX9_init_88 (by decide) ?_
  refine b_newi 16 (by decide) rfl hC hW dX9_init_90 ac_i (Nat.le_of_ble_eq_true rfl) (Nat.le_of_ble_eq_true rfl) (fun q7 H hW => ?_)
  have hW : b_W s A dC dI [(h, .inr (9, [.ref q1, .int 0, .int 0, .ref q2, .ref q3, .ref q4, .ref q5, .ref q6, .int 0, .int 0, .int 0, .null, .int 0, .int 0, .int 0, .int 0, .null, .null, .null, .null, .int 0, .null, .null, .null])), (q1, .inl (cy 0, 1092, .inl (fun _ => 0))), (q2, .inl (cy 1, 2, .inl (fun _ => 0))), (q3, .inl (cy 0, 8, .inl (fun _ => 0))), (q4, .inl (cy 0, 8, .inl (upd (upd (upd (upd (upd (upd (upd (upd (fun _ => 0) 0 (-1)) 1 (-1)) 2 (-1)) 3 (-1)) 4 (-1)) 5 (-1)) 6 (-1)) 7 (-1)))), (q5, .inl (cy 0, 320, .inl (fun _ => 0))), (q6, .inl (cy 0, 100, .inl (fun _ => 0))), (q7, .inl (cy 0, 16, .inl (fun _ => 0)))] H _ := hW
  refine b_putF (ty := (.array .int)) 0 rfl hC hW fl_X9_29 rfl rfl rfl (by decide +kernel) rfl rfl (by decide) lk_X9_29 dX9_init_92 (fun H locs hW => ?_)
  have hW : b_W s A dC dI [(h, .inr (9, [.ref q1, .int 0, .int 0, .ref q2, .ref q3, .ref q4, .ref q5, .ref q6, .int 0, .int 0, .int 0, .ref q7, .int 0, .int 0, .int 0, .int 0, .null, .null, .null, .null, .int 0, .null, .null, .null])), (q1, .inl (cy 0, 1092, .inl (fun _ => 0))), (q2, .inl (cy 1, 2, .inl (fun _ => 0))), (q3, .inl (cy 0, 8, .inl (fun _ => 0))), (q4, .inl (cy 0, 8, .inl (upd (upd (upd (upd (upd (upd (upd (upd (fun _ => 0) 0 (-1)) 1 (-1)) 2 (-1)) 3 (-1)) 4 (-1)) 5 (-1)) 6 (-1)) 7 (-1)))), (q5, .inl (cy 0, 320, .inl (fun _ => 0))), (q6, .inl (cy 0, 100, .inl (fun _ => 0))), (q7, .inl (cy 0, 16, .inl (fun _ => 0)))] H _ := hW
  refine b_aload hC hL dX9_init_95 rfl rfl ?_
  refine lv_bipush (v := 6) hC.1 hC.2.1 dX9_init_96 (by decide) ?_
  refine b_newi 6 (by decide) rfl hC hW dX9_init_98 ac_i (Nat.le_of_ble_eq_true rfl) (Nat.le_of_ble_eq_true rfl) (fun q8 H hW => ?_)
  have hW : b_W s A dC dI [(h, .inr (9, [.ref q1, .int 0, .int 0, .ref q2, .ref q3, .ref q4, .ref q5, .ref q6, .int 0, .int 0, .int 0, .ref q7, .int 0, .int 0, .int 0, .int 0, .null, .null, .null, .null, .int 0, .null, .null, .null])), (q1, .inl (cy 0, 1092, .inl (fun _ => 0))), (q2, .inl (cy 1, 2, .inl (fun _ => 0))), (q3, .inl (cy 0, 8, .inl (fun _ => 0))), (q4, .inl (cy 0, 8, .inl (upd (upd (upd (upd (upd (upd (upd (upd (fun _ => 0) 0 (-1)) 1 (-1)) 2 (-1)) 3 (-1)) 4 (-1)) 5 (-1)) 6 (-1)) 7 (-1)))), (q5, .inl (cy 0, 320, .inl (fun _ => 0))), (q6, .inl (cy 0, 100, .inl (fun _ => 0))), (q7, .inl (cy 0, 16, .inl (fun _ => 0))), (q8, .inl (cy 0, 6, .inl (fun _ => 0)))] H _ := hW
  refine lv_dup hC.1 hC.2.1 dX9_init_100 rfl ?_
  refine lv_iconst (v := 0) hC.1 hC.2.1 dX9_init_101 (by decide) ?_
  refine lv_iconst (v := 2) hC.1 hC.2.1 dX9_init_102 (by decide) ?_
  refine b_iast 8 0 hC hW rfl rfl (by decide) (by decide) dX9_init_103 (fun H locs hW => ?_)
  have hW : b_W s A dC dI [(h, .inr (9, [.ref q1, .int 0, .int 0, .ref q2, .ref q3, .ref q4, .ref q5, .ref q6, .int 0, .int 0, .int 0, .ref q7, .int 0, .int 0, .int 0, .int 0, .null, .null, .null, .null, .int 0, .null, .null, .null])), (q1, .inl (cy 0, 1092, .inl (fun _ => 0))), (q2, .inl (cy 1, 2, .inl (fun _ => 0))), (q3, .inl (cy 0, 8, .inl (fun _ => 0))), (q4, .inl (cy 0, 8, .inl (upd (upd (upd (upd (upd (upd (upd (upd (fun _ => 0) 0 (-1)) 1 (-1)) 2 (-1)) 3 (-1)) 4 (-1)) 5 (-1)) 6 (-1)) 7 (-1)))), (q5, .inl (cy 0, 320, .inl (fun _ => 0))), (q6, .inl (cy 0, 100, .inl (fun _ => 0))), (q7, .inl (cy 0, 16, .inl (fun _ => 0))), (q8, .inl (cy 0, 6, .inl (upd (fun _ => 0) 0 2)))] H _ := hW
  refine lv_dup hC.1 hC.2.1 dX9_init_104 rfl ?_
  refine lv_iconst (v := 1) hC.1 hC.2.1 dX9_init_105 (by decide) ?_
  refine lv_iconst (v := 0) hC.1 hC.2.1 dX9_init_106 (by decide) ?_
  refine b_iast 8 1 hC hW rfl rfl (by decide) (by decide) dX9_init_107 (fun H locs hW => ?_)
  have hW : b_W s A dC dI [(h, .inr (9, [.ref q1, .int 0, .int 0, .ref q2, .ref q3, .ref q4, .ref q5, .ref q6, .int 0, .int 0, .int 0, .ref q7, .int 0, .int 0, .int 0, .int 0, .null, .null, .null, .null, .int 0, .null, .null, .null])), (q1, .inl (cy 0, 1092, .inl (fun _ => 0))), (q2, .inl (cy 1, 2, .inl (fun _ => 0))), (q3, .inl (cy 0, 8, .inl (fun _ => 0))), (q4, .inl (cy 0, 8, .inl (upd (upd (upd (upd (upd (upd (upd (upd (fun _ => 0) 0 (-1)) 1 (-1)) 2 (-1)) 3 (-1)) 4 (-1)) 5 (-1)) 6 (-1)) 7 (-1)))), (q5, .inl (cy 0, 320, .inl (fun _ => 0))), (q6, .inl (cy 0, 100, .inl (fun _ => 0))), (q7, .inl (cy 0, 16, .inl (fun _ => 0))), (q8, .inl (cy 0, 6, .inl (upd (upd (fun _ => 0) 0 2) 1 0)))] H _ := hW
  refine lv_dup hC.1 hC.2.1 dX9_init_108 rfl ?_
  refine lv_iconst (v := 2) hC.1 hC.2.1 dX9_init_109 (by decide) ?_
  refine lv_iconst (v := 0) hC.1 hC.2.1 dX9_init_110 (by decide) ?_
  refine b_iast 8 2 hC hW rfl rfl (by decide) (by decide) dX9_init_111 (fun H locs hW => ?_)
  have hW : b_W s A dC dI [(h, .inr (9, [.ref q1, .int 0, .int 0, .ref q2, .ref q3, .ref q4, .ref q5, .ref q6, .int 0, .int 0, .int 0, .ref q7, .int 0, .int 0, .int 0, .int 0, .null, .null, .null, .null, .int 0, .null, .null, .null])), (q1, .inl (cy 0, 1092, .inl (fun _ => 0))), (q2, .inl (cy 1, 2, .inl (fun _ => 0))), (q3, .inl (cy 0, 8, .inl (fun _ => 0))), (q4, .inl (cy 0, 8, .inl (upd (upd (upd (upd (upd (upd (upd (upd (fun _ => 0) 0 (-1)) 1 (-1)) 2 (-1)) 3 (-1)) 4 (-1)) 5 (-1)) 6 (-1)) 7 (-1)))), (q5, .inl (cy 0, 320, .inl (fun _ => 0))), (q6, .inl (cy 0, 100, .inl (fun _ => 0))), (q7, .inl (cy 0, 16, .inl (fun _ => 0))), (q8, .inl (cy 0, 6, .inl (upd (upd (upd (fun _ => 0) 0 2) 1 0) 2 0)))] H _ := hW
  refine lv_dup hC.1 hC.2.1 dX9_init_112 rfl ?_
  refine lv_iconst (v := 3) hC.1 hC.2.1 dX9_init_113 (by decide) ?_
  refine lv_iconst (v := 1) hC.1 hC.2.1 dX9_init_114 (by decide) ?_
  refine b_iast 8 3 hC hW rfl rfl (by decide) (by decide) dX9_init_115 (fun H locs hW => ?_)
  have hW : b_W s A dC dI [(h, .inr (9, [.ref q1, .int 0, .int 0, .ref q2, .ref q3, .ref q4, .ref q5, .ref q6, .int 0, .int 0, .int 0, .ref q7, .int 0, .int 0, .int 0, .int 0, .null, .null, .null, .null, .int 0, .null, .null, .null])), (q1, .inl (cy 0, 1092, .inl (fun _ => 0))), (q2, .inl (cy 1, 2, .inl (fun _ => 0))), (q3, .inl (cy 0, 8, .inl (fun _ => 0))), (q4, .inl (cy 0, 8, .inl (upd (upd (upd (upd (upd (upd (upd (upd (fun _ => 0) 0 (-1)) 1 (-1)) 2 (-1)) 3 (-1)) 4 (-1)) 5 (-1)) 6 (-1)) 7 (-1)))), (q5, .inl (cy 0, 320, .inl (fun _ => 0))), (q6, .inl (cy 0, 100, .inl (fun _ => 0))), (q7, .inl (cy 0, 16, .inl (fun _ => 0))), (q8, .inl (cy 0, 6, .inl (upd (upd (upd (upd (fun _ => 0) 0 2) 1 0) 2 0) 3 1)))] H _ := hW
  refine lv_dup hC.1 hC.2.1 dX9_init_116 rfl ?_
  refine lv_iconst (v := 4) hC.1 hC.2.1 dX9_init_117 (by decide) ?_
  refine lv_iconst (v := 0) hC.1 hC.2.1 dX9_init_118 (by decide) ?_
  refine b_iast 8 4 hC hW rfl rfl (by decide) (by decide) dX9_init_119 (fun H locs hW => ?_)
  have hW : b_W s A dC dI [(h, .inr (9, [.ref q1, .int 0, .int 0, .ref q2, .ref q3, .ref q4, .ref q5, .ref q6, .int 0, .int 0, .int 0, .ref q7, .int 0, .int 0, .int 0, .int 0, .null, .null, .null, .null, .int 0, .null, .null, .null])), (q1, .inl (cy 0, 1092, .inl (fun _ => 0))), (q2, .inl (cy 1, 2, .inl (fun _ => 0))), (q3, .inl (cy 0, 8, .inl (fun _ => 0))), (q4, .inl (cy 0, 8, .inl (upd (upd (upd (upd (upd (upd (upd (upd (fun _ => 0) 0 (-1)) 1 (-1)) 2 (-1)) 3 (-1)) 4 (-1)) 5 (-1)) 6 (-1)) 7 (-1)))), (q5, .inl (cy 0, 320, .inl (fun _ => 0))), (q6, .inl (cy 0, 100, .inl (fun _ => 0))), (q7, .inl (cy 0, 16, .inl (fun _ => 0))), (q8, .inl (cy 0, 6, .inl (upd (upd (upd (upd (upd (fun _ => 0) 0 2) 1 0) 2 0) 3 1) 4 0)))] H _ := hW
  refine lv_dup hC.1 hC.2.1 dX9_init_120 rfl ?_
  refine lv_iconst (v := 5) hC.1 hC.2.1 dX9_init_121 (by decide) ?_
  refine lv_iconst (v := 1) hC.1 hC.2.1 dX9_init_122 (by decide) ?_
  refine b_iast 8 5 hC hW rfl rfl (by decide) (by decide) dX9_init_123 (fun H locs hW => ?_)
  have hW : b_W s A dC dI [(h, .inr (9, [.ref q1, .int 0, .int 0, .ref q2, .ref q3, .ref q4, .ref q5, .ref q6, .int 0, .int 0, .int 0, .ref q7, .int 0, .int 0, .int 0, .int 0, .null, .null, .null, .null, .int 0, .null, .null, .null])), (q1, .inl (cy 0, 1092, .inl (fun _ => 0))), (q2, .inl (cy 1, 2, .inl (fun _ => 0))), (q3, .inl (cy 0, 8, .inl (fun _ => 0))), (q4, .inl (cy 0, 8, .inl (upd (upd (upd (upd (upd (upd (upd (upd (fun _ => 0) 0 (-1)) 1 (-1)) 2 (-1)) 3 (-1)) 4 (-1)) 5 (-1)) 6 (-1)) 7 (-1)))), (q5, .inl (cy 0, 320, .inl (fun _ => 0))), (q6, .inl (cy 0, 100, .inl (fun _ => 0))), (q7, .inl (cy 0, 16, .inl (fun _ => 0))), (q8, .inl (cy 0, 6, .inl (upd (upd (upd (upd (upd (upd (fun _ => 0) 0 2) 1 0) 2 0) 3 1) 4 0) 5 1)))] H _ := hW
  refine b_putF (ty := (.array .int)) 0 rfl hC hW fl_X9_32 rfl rfl rfl (by decide +kernel) rfl rfl (by decide) lk_X9_32 dX9_init_124 (fun H locs hW => ?_)
  have hW : b_W s A dC dI [(h, .inr (9, [.ref q1, .int 0, .int 0, .ref q2, .ref q3, .ref q4, .ref q5, .ref q6, .int 0, .int 0, .int 0, .ref q7, .int 0, .int 0, .int 0, .int 0, .ref q8, .null, .null, .null, .int 0, .null, .null, .null])), (q1, .inl (cy 0, 1092, .inl (fun _ => 0))), (q2, .inl (cy 1, 2, .inl (fun _ => 0))), (q3, .inl (cy 0, 8, .inl (fun _ => 0))), (q4, .inl (cy 0, 8, .inl (upd (upd (upd (upd (upd (upd (upd (upd (fun _ => 0) 0 (-1)) 1 (-1)) 2 (-1)) 3 (-1)) 4 (-1)) 5 (-1)) 6 (-1)) 7 (-1)))), (q5, .inl (cy 0, 320, .inl (fun _ => 0))), (q6, .inl (cy 0, 100, .inl (fun _ => 0))), (q7, .inl (cy 0, 16, .inl (fun _ => 0))), (q8, .inl (cy 0, 6, .inl (upd (upd (upd (upd (upd (upd (fun _ => 0) 0 2) 1 0) 2 0) 3 1) 4 0) 5 1)))] H _ := hW
  refine b_aload hC hL dX9_init_127 rfl rfl ?_
  refine lv_bipush (v := 6) hC.1 hC.2.1 dX9_init_128 (by decide) ?_
  refine b_newi 6 (by decide) rfl hC hW dX9_init_130 ac_i (Nat.le_of_ble_eq_true rfl) (Nat.le_of_ble_eq_true rfl) (fun q9 H hW => ?_)
  have hW : b_W s A dC dI [(h, .inr (9, [.ref q1, .int 0, .int 0, .ref q2, .ref q3, .ref q4, .ref q5, .ref q6, .int 0, .int 0, .int 0, .ref q7, .int 0, .int 0, .int 0, .int 0, .ref q8, .null, .null, .null, .int 0, .null, .null, .null])), (q1, .inl (cy 0, 1092, .inl (fun _ => 0))), (q2, .inl (cy 1, 2, .inl (fun _ => 0))), (q3, .inl (cy 0, 8, .inl (fun _ => 0))), (q4, .inl (cy 0, 8, .inl (upd (upd (upd (upd (upd (upd (upd (upd (fun _ => 0) 0 (-1)) 1 (-1)) 2 (-1)) 3 (-1)) 4 (-1)) 5 (-1)) 6 (-1)) 7 (-1)))), (q5, .inl (cy 0, 320, .inl (fun _ => 0))), (q6, .inl (cy 0, 100, .inl (fun _ => 0))), (q7, .inl (cy 0, 16, .inl (fun _ => 0))), (q8, .inl (cy 0, 6, .inl (upd (upd (upd (upd (upd (upd (fun _ => 0) 0 2) 1 0) 2 0) 3 1) 4 0) 5 1))), (q9, .inl (cy 0, 6, .inl (fun _ => 0)))] H _ := hW
  refine lv_dup hC.1 hC.2.1 dX9_init_132 rfl ?_
  refine lv_iconst (v := 0) hC.1 hC.2.1 dX9_init_133 (by decide) ?_
  refine lv_bipush (v := 9) hC.1 hC.2.1 dX9_init_134 (by decide) ?_
  refine b_iast 9 0 hC hW rfl rfl (by decide) (by decide) dX9_init_136 (fun H locs hW => ?_)
  have hW : b_W s A dC dI [(h, .inr (9, [.ref q1, .int 0, .int 0, .ref q2, .ref q3, .ref q4, .ref q5, .ref q6, .int 0, .int 0, .int 0, .ref q7, .int 0, .int 0, .int 0, .int 0, .ref q8, .null, .null, .null, .int 0, .null, .null, .null])), (q1, .inl (cy 0, 1092, .inl (fun _ => 0))), (q2, .inl (cy 1, 2, .inl (fun _ => 0))), (q3, .inl (cy 0, 8, .inl (fun _ => 0))), (q4, .inl (cy 0, 8, .inl (upd (upd (upd (upd (upd (upd (upd (upd (fun _ => 0) 0 (-1)) 1 (-1)) 2 (-1)) 3 (-1)) 4 (-1)) 5 (-1)) 6 (-1)) 7 (-1)))), (q5, .inl (cy 0, 320, .inl (fun _ => 0))), (q6, .inl (cy 0, 100, .inl (fun _ => 0))), (q7, .inl (cy 0, 16, .inl (fun _ => 0))), (q8, .inl (cy 0, 6, .inl (upd (upd (upd (upd (upd (upd (fun _ => 0) 0 2) 1 0) 2 0) 3 1) 4 0) 5 1))), (q9, .inl (cy 0, 6, .inl (upd (fun _ => 0) 0 9)))] H _ := hW
  refine lv_dup hC.1 hC.2.1 dX9_init_137 rfl ?_
  refine lv_iconst (v := 1) hC.1 hC.2.1 dX9_init_138 (by decide) ?_
  refine lv_bipush (v := 6) hC.1 hC.2.1 dX9_init_139 (by decide) ?_
  refine b_iast 9 1 hC hW rfl rfl (by decide) (by decide) dX9_init_141 (fun H locs hW => ?_)
  have hW : b_W s A dC dI [(h, .inr (9, [.ref q1, .int 0, .int 0, .ref q2, .ref q3, .ref q4, .ref q5, .ref q6, .int 0, .int 0, .int 0, .ref q7, .int 0, .int 0, .int 0, .int 0, .ref q8, .null, .null, .null, .int 0, .null, .null, .null])), (q1, .inl (cy 0, 1092, .inl (fun _ => 0))), (q2, .inl (cy 1, 2, .inl (fun _ => 0))), (q3, .inl (cy 0, 8, .inl (fun _ => 0))), (q4, .inl (cy 0, 8, .inl (upd (upd (upd (upd (upd (upd (upd (upd (fun _ => 0) 0 (-1)) 1 (-1)) 2 (-1)) 3 (-1)) 4 (-1)) 5 (-1)) 6 (-1)) 7 (-1)))), (q5, .inl (cy 0, 320, .inl (fun _ => 0))), (q6, .inl (cy 0, 100, .inl (fun _ => 0))), (q7, .inl (cy 0, 16, .inl (fun _ => 0))), (q8, .inl (cy 0, 6, .inl (upd (upd (upd (upd (upd (upd (fun _ => 0) 0 2) 1 0) 2 0) 3 1) 4 0) 5 1))), (q9, .inl (cy 0, 6, .inl (upd (upd (fun _ => 0) 0 9) 1 6)))] H _ := hW
  refine lv_dup hC.1 hC.2.1 dX9_init_142 rfl ?_
  refine lv_iconst (v := 2) hC.1 hC.2.1 dX9_init_143 (by decide) ?_
  refine lv_bipush (v := 6) hC.1 hC.2.1 dX9_init_144 (by decide) ?_
  refine b_iast 9 2 hC hW rfl rfl (by decide) (by decide) dX9_init_146 (fun H locs hW => ?_)
  have hW : b_W s A dC dI [(h, .inr (9, [.ref q1, .int 0, .int 0, .ref q2, .ref q3, .ref q4, .ref q5, .ref q6, .int 0, .int 0, .int 0, .ref q7, .int 0, .int 0, .int 0, .int 0, .ref q8, .null, .null, .null, .int 0, .null, .null, .null])), (q1, .inl (cy 0, 1092, .inl (fun _ => 0))), (q2, .inl (cy 1, 2, .inl (fun _ => 0))), (q3, .inl (cy 0, 8, .inl (fun _ => 0))), (q4, .inl (cy 0, 8, .inl (upd (upd (upd (upd (upd (upd (upd (upd (fun _ => 0) 0 (-1)) 1 (-1)) 2 (-1)) 3 (-1)) 4 (-1)) 5 (-1)) 6 (-1)) 7 (-1)))), (q5, .inl (cy 0, 320, .inl (fun _ => 0))), (q6, .inl (cy 0, 100, .inl (fun _ => 0))), (q7, .inl (cy 0, 16, .inl (fun _ => 0))), (q8, .inl (cy 0, 6, .inl (upd (upd (upd (upd (upd (upd (fun _ => 0) 0 2) 1 0) 2 0) 3 1) 4 0) 5 1))), (q9, .inl (cy 0, 6, .inl (upd (upd (upd (fun _ => 0) 0 9) 1 6) 2 6)))] H _ := hW
  refine lv_dup hC.1 hC.2.1 dX9_init_147 rfl ?_
  refine lv_iconst (v := 3) hC.1 hC.2.1 dX9_init_148 (by decide) ?_
  refine lv_bipush (v := 9) hC.1 hC.2.1 dX9_init_149 (by decide) ?_
  refine b_iast 9 3 hC hW rfl rfl (by decide) (by decide) dX9_init_151 (fun H locs hW => ?_)
  have hW : b_W s A dC dI [(h, .inr (9, [.ref q1, .int 0, .int 0, .ref q2, .ref q3, .ref q4, .ref q5, .ref q6, .int 0, .int 0, .int 0, .ref q7, .int 0, .int 0, .int 0, .int 0, .ref q8, .null, .null, .null, .int 0, .null, .null, .null])), (q1, .inl (cy 0, 1092, .inl (fun _ => 0))), (q2, .inl (cy 1, 2, .inl (fun _ => 0))), (q3, .inl (cy 0, 8, .inl (fun _ => 0))), (q4, .inl (cy 0, 8, .inl (upd (upd (upd (upd (upd (upd (upd (upd (fun _ => 0) 0 (-1)) 1 (-1)) 2 (-1)) 3 (-1)) 4 (-1)) 5 (-1)) 6 (-1)) 7 (-1)))), (q5, .inl (cy 0, 320, .inl (fun _ => 0))), (q6, .inl (cy 0, 100, .inl (fun _ => 0))), (q7, .inl (cy 0, 16, .inl (fun _ => 0))), (q8, .inl (cy 0, 6, .inl (upd (upd (upd (upd (upd (upd (fun _ => 0) 0 2) 1 0) 2 0) 3 1) 4 0) 5 1))), (q9, .inl (cy 0, 6, .inl (upd (upd (upd (upd (fun _ => 0) 0 9) 1 6) 2 6) 3 9)))] H _ := hW
  refine lv_dup hC.1 hC.2.1 dX9_init_152 rfl ?_
  refine lv_iconst (v := 4) hC.1 hC.2.1 dX9_init_153 (by decide) ?_
  refine lv_iconst (v := 2) hC.1 hC.2.1 dX9_init_154 (by decide) ?_
  refine b_iast 9 4 hC hW rfl rfl (by decide) (by decide) dX9_init_155 (fun H locs hW => ?_)
  have hW : b_W s A dC dI [(h, .inr (9, [.ref q1, .int 0, .int 0, .ref q2, .ref q3, .ref q4, .ref q5, .ref q6, .int 0, .int 0, .int 0, .ref q7, .int 0, .int 0, .int 0, .int 0, .ref q8, .null, .null, .null, .int 0, .null, .null, .null])), (q1, .inl (cy 0, 1092, .inl (fun _ => 0))), (q2, .inl (cy 1, 2, .inl (fun _ => 0))), (q3, .inl (cy 0, 8, .inl (fun _ => 0))), (q4, .inl (cy 0, 8, .inl (upd (upd (upd (upd (upd (upd (upd (upd (fun _ => 0) 0 (-1)) 1 (-1)) 2 (-1)) 3 (-1)) 4 (-1)) 5 (-1)) 6 (-1)) 7 (-1)))), (q5, .inl (cy 0, 320, .inl (fun _ => 0))), (q6, .inl (cy 0, 100, .inl (fun _ => 0))), (q7, .inl (cy 0, 16, .inl (fun _ => 0))), (q8, .inl (cy 0, 6, .inl (upd (upd (upd (upd (upd (upd (fun _ => 0) 0 2) 1 0) 2 0) 3 1) 4 0) 5 1))), (q9, .inl (cy 0, 6, .inl (upd (upd (upd (upd (upd (fun _ => 0) 0 9) 1 6) 2 6) 3 9) 4 2)))] H _ := hW
  refine lv_dup hC.1 hC.2.1 dX9_init_156 rfl ?_
  refine lv_iconst (v := 5) hC.1 hC.2.1 dX9_init_157 (by decide) ?_
  refine lv_bipush (v := 9) hC.1 hC.2.1 dX9_init_158 (by decide) ?_
  refine b_iast 9 5 hC hW rfl rfl (by decide) (by decide) dX9_init_160 (fun H locs hW => ?_)
  have hW : b_W s A dC dI [(h, .inr (9, [.ref q1, .int 0, .int 0, .ref q2, .ref q3, .ref q4, .ref q5, .ref q6, .int 0, .int 0, .int 0, .ref q7, .int 0, .int 0, .int 0, .int 0, .ref q8, .null, .null, .null, .int 0, .null, .null, .null])), (q1, .inl (cy 0, 1092, .inl (fun _ => 0))), (q2, .inl (cy 1, 2, .inl (fun _ => 0))), (q3, .inl (cy 0, 8, .inl (fun _ => 0))), (q4, .inl (cy 0, 8, .inl (upd (upd (upd (upd (upd (upd (upd (upd (fun _ => 0) 0 (-1)) 1 (-1)) 2 (-1)) 3 (-1)) 4 (-1)) 5 (-1)) 6 (-1)) 7 (-1)))), (q5, .inl (cy 0, 320, .inl (fun _ => 0))), (q6, .inl (cy 0, 100, .inl (fun _ => 0))), (q7, .inl (cy 0, 16, .inl (fun _ => 0))), (q8, .inl (cy 0, 6, .inl (upd (upd (upd (upd (upd (upd (fun _ => 0) 0 2) 1 0) 2 0) 3 1) 4 0) 5 1))), (q9, .inl (cy 0, 6, .inl (upd (upd (upd (upd (upd (upd (fun _ => 0) 0 9) 1 6) 2 6) 3 9) 4 2) 5 9)))] H _ := hW
  refine b_putF (ty := (.array .int)) 0 rfl hC hW fl_X9_35 rfl rfl rfl (by decide +kernel) rfl rfl (by decide) lk_X9_35 dX9_init_161 (fun H locs hW => ?_)
  have hW : b_W s A dC dI [(h, .inr (9, [.ref q1, .int 0, .int 0, .ref q2, .ref q3, .ref q4, .ref q5, .ref q6, .int 0, .int 0, .int 0, .ref q7, .int 0, .int 0, .int 0, .int 0, .ref q8, .ref q9, .null, .null, .int 0, .null, .null, .null])), (q1, .inl (cy 0, 1092, .inl (fun _ => 0))), (q2, .inl (cy 1, 2, .inl (fun _ => 0))), (q3, .inl (cy 0, 8, .inl (fun _ => 0))), (q4, .inl (cy 0, 8, .inl (upd (upd (upd (upd (upd (upd (upd (upd (fun _ => 0) 0 (-1)) 1 (-1)) 2 (-1)) 3 (-1)) 4 (-1)) 5 (-1)) 6 (-1)) 7 (-1)))), (q5, .inl (cy 0, 320, .inl (fun _ => 0))), (q6, .inl (cy 0, 100, .inl (fun _ => 0))), (q7, .inl (cy 0, 16, .inl (fun _ => 0))), (q8, .inl (cy 0, 6, .inl (upd (upd (upd (upd (upd (upd (fun _ => 0) 0 2) 1 0) 2 0) 3 1) 4 0) 5 1))), (q9, .inl (cy 0, 6, .inl (upd (upd (upd (upd (upd (upd (fun _ => 0) 0 9) 1 6) 2 6) 3 9) 4 2) 5 9)))] H _ := hW
  refine b_aload hC hL dX9_init_164 rfl rfl ?_
  refine lv_bipush (v := 6) hC.1 hC.2.1 dX9_init_165 (by decide) ?_
  refine b_newi 6 (by decide) rfl hC hW dX9_init_167 ac_i (Nat.le_of_ble_eq_true rfl) (Nat.le_of_ble_eq_true rfl) (fun q10 H hW => ?_)
  have hW : b_W s A dC dI [(h, .inr (9, [.ref q1, .int 0, .int 0, .ref q2, .ref q3, .ref q4, .ref q5, .ref q6, .int 0, .int 0, .int 0, .ref q7, .int 0, .int 0, .int 0, .int 0, .ref q8, .ref q9, .null, .null, .int 0, .null, .null, .null])), (q1, .inl (cy 0, 1092, .inl (fun _ => 0))), (q2, .inl (cy 1, 2, .inl (fun _ => 0))), (q3, .inl (cy 0, 8, .inl (fun _ => 0))), (q4, .inl (cy 0, 8, .inl (upd (upd (upd (upd (upd (upd (upd (upd (fun _ => 0) 0 (-1)) 1 (-1)) 2 (-1)) 3 (-1)) 4 (-1)) 5 (-1)) 6 (-1)) 7 (-1)))), (q5, .inl (cy 0, 320, .inl (fun _ => 0))), (q6, .inl (cy 0, 100, .inl (fun _ => 0))), (q7, .inl (cy 0, 16, .inl (fun _ => 0))), (q8, .inl (cy 0, 6, .inl (upd (upd (upd (upd (upd (upd (fun _ => 0) 0 2) 1 0) 2 0) 3 1) 4 0) 5 1))), (q9, .inl (cy 0, 6, .inl (upd (upd (upd (upd (upd (upd (fun _ => 0) 0 9) 1 6) 2 6) 3 9) 4 2) 5 9))), (q10, .inl (cy 0, 6, .inl (fun _ => 0)))] H _ := hW
  refine lv_dup hC.1 hC.2.1 dX9_init_169 rfl ?_
  refine lv_iconst (v := 0) hC.1 hC.2.1 dX9_init_170 (by decide) ?_
  refine lv_iconst (v := 0) hC.1 hC.2.1 dX9_init_171 (by decide) ?_
  refine b_iast 10 0 hC hW rfl rfl (by decide) (by decide) dX9_init_172 (fun H locs hW => ?_)
  have hW : b_W s A dC dI [(h, .inr (9, [.ref q1, .int 0, .int 0, .ref q2, .ref q3, .ref q4, .ref q5, .ref q6, .int 0, .int 0, .int 0, .ref q7, .int 0, .int 0, .int 0, .int 0, .ref q8, .ref q9, .null, .null, .int 0, .null, .null, .null])), (q1, .inl (cy 0, 1092, .inl (fun _ => 0))), (q2, .inl (cy 1, 2, .inl (fun _ => 0))), (q3, .inl (cy 0, 8, .inl (fun _ => 0))), (q4, .inl (cy 0, 8, .inl (upd (upd (upd (upd (upd (upd (upd (upd (fun _ => 0) 0 (-1)) 1 (-1)) 2 (-1)) 3 (-1)) 4 (-1)) 5 (-1)) 6 (-1)) 7 (-1)))), (q5, .inl (cy 0, 320, .inl (fun _ => 0))), (q6, .inl (cy 0, 100, .inl (fun _ => 0))), (q7, .inl (cy 0, 16, .inl (fun _ => 0))), (q8, .inl (cy 0, 6, .inl (upd (upd (upd (upd (upd (upd (fun _ => 0) 0 2) 1 0) 2 0) 3 1) 4 0) 5 1))), (q9, .inl (cy 0, 6, .inl (upd (upd (upd (upd (upd (upd (fun _ => 0) 0 9) 1 6) 2 6) 3 9) 4 2) 5 9))), (q10, .inl (cy 0, 6, .inl (upd (fun _ => 0) 0 0)))] H _ := hW
  refine lv_dup hC.1 hC.2.1 dX9_init_173 rfl ?_
  refine lv_iconst (v := 1) hC.1 hC.2.1 dX9_init_174 (by decide) ?_
  refine lv_iconst (v := 2) hC.1 hC.2.1 dX9_init_175 (by decide) ?_
  refine b_iast 10 1 hC hW rfl rfl (by decide) (by decide) dX9_init_176 (fun H locs hW => ?_)
  have hW : b_W s A dC dI [(h, .inr (9, [.ref q1, .int 0, .int 0, .ref q2, .ref q3, .ref q4, .ref q5, .ref q6, .int 0, .int 0, .int 0, .ref q7, .int 0, .int 0, .int 0, .int 0, .ref q8, .ref q9, .null, .null, .int 0, .null, .null, .null])), (q1, .inl (cy 0, 1092, .inl (fun _ => 0))), (q2, .inl (cy 1, 2, .inl (fun _ => 0))), (q3, .inl (cy 0, 8, .inl (fun _ => 0))), (q4, .inl (cy 0, 8, .inl (upd (upd (upd (upd (upd (upd (upd (upd (fun _ => 0) 0 (-1)) 1 (-1)) 2 (-1)) 3 (-1)) 4 (-1)) 5 (-1)) 6 (-1)) 7 (-1)))), (q5, .inl (cy 0, 320, .inl (fun _ => 0))), (q6, .inl (cy 0, 100, .inl (fun _ => 0))), (q7, .inl (cy 0, 16, .inl (fun _ => 0))), (q8, .inl (cy 0, 6, .inl (upd (upd (upd (upd (upd (upd (fun _ => 0) 0 2) 1 0) 2 0) 3 1) 4 0) 5 1))), (q9, .inl (cy 0, 6, .inl (upd (upd (upd (upd (upd (upd (fun _ => 0) 0 9) 1 6) 2 6) 3 9) 4 2) 5 9))), (q10, .inl (cy 0, 6, .inl (upd (upd (fun _ => 0) 0 0) 1 2)))] H _ := hW
  refine lv_dup hC.1 hC.2.1 dX9_init_177 rfl ?_
  refine lv_iconst (v := 2) hC.1 hC.2.1 dX9_init_178 (by decide) ?_
  refine lv_iconst (v := 3) hC.1 hC.2.1 dX9_init_179 (by decide) ?_
  refine b_iast 10 2 hC hW rfl rfl (by decide) (by decide) dX9_init_180 (fun H locs hW => ?_)
  have hW : b_W s A dC dI [(h, .inr (9, [.ref q1, .int 0, .int 0, .ref q2, .ref q3, .ref q4, .ref q5, .ref q6, .int 0, .int 0, .int 0, .ref q7, .int 0, .int 0, .int 0, .int 0, .ref q8, .ref q9, .null, .null, .int 0, .null, .null, .null])), (q1, .inl (cy 0, 1092, .inl (fun _ => 0))), (q2, .inl (cy 1, 2, .inl (fun _ => 0))), (q3, .inl (cy 0, 8, .inl (fun _ => 0))), (q4, .inl (cy 0, 8, .inl (upd (upd (upd (upd (upd (upd (upd (upd (fun _ => 0) 0 (-1)) 1 (-1)) 2 (-1)) 3 (-1)) 4 (-1)) 5 (-1)) 6 (-1)) 7 (-1)))), (q5, .inl (cy 0, 320, .inl (fun _ => 0))), (q6, .inl (cy 0, 100, .inl (fun _ => 0))), (q7, .inl (cy 0, 16, .inl (fun _ => 0))), (q8, .inl (cy 0, 6, .inl (upd (upd (upd (upd (upd (upd (fun _ => 0) 0 2) 1 0) 2 0) 3 1) 4 0) 5 1))), (q9, .inl (cy 0, 6, .inl (upd (upd (upd (upd (upd (upd (fun _ => 0) 0 9) 1 6) 2 6) 3 9) 4 2) 5 9))), (q10, .inl (cy 0, 6, .inl (upd (upd (upd (fun _ => 0) 0 0) 1 2) 2 3)))] H _ := hW
  refine lv_dup hC.1 hC.2.1 dX9_init_181 rfl ?_
  refine lv_iconst (v := 3) hC.1 hC.2.1 dX9_init_182 (by decide) ?_
  refine lv_iconst (v := 4) hC.1 hC.2.1 dX9_init_183 (by decide) ?_
  refine b_iast 10 3 hC hW rfl rfl (by decide) (by decide) dX9_init_184 (fun H locs hW => ?_)
  have hW : b_W s A dC dI [(h, .inr (9, [.ref q1, .int 0, .int 0, .ref q2, .ref q3, .ref q4, .ref q5, .ref q6, .int 0, .int 0, .int 0, .ref q7, .int 0, .int 0, .int 0, .int 0, .ref q8, .ref q9, .null, .null, .int 0, .null, .null, .null])), (q1, .inl (cy 0, 1092, .inl (fun _ => 0))), (q2, .inl (cy 1, 2, .inl (fun _ => 0))), (q3, .inl (cy 0, 8, .inl (fun _ => 0))), (q4, .inl (cy 0, 8, .inl (upd (upd (upd (upd (upd (upd (upd (upd (fun _ => 0) 0 (-1)) 1 (-1)) 2 (-1)) 3 (-1)) 4 (-1)) 5 (-1)) 6 (-1)) 7 (-1)))), (q5, .inl (cy 0, 320, .inl (fun _ => 0))), (q6, .inl (cy 0, 100, .inl (fun _ => 0))), (q7, .inl (cy 0, 16, .inl (fun _ => 0))), (q8, .inl (cy 0, 6, .inl (upd (upd (upd (upd (upd (upd (fun _ => 0) 0 2) 1 0) 2 0) 3 1) 4 0) 5 1))), (q9, .inl (cy 0, 6, .inl (upd (upd (upd (upd (upd (upd (fun _ => 0) 0 9) 1 6) 2 6) 3 9) 4 2) 5 9))), (q10, .inl (cy 0, 6, .inl (upd (upd (upd (upd (fun _ => 0) 0 0) 1 2) 2 3) 3 4)))] H _ := hW
  refine lv_dup hC.1 hC.2.1 dX9_init_185 rfl ?_
  refine lv_iconst (v := 4) hC.1 hC.2.1 dX9_init_186 (by decide) ?_
  refine lv_iconst (v := 5) hC.1 hC.2.1 dX9_init_187 (by decide) ?_
  refine b_iast 10 4 hC hW rfl rfl (by decide) (by decide) dX9_init_188 (fun H locs hW => ?_)
  have hW : b_W s A dC dI [(h, .inr (9, [.ref q1, .int 0, .int 0, .ref q2, .ref q3, .ref q4, .ref q5, .ref q6, .int 0, .int 0, .int 0, .ref q7, .int 0, .int 0, .int 0, .int 0, .ref q8, .ref q9, .null, .null, .int 0, .null, .null, .null])), (q1, .inl (cy 0, 1092, .inl (fun _ => 0))), (q2, .inl (cy 1, 2, .inl (fun _ => 0))), (q3, .inl (cy 0, 8, .inl (fun _ => 0))), (q4, .inl (cy 0, 8, .inl (upd (upd (upd (upd (upd (upd (upd (upd (fun _ => 0) 0 (-1)) 1 (-1)) 2 (-1)) 3 (-1)) 4 (-1)) 5 (-1)) 6 (-1)) 7 (-1)))), (q5, .inl (cy 0, 320, .inl (fun _ => 0))), (q6, .inl (cy 0, 100, .inl (fun _ => 0))), (q7, .inl (cy 0, 16, .inl (fun _ => 0))), (q8, .inl (cy 0, 6, .inl (upd (upd (upd (upd (upd (upd (fun _ => 0) 0 2) 1 0) 2 0) 3 1) 4 0) 5 1))), (q9, .inl (cy 0, 6, .inl (upd (upd (upd (upd (upd (upd (fun _ => 0) 0 9) 1 6) 2 6) 3 9) 4 2) 5 9))), (q10, .inl (cy 0, 6, .inl (upd (upd (upd (upd (upd (fun _ => 0) 0 0) 1 2) 2 3) 3 4) 4 5)))] H _ := hW
  refine lv_dup hC.1 hC.2.1 dX9_init_189 rfl ?_
  refine lv_iconst (v := 5) hC.1 hC.2.1 dX9_init_190 (by decide) ?_
  refine lv_bipush (v := 6) hC.1 hC.2.1 dX9_init_191 (by decide) ?_
  refine b_iast 10 5 hC hW rfl rfl (by decide) (by decide) dX9_init_193 (fun H locs hW => ?_)
  have hW : b_W s A dC dI [(h, .inr (9, [.ref q1, .int 0, .int 0, .ref q2, .ref q3, .ref q4, .ref q5, .ref q6, .int 0, .int 0, .int 0, .ref q7, .int 0, .int 0, .int 0, .int 0, .ref q8, .ref q9, .null, .null, .int 0, .null, .null, .null])), (q1, .inl (cy 0, 1092, .inl (fun _ => 0))), (q2, .inl (cy 1, 2, .inl (fun _ => 0))), (q3, .inl (cy 0, 8, .inl (fun _ => 0))), (q4, .inl (cy 0, 8, .inl (upd (upd (upd (upd (upd (upd (upd (upd (fun _ => 0) 0 (-1)) 1 (-1)) 2 (-1)) 3 (-1)) 4 (-1)) 5 (-1)) 6 (-1)) 7 (-1)))), (q5, .inl (cy 0, 320, .inl (fun _ => 0))), (q6, .inl (cy 0, 100, .inl (fun _ => 0))), (q7, .inl (cy 0, 16, .inl (fun _ => 0))), (q8, .inl (cy 0, 6, .inl (upd (upd (upd (upd (upd (upd (fun _ => 0) 0 2) 1 0) 2 0) 3 1) 4 0) 5 1))), (q9, .inl (cy 0, 6, .inl (upd (upd (upd (upd (upd (upd (fun _ => 0) 0 9) 1 6) 2 6) 3 9) 4 2) 5 9))), (q10, .inl (cy 0, 6, .inl (upd (upd (upd (upd (upd (upd (fun _ => 0) 0 0) 1 2) 2 3) 3 4) 4 5) 5 6)))] H _ := hW
  refine b_putF (ty := (.array .int)) 0 rfl hC hW fl_X9_38 rfl rfl rfl (by decide +kernel) rfl rfl (by decide) lk_X9_38 dX9_init_194 (fun H locs hW => ?_)
  have hW : b_W s A dC dI [(h, .inr (9, [.ref q1, .int 0, .int 0, .ref q2, .ref q3, .ref q4, .ref q5, .ref q6, .int 0, .int 0, .int 0, .ref q7, .int 0, .int 0, .int 0, .int 0, .ref q8, .ref q9, .ref q10, .null, .int 0, .null, .null, .null])), (q1, .inl (cy 0, 1092, .inl (fun _ => 0))), (q2, .inl (cy 1, 2, .inl (fun _ => 0))), (q3, .inl (cy 0, 8, .inl (fun _ => 0))), (q4, .inl (cy 0, 8, .inl (upd (upd (upd (upd (upd (upd (upd (upd (fun _ => 0) 0 (-1)) 1 (-1)) 2 (-1)) 3 (-1)) 4 (-1)) 5 (-1)) 6 (-1)) 7 (-1)))), (q5, .inl (cy 0, 320, .inl (fun _ => 0))), (q6, .inl (cy 0, 100, .inl (fun _ => 0))), (q7, .inl (cy 0, 16, .inl (fun _ => 0))), (q8, .inl (cy 0, 6, .inl (upd (upd (upd (upd (upd (upd (fun _ => 0) 0 2) 1 0) 2 0) 3 1) 4 0) 5 1))), (q9, .inl (cy 0, 6, .inl (upd (upd (upd (upd (upd (upd (fun _ => 0) 0 9) 1 6) 2 6) 3 9) 4 2) 5 9))), (q10, .inl (cy 0, 6, .inl (upd (upd (upd (upd (upd (upd (fun _ => 0) 0 0) 1 2) 2 3) 3 4) 4 5) 5 6)))] H _ := hW
  refine b_aload hC hL dX9_init_197 rfl rfl ?_
  refine lv_bipush (v := 10) hC.1 hC.2.1 dX9_init_198 (by decide) ?_
  refine b_newi 10 (by decide) rfl hC hW dX9_init_200 ac_i (Nat.le_of_ble_eq_true rfl) (Nat.le_of_ble_eq_true rfl) (fun q11 H hW => ?_)
  have hW : b_W s A dC dI [(h, .inr (9, [.ref q1, .int 0, .int 0, .ref q2, .ref q3, .ref q4, .ref q5, .ref q6, .int 0, .int 0, .int 0, .ref q7, .int 0, .int 0, .int 0, .int 0, .ref q8, .ref q9, .ref q10, .null, .int 0, .null, .null, .null])), (q1, .inl (cy 0, 1092, .inl (fun _ => 0))), (q2, .inl (cy 1, 2, .inl (fun _ => 0))), (q3, .inl (cy 0, 8, .inl (fun _ => 0))), (q4, .inl (cy 0, 8, .inl (upd (upd (upd (upd (upd (upd (upd (upd (fun _ => 0) 0 (-1)) 1 (-1)) 2 (-1)) 3 (-1)) 4 (-1)) 5 (-1)) 6 (-1)) 7 (-1)))), (q5, .inl (cy 0, 320, .inl (fun _ => 0))), (q6, .inl (cy 0, 100, .inl (fun _ => 0))), (q7, .inl (cy 0, 16, .inl (fun _ => 0))), (q8, .inl (cy 0, 6, .inl (upd (upd (upd (upd (upd (upd (fun _ => 0) 0 2) 1 0) 2 0) 3 1) 4 0) 5 1))), (q9, .inl (cy 0, 6, .inl (upd (upd (upd (upd (upd (upd (fun _ => 0) 0 9) 1 6) 2 6) 3 9) 4 2) 5 9))), (q10, .inl (cy 0, 6, .inl (upd (upd (upd (upd (upd (upd (fun _ => 0) 0 0) 1 2) 2 3) 3 4) 4 5) 5 6))), (q11, .inl (cy 0, 10, .inl (fun _ => 0)))] H _ := hW
  refine b_putF (ty := (.array .int)) 0 rfl hC hW fl_X9_41 rfl rfl rfl (by decide +kernel) rfl rfl (by decide) lk_X9_41 dX9_init_202 (fun H locs hW => ?_)
  have hW : b_W s A dC dI [(h, .inr (9, [.ref q1, .int 0, .int 0, .ref q2, .ref q3, .ref q4, .ref q5, .ref q6, .int 0, .int 0, .int 0, .ref q7, .int 0, .int 0, .int 0, .int 0, .ref q8, .ref q9, .ref q10, .ref q11, .int 0, .null, .null, .null])), (q1, .inl (cy 0, 1092, .inl (fun _ => 0))), (q2, .inl (cy 1, 2, .inl (fun _ => 0))), (q3, .inl (cy 0, 8, .inl (fun _ => 0))), (q4, .inl (cy 0, 8, .inl (upd (upd (upd (upd (upd (upd (upd (upd (fun _ => 0) 0 (-1)) 1 (-1)) 2 (-1)) 3 (-1)) 4 (-1)) 5 (-1)) 6 (-1)) 7 (-1)))), (q5, .inl (cy 0, 320, .inl (fun _ => 0))), (q6, .inl (cy 0, 100, .inl (fun _ => 0))), (q7, .inl (cy 0, 16, .inl (fun _ => 0))), (q8, .inl (cy 0, 6, .inl (upd (upd (upd (upd (upd (upd (fun _ => 0) 0 2) 1 0) 2 0) 3 1) 4 0) 5 1))), (q9, .inl (cy 0, 6, .inl (upd (upd (upd (upd (upd (upd (fun _ => 0) 0 9) 1 6) 2 6) 3 9) 4 2) 5 9))), (q10, .inl (cy 0, 6, .inl (upd (upd (upd (upd (upd (upd (fun _ => 0) 0 0) 1 2) 2 3) 3 4) 4 5) 5 6))), (q11, .inl (cy 0, 10, .inl (fun _ => 0)))] H _ := hW
  refine b_aload hC hL dX9_init_205 rfl rfl ?_
  refine lv_iconst (v := 4) hC.1 hC.2.1 dX9_init_206 (by decide) ?_
  refine b_newi 4 (by decide) rfl hC hW dX9_init_207 ac_i (Nat.le_of_ble_eq_true rfl) (Nat.le_of_ble_eq_true rfl) (fun q12 H hW => ?_)
  have hW : b_W s A dC dI [(h, .inr (9, [.ref q1, .int 0, .int 0, .ref q2, .ref q3, .ref q4, .ref q5, .ref q6, .int 0, .int 0, .int 0, .ref q7, .int 0, .int 0, .int 0, .int 0, .ref q8, .ref q9, .ref q10, .ref q11, .int 0, .null, .null, .null])), (q1, .inl (cy 0, 1092, .inl (fun _ => 0))), (q2, .inl (cy 1, 2, .inl (fun _ => 0))), (q3, .inl (cy 0, 8, .inl (fun _ => 0))), (q4, .inl (cy 0, 8, .inl (upd (upd (upd (upd (upd (upd (upd (upd (fun _ => 0) 0 (-1)) 1 (-1)) 2 (-1)) 3 (-1)) 4 (-1)) 5 (-1)) 6 (-1)) 7 (-1)))), (q5, .inl (cy 0, 320, .inl (fun _ => 0))), (q6, .inl (cy 0, 100, .inl (fun _ => 0))), (q7, .inl (cy 0, 16, .inl (fun _ => 0))), (q8, .inl (cy 0, 6, .inl (upd (upd (upd (upd (upd (upd (fun _ => 0) 0 2) 1 0) 2 0) 3 1) 4 0) 5 1))), (q9, .inl (cy 0, 6, .inl (upd (upd (upd (upd (upd (upd (fun _ => 0) 0 9) 1 6) 2 6) 3 9) 4 2) 5 9))), (q10, .inl (cy 0, 6, .inl (upd (upd (upd (upd (upd (upd (fun _ => 0) 0 0) 1 2) 2 3) 3 4) 4 5) 5 6))), (q11, .inl (cy 0, 10, .inl (fun _ => 0))), (q12, .inl (cy 0, 4, .inl (fun _ => 0)))] H _ := hW
  refine lv_dup hC.1 hC.2.1 dX9_init_209 rfl ?_
  refine lv_iconst (v := 0) hC.1 hC.2.1 dX9_init_210 (by decide) ?_
  refine lv_iconst (v := 2) hC.1 hC.2.1 dX9_init_211 (by decide) ?_
  refine b_iast 12 0 hC hW rfl rfl (by decide) (by decide) dX9_init_212 (fun H locs hW => ?_)
  have hW : b_W s A dC dI [(h, .inr (9, [.ref q1, .int 0, .int 0, .ref q2, .ref q3, .ref q4, .ref q5, .ref q6, .int 0, .int 0, .int 0, .ref q7, .int 0, .int 0, .int 0, .int 0, .ref q8, .ref q9, .ref q10, .ref q11, .int 0, .null, .null, .null])), (q1, .inl (cy 0, 1092, .inl (fun _ => 0))), (q2, .inl (cy 1, 2, .inl (fun _ => 0))), (q3, .inl (cy 0, 8, .inl (fun _ => 0))), (q4, .inl (cy 0, 8, .inl (upd (upd (upd (upd (upd (upd (upd (upd (fun _ => 0) 0 (-1)) 1 (-1)) 2 (-1)) 3 (-1)) 4 (-1)) 5 (-1)) 6 (-1)) 7 (-1)))), (q5, .inl (cy 0, 320, .inl (fun _ => 0))), (q6, .inl (cy 0, 100, .inl (fun _ => 0))), (q7, .inl (cy 0, 16, .inl (fun _ => 0))), (q8, .inl (cy 0, 6, .inl (upd (upd (upd (upd (upd (upd (fun _ => 0) 0 2) 1 0) 2 0) 3 1) 4 0) 5 1))), (q9, .inl (cy 0, 6, .inl (upd (upd (upd (upd (upd (upd (fun _ => 0) 0 9) 1 6) 2 6) 3 9) 4 2) 5 9))), (q10, .inl (cy 0, 6, .inl (upd (upd (upd (upd (upd (upd (fun _ => 0) 0 0) 1 2) 2 3) 3 4) 4 5) 5 6))), (q11, .inl (cy 0, 10, .inl (fun _ => 0))), (q12, .inl (cy 0, 4, .inl (upd (fun _ => 0) 0 2)))] H _ := hW
  refine lv_dup hC.1 hC.2.1 dX9_init_213 rfl ?_
  refine lv_iconst (v := 1) hC.1 hC.2.1 dX9_init_214 (by decide) ?_
  refine lv_iconst (v := 3) hC.1 hC.2.1 dX9_init_215 (by decide) ?_
  refine b_iast 12 1 hC hW rfl rfl (by decide) (by decide) dX9_init_216 (fun H locs hW => ?_)
  have hW : b_W s A dC dI [(h, .inr (9, [.ref q1, .int 0, .int 0, .ref q2, .ref q3, .ref q4, .ref q5, .ref q6, .int 0, .int 0, .int 0, .ref q7, .int 0, .int 0, .int 0, .int 0, .ref q8, .ref q9, .ref q10, .ref q11, .int 0, .null, .null, .null])), (q1, .inl (cy 0, 1092, .inl (fun _ => 0))), (q2, .inl (cy 1, 2, .inl (fun _ => 0))), (q3, .inl (cy 0, 8, .inl (fun _ => 0))), (q4, .inl (cy 0, 8, .inl (upd (upd (upd (upd (upd (upd (upd (upd (fun _ => 0) 0 (-1)) 1 (-1)) 2 (-1)) 3 (-1)) 4 (-1)) 5 (-1)) 6 (-1)) 7 (-1)))), (q5, .inl (cy 0, 320, .inl (fun _ => 0))), (q6, .inl (cy 0, 100, .inl (fun _ => 0))), (q7, .inl (cy 0, 16, .inl (fun _ => 0))), (q8, .inl (cy 0, 6, .inl (upd (upd (upd (upd (upd (upd (fun _ => 0) 0 2) 1 0) 2 0) 3 1) 4 0) 5 1))), (q9, .inl (cy 0, 6, .inl (upd (upd (upd (upd (upd (upd (fun _ => 0) 0 9) 1 6) 2 6) 3 9) 4 2) 5 9))), (q10, .inl (cy 0, 6, .inl (upd (upd (upd (upd (upd (upd (fun _ => 0) 0 0) 1 2) 2 3) 3 4) 4 5) 5 6))), (q11, .inl (cy 0, 10, .inl (fun _ => 0))), (q12, .inl (cy 0, 4, .inl (upd (upd (fun _ => 0) 0 2) 1 3)))] H _ := hW
  refine lv_dup hC.1 hC.2.1 dX9_init_217 rfl ?_
  refine lv_iconst (v := 2) hC.1 hC.2.1 dX9_init_218 (by decide) ?_
  refine lv_iconst (v := 4) hC.1 hC.2.1 dX9_init_219 (by decide) ?_
  refine b_iast 12 2 hC hW rfl rfl (by decide) (by decide) dX9_init_220 (fun H locs hW => ?_)
  have hW : b_W s A dC dI [(h, .inr (9, [.ref q1, .int 0, .int 0, .ref q2, .ref q3, .ref q4, .ref q5, .ref q6, .int 0, .int 0, .int 0, .ref q7, .int 0, .int 0, .int 0, .int 0, .ref q8, .ref q9, .ref q10, .ref q11, .int 0, .null, .null, .null])), (q1, .inl (cy 0, 1092, .inl (fun _ => 0))), (q2, .inl (cy 1, 2, .inl (fun _ => 0))), (q3, .inl (cy 0, 8, .inl (fun _ => 0))), (q4, .inl (cy 0, 8, .inl (upd (upd (upd (upd (upd (upd (upd (upd (fun _ => 0) 0 (-1)) 1 (-1)) 2 (-1)) 3 (-1)) 4 (-1)) 5 (-1)) 6 (-1)) 7 (-1)))), (q5, .inl (cy 0, 320, .inl (fun _ => 0))), (q6, .inl (cy 0, 100, .inl (fun _ => 0))), (q7, .inl (cy 0, 16, .inl (fun _ => 0))), (q8, .inl (cy 0, 6, .inl (upd (upd (upd (upd (upd (upd (fun _ => 0) 0 2) 1 0) 2 0) 3 1) 4 0) 5 1))), (q9, .inl (cy 0, 6, .inl (upd (upd (upd (upd (upd (upd (fun _ => 0) 0 9) 1 6) 2 6) 3 9) 4 2) 5 9))), (q10, .inl (cy 0, 6, .inl (upd (upd (upd (upd (upd (upd (fun _ => 0) 0 0) 1 2) 2 3) 3 4) 4 5) 5 6))), (q11, .inl (cy 0, 10, .inl (fun _ => 0))), (q12, .inl (cy 0, 4, .inl (upd (upd (upd (fun _ => 0) 0 2) 1 3) 2 4)))] H _ := hW
  refine lv_dup hC.1 hC.2.1 dX9_init_221 rfl ?_
  refine lv_iconst (v := 3) hC.1 hC.2.1 dX9_init_222 (by decide) ?_
  refine lv_iconst (v := 5) hC.1 hC.2.1 dX9_init_223 (by decide) ?_
  refine b_iast 12 3 hC hW rfl rfl (by decide) (by decide) dX9_init_224 (fun H locs hW => ?_)
  have hW : b_W s A dC dI [(h, .inr (9, [.ref q1, .int 0, .int 0, .ref q2, .ref q3, .ref q4, .ref q5, .ref q6, .int 0, .int 0, .int 0, .ref q7, .int 0, .int 0, .int 0, .int 0, .ref q8, .ref q9, .ref q10, .ref q11, .int 0, .null, .null, .null])), (q1, .inl (cy 0, 1092, .inl (fun _ => 0))), (q2, .inl (cy 1, 2, .inl (fun _ => 0))), (q3, .inl (cy 0, 8, .inl (fun _ => 0))), (q4, .inl (cy 0, 8, .inl (upd (upd (upd (upd (upd (upd (upd (upd (fun _ => 0) 0 (-1)) 1 (-1)) 2 (-1)) 3 (-1)) 4 (-1)) 5 (-1)) 6 (-1)) 7 (-1)))), (q5, .inl (cy 0, 320, .inl (fun _ => 0))), (q6, .inl (cy 0, 100, .inl (fun _ => 0))), (q7, .inl (cy 0, 16, .inl (fun _ => 0))), (q8, .inl (cy 0, 6, .inl (upd (upd (upd (upd (upd (upd (fun _ => 0) 0 2) 1 0) 2 0) 3 1) 4 0) 5 1))), (q9, .inl (cy 0, 6, .inl (upd (upd (upd (upd (upd (upd (fun _ => 0) 0 9) 1 6) 2 6) 3 9) 4 2) 5 9))), (q10, .inl (cy 0, 6, .inl (upd (upd (upd (upd (upd (upd (fun _ => 0) 0 0) 1 2) 2 3) 3 4) 4 5) 5 6))), (q11, .inl (cy 0, 10, .inl (fun _ => 0))), (q12, .inl (cy 0, 4, .inl (upd (upd (upd (upd (fun _ => 0) 0 2) 1 3) 2 4) 3 5)))] H _ := hW
  refine b_putF (ty := (.array .int)) 0 rfl hC hW fl_X9_44 rfl rfl rfl (by decide +kernel) rfl rfl (by decide) lk_X9_44 dX9_init_225 (fun H locs hW => ?_)
  have hW : b_W s A dC dI [(h, .inr (9, [.ref q1, .int 0, .int 0, .ref q2, .ref q3, .ref q4, .ref q5, .ref q6, .int 0, .int 0, .int 0, .ref q7, .int 0, .int 0, .int 0, .int 0, .ref q8, .ref q9, .ref q10, .ref q11, .int 0, .ref q12, .null, .null])), (q1, .inl (cy 0, 1092, .inl (fun _ => 0))), (q2, .inl (cy 1, 2, .inl (fun _ => 0))), (q3, .inl (cy 0, 8, .inl (fun _ => 0))), (q4, .inl (cy 0, 8, .inl (upd (upd (upd (upd (upd (upd (upd (upd (fun _ => 0) 0 (-1)) 1 (-1)) 2 (-1)) 3 (-1)) 4 (-1)) 5 (-1)) 6 (-1)) 7 (-1)))), (q5, .inl (cy 0, 320, .inl (fun _ => 0))), (q6, .inl (cy 0, 100, .inl (fun _ => 0))), (q7, .inl (cy 0, 16, .inl (fun _ => 0))), (q8, .inl (cy 0, 6, .inl (upd (upd (upd (upd (upd (upd (fun _ => 0) 0 2) 1 0) 2 0) 3 1) 4 0) 5 1))), (q9, .inl (cy 0, 6, .inl (upd (upd (upd (upd (upd (upd (fun _ => 0) 0 9) 1 6) 2 6) 3 9) 4 2) 5 9))), (q10, .inl (cy 0, 6, .inl (upd (upd (upd (upd (upd (upd (fun _ => 0) 0 0) 1 2) 2 3) 3 4) 4 5) 5 6))), (q11, .inl (cy 0, 10, .inl (fun _ => 0))), (q12, .inl (cy 0, 4, .inl (upd (upd (upd (upd (fun _ => 0) 0 2) 1 3) 2 4) 3 5)))] H _ := hW
  refine b_aload hC hL dX9_init_228 rfl rfl ?_
  refine lv_iconst (v := 4) hC.1 hC.2.1 dX9_init_229 (by decide) ?_
  refine b_newi 4 (by decide) rfl hC hW dX9_init_230 ac_i (Nat.le_of_ble_eq_true rfl) (Nat.le_of_ble_eq_true rfl) (fun q13 H hW => ?_)
  have hW : b_W s A dC dI [(h, .inr (9, [.ref q1, .int 0, .int 0, .ref q2, .ref q3, .ref q4, .ref q5, .ref q6, .int 0, .int 0, .int 0, .ref q7, .int 0, .int 0, .int 0, .int 0, .ref q8, .ref q9, .ref q10, .ref q11, .int 0, .ref q12, .null, .null])), (q1, .inl (cy 0, 1092, .inl (fun _ => 0))), (q2, .inl (cy 1, 2, .inl (fun _ => 0))), (q3, .inl (cy 0, 8, .inl (fun _ => 0))), (q4, .inl (cy 0, 8, .inl (upd (upd (upd (upd (upd (upd (upd (upd (fun _ => 0) 0 (-1)) 1 (-1)) 2 (-1)) 3 (-1)) 4 (-1)) 5 (-1)) 6 (-1)) 7 (-1)))), (q5, .inl (cy 0, 320, .inl (fun _ => 0))), (q6, .inl (cy 0, 100, .inl (fun _ => 0))), (q7, .inl (cy 0, 16, .inl (fun _ => 0))), (q8, .inl (cy 0, 6, .inl (upd (upd (upd (upd (upd (upd (fun _ => 0) 0 2) 1 0) 2 0) 3 1) 4 0) 5 1))), (q9, .inl (cy 0, 6, .inl (upd (upd (upd (upd (upd (upd (fun _ => 0) 0 9) 1 6) 2 6) 3 9) 4 2) 5 9))), (q10, .inl (cy 0, 6, .inl (upd (upd (upd (upd (upd (upd (fun _ => 0) 0 0) 1 2) 2 3) 3 4) 4 5) 5 6))), (q11, .inl (cy 0, 10, .inl (fun _ => 0))), (q12, .inl (cy 0, 4, .inl (upd (upd (upd (upd (fun _ => 0) 0 2) 1 3) 2 4) 3 5))), (q13, .inl (cy 0, 4, .inl (fun _ => 0)))] H _ := hW
  refine lv_dup hC.1 hC.2.1 dX9_init_232 rfl ?_
  refine lv_iconst (v := 0) hC.1 hC.2.1 dX9_init_233 (by decide) ?_
  refine lv_bipush (v := 6) hC.1 hC.2.1 dX9_init_234 (by decide) ?_
  refine b_iast 13 0 hC hW rfl rfl (by decide) (by decide) dX9_init_236 (fun H locs hW => ?_)
  have hW : b_W s A dC dI [(h, .inr (9, [.ref q1, .int 0, .int 0, .ref q2, .ref q3, .ref q4, .ref q5, .ref q6, .int 0, .int 0, .int 0, .ref q7, .int 0, .int 0, .int 0, .int 0, .ref q8, .ref q9, .ref q10, .ref q11, .int 0, .ref q12, .null, .null])), (q1, .inl (cy 0, 1092, .inl (fun _ => 0))), (q2, .inl (cy 1, 2, .inl (fun _ => 0))), (q3, .inl (cy 0, 8, .inl (fun _ => 0))), (q4, .inl (cy 0, 8, .inl (upd (upd (upd (upd (upd (upd (upd (upd (fun _ => 0) 0 (-1)) 1 (-1)) 2 (-1)) 3 (-1)) 4 (-1)) 5 (-1)) 6 (-1)) 7 (-1)))), (q5, .inl (cy 0, 320, .inl (fun _ => 0))), (q6, .inl (cy 0, 100, .inl (fun _ => 0))), (q7, .inl (cy 0, 16, .inl (fun _ => 0))), (q8, .inl (cy 0, 6, .inl (upd (upd (upd (upd (upd (upd (fun _ => 0) 0 2) 1 0) 2 0) 3 1) 4 0) 5 1))), (q9, .inl (cy 0, 6, .inl (upd (upd (upd (upd (upd (upd (fun _ => 0) 0 9) 1 6) 2 6) 3 9) 4 2) 5 9))), (q10, .inl (cy 0, 6, .inl (upd (upd (upd (upd (upd (upd (fun _ => 0) 0 0) 1 2) 2 3) 3 4) 4 5) 5 6))), (q11, .inl (cy 0, 10, .inl (fun _ => 0))), (q12, .inl (cy 0, 4, .inl (upd (upd (upd (upd (fun _ => 0) 0 2) 1 3) 2 4) 3 5))), (q13, .inl (cy 0, 4, .inl (upd (fun _ => 0) 0 6)))] H _ := hW
  refine lv_dup hC.1 hC.2.1 dX9_init_237 rfl ?_
  refine lv_iconst (v := 1) hC.1 hC.2.1 dX9_init_238 (by decide) ?_
  refine lv_bipush (v := 6) hC.1 hC.2.1 dX9_init_239 (by decide) ?_
  refine b_iast 13 1 hC hW rfl rfl (by decide) (by decide) dX9_init_241 (fun H locs hW => ?_)
  have hW : b_W s A dC dI [(h, .inr (9, [.ref q1, .int 0, .int 0, .ref q2, .ref q3, .ref q4, .ref q5, .ref q6, .int 0, .int 0, .int 0, .ref q7, .int 0, .int 0, .int 0, .int 0, .ref q8, .ref q9, .ref q10, .ref q11, .int 0, .ref q12, .null, .null])), (q1, .inl (cy 0, 1092, .inl (fun _ => 0))), (q2, .inl (cy 1, 2, .inl (fun _ => 0))), (q3, .inl (cy 0, 8, .inl (fun _ => 0))), (q4, .inl (cy 0, 8, .inl (upd (upd (upd (upd (upd (upd (upd (upd (fun _ => 0) 0 (-1)) 1 (-1)) 2 (-1)) 3 (-1)) 4 (-1)) 5 (-1)) 6 (-1)) 7 (-1)))), (q5, .inl (cy 0, 320, .inl (fun _ => 0))), (q6, .inl (cy 0, 100, .inl (fun _ => 0))), (q7, .inl (cy 0, 16, .inl (fun _ => 0))), (q8, .inl (cy 0, 6, .inl (upd (upd (upd (upd (upd (upd (fun _ => 0) 0 2) 1 0) 2 0) 3 1) 4 0) 5 1))), (q9, .inl (cy 0, 6, .inl (upd (upd (upd (upd (upd (upd (fun _ => 0) 0 9) 1 6) 2 6) 3 9) 4 2) 5 9))), (q10, .inl (cy 0, 6, .inl (upd (upd (upd (upd (upd (upd (fun _ => 0) 0 0) 1 2) 2 3) 3 4) 4 5) 5 6))), (q11, .inl (cy 0, 10, .inl (fun _ => 0))), (q12, .inl (cy 0, 4, .inl (upd (upd (upd (upd (fun _ => 0) 0 2) 1 3) 2 4) 3 5))), (q13, .inl (cy 0, 4, .inl (upd (upd (fun _ => 0) 0 6) 1 6)))] H _ := hW
  refine lv_dup hC.1 hC.2.1 dX9_init_242 rfl ?_
  refine lv_iconst (v := 2) hC.1 hC.2.1 dX9_init_243 (by decide) ?_
  refine lv_bipush (v := 9) hC.1 hC.2.1 dX9_init_244 (by decide) ?_
  refine b_iast 13 2 hC hW rfl rfl (by decide) (by decide) dX9_init_246 (fun H locs hW => ?_)
  have hW : b_W s A dC dI [(h, .inr (9, [.ref q1, .int 0, .int 0, .ref q2, .ref q3, .ref q4, .ref q5, .ref q6, .int 0, .int 0, .int 0, .ref q7, .int 0, .int 0, .int 0, .int 0, .ref q8, .ref q9, .ref q10, .ref q11, .int 0, .ref q12, .null, .null])), (q1, .inl (cy 0, 1092, .inl (fun _ => 0))), (q2, .inl (cy 1, 2, .inl (fun _ => 0))), (q3, .inl (cy 0, 8, .inl (fun _ => 0))), (q4, .inl (cy 0, 8, .inl (upd (upd (upd (upd (upd (upd (upd (upd (fun _ => 0) 0 (-1)) 1 (-1)) 2 (-1)) 3 (-1)) 4 (-1)) 5 (-1)) 6 (-1)) 7 (-1)))), (q5, .inl (cy 0, 320, .inl (fun _ => 0))), (q6, .inl (cy 0, 100, .inl (fun _ => 0))), (q7, .inl (cy 0, 16, .inl (fun _ => 0))), (q8, .inl (cy 0, 6, .inl (upd (upd (upd (upd (upd (upd (fun _ => 0) 0 2) 1 0) 2 0) 3 1) 4 0) 5 1))), (q9, .inl (cy 0, 6, .inl (upd (upd (upd (upd (upd (upd (fun _ => 0) 0 9) 1 6) 2 6) 3 9) 4 2) 5 9))), (q10, .inl (cy 0, 6, .inl (upd (upd (upd (upd (upd (upd (fun _ => 0) 0 0) 1 2) 2 3) 3 4) 4 5) 5 6))), (q11, .inl (cy 0, 10, .inl (fun _ => 0))), (q12, .inl (cy 0, 4, .inl (upd (upd (upd (upd (fun _ => 0) 0 2) 1 3) 2 4) 3 5))), (q13, .inl (cy 0, 4, .inl (upd (upd (upd (fun _ => 0) 0 6) 1 6) 2 9)))] H _ := hW
  refine lv_dup hC.1 hC.2.1 dX9_init_247 rfl ?_
  refine lv_iconst (v := 3) hC.1 hC.2.1 dX9_init_248 (by decide) ?_
  refine lv_iconst (v := 2) hC.1 hC.2.1 dX9_init_249 (by decide) ?_
  refine b_iast 13 3 hC hW rfl rfl (by decide) (by decide) dX9_init_250 (fun H locs hW => ?_)
  have hW : b_W s A dC dI [(h, .inr (9, [.ref q1, .int 0, .int 0, .ref q2, .ref q3, .ref q4, .ref q5, .ref q6, .int 0, .int 0, .int 0, .ref q7, .int 0, .int 0, .int 0, .int 0, .ref q8, .ref q9, .ref q10, .ref q11, .int 0, .ref q12, .null, .null])), (q1, .inl (cy 0, 1092, .inl (fun _ => 0))), (q2, .inl (cy 1, 2, .inl (fun _ => 0))), (q3, .inl (cy 0, 8, .inl (fun _ => 0))), (q4, .inl (cy 0, 8, .inl (upd (upd (upd (upd (upd (upd (upd (upd (fun _ => 0) 0 (-1)) 1 (-1)) 2 (-1)) 3 (-1)) 4 (-1)) 5 (-1)) 6 (-1)) 7 (-1)))), (q5, .inl (cy 0, 320, .inl (fun _ => 0))), (q6, .inl (cy 0, 100, .inl (fun _ => 0))), (q7, .inl (cy 0, 16, .inl (fun _ => 0))), (q8, .inl (cy 0, 6, .inl (upd (upd (upd (upd (upd (upd (fun _ => 0) 0 2) 1 0) 2 0) 3 1) 4 0) 5 1))), (q9, .inl (cy 0, 6, .inl (upd (upd (upd (upd (upd (upd (fun _ => 0) 0 9) 1 6) 2 6) 3 9) 4 2) 5 9))), (q10, .inl (cy 0, 6, .inl (upd (upd (upd (upd (upd (upd (fun _ => 0) 0 0) 1 2) 2 3) 3 4) 4 5) 5 6))), (q11, .inl (cy 0, 10, .inl (fun _ => 0))), (q12, .inl (cy 0, 4, .inl (upd (upd (upd (upd (fun _ => 0) 0 2) 1 3) 2 4) 3 5))), (q13, .inl (cy 0, 4, .inl (upd (upd (upd (upd (fun _ => 0) 0 6) 1 6) 2 9) 3 2)))] H _ := hW
  refine b_putF (ty := (.array .int)) 0 rfl hC hW fl_X9_47 rfl rfl rfl (by decide +kernel) rfl rfl (by decide) lk_X9_47 dX9_init_251 (fun H locs hW => ?_)
  have hW : b_W s A dC dI [(h, .inr (9, [.ref q1, .int 0, .int 0, .ref q2, .ref q3, .ref q4, .ref q5, .ref q6, .int 0, .int 0, .int 0, .ref q7, .int 0, .int 0, .int 0, .int 0, .ref q8, .ref q9, .ref q10, .ref q11, .int 0, .ref q12, .ref q13, .null])), (q1, .inl (cy 0, 1092, .inl (fun _ => 0))), (q2, .inl (cy 1, 2, .inl (fun _ => 0))), (q3, .inl (cy 0, 8, .inl (fun _ => 0))), (q4, .inl (cy 0, 8, .inl (upd (upd (upd (upd (upd (upd (upd (upd (fun _ => 0) 0 (-1)) 1 (-1)) 2 (-1)) 3 (-1)) 4 (-1)) 5 (-1)) 6 (-1)) 7 (-1)))), (q5, .inl (cy 0, 320, .inl (fun _ => 0))), (q6, .inl (cy 0, 100, .inl (fun _ => 0))), (q7, .inl (cy 0, 16, .inl (fun _ => 0))), (q8, .inl (cy 0, 6, .inl (upd (upd (upd (upd (upd (upd (fun _ => 0) 0 2) 1 0) 2 0) 3 1) 4 0) 5 1))), (q9, .inl (cy 0, 6, .inl (upd (upd (upd (upd (upd (upd (fun _ => 0) 0 9) 1 6) 2 6) 3 9) 4 2) 5 9))), (q10, .inl (cy 0, 6, .inl (upd (upd (upd (upd (upd (upd (fun _ => 0) 0 0) 1 2) 2 3) 3 4) 4 5) 5 6))), (q11, .inl (cy 0, 10, .inl (fun _ => 0))), (q12, .inl (cy 0, 4, .inl (upd (upd (upd (upd (fun _ => 0) 0 2) 1 3) 2 4) 3 5))), (q13, .inl (cy 0, 4, .inl (upd (upd (upd (upd (fun _ => 0) 0 6) 1 6) 2 9) 3 2)))] H _ := hW
  refine b_aload hC hL dX9_init_254 rfl rfl ?_
  refine lv_bipush (v := 6) hC.1 hC.2.1 dX9_init_255 (by decide) ?_
  refine b_newi 6 (by decide) rfl hC hW dX9_init_257 ac_i (Nat.le_of_ble_eq_true rfl) (Nat.le_of_ble_eq_true rfl) (fun q14 H hW => ?_)
  have hW : b_W s A dC dI [(h, .inr (9, [.ref q1, .int 0, .int 0, .ref q2, .ref q3, .ref q4, .ref q5, .ref q6, .int 0, .int 0, .int 0, .ref q7, .int 0, .int 0, .int 0, .int 0, .ref q8, .ref q9, .ref q10, .ref q11, .int 0, .ref q12, .ref q13, .null])), (q1, .inl (cy 0, 1092, .inl (fun _ => 0))), (q2, .inl (cy 1, 2, .inl (fun _ => 0))), (q3, .inl (cy 0, 8, .inl (fun _ => 0))), (q4, .inl (cy 0, 8, .inl (upd (upd (upd (upd (upd (upd (upd (upd (fun _ => 0) 0 (-1)) 1 (-1)) 2 (-1)) 3 (-1)) 4 (-1)) 5 (-1)) 6 (-1)) 7 (-1)))), (q5, .inl (cy 0, 320, .inl (fun _ => 0))), (q6, .inl (cy 0, 100, .inl (fun _ => 0))), (q7, .inl (cy 0, 16, .inl (fun _ => 0))), (q8, .inl (cy 0, 6, .inl (upd (upd (upd (upd (upd (upd (fun _ => 0) 0 2) 1 0) 2 0) 3 1) 4 0) 5 1))), (q9, .inl (cy 0, 6, .inl (upd (upd (upd (upd (upd (upd (fun _ => 0) 0 9) 1 6) 2 6) 3 9) 4 2) 5 9))), (q10, .inl (cy 0, 6, .inl (upd (upd (upd (upd (upd (upd (fun _ => 0) 0 0) 1 2) 2 3) 3 4) 4 5) 5 6))), (q11, .inl (cy 0, 10, .inl (fun _ => 0))), (q12, .inl (cy 0, 4, .inl (upd (upd (upd (upd (fun _ => 0) 0 2) 1 3) 2 4) 3 5))), (q13, .inl (cy 0, 4, .inl (upd (upd (upd (upd (fun _ => 0) 0 6) 1 6) 2 9) 3 2))), (q14, .inl (cy 0, 6, .inl (fun _ => 0)))] H _ := hW
  refine b_putF (ty := (.array .int)) 0 rfl hC hW fl_X9_50 rfl rfl rfl (by decide +kernel) rfl rfl (by decide) lk_X9_50 dX9_init_259 (fun H locs hW => ?_)
  have hW : b_W s A dC dI [(h, .inr (9, [.ref q1, .int 0, .int 0, .ref q2, .ref q3, .ref q4, .ref q5, .ref q6, .int 0, .int 0, .int 0, .ref q7, .int 0, .int 0, .int 0, .int 0, .ref q8, .ref q9, .ref q10, .ref q11, .int 0, .ref q12, .ref q13, .ref q14])), (q1, .inl (cy 0, 1092, .inl (fun _ => 0))), (q2, .inl (cy 1, 2, .inl (fun _ => 0))), (q3, .inl (cy 0, 8, .inl (fun _ => 0))), (q4, .inl (cy 0, 8, .inl (upd (upd (upd (upd (upd (upd (upd (upd (fun _ => 0) 0 (-1)) 1 (-1)) 2 (-1)) 3 (-1)) 4 (-1)) 5 (-1)) 6 (-1)) 7 (-1)))), (q5, .inl (cy 0, 320, .inl (fun _ => 0))), (q6, .inl (cy 0, 100, .inl (fun _ => 0))), (q7, .inl (cy 0, 16, .inl (fun _ => 0))), (q8, .inl (cy 0, 6, .inl (upd (upd (upd (upd (upd (upd (fun _ => 0) 0 2) 1 0) 2 0) 3 1) 4 0) 5 1))), (q9, .inl (cy 0, 6, .inl (upd (upd (upd (upd (upd (upd (fun _ => 0) 0 9) 1 6) 2 6) 3 9) 4 2) 5 9))), (q10, .inl (cy 0, 6, .inl (upd (upd (upd (upd (upd (upd (fun _ => 0) 0 0) 1 2) 2 3) 3 4) 4 5) 5 6))), (q11, .inl (cy 0, 10, .inl (fun _ => 0))), (q12, .inl (cy 0, 4, .inl (upd (upd (upd (upd (fun _ => 0) 0 2) 1 3) 2 4) 3 5))), (q13, .inl (cy 0, 4, .inl (upd (upd (upd (upd (fun _ => 0) 0 6) 1 6) 2 9) 3 2))), (q14, .inl (cy 0, 6, .inl (fun _ => 0)))] H _ := hW
  exact hret _ _ _ _ _ _ _ (Nat.le_of_ble_eq_true rfl) (Nat.le_of_ble_eq_true rfl) hW ⟨q1, q2, q3, q4, q5, q6, q7, q8, q9, q10, q11, q12, q13, q14, rfl⟩ dX9_init_262
