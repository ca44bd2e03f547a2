def knW (cA : Nat → ClassId) (h0 q1 : Nat) (f : Nat → Option Nat) (a : Nat → Nat → Nat) : va_W := (h0, .inr (0, [.ref q1, .int 0, .int 0])) :: (q1, eQ cA 2 8 f) :: ([] ++ rkW cA (a 0) ++ rkW cA (a 1) ++ rkW cA (a 2) ++ rkW cA (a 3) ++ rkW cA (a 4) ++ rkW cA (a 5) ++ rkW cA (a 6) ++ rkW cA (a 7))

theorem ob_X0_init : Cond.methodLink RX0 3 objectInit ∈ wsX0_init ∧ Cond.instanceMethod objectInit ∈ wsX0_init ∧ Cond.code objectInit ⟨#[0xb1]⟩ 1 none ∈ wsX0_init := by decide +kernel
theorem ca_X0_init_9 : Cond.classLink RX0 9 RX2 ∈ wsX0_init := by decide +kernel
set_option maxRecDepth 20000 in
theorem ff_X0_init_11 : FF RX0 wsX0_init 11 0 0 (.array (.object "ErasingMonks$Rock")) := ⟨RX0, TX0, 3, tyX0, rfl, (fun w h => List.mem_cons_of_mem _ (List.mem_append_left _ (List.mem_append_right _ h))), by decide, by decide +kernel, tyX0_ok, nmX0, rfl, rfl, by decide +kernel⟩
set_option maxRecDepth 20000 in
theorem fl_X0_init_11 : FL RX0 wsX0_init 11 0 0 := ⟨RX0, TX0, 3, rfl, (fun w h => List.mem_cons_of_mem _ (List.mem_append_left _ (List.mem_append_right _ h))), by decide, by decide +kernel⟩
theorem nc_X0_init_2 : Cond.classLink RX0 9 RX2 ∈ wsX0_init ∧ Cond.instantiable RX2 12 ∈ wsX0_init ∧ Cond.initialized RX2 ∈ wsX0_init := by decide +kernel
theorem md_X2_init : MD yX2_init wsX2_init 0 1 none := ⟨_, _, rfl, by decide, by decide +kernel, by decide +kernel, by decide +kernel⟩
theorem iw_X0_init_X2_init : Cond.instanceMethod yX2_init ∈ wsX0_init ∧ Cond.initialized RX2 ∈ wsX0_init := by decide +kernel
set_option maxHeartbeats 4000000 in
set_option maxRecDepth 100000 in
theorem c_X0_init (l : Launch) (G : va_G) (cA : Nat → ClassId) : CtN l yX0_init wsX0_init 2 65 416 G cA (.inr (0, [.null, .int 0, .int 0])) (fun h0 w => ∃ (q1 : Nat) (f : Nat → Option Nat) (a : Nat → Nat → Nat), (∀ i, i < 8 → f i = some (a i 0)) ∧ w = knW cA h0 q1 f a) := by
  refine mkN (cc := cX0_init) (maxL := 2) rfl rfl (by decide) rfl ?_
  intro X h0 hl hG hA C hr
  subst hl
  subst hG
  subst hA
  have hin := hr.2.2.1
  show Gj X [(h0, .inr (0, [.null, .int 0, .int 0]))] 0 0 [some (.ref h0), none] 0 []
  refine g_aload0 C dX0_init_0 ?_
  refine g_obj C dX0_init_1 ob_X0_init (by decide) (Nat.le_of_ble_eq_true rfl) ?_
  refine g_aload0 C dX0_init_4 ?_
  refine g_bipush C (nI 8) dX0_init_5 (by decide) ?_
  refine g_newq C 8 2 dX0_init_7 ca_X0_init_9 C.2.2.2.2.2.2.2.1.1 rfl (by decide) (by decide) (by decide) (fun q1 => ?_)
  refine g_putF C hin dX0_init_10 ff_X0_init_11 rfl rfl (Nat.le_of_ble_eq_true rfl) ?_
  refine g_iconst C (nI 0) dX0_init_13 (by decide) ?_
  refine g_istore1 C dX0_init_14 nl_r ?_
  refine g_iload1 C dX0_init_15 ?_
  refine g_bipush C (nI 8) dX0_init_16 (by decide) ?_
  refine g_geF C 40 dX0_init_18 (by decide) (by decide) ?_
  refine g_aload0 C dX0_init_21 ?_
  refine g_get (v := .ref q1) C dX0_init_22 fl_X0_init_11 rfl ?_
  refine g_iload1 C dX0_init_25 ?_
  refine g_new (ci := 2) (Cn := RX2) (T := TX2) (ty := tyX2) C [.int 0, .int 0, .int 0, .int 0, .int 0, .null, .null, .null, .null, .null, .null, .null] dX0_init_26 rfl (fun w h => List.mem_cons_of_mem _ (List.mem_append_right _ h)) tyX2_ok nc_X0_init_2 (fun j hj => by rcases (show j = 0 ∨ j = 1 ∨ j = 2 ∨ j = 3 ∨ j = 4 ∨ j = 5 ∨ j = 6 ∨ j = 7 ∨ j = 8 ∨ j = 9 ∨ j = 10 ∨ j = 11 by omega) with rfl | rfl | rfl | rfl | rfl | rfl | rfl | rfl | rfl | rfl | rfl | rfl <;> rfl) (by decide) (by decide) (fun q2 => ?_)
  refine g_dup C dX0_init_29 rfl ?_
  refine g_initN C dX0_init_30 (c_X2_init (xl X) (xY X).1 (xY X).2.2) ggX0_init_X2_init md_X2_init rfl iw_X0_init_X2_init C.2.2.2.2.2.2.2.1.2.2.1 (by decide) (by decide) (by decide) (Nat.le_of_ble_eq_true rfl) (fun w hw => ?_)
  obtain ⟨a1, rfl, rfl⟩ := hw
  refine g_astq (Cn := RX2) (T := TX2) (NN := 12) C 1 2 2 2 ((h0, .inr (0, [.ref q1, .int 0, .int 0])) :: (q1, eQ (xY X).2.2 2 8 (va_up (fun _ => none) 0 (some (a1 0)))) :: ([] ++ rkW (xY X).2.2 a1)) dX0_init_33 rfl rfl rfl rfl (by decide) (by decide) rfl ?_
  refine g_iinc1 C (nI 1) dX0_init_34 (by decide) nl_r ?_
  refine g_goto C 15 dX0_init_37 (by decide) ?_
  refine g_iload1 C dX0_init_15 ?_
  refine g_bipush C (nI 8) dX0_init_16 (by decide) ?_
  refine g_geF C 40 dX0_init_18 (by decide) (by decide) ?_
  refine g_aload0 C dX0_init_21 ?_
  refine g_get (v := .ref q1) C dX0_init_22 fl_X0_init_11 rfl ?_
  refine g_iload1 C dX0_init_25 ?_
  refine g_new (ci := 2) (Cn := RX2) (T := TX2) (ty := tyX2) C [.int 0, .int 0, .int 0, .int 0, .int 0, .null, .null, .null, .null, .null, .null, .null] dX0_init_26 rfl (fun w h => List.mem_cons_of_mem _ (List.mem_append_right _ h)) tyX2_ok nc_X0_init_2 (fun j hj => by rcases (show j = 0 ∨ j = 1 ∨ j = 2 ∨ j = 3 ∨ j = 4 ∨ j = 5 ∨ j = 6 ∨ j = 7 ∨ j = 8 ∨ j = 9 ∨ j = 10 ∨ j = 11 by omega) with rfl | rfl | rfl | rfl | rfl | rfl | rfl | rfl | rfl | rfl | rfl | rfl <;> rfl) (by decide) (by decide) (fun q3 => ?_)
  refine g_dup C dX0_init_29 rfl ?_
  refine g_initN C dX0_init_30 (c_X2_init (xl X) (xY X).1 (xY X).2.2) ggX0_init_X2_init md_X2_init rfl iw_X0_init_X2_init C.2.2.2.2.2.2.2.1.2.2.1 (by decide) (by decide) (by decide) (Nat.le_of_ble_eq_true rfl) (fun w hw => ?_)
  obtain ⟨a2, rfl, rfl⟩ := hw
  refine g_astq (Cn := RX2) (T := TX2) (NN := 12) C 1 2 10 2 ((h0, .inr (0, [.ref q1, .int 0, .int 0])) :: (q1, eQ (xY X).2.2 2 8 (va_up (va_up (fun _ => none) 0 (some (a1 0))) 1 (some (a2 0)))) :: ([] ++ rkW (xY X).2.2 a1 ++ rkW (xY X).2.2 a2)) dX0_init_33 rfl rfl rfl rfl (by decide) (by decide) rfl ?_
  refine g_iinc1 C (nI 2) dX0_init_34 (by decide) nl_r ?_
  refine g_goto C 15 dX0_init_37 (by decide) ?_
  refine g_iload1 C dX0_init_15 ?_
  refine g_bipush C (nI 8) dX0_init_16 (by decide) ?_
  refine g_geF C 40 dX0_init_18 (by decide) (by decide) ?_
  refine g_aload0 C dX0_init_21 ?_
  refine g_get (v := .ref q1) C dX0_init_22 fl_X0_init_11 rfl ?_
  refine g_iload1 C dX0_init_25 ?_
  refine g_new (ci := 2) (Cn := RX2) (T := TX2) (ty := tyX2) C [.int 0, .int 0, .int 0, .int 0, .int 0, .null, .null, .null, .null, .null, .null, .null] dX0_init_26 rfl (fun w h => List.mem_cons_of_mem _ (List.mem_append_right _ h)) tyX2_ok nc_X0_init_2 (fun j hj => by rcases (show j = 0 ∨ j = 1 ∨ j = 2 ∨ j = 3 ∨ j = 4 ∨ j = 5 ∨ j = 6 ∨ j = 7 ∨ j = 8 ∨ j = 9 ∨ j = 10 ∨ j = 11 by omega) with rfl | rfl | rfl | rfl | rfl | rfl | rfl | rfl | rfl | rfl | rfl | rfl <;> rfl) (by decide) (by decide) (fun q4 => ?_)
  refine g_dup C dX0_init_29 rfl ?_
  refine g_initN C dX0_init_30 (c_X2_init (xl X) (xY X).1 (xY X).2.2) ggX0_init_X2_init md_X2_init rfl iw_X0_init_X2_init C.2.2.2.2.2.2.2.1.2.2.1 (by decide) (by decide) (by decide) (Nat.le_of_ble_eq_true rfl) (fun w hw => ?_)
  obtain ⟨a3, rfl, rfl⟩ := hw
  refine g_astq (Cn := RX2) (T := TX2) (NN := 12) C 1 2 18 2 ((h0, .inr (0, [.ref q1, .int 0, .int 0])) :: (q1, eQ (xY X).2.2 2 8 (va_up (va_up (va_up (fun _ => none) 0 (some (a1 0))) 1 (some (a2 0))) 2 (some (a3 0)))) :: ([] ++ rkW (xY X).2.2 a1 ++ rkW (xY X).2.2 a2 ++ rkW (xY X).2.2 a3)) dX0_init_33 rfl rfl rfl rfl (by decide) (by decide) rfl ?_
  refine g_iinc1 C (nI 3) dX0_init_34 (by decide) nl_r ?_
  refine g_goto C 15 dX0_init_37 (by decide) ?_
  refine g_iload1 C dX0_init_15 ?_
  refine g_bipush C (nI 8) dX0_init_16 (by decide) ?_
  refine g_geF C 40 dX0_init_18 (by decide) (by decide) ?_
  refine g_aload0 C dX0_init_21 ?_
  refine g_get (v := .ref q1) C dX0_init_22 fl_X0_init_11 rfl ?_
  refine g_iload1 C dX0_init_25 ?_
  refine g_new (ci := 2) (Cn := RX2) (T := TX2) (ty := tyX2) C [.int 0, .int 0, .int 0, .int 0, .int 0, .null, .null, .null, .null, .null, .null, .null] dX0_init_26 rfl (fun w h => List.mem_cons_of_mem _ (List.mem_append_right _ h)) tyX2_ok nc_X0_init_2 (fun j hj => by rcases (show j = 0 ∨ j = 1 ∨ j = 2 ∨ j = 3 ∨ j = 4 ∨ j = 5 ∨ j = 6 ∨ j = 7 ∨ j = 8 ∨ j = 9 ∨ j = 10 ∨ j = 11 by omega) with rfl | rfl | rfl | rfl | rfl | rfl | rfl | rfl | rfl | rfl | rfl | rfl <;> rfl) (by decide) (by decide) (fun q5 => ?_)
  refine g_dup C dX0_init_29 rfl ?_
  refine g_initN C dX0_init_30 (c_X2_init (xl X) (xY X).1 (xY X).2.2) ggX0_init_X2_init md_X2_init rfl iw_X0_init_X2_init C.2.2.2.2.2.2.2.1.2.2.1 (by decide) (by decide) (by decide) (Nat.le_of_ble_eq_true rfl) (fun w hw => ?_)
  obtain ⟨a4, rfl, rfl⟩ := hw
  refine g_astq (Cn := RX2) (T := TX2) (NN := 12) C 1 2 26 2 ((h0, .inr (0, [.ref q1, .int 0, .int 0])) :: (q1, eQ (xY X).2.2 2 8 (va_up (va_up (va_up (va_up (fun _ => none) 0 (some (a1 0))) 1 (some (a2 0))) 2 (some (a3 0))) 3 (some (a4 0)))) :: ([] ++ rkW (xY X).2.2 a1 ++ rkW (xY X).2.2 a2 ++ rkW (xY X).2.2 a3 ++ rkW (xY X).2.2 a4)) dX0_init_33 rfl rfl rfl rfl (by decide) (by decide) rfl ?_
  refine g_iinc1 C (nI 4) dX0_init_34 (by decide) nl_r ?_
  refine g_goto C 15 dX0_init_37 (by decide) ?_
  refine g_iload1 C dX0_init_15 ?_
  refine g_bipush C (nI 8) dX0_init_16 (by decide) ?_
  refine g_geF C 40 dX0_init_18 (by decide) (by decide) ?_
  refine g_aload0 C dX0_init_21 ?_
  refine g_get (v := .ref q1) C dX0_init_22 fl_X0_init_11 rfl ?_
  refine g_iload1 C dX0_init_25 ?_
  refine g_new (ci := 2) (Cn := RX2) (T := TX2) (ty := tyX2) C [.int 0, .int 0, .int 0, .int 0, .int 0, .null, .null, .null, .null, .null, .null, .null] dX0_init_26 rfl (fun w h => List.mem_cons_of_mem _ (List.mem_append_right _ h)) tyX2_ok nc_X0_init_2 (fun j hj => by rcases (show j = 0 ∨ j = 1 ∨ j = 2 ∨ j = 3 ∨ j = 4 ∨ j = 5 ∨ j = 6 ∨ j = 7 ∨ j = 8 ∨ j = 9 ∨ j = 10 ∨ j = 11 by omega) with rfl | rfl | rfl | rfl | rfl | rfl | rfl | rfl | rfl | rfl | rfl | rfl <;> rfl) (by decide) (by decide) (fun q6 => ?_)
  refine g_dup C dX0_init_29 rfl ?_
  refine g_initN C dX0_init_30 (c_X2_init (xl X) (xY X).1 (xY X).2.2) ggX0_init_X2_init md_X2_init rfl iw_X0_init_X2_init C.2.2.2.2.2.2.2.1.2.2.1 (by decide) (by decide) (by decide) (Nat.le_of_ble_eq_true rfl) (fun w hw => ?_)
  obtain ⟨a5, rfl, rfl⟩ := hw
  refine g_astq (Cn := RX2) (T := TX2) (NN := 12) C 1 2 34 2 ((h0, .inr (0, [.ref q1, .int 0, .int 0])) :: (q1, eQ (xY X).2.2 2 8 (va_up (va_up (va_up (va_up (va_up (fun _ => none) 0 (some (a1 0))) 1 (some (a2 0))) 2 (some (a3 0))) 3 (some (a4 0))) 4 (some (a5 0)))) :: ([] ++ rkW (xY X).2.2 a1 ++ rkW (xY X).2.2 a2 ++ rkW (xY X).2.2 a3 ++ rkW (xY X).2.2 a4 ++ rkW (xY X).2.2 a5)) dX0_init_33 rfl rfl rfl rfl (by decide) (by decide) rfl ?_
  refine g_iinc1 C (nI 5) dX0_init_34 (by decide) nl_r ?_
  refine g_goto C 15 dX0_init_37 (by decide) ?_
  refine g_iload1 C dX0_init_15 ?_
  refine g_bipush C (nI 8) dX0_init_16 (by decide) ?_
  refine g_geF C 40 dX0_init_18 (by decide) (by decide) ?_
  refine g_aload0 C dX0_init_21 ?_
  refine g_get (v := .ref q1) C dX0_init_22 fl_X0_init_11 rfl ?_
  refine g_iload1 C dX0_init_25 ?_
  refine g_new (ci := 2) (Cn := RX2) (T := TX2) (ty := tyX2) C [.int 0, .int 0, .int 0, .int 0, .int 0, .null, .null, .null, .null, .null, .null, .null] dX0_init_26 rfl (fun w h => List.mem_cons_of_mem _ (List.mem_append_right _ h)) tyX2_ok nc_X0_init_2 (fun j hj => by rcases (show j = 0 ∨ j = 1 ∨ j = 2 ∨ j = 3 ∨ j = 4 ∨ j = 5 ∨ j = 6 ∨ j = 7 ∨ j = 8 ∨ j = 9 ∨ j = 10 ∨ j = 11 by omega) with rfl | rfl | rfl | rfl | rfl | rfl | rfl | rfl | rfl | rfl | rfl | rfl <;> rfl) (by decide) (by decide) (fun q7 => ?_)
  refine g_dup C dX0_init_29 rfl ?_
  refine g_initN C dX0_init_30 (c_X2_init (xl X) (xY X).1 (xY X).2.2) ggX0_init_X2_init md_X2_init rfl iw_X0_init_X2_init C.2.2.2.2.2.2.2.1.2.2.1 (by decide) (by decide) (by decide) (Nat.le_of_ble_eq_true rfl) (fun w hw => ?_)
  obtain ⟨a6, rfl, rfl⟩ := hw
  refine g_astq (Cn := RX2) (T := TX2) (NN := 12) C 1 2 42 2 ((h0, .inr (0, [.ref q1, .int 0, .int 0])) :: (q1, eQ (xY X).2.2 2 8 (va_up (va_up (va_up (va_up (va_up (va_up (fun _ => none) 0 (some (a1 0))) 1 (some (a2 0))) 2 (some (a3 0))) 3 (some (a4 0))) 4 (some (a5 0))) 5 (some (a6 0)))) :: ([] ++ rkW (xY X).2.2 a1 ++ rkW (xY X).2.2 a2 ++ rkW (xY X).2.2 a3 ++ rkW (xY X).2.2 a4 ++ rkW (xY X).2.2 a5 ++ rkW (xY X).2.2 a6)) dX0_init_33 rfl rfl rfl rfl (by decide) (by decide) rfl ?_
  refine g_iinc1 C (nI 6) dX0_init_34 (by decide) nl_r ?_
  refine g_goto C 15 dX0_init_37 (by decide) ?_
  refine g_iload1 C dX0_init_15 ?_
  refine g_bipush C (nI 8) dX0_init_16 (by decide) ?_
  refine g_geF C 40 dX0_init_18 (by decide) (by decide) ?_
  refine g_aload0 C dX0_init_21 ?_
  refine g_get (v := .ref q1) C dX0_init_22 fl_X0_init_11 rfl ?_
  refine g_iload1 C dX0_init_25 ?_
  refine g_new (ci := 2) (Cn := RX2) (T := TX2) (ty := tyX2) C [.int 0, .int 0, .int 0, .int 0, .int 0, .null, .null, .null, .null, .null, .null, .null] dX0_init_26 rfl (fun w h => List.mem_cons_of_mem _ (List.mem_append_right _ h)) tyX2_ok nc_X0_init_2 (fun j hj => by rcases (show j = 0 ∨ j = 1 ∨ j = 2 ∨ j = 3 ∨ j = 4 ∨ j = 5 ∨ j = 6 ∨ j = 7 ∨ j = 8 ∨ j = 9 ∨ j = 10 ∨ j = 11 by omega) with rfl | rfl | rfl | rfl | rfl | rfl | rfl | rfl | rfl | rfl | rfl | rfl <;> rfl) (by decide) (by decide) (fun q8 => ?_)
  refine g_dup C dX0_init_29 rfl ?_
  refine g_initN C dX0_init_30 (c_X2_init (xl X) (xY X).1 (xY X).2.2) ggX0_init_X2_init md_X2_init rfl iw_X0_init_X2_init C.2.2.2.2.2.2.2.1.2.2.1 (by decide) (by decide) (by decide) (Nat.le_of_ble_eq_true rfl) (fun w hw => ?_)
  obtain ⟨a7, rfl, rfl⟩ := hw
  refine g_astq (Cn := RX2) (T := TX2) (NN := 12) C 1 2 50 2 ((h0, .inr (0, [.ref q1, .int 0, .int 0])) :: (q1, eQ (xY X).2.2 2 8 (va_up (va_up (va_up (va_up (va_up (va_up (va_up (fun _ => none) 0 (some (a1 0))) 1 (some (a2 0))) 2 (some (a3 0))) 3 (some (a4 0))) 4 (some (a5 0))) 5 (some (a6 0))) 6 (some (a7 0)))) :: ([] ++ rkW (xY X).2.2 a1 ++ rkW (xY X).2.2 a2 ++ rkW (xY X).2.2 a3 ++ rkW (xY X).2.2 a4 ++ rkW (xY X).2.2 a5 ++ rkW (xY X).2.2 a6 ++ rkW (xY X).2.2 a7)) dX0_init_33 rfl rfl rfl rfl (by decide) (by decide) rfl ?_
  refine g_iinc1 C (nI 7) dX0_init_34 (by decide) nl_r ?_
  refine g_goto C 15 dX0_init_37 (by decide) ?_
  refine g_iload1 C dX0_init_15 ?_
  refine g_bipush C (nI 8) dX0_init_16 (by decide) ?_
  refine g_geF C 40 dX0_init_18 (by decide) (by decide) ?_
  refine g_aload0 C dX0_init_21 ?_
  refine g_get (v := .ref q1) C dX0_init_22 fl_X0_init_11 rfl ?_
  refine g_iload1 C dX0_init_25 ?_
  refine g_new (ci := 2) (Cn := RX2) (T := TX2) (ty := tyX2) C [.int 0, .int 0, .int 0, .int 0, .int 0, .null, .null, .null, .null, .null, .null, .null] dX0_init_26 rfl (fun w h => List.mem_cons_of_mem _ (List.mem_append_right _ h)) tyX2_ok nc_X0_init_2 (fun j hj => by rcases (show j = 0 ∨ j = 1 ∨ j = 2 ∨ j = 3 ∨ j = 4 ∨ j = 5 ∨ j = 6 ∨ j = 7 ∨ j = 8 ∨ j = 9 ∨ j = 10 ∨ j = 11 by omega) with rfl | rfl | rfl | rfl | rfl | rfl | rfl | rfl | rfl | rfl | rfl | rfl <;> rfl) (by decide) (by decide) (fun q9 => ?_)
  refine g_dup C dX0_init_29 rfl ?_
  refine g_initN C dX0_init_30 (c_X2_init (xl X) (xY X).1 (xY X).2.2) ggX0_init_X2_init md_X2_init rfl iw_X0_init_X2_init C.2.2.2.2.2.2.2.1.2.2.1 (by decide) (by decide) (by decide) (Nat.le_of_ble_eq_true rfl) (fun w hw => ?_)
  obtain ⟨a8, rfl, rfl⟩ := hw
  refine g_astq (Cn := RX2) (T := TX2) (NN := 12) C 1 2 58 2 ((h0, .inr (0, [.ref q1, .int 0, .int 0])) :: (q1, eQ (xY X).2.2 2 8 (va_up (va_up (va_up (va_up (va_up (va_up (va_up (va_up (fun _ => none) 0 (some (a1 0))) 1 (some (a2 0))) 2 (some (a3 0))) 3 (some (a4 0))) 4 (some (a5 0))) 5 (some (a6 0))) 6 (some (a7 0))) 7 (some (a8 0)))) :: ([] ++ rkW (xY X).2.2 a1 ++ rkW (xY X).2.2 a2 ++ rkW (xY X).2.2 a3 ++ rkW (xY X).2.2 a4 ++ rkW (xY X).2.2 a5 ++ rkW (xY X).2.2 a6 ++ rkW (xY X).2.2 a7 ++ rkW (xY X).2.2 a8)) dX0_init_33 rfl rfl rfl rfl (by decide) (by decide) rfl ?_
  refine g_iinc1 C (nI 8) dX0_init_34 (by decide) nl_r ?_
  refine g_goto C 15 dX0_init_37 (by decide) ?_
  refine g_iload1 C dX0_init_15 ?_
  refine g_bipush C (nI 8) dX0_init_16 (by decide) ?_
  refine g_geT C 40 dX0_init_18 (by decide) (by decide) ?_
  exact g_vret C dX0_init_40 hr (by decide) (by decide) ⟨q1, (va_up (va_up (va_up (va_up (va_up (va_up (va_up (va_up (fun _ => none) 0 (some (a1 0))) 1 (some (a2 0))) 2 (some (a3 0))) 3 (some (a4 0))) 4 (some (a5 0))) 5 (some (a6 0))) 6 (some (a7 0))) 7 (some (a8 0))), fun i => [a1, a2, a3, a4, a5, a6, a7, a8].getD i (fun _ => 0), fun i hi => by rcases (show i = 0 ∨ i = 1 ∨ i = 2 ∨ i = 3 ∨ i = 4 ∨ i = 5 ∨ i = 6 ∨ i = 7 by omega) with rfl | rfl | rfl | rfl | rfl | rfl | rfl | rfl <;> rfl, rfl⟩
