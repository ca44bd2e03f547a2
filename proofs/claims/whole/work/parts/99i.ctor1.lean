/-! the cells of what is made -/
abbrev eI (cA : Nat → ClassId) (n : Nat) : va_E := .inl (cA 0, n, .inl (fun _ => 0))
abbrev eJ (cA : Nat → ClassId) (n : Nat) : va_E := .inl (cA 1, n, .inr (.inl (fun _ => 0)))
abbrev eQ (cA : Nat → ClassId) (t n : Nat) (f : Nat → Option Nat) : va_E := .inl (cA t, n, .inr (.inr (.inr (.inr f))))
def rkW (cA : Nat → ClassId) (a : Nat → Nat) : va_W := [(a 0, .inr (2, [.int 0, .int 0, .int 0, .int 0, .int 1, .ref (a 1), .ref (a 2), .ref (a 3), .ref (a 4), .ref (a 5), .ref (a 6), .ref (a 7)])), (a 1, eI cA 6), (a 2, eI cA 6), (a 3, eI cA 6), (a 4, eI cA 6), (a 5, eI cA 5), (a 6, eI cA 5), (a 7, eI cA 5)]

theorem ob_X1_init : Cond.methodLink RX1 3 objectInit ∈ wsX1_init ∧ Cond.instanceMethod objectInit ∈ wsX1_init ∧ Cond.code objectInit ⟨#[0xb1]⟩ 1 none ∈ wsX1_init := by decide +kernel
set_option maxHeartbeats 4000000 in
set_option maxRecDepth 100000 in
theorem c_X1_init (l : Launch) (G : va_G) (cA : Nat → ClassId) : CtN l yX1_init wsX1_init 1 0 0 G cA (.inr (1, [.int 0, .int 0, .int 0, .int 0])) (fun h0 w => w = [(h0, .inr (1, [.int 0, .int 0, .int 0, .int 0]))]) := by
  refine mkN (cc := cX1_init) (maxL := 1) rfl rfl (by decide) rfl ?_
  intro X h0 hl hG hA C hr
  subst hl
  subst hG
  subst hA
  have hin := hr.2.2.1
  show Gj X [(h0, .inr (1, [.int 0, .int 0, .int 0, .int 0]))] 0 0 [some (.ref h0)] 0 []
  refine g_aload0 C dX1_init_0 ?_
  refine g_obj C dX1_init_1 ob_X1_init (by decide) (Nat.le_of_ble_eq_true rfl) ?_
  exact g_vret C dX1_init_4 hr (by decide) (by decide) (rfl)

theorem ob_X2_init : Cond.methodLink RX2 3 objectInit ∈ wsX2_init ∧ Cond.instanceMethod objectInit ∈ wsX2_init ∧ Cond.code objectInit ⟨#[0xb1]⟩ 1 none ∈ wsX2_init := by decide +kernel
set_option maxRecDepth 20000 in
theorem fl_X2_init_9 : FL RX2 wsX2_init 9 2 4 := ⟨RX2, TX2, 12, rfl, (fun w h => List.mem_cons_of_mem _ (List.mem_append_right _ h)), by decide, by decide +kernel⟩
theorem fp_X2_init_9 : FP RX2 wsX2_init 9 2 4 .int := ⟨fl_X2_init_9, RX2, TX2, 12, tyX2, rfl, tyX2_ok, nmX2, rfl, by decide +kernel⟩
theorem aw_X2_init_int : Cond.arrayClass .int ∈ wsX2_init := by decide +kernel
set_option maxRecDepth 20000 in
theorem ff_X2_init_15 : FF RX2 wsX2_init 15 2 5 (.array .int) := ⟨RX2, TX2, 12, tyX2, rfl, (fun w h => List.mem_cons_of_mem _ (List.mem_append_right _ h)), by decide, by decide +kernel, tyX2_ok, nmX2, rfl, rfl, by decide +kernel⟩
set_option maxRecDepth 20000 in
theorem ff_X2_init_19 : FF RX2 wsX2_init 19 2 6 (.array .int) := ⟨RX2, TX2, 12, tyX2, rfl, (fun w h => List.mem_cons_of_mem _ (List.mem_append_right _ h)), by decide, by decide +kernel, tyX2_ok, nmX2, rfl, rfl, by decide +kernel⟩
set_option maxRecDepth 20000 in
theorem ff_X2_init_22 : FF RX2 wsX2_init 22 2 7 (.array .int) := ⟨RX2, TX2, 12, tyX2, rfl, (fun w h => List.mem_cons_of_mem _ (List.mem_append_right _ h)), by decide, by decide +kernel, tyX2_ok, nmX2, rfl, rfl, by decide +kernel⟩
set_option maxRecDepth 20000 in
theorem ff_X2_init_25 : FF RX2 wsX2_init 25 2 8 (.array .int) := ⟨RX2, TX2, 12, tyX2, rfl, (fun w h => List.mem_cons_of_mem _ (List.mem_append_right _ h)), by decide, by decide +kernel, tyX2_ok, nmX2, rfl, rfl, by decide +kernel⟩
set_option maxRecDepth 20000 in
theorem ff_X2_init_28 : FF RX2 wsX2_init 28 2 9 (.array .int) := ⟨RX2, TX2, 12, tyX2, rfl, (fun w h => List.mem_cons_of_mem _ (List.mem_append_right _ h)), by decide, by decide +kernel, tyX2_ok, nmX2, rfl, rfl, by decide +kernel⟩
set_option maxRecDepth 20000 in
theorem ff_X2_init_31 : FF RX2 wsX2_init 31 2 10 (.array .int) := ⟨RX2, TX2, 12, tyX2, rfl, (fun w h => List.mem_cons_of_mem _ (List.mem_append_right _ h)), by decide, by decide +kernel, tyX2_ok, nmX2, rfl, rfl, by decide +kernel⟩
set_option maxRecDepth 20000 in
theorem ff_X2_init_34 : FF RX2 wsX2_init 34 2 11 (.array .int) := ⟨RX2, TX2, 12, tyX2, rfl, (fun w h => List.mem_cons_of_mem _ (List.mem_append_right _ h)), by decide, by decide +kernel, tyX2_ok, nmX2, rfl, rfl, by decide +kernel⟩
set_option maxHeartbeats 4000000 in
set_option maxRecDepth 100000 in
theorem c_X2_init (l : Launch) (G : va_G) (cA : Nat → ClassId) : CtN l yX2_init wsX2_init 1 7 39 G cA (.inr (2, [.int 0, .int 0, .int 0, .int 0, .int 0, .null, .null, .null, .null, .null, .null, .null])) (fun h0 w => ∃ a : Nat → Nat, a 0 = h0 ∧ w = rkW cA a) := by
  refine mkN (cc := cX2_init) (maxL := 1) rfl rfl (by decide) rfl ?_
  intro X h0 hl hG hA C hr
  subst hl
  subst hG
  subst hA
  have hin := hr.2.2.1
  show Gj X [(h0, .inr (2, [.int 0, .int 0, .int 0, .int 0, .int 0, .null, .null, .null, .null, .null, .null, .null]))] 0 0 [some (.ref h0)] 0 []
  refine g_aload0 C dX2_init_0 ?_
  refine g_obj C dX2_init_1 ob_X2_init (by decide) (Nat.le_of_ble_eq_true rfl) ?_
  refine g_aload0 C dX2_init_4 ?_
  refine g_iconst C (nI 1) dX2_init_5 (by decide) ?_
  refine g_put C dX2_init_6 fp_X2_init_9 rfl rfl (Nat.le_of_ble_eq_true rfl) ?_
  refine g_aload0 C dX2_init_9 ?_
  refine g_bipush C (nI 6) dX2_init_10 (by decide) ?_
  refine g_newI C 6 dX2_init_12 aw_X2_init_int (by decide) (by decide) (by decide) (fun q1 => ?_)
  refine g_putF C hin dX2_init_14 ff_X2_init_15 rfl rfl (Nat.le_of_ble_eq_true rfl) ?_
  refine g_aload0 C dX2_init_17 ?_
  refine g_bipush C (nI 6) dX2_init_18 (by decide) ?_
  refine g_newI C 6 dX2_init_20 aw_X2_init_int (by decide) (by decide) (by decide) (fun q2 => ?_)
  refine g_putF C hin dX2_init_22 ff_X2_init_19 rfl rfl (Nat.le_of_ble_eq_true rfl) ?_
  refine g_aload0 C dX2_init_25 ?_
  refine g_bipush C (nI 6) dX2_init_26 (by decide) ?_
  refine g_newI C 6 dX2_init_28 aw_X2_init_int (by decide) (by decide) (by decide) (fun q3 => ?_)
  refine g_putF C hin dX2_init_30 ff_X2_init_22 rfl rfl (Nat.le_of_ble_eq_true rfl) ?_
  refine g_aload0 C dX2_init_33 ?_
  refine g_bipush C (nI 6) dX2_init_34 (by decide) ?_
  refine g_newI C 6 dX2_init_36 aw_X2_init_int (by decide) (by decide) (by decide) (fun q4 => ?_)
  refine g_putF C hin dX2_init_38 ff_X2_init_25 rfl rfl (Nat.le_of_ble_eq_true rfl) ?_
  refine g_aload0 C dX2_init_41 ?_
  refine g_iconst C (nI 5) dX2_init_42 (by decide) ?_
  refine g_newI C 5 dX2_init_43 aw_X2_init_int (by decide) (by decide) (by decide) (fun q5 => ?_)
  refine g_putF C hin dX2_init_45 ff_X2_init_28 rfl rfl (Nat.le_of_ble_eq_true rfl) ?_
  refine g_aload0 C dX2_init_48 ?_
  refine g_iconst C (nI 5) dX2_init_49 (by decide) ?_
  refine g_newI C 5 dX2_init_50 aw_X2_init_int (by decide) (by decide) (by decide) (fun q6 => ?_)
  refine g_putF C hin dX2_init_52 ff_X2_init_31 rfl rfl (Nat.le_of_ble_eq_true rfl) ?_
  refine g_aload0 C dX2_init_55 ?_
  refine g_iconst C (nI 5) dX2_init_56 (by decide) ?_
  refine g_newI C 5 dX2_init_57 aw_X2_init_int (by decide) (by decide) (by decide) (fun q7 => ?_)
  refine g_putF C hin dX2_init_59 ff_X2_init_34 rfl rfl (Nat.le_of_ble_eq_true rfl) ?_
  exact g_vret C dX2_init_62 hr (by decide) (by decide) (⟨fun i => [h0, q1, q2, q3, q4, q5, q6, q7].getD i 0, rfl, rfl⟩)

theorem ob_X3_init : Cond.methodLink RX3 3 objectInit ∈ wsX3_init ∧ Cond.instanceMethod objectInit ∈ wsX3_init ∧ Cond.code objectInit ⟨#[0xb1]⟩ 1 none ∈ wsX3_init := by decide +kernel
theorem aw_X3_init_int : Cond.arrayClass .int ∈ wsX3_init := by decide +kernel
set_option maxRecDepth 20000 in
theorem ff_X3_init_9 : FF RX3 wsX3_init 9 3 0 (.array .int) := ⟨RX3, TX3, 4, tyX3, rfl, (fun w h => List.mem_cons_of_mem _ (List.mem_append_right _ h)), by decide, by decide +kernel, tyX3_ok, nmX3, rfl, rfl, by decide +kernel⟩
set_option maxRecDepth 20000 in
theorem ff_X3_init_15 : FF RX3 wsX3_init 15 3 1 (.array .int) := ⟨RX3, TX3, 4, tyX3, rfl, (fun w h => List.mem_cons_of_mem _ (List.mem_append_right _ h)), by decide, by decide +kernel, tyX3_ok, nmX3, rfl, rfl, by decide +kernel⟩
set_option maxHeartbeats 4000000 in
set_option maxRecDepth 100000 in
theorem c_X3_init (l : Launch) (G : va_G) (cA : Nat → ClassId) : CtN l yX3_init wsX3_init 1 2 12 G cA (.inr (3, [.null, .null, .int 0, .int 0])) (fun h0 w => ∃ q1 q2, w = [(h0, .inr (3, [.ref q1, .ref q2, .int 0, .int 0])), (q1, eI cA 6), (q2, eI cA 6)]) := by
  refine mkN (cc := cX3_init) (maxL := 1) rfl rfl (by decide) rfl ?_
  intro X h0 hl hG hA C hr
  subst hl
  subst hG
  subst hA
  have hin := hr.2.2.1
  show Gj X [(h0, .inr (3, [.null, .null, .int 0, .int 0]))] 0 0 [some (.ref h0)] 0 []
  refine g_aload0 C dX3_init_0 ?_
  refine g_obj C dX3_init_1 ob_X3_init (by decide) (Nat.le_of_ble_eq_true rfl) ?_
  refine g_aload0 C dX3_init_4 ?_
  refine g_bipush C (nI 6) dX3_init_5 (by decide) ?_
  refine g_newI C 6 dX3_init_7 aw_X3_init_int (by decide) (by decide) (by decide) (fun q1 => ?_)
  refine g_putF C hin dX3_init_9 ff_X3_init_9 rfl rfl (Nat.le_of_ble_eq_true rfl) ?_
  refine g_aload0 C dX3_init_12 ?_
  refine g_bipush C (nI 6) dX3_init_13 (by decide) ?_
  refine g_newI C 6 dX3_init_15 aw_X3_init_int (by decide) (by decide) (by decide) (fun q2 => ?_)
  refine g_putF C hin dX3_init_17 ff_X3_init_15 rfl rfl (Nat.le_of_ble_eq_true rfl) ?_
  exact g_vret C dX3_init_20 hr (by decide) (by decide) (⟨q1, q2, rfl⟩)

theorem ob_X4_init : Cond.methodLink RX4 3 objectInit ∈ wsX4_init ∧ Cond.instanceMethod objectInit ∈ wsX4_init ∧ Cond.code objectInit ⟨#[0xb1]⟩ 1 none ∈ wsX4_init := by decide +kernel
theorem aw_X4_init_int : Cond.arrayClass .int ∈ wsX4_init := by decide +kernel
set_option maxRecDepth 20000 in
theorem ff_X4_init_9 : FF RX4 wsX4_init 9 4 0 (.array .int) := ⟨RX4, TX4, 6, tyX4, rfl, (fun w h => List.mem_cons_of_mem _ (List.mem_append_right _ h)), by decide, by decide +kernel, tyX4_ok, nmX4, rfl, rfl, by decide +kernel⟩
set_option maxRecDepth 20000 in
theorem ff_X4_init_15 : FF RX4 wsX4_init 15 4 1 (.array .int) := ⟨RX4, TX4, 6, tyX4, rfl, (fun w h => List.mem_cons_of_mem _ (List.mem_append_right _ h)), by decide, by decide +kernel, tyX4_ok, nmX4, rfl, rfl, by decide +kernel⟩
set_option maxRecDepth 20000 in
theorem ff_X4_init_18 : FF RX4 wsX4_init 18 4 2 (.array .int) := ⟨RX4, TX4, 6, tyX4, rfl, (fun w h => List.mem_cons_of_mem _ (List.mem_append_right _ h)), by decide, by decide +kernel, tyX4_ok, nmX4, rfl, rfl, by decide +kernel⟩
set_option maxRecDepth 20000 in
theorem ff_X4_init_21 : FF RX4 wsX4_init 21 4 4 (.array .int) := ⟨RX4, TX4, 6, tyX4, rfl, (fun w h => List.mem_cons_of_mem _ (List.mem_append_right _ h)), by decide, by decide +kernel, tyX4_ok, nmX4, rfl, rfl, by decide +kernel⟩
set_option maxHeartbeats 4000000 in
set_option maxRecDepth 100000 in
theorem c_X4_init (l : Launch) (G : va_G) (cA : Nat → ClassId) : CtN l yX4_init wsX4_init 1 4 22 G cA (.inr (4, [.null, .null, .null, .int 0, .null, .int 0])) (fun h0 w => ∃ q1 q2 q3 q4, w = [(h0, .inr (4, [.ref q1, .ref q2, .ref q3, .int 0, .ref q4, .int 0])), (q1, eI cA 6), (q2, eI cA 6), (q3, eI cA 5), (q4, eI cA 5)]) := by
  refine mkN (cc := cX4_init) (maxL := 1) rfl rfl (by decide) rfl ?_
  intro X h0 hl hG hA C hr
  subst hl
  subst hG
  subst hA
  have hin := hr.2.2.1
  show Gj X [(h0, .inr (4, [.null, .null, .null, .int 0, .null, .int 0]))] 0 0 [some (.ref h0)] 0 []
  refine g_aload0 C dX4_init_0 ?_
  refine g_obj C dX4_init_1 ob_X4_init (by decide) (Nat.le_of_ble_eq_true rfl) ?_
  refine g_aload0 C dX4_init_4 ?_
  refine g_bipush C (nI 6) dX4_init_5 (by decide) ?_
  refine g_newI C 6 dX4_init_7 aw_X4_init_int (by decide) (by decide) (by decide) (fun q1 => ?_)
  refine g_putF C hin dX4_init_9 ff_X4_init_9 rfl rfl (Nat.le_of_ble_eq_true rfl) ?_
  refine g_aload0 C dX4_init_12 ?_
  refine g_bipush C (nI 6) dX4_init_13 (by decide) ?_
  refine g_newI C 6 dX4_init_15 aw_X4_init_int (by decide) (by decide) (by decide) (fun q2 => ?_)
  refine g_putF C hin dX4_init_17 ff_X4_init_15 rfl rfl (Nat.le_of_ble_eq_true rfl) ?_
  refine g_aload0 C dX4_init_20 ?_
  refine g_iconst C (nI 5) dX4_init_21 (by decide) ?_
  refine g_newI C 5 dX4_init_22 aw_X4_init_int (by decide) (by decide) (by decide) (fun q3 => ?_)
  refine g_putF C hin dX4_init_24 ff_X4_init_18 rfl rfl (Nat.le_of_ble_eq_true rfl) ?_
  refine g_aload0 C dX4_init_27 ?_
  refine g_iconst C (nI 5) dX4_init_28 (by decide) ?_
  refine g_newI C 5 dX4_init_29 aw_X4_init_int (by decide) (by decide) (by decide) (fun q4 => ?_)
  refine g_putF C hin dX4_init_31 ff_X4_init_21 rfl rfl (Nat.le_of_ble_eq_true rfl) ?_
  exact g_vret C dX4_init_34 hr (by decide) (by decide) (⟨q1, q2, q3, q4, rfl⟩)

theorem ob_X5_init : Cond.methodLink RX5 3 objectInit ∈ wsX5_init ∧ Cond.instanceMethod objectInit ∈ wsX5_init ∧ Cond.code objectInit ⟨#[0xb1]⟩ 1 none ∈ wsX5_init := by decide +kernel
theorem aw_X5_init_long : Cond.arrayClass .long ∈ wsX5_init := by decide +kernel
set_option maxRecDepth 20000 in
theorem ff_X5_init_9 : FF RX5 wsX5_init 9 5 3 (.array .long) := ⟨RX5, TX5, 4, tyX5, rfl, (fun w h => List.mem_cons_of_mem _ (List.mem_append_right _ h)), by decide, by decide +kernel, tyX5_ok, nmX5, rfl, rfl, by decide +kernel⟩
set_option maxHeartbeats 4000000 in
set_option maxRecDepth 100000 in
theorem c_X5_init (l : Launch) (G : va_G) (cA : Nat → ClassId) : CtN l yX5_init wsX5_init 1 1 24 G cA (.inr (5, [.int 0, .int 0, .int 0, .null])) (fun h0 w => ∃ q1, w = [(h0, .inr (5, [.int 0, .int 0, .int 0, .ref q1])), (q1, eJ cA 24)]) := by
  refine mkN (cc := cX5_init) (maxL := 1) rfl rfl (by decide) rfl ?_
  intro X h0 hl hG hA C hr
  subst hl
  subst hG
  subst hA
  have hin := hr.2.2.1
  show Gj X [(h0, .inr (5, [.int 0, .int 0, .int 0, .null]))] 0 0 [some (.ref h0)] 0 []
  refine g_aload0 C dX5_init_0 ?_
  refine g_obj C dX5_init_1 ob_X5_init (by decide) (Nat.le_of_ble_eq_true rfl) ?_
  refine g_aload0 C dX5_init_4 ?_
  refine g_bipush C (nI 24) dX5_init_5 (by decide) ?_
  refine g_newJ C 24 dX5_init_7 aw_X5_init_long (by decide) (by decide) (by decide) (fun q1 => ?_)
  refine g_putF C hin dX5_init_9 ff_X5_init_9 rfl rfl (Nat.le_of_ble_eq_true rfl) ?_
  exact g_vret C dX5_init_12 hr (by decide) (by decide) (⟨q1, rfl⟩)

theorem ob_X6_init : Cond.methodLink RX6 3 objectInit ∈ wsX6_init ∧ Cond.instanceMethod objectInit ∈ wsX6_init ∧ Cond.code objectInit ⟨#[0xb1]⟩ 1 none ∈ wsX6_init := by decide +kernel
theorem aw_X6_init_int : Cond.arrayClass .int ∈ wsX6_init := by decide +kernel
set_option maxRecDepth 20000 in
theorem ff_X6_init_9 : FF RX6 wsX6_init 9 6 0 (.array .int) := ⟨RX6, TX6, 4, tyX6, rfl, (fun w h => List.mem_cons_of_mem _ (List.mem_append_right _ h)), by decide, by decide +kernel, tyX6_ok, nmX6, rfl, rfl, by decide +kernel⟩
set_option maxHeartbeats 4000000 in
set_option maxRecDepth 100000 in
theorem c_X6_init (l : Launch) (G : va_G) (cA : Nat → ClassId) : CtN l yX6_init wsX6_init 1 1 90 G cA (.inr (6, [.null, .int 0, .int 0, .int 0])) (fun h0 w => ∃ q1, w = [(h0, .inr (6, [.ref q1, .int 0, .int 0, .int 0])), (q1, eI cA 90)]) := by
  refine mkN (cc := cX6_init) (maxL := 1) rfl rfl (by decide) rfl ?_
  intro X h0 hl hG hA C hr
  subst hl
  subst hG
  subst hA
  have hin := hr.2.2.1
  show Gj X [(h0, .inr (6, [.null, .int 0, .int 0, .int 0]))] 0 0 [some (.ref h0)] 0 []
  refine g_aload0 C dX6_init_0 ?_
  refine g_obj C dX6_init_1 ob_X6_init (by decide) (Nat.le_of_ble_eq_true rfl) ?_
  refine g_aload0 C dX6_init_4 ?_
  refine g_bipush C (nI 90) dX6_init_5 (by decide) ?_
  refine g_newI C 90 dX6_init_7 aw_X6_init_int (by decide) (by decide) (by decide) (fun q1 => ?_)
  refine g_putF C hin dX6_init_9 ff_X6_init_9 rfl rfl (Nat.le_of_ble_eq_true rfl) ?_
  exact g_vret C dX6_init_12 hr (by decide) (by decide) (⟨q1, rfl⟩)
