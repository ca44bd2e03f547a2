def ssF : Nat → Int32 := (upd (upd (upd (upd (fun _ => 0) 0 (-1)) 1 (-1)) 2 (-1)) 3 (-1))
def wwF : Nat → Int32 := (upd (fun _ => 0) 3 (nI 1))
def moW (cA : Nat → ClassId) (h0 q1 q2 q3 q4 q5 q6 q7 q8 q9 q10 q11 : Nat) : va_W := [(h0, .inr (8, [.ref q1, .int 0, .ref q2, .int 0, .ref q3, .ref q4, .ref q5, .int 0, .int 0, .ref q6, .ref q7, .ref q8, .ref q9, .ref q10, .ref q11])), (q1, .inl (cA 0, 674, .inl wwF)), (q2, eI cA 90), (q3, eJ cA 96), (q4, .inl (cA 0, 4, .inl ssF)), (q5, eI cA 4), (q6, eI cA 5), (q7, eI cA 7), (q8, eI cA 6), (q9, eI cA 308), (q10, eI cA 100), (q11, eJ cA 24)]

theorem ob_X8_init : Cond.methodLink RX8 1 objectInit ∈ wsX8_init ∧ Cond.instanceMethod objectInit ∈ wsX8_init ∧ Cond.code objectInit ⟨#[0xb1]⟩ 1 none ∈ wsX8_init := by decide +kernel
theorem aw_X8_init_int : Cond.arrayClass .int ∈ wsX8_init := by decide +kernel
set_option maxRecDepth 20000 in
theorem ff_X8_init_7 : FF RX8 wsX8_init 7 8 0 (.array .int) := ⟨RX8, TX8, 15, tyX8, rfl, (fun w h => List.mem_cons_of_mem _ (List.mem_append_right _ h)), by decide, by decide +kernel, tyX8_ok, nmX8, rfl, rfl, by decide +kernel⟩
set_option maxRecDepth 20000 in
theorem ff_X8_init_13 : FF RX8 wsX8_init 13 8 2 (.array .int) := ⟨RX8, TX8, 15, tyX8, rfl, (fun w h => List.mem_cons_of_mem _ (List.mem_append_right _ h)), by decide, by decide +kernel, tyX8_ok, nmX8, rfl, rfl, by decide +kernel⟩
theorem aw_X8_init_long : Cond.arrayClass .long ∈ wsX8_init := by decide +kernel
set_option maxRecDepth 20000 in
theorem ff_X8_init_16 : FF RX8 wsX8_init 16 8 4 (.array .long) := ⟨RX8, TX8, 15, tyX8, rfl, (fun w h => List.mem_cons_of_mem _ (List.mem_append_right _ h)), by decide, by decide +kernel, tyX8_ok, nmX8, rfl, rfl, by decide +kernel⟩
set_option maxRecDepth 20000 in
theorem ff_X8_init_20 : FF RX8 wsX8_init 20 8 5 (.array .int) := ⟨RX8, TX8, 15, tyX8, rfl, (fun w h => List.mem_cons_of_mem _ (List.mem_append_right _ h)), by decide, by decide +kernel, tyX8_ok, nmX8, rfl, rfl, by decide +kernel⟩
set_option maxRecDepth 20000 in
theorem ff_X8_init_23 : FF RX8 wsX8_init 23 8 6 (.array .int) := ⟨RX8, TX8, 15, tyX8, rfl, (fun w h => List.mem_cons_of_mem _ (List.mem_append_right _ h)), by decide, by decide +kernel, tyX8_ok, nmX8, rfl, rfl, by decide +kernel⟩
set_option maxRecDepth 20000 in
theorem ff_X8_init_26 : FF RX8 wsX8_init 26 8 9 (.array .int) := ⟨RX8, TX8, 15, tyX8, rfl, (fun w h => List.mem_cons_of_mem _ (List.mem_append_right _ h)), by decide, by decide +kernel, tyX8_ok, nmX8, rfl, rfl, by decide +kernel⟩
set_option maxRecDepth 20000 in
theorem ff_X8_init_29 : FF RX8 wsX8_init 29 8 10 (.array .int) := ⟨RX8, TX8, 15, tyX8, rfl, (fun w h => List.mem_cons_of_mem _ (List.mem_append_right _ h)), by decide, by decide +kernel, tyX8_ok, nmX8, rfl, rfl, by decide +kernel⟩
set_option maxRecDepth 20000 in
theorem ff_X8_init_32 : FF RX8 wsX8_init 32 8 11 (.array .int) := ⟨RX8, TX8, 15, tyX8, rfl, (fun w h => List.mem_cons_of_mem _ (List.mem_append_right _ h)), by decide, by decide +kernel, tyX8_ok, nmX8, rfl, rfl, by decide +kernel⟩
set_option maxRecDepth 20000 in
theorem ff_X8_init_35 : FF RX8 wsX8_init 35 8 12 (.array .int) := ⟨RX8, TX8, 15, tyX8, rfl, (fun w h => List.mem_cons_of_mem _ (List.mem_append_right _ h)), by decide, by decide +kernel, tyX8_ok, nmX8, rfl, rfl, by decide +kernel⟩
set_option maxRecDepth 20000 in
theorem ff_X8_init_38 : FF RX8 wsX8_init 38 8 13 (.array .int) := ⟨RX8, TX8, 15, tyX8, rfl, (fun w h => List.mem_cons_of_mem _ (List.mem_append_right _ h)), by decide, by decide +kernel, tyX8_ok, nmX8, rfl, rfl, by decide +kernel⟩
set_option maxRecDepth 20000 in
theorem ff_X8_init_41 : FF RX8 wsX8_init 41 8 14 (.array .long) := ⟨RX8, TX8, 15, tyX8, rfl, (fun w h => List.mem_cons_of_mem _ (List.mem_append_right _ h)), by decide, by decide +kernel, tyX8_ok, nmX8, rfl, rfl, by decide +kernel⟩
set_option maxRecDepth 20000 in
theorem fl_X8_init_20 : FL RX8 wsX8_init 20 8 5 := ⟨RX8, TX8, 15, rfl, (fun w h => List.mem_cons_of_mem _ (List.mem_append_right _ h)), by decide, by decide +kernel⟩
set_option maxRecDepth 20000 in
theorem fl_X8_init_7 : FL RX8 wsX8_init 7 8 0 := ⟨RX8, TX8, 15, rfl, (fun w h => List.mem_cons_of_mem _ (List.mem_append_right _ h)), by decide, by decide +kernel⟩
set_option maxHeartbeats 4000000 in
set_option maxRecDepth 100000 in
theorem c_X8_init (l : Launch) (G : va_G) (cA : Nat → ClassId) : CtN l yX8_init wsX8_init 1 11 1318 G cA (.inr (8, [.null, .int 0, .null, .int 0, .null, .null, .null, .int 0, .int 0, .null, .null, .null, .null, .null, .null])) (fun h0 w => ∃ q1 q2 q3 q4 q5 q6 q7 q8 q9 q10 q11, w = moW cA h0 q1 q2 q3 q4 q5 q6 q7 q8 q9 q10 q11) := by
  refine mkN (cc := cX8_init) (maxL := 2) rfl rfl (by decide) rfl ?_
  intro X h0 hl hG hA C hr
  subst hl
  subst hG
  subst hA
  have hin := hr.2.2.1
  show Gj X [(h0, .inr (8, [.null, .int 0, .null, .int 0, .null, .null, .null, .int 0, .int 0, .null, .null, .null, .null, .null, .null]))] 0 0 [some (.ref h0), none] 0 []
  refine g_aload0 C dX8_init_0 ?_
  refine g_obj C dX8_init_1 ob_X8_init (by decide) (Nat.le_of_ble_eq_true rfl) ?_
  refine g_aload0 C dX8_init_4 ?_
  refine g_sipush C (nI 674) dX8_init_5 (by decide) ?_
  refine g_newI C 674 dX8_init_8 aw_X8_init_int (by decide) (by decide) (by decide) (fun q1 => ?_)
  refine g_putF C hin dX8_init_10 ff_X8_init_7 rfl rfl (Nat.le_of_ble_eq_true rfl) ?_
  refine g_aload0 C dX8_init_13 ?_
  refine g_bipush C (nI 90) dX8_init_14 (by decide) ?_
  refine g_newI C 90 dX8_init_16 aw_X8_init_int (by decide) (by decide) (by decide) (fun q2 => ?_)
  refine g_putF C hin dX8_init_18 ff_X8_init_13 rfl rfl (Nat.le_of_ble_eq_true rfl) ?_
  refine g_aload0 C dX8_init_21 ?_
  refine g_bipush C (nI 96) dX8_init_22 (by decide) ?_
  refine g_newJ C 96 dX8_init_24 aw_X8_init_long (by decide) (by decide) (by decide) (fun q3 => ?_)
  refine g_putF C hin dX8_init_26 ff_X8_init_16 rfl rfl (Nat.le_of_ble_eq_true rfl) ?_
  refine g_aload0 C dX8_init_29 ?_
  refine g_iconst C (nI 4) dX8_init_30 (by decide) ?_
  refine g_newI C 4 dX8_init_31 aw_X8_init_int (by decide) (by decide) (by decide) (fun q4 => ?_)
  refine g_putF C hin dX8_init_33 ff_X8_init_20 rfl rfl (Nat.le_of_ble_eq_true rfl) ?_
  refine g_aload0 C dX8_init_36 ?_
  refine g_iconst C (nI 4) dX8_init_37 (by decide) ?_
  refine g_newI C 4 dX8_init_38 aw_X8_init_int (by decide) (by decide) (by decide) (fun q5 => ?_)
  refine g_putF C hin dX8_init_40 ff_X8_init_23 rfl rfl (Nat.le_of_ble_eq_true rfl) ?_
  refine g_aload0 C dX8_init_43 ?_
  refine g_iconst C (nI 5) dX8_init_44 (by decide) ?_
  refine g_newI C 5 dX8_init_45 aw_X8_init_int (by decide) (by decide) (by decide) (fun q6 => ?_)
  refine g_putF C hin dX8_init_47 ff_X8_init_26 rfl rfl (Nat.le_of_ble_eq_true rfl) ?_
  refine g_aload0 C dX8_init_50 ?_
  refine g_bipush C (nI 7) dX8_init_51 (by decide) ?_
  refine g_newI C 7 dX8_init_53 aw_X8_init_int (by decide) (by decide) (by decide) (fun q7 => ?_)
  refine g_putF C hin dX8_init_55 ff_X8_init_29 rfl rfl (Nat.le_of_ble_eq_true rfl) ?_
  refine g_aload0 C dX8_init_58 ?_
  refine g_bipush C (nI 6) dX8_init_59 (by decide) ?_
  refine g_newI C 6 dX8_init_61 aw_X8_init_int (by decide) (by decide) (by decide) (fun q8 => ?_)
  refine g_putF C hin dX8_init_63 ff_X8_init_32 rfl rfl (Nat.le_of_ble_eq_true rfl) ?_
  refine g_aload0 C dX8_init_66 ?_
  refine g_sipush C (nI 308) dX8_init_67 (by decide) ?_
  refine g_newI C 308 dX8_init_70 aw_X8_init_int (by decide) (by decide) (by decide) (fun q9 => ?_)
  refine g_putF C hin dX8_init_72 ff_X8_init_35 rfl rfl (Nat.le_of_ble_eq_true rfl) ?_
  refine g_aload0 C dX8_init_75 ?_
  refine g_bipush C (nI 100) dX8_init_76 (by decide) ?_
  refine g_newI C 100 dX8_init_78 aw_X8_init_int (by decide) (by decide) (by decide) (fun q10 => ?_)
  refine g_putF C hin dX8_init_80 ff_X8_init_38 rfl rfl (Nat.le_of_ble_eq_true rfl) ?_
  refine g_aload0 C dX8_init_83 ?_
  refine g_bipush C (nI 24) dX8_init_84 (by decide) ?_
  refine g_newJ C 24 dX8_init_86 aw_X8_init_long (by decide) (by decide) (by decide) (fun q11 => ?_)
  refine g_putF C hin dX8_init_88 ff_X8_init_41 rfl rfl (Nat.le_of_ble_eq_true rfl) ?_
  refine g_iconst C (nI 0) dX8_init_91 (by decide) ?_
  refine g_istore1 C dX8_init_92 nl_r ?_
  refine g_iload1 C dX8_init_93 ?_
  refine g_iconst C (nI 4) dX8_init_94 (by decide) ?_
  refine g_geF C 111 dX8_init_95 (by decide) (by decide) ?_
  refine g_aload0 C dX8_init_98 ?_
  refine g_get (v := .ref q4) C dX8_init_99 fl_X8_init_20 rfl ?_
  refine g_iload1 C dX8_init_102 ?_
  refine g_iconst C (-1) dX8_init_103 (by decide) ?_
  refine g_iast C 4 ((h0, .inr (8, [.ref q1, .int 0, .ref q2, .int 0, .ref q3, .ref q4, .ref q5, .int 0, .int 0, .ref q6, .ref q7, .ref q8, .ref q9, .ref q10, .ref q11])) :: ([(q1, eI (xY X).2.2 674)] ++ [(q2, eI (xY X).2.2 90)] ++ [(q3, eJ (xY X).2.2 96)] ++ [(q4, .inl ((xY X).2.2 0, 4, .inl (upd (fun _ => 0) 0 (-1))))] ++ [(q5, eI (xY X).2.2 4)] ++ [(q6, eI (xY X).2.2 5)] ++ [(q7, eI (xY X).2.2 7)] ++ [(q8, eI (xY X).2.2 6)] ++ [(q9, eI (xY X).2.2 308)] ++ [(q10, eI (xY X).2.2 100)] ++ [(q11, eJ (xY X).2.2 24)])) dX8_init_104 rfl (by decide) (by decide) rfl ?_
  refine g_iinc1 C (nI 1) dX8_init_105 (by decide) nl_r ?_
  refine g_goto C 93 dX8_init_108 (by decide) ?_
  refine g_iload1 C dX8_init_93 ?_
  refine g_iconst C (nI 4) dX8_init_94 (by decide) ?_
  refine g_geF C 111 dX8_init_95 (by decide) (by decide) ?_
  refine g_aload0 C dX8_init_98 ?_
  refine g_get (v := .ref q4) C dX8_init_99 fl_X8_init_20 rfl ?_
  refine g_iload1 C dX8_init_102 ?_
  refine g_iconst C (-1) dX8_init_103 (by decide) ?_
  refine g_iast C 4 ((h0, .inr (8, [.ref q1, .int 0, .ref q2, .int 0, .ref q3, .ref q4, .ref q5, .int 0, .int 0, .ref q6, .ref q7, .ref q8, .ref q9, .ref q10, .ref q11])) :: ([(q1, eI (xY X).2.2 674)] ++ [(q2, eI (xY X).2.2 90)] ++ [(q3, eJ (xY X).2.2 96)] ++ [(q4, .inl ((xY X).2.2 0, 4, .inl (upd (upd (fun _ => 0) 0 (-1)) 1 (-1))))] ++ [(q5, eI (xY X).2.2 4)] ++ [(q6, eI (xY X).2.2 5)] ++ [(q7, eI (xY X).2.2 7)] ++ [(q8, eI (xY X).2.2 6)] ++ [(q9, eI (xY X).2.2 308)] ++ [(q10, eI (xY X).2.2 100)] ++ [(q11, eJ (xY X).2.2 24)])) dX8_init_104 rfl (by decide) (by decide) rfl ?_
  refine g_iinc1 C (nI 2) dX8_init_105 (by decide) nl_r ?_
  refine g_goto C 93 dX8_init_108 (by decide) ?_
  refine g_iload1 C dX8_init_93 ?_
  refine g_iconst C (nI 4) dX8_init_94 (by decide) ?_
  refine g_geF C 111 dX8_init_95 (by decide) (by decide) ?_
  refine g_aload0 C dX8_init_98 ?_
  refine g_get (v := .ref q4) C dX8_init_99 fl_X8_init_20 rfl ?_
  refine g_iload1 C dX8_init_102 ?_
  refine g_iconst C (-1) dX8_init_103 (by decide) ?_
  refine g_iast C 4 ((h0, .inr (8, [.ref q1, .int 0, .ref q2, .int 0, .ref q3, .ref q4, .ref q5, .int 0, .int 0, .ref q6, .ref q7, .ref q8, .ref q9, .ref q10, .ref q11])) :: ([(q1, eI (xY X).2.2 674)] ++ [(q2, eI (xY X).2.2 90)] ++ [(q3, eJ (xY X).2.2 96)] ++ [(q4, .inl ((xY X).2.2 0, 4, .inl (upd (upd (upd (fun _ => 0) 0 (-1)) 1 (-1)) 2 (-1))))] ++ [(q5, eI (xY X).2.2 4)] ++ [(q6, eI (xY X).2.2 5)] ++ [(q7, eI (xY X).2.2 7)] ++ [(q8, eI (xY X).2.2 6)] ++ [(q9, eI (xY X).2.2 308)] ++ [(q10, eI (xY X).2.2 100)] ++ [(q11, eJ (xY X).2.2 24)])) dX8_init_104 rfl (by decide) (by decide) rfl ?_
  refine g_iinc1 C (nI 3) dX8_init_105 (by decide) nl_r ?_
  refine g_goto C 93 dX8_init_108 (by decide) ?_
  refine g_iload1 C dX8_init_93 ?_
  refine g_iconst C (nI 4) dX8_init_94 (by decide) ?_
  refine g_geF C 111 dX8_init_95 (by decide) (by decide) ?_
  refine g_aload0 C dX8_init_98 ?_
  refine g_get (v := .ref q4) C dX8_init_99 fl_X8_init_20 rfl ?_
  refine g_iload1 C dX8_init_102 ?_
  refine g_iconst C (-1) dX8_init_103 (by decide) ?_
  refine g_iast C 4 ((h0, .inr (8, [.ref q1, .int 0, .ref q2, .int 0, .ref q3, .ref q4, .ref q5, .int 0, .int 0, .ref q6, .ref q7, .ref q8, .ref q9, .ref q10, .ref q11])) :: ([(q1, eI (xY X).2.2 674)] ++ [(q2, eI (xY X).2.2 90)] ++ [(q3, eJ (xY X).2.2 96)] ++ [(q4, .inl ((xY X).2.2 0, 4, .inl (upd (upd (upd (upd (fun _ => 0) 0 (-1)) 1 (-1)) 2 (-1)) 3 (-1))))] ++ [(q5, eI (xY X).2.2 4)] ++ [(q6, eI (xY X).2.2 5)] ++ [(q7, eI (xY X).2.2 7)] ++ [(q8, eI (xY X).2.2 6)] ++ [(q9, eI (xY X).2.2 308)] ++ [(q10, eI (xY X).2.2 100)] ++ [(q11, eJ (xY X).2.2 24)])) dX8_init_104 rfl (by decide) (by decide) rfl ?_
  refine g_iinc1 C (nI 4) dX8_init_105 (by decide) nl_r ?_
  refine g_goto C 93 dX8_init_108 (by decide) ?_
  refine g_iload1 C dX8_init_93 ?_
  refine g_iconst C (nI 4) dX8_init_94 (by decide) ?_
  refine g_geT C 111 dX8_init_95 (by decide) (by decide) ?_
  refine g_aload0 C dX8_init_111 ?_
  refine g_get (v := .ref q1) C dX8_init_112 fl_X8_init_7 rfl ?_
  refine g_iconst C (nI 3) dX8_init_115 (by decide) ?_
  refine g_iconst C (nI 1) dX8_init_116 (by decide) ?_
  refine g_iast C 1 ((h0, .inr (8, [.ref q1, .int 0, .ref q2, .int 0, .ref q3, .ref q4, .ref q5, .int 0, .int 0, .ref q6, .ref q7, .ref q8, .ref q9, .ref q10, .ref q11])) :: ([(q1, .inl ((xY X).2.2 0, 674, .inl (upd (fun _ => 0) 3 (nI 1))))] ++ [(q2, eI (xY X).2.2 90)] ++ [(q3, eJ (xY X).2.2 96)] ++ [(q4, .inl ((xY X).2.2 0, 4, .inl (upd (upd (upd (upd (fun _ => 0) 0 (-1)) 1 (-1)) 2 (-1)) 3 (-1))))] ++ [(q5, eI (xY X).2.2 4)] ++ [(q6, eI (xY X).2.2 5)] ++ [(q7, eI (xY X).2.2 7)] ++ [(q8, eI (xY X).2.2 6)] ++ [(q9, eI (xY X).2.2 308)] ++ [(q10, eI (xY X).2.2 100)] ++ [(q11, eJ (xY X).2.2 24)])) dX8_init_117 rfl (by decide) (by decide) rfl ?_
  exact g_vret C dX8_init_118 hr (by decide) (by decide) ⟨q1, q2, q3, q4, q5, q6, q7, q8, q9, q10, q11, rfl⟩
