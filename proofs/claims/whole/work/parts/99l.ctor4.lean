section GT
variable {X : CX} {k n : Nat} {lv : List (Option Value)} {pc : Nat} {st : List Value} {cc : ByteArray} {own : String} {Ts : List Cond} {d mc ms : Nat}
theorem g_tl1 {x : Nat × va_E} {R w : va_W} (h : ∀ R', R' = R ++ w → Gj X (x :: R') k n lv pc st) : Gj X ((x :: R) ++ w) k n lv pc st := h (R ++ w) rfl
theorem g_tl2 {x y : Nat × va_E} {R w : va_W} (h : ∀ R', R' = R ++ w → Gj X (x :: y :: R') k n lv pc st) : Gj X ((x :: y :: R) ++ w) k n lv pc st := h (R ++ w) rfl
theorem g_tl3 {x y : Nat × va_E} {R w : va_W} (h : ∀ R', R' = R ++ w → Gj X (x :: y :: R') k n lv pc st) : Gj X (x :: y :: (R ++ w)) k n lv pc st := h (R ++ w) rfl
theorem g_sw {x y : Nat × va_E} {R : va_W} (h : Gj X (x :: y :: R) k n lv pc st) : Gj X ((x :: R) ++ [y]) k n lv pc st := fun H locs ls hP hD hS hl => by
  have key : ∀ (j : Nat) (q : Nat × va_E), (x :: y :: R)[j]? = some q → ((x :: R) ++ [y])[if j = 0 then 0 else if j = 1 then R.length + 1 else j - 1]? = some q := by
    intro j q hj
    match j, hj with
    | 0, hj => exact hj
    | 1, hj =>
      rw [if_neg (by decide), if_pos rfl, List.getElem?_append_right (by simp)]
      simpa using hj
    | j + 2, hj =>
      have hj' : R[j]? = some q := by simpa using hj
      have hlt : j < R.length := (List.getElem?_eq_some_iff.mp hj').1
      rw [if_neg (by omega), if_neg (by omega), List.getElem?_append_left (by simp; omega)]
      simpa using hj'
  refine h H locs ls (hP.by _ key) (hD.by _ key ?_) hS hl
  intro i j hi hj e
  have hl : (x :: y :: R).length = R.length + 2 := rfl
  rw [hl] at hi hj
  split at e
  · split at e
    · omega
    · split at e <;> omega
  · split at e
    · split at e
      · omega
      · split at e <;> omega
    · split at e
      · omega
      · split at e <;> omega
theorem g_putE (C : Gx X cc own Ts d mc ms) (hin : (xt X).name = "<init>") {h0 q ci index j : Nat} {fs : List Value} (fs' : List Value) {R : va_W} {ty : FieldType} (hdg : decode cc pc = .ok (.putfield index, 3)) (hf : FF own Ts index ci j ty) (hn : narrow ty (.ref q) = .ref q) (hfit : fits ty (.ref q) = true) (hl : j < fs.length) (hs : fs.set j (.ref q) = fs') (kk : Gj X ((h0, .inr (ci, fs')) :: R) k n lv (pc + 3) st) : Gj X ((h0, .inr (ci, fs)) :: R) k n lv pc (.ref q :: .ref h0 :: st) := g_putF C hin hdg hf hn hfit hl (by rw [hs]; exact kk)
theorem g_astL (C : Gx X cc own Ts d mc ms) (t ci : Nat) {x : Nat × va_E} {a N i v : Nat} {Cn : String} {T : u_T} {NN : Nat} {vs : List Value} {f : Nat → Option Nat} {R w : va_W} (hdg : decode cc pc = .ok (.aastore, 1)) (ht : (tyC (xY X).2.2)[t]? = some ((xY X).2.2 t, .object Cn)) (hc : vwCl[ci]? = some (Cn, T, NN)) (hi : i < N) (hN : N < 1000) (kk : Gj X (x :: (a, eQ (xY X).2.2 t N (va_up f i (some v))) :: (R ++ ((v, .inr (ci, vs)) :: w))) k n lv (pc + 1) st) : Gj X ((x :: (a, eQ (xY X).2.2 t N f) :: R) ++ ((v, .inr (ci, vs)) :: w)) k n lv pc (.ref v :: .int (nI i) :: .ref a :: st) :=
  g_astq C 1 t (x :: (a, eQ (xY X).2.2 t N f) :: R).length ci _ hdg rfl ht (by rw [List.getElem?_append_right (Nat.le_refl _), Nat.sub_self]; rfl) hc hi hN rfl kk
end GT
def emW (cA : Nat → ClassId) (h0 : Nat) (an ai at_ : Nat → Nat) (qk rk0 : Nat) (fk : Nat → Option Nat) (ak : Nat → Nat → Nat) (qi ri0 : Nat) (fi : Nat → Option Nat) (aI : Nat → Nat → Nat) (qt tl qs : Nat) (fs : Nat → Option Nat) (qp s1 s2 s3 s4 qr o1 o2 qq qw : Nat) (sh ti : Nat → Nat) : va_W := (h0, .inr (7, [.ref (an 0), .ref qk, .ref (ai 0), .ref qi, .int 0, .ref qt, .ref qs, .ref (at_ 0), .ref qp, .ref qr, .ref qq, .ref qw])) :: (qs, eQ cA 3 4 fs) :: ([] ++ rkW cA an ++ knW cA qk rk0 fk ak ++ rkW cA ai ++ knW cA qi ri0 fi aI ++ [(qt, .inr (6, [.ref tl, .int 0, .int 0, .int 0])), (tl, eI cA 90)] ++ rkW cA at_ ++ [(qp, .inr (4, [.ref s1, .ref s2, .ref s3, .int 0, .ref s4, .int 0])), (s1, eI cA 6), (s2, eI cA 6), (s3, eI cA 5), (s4, eI cA 5)] ++ [(qr, .inr (3, [.ref o1, .ref o2, .int 0, .int 0])), (o1, eI cA 6), (o2, eI cA 6)] ++ [(qq, .inr (1, [.int 0, .int 0, .int 0, .int 0]))] ++ [(qw, eI cA 100)] ++ [(sh 0, .inr (5, [.int 0, .int 0, .int 0, .ref (ti 0)])), (ti 0, eJ cA 24)] ++ [(sh 1, .inr (5, [.int 0, .int 0, .int 0, .ref (ti 1)])), (ti 1, eJ cA 24)] ++ [(sh 2, .inr (5, [.int 0, .int 0, .int 0, .ref (ti 2)])), (ti 2, eJ cA 24)] ++ [(sh 3, .inr (5, [.int 0, .int 0, .int 0, .ref (ti 3)])), (ti 3, eJ cA 24)])

theorem ob_X7_init : Cond.methodLink RX7 1 objectInit ∈ wsX7_init ∧ Cond.instanceMethod objectInit ∈ wsX7_init ∧ Cond.code objectInit ⟨#[0xb1]⟩ 1 none ∈ wsX7_init := by decide +kernel
theorem nc_X7_init_2 : Cond.classLink RX7 7 RX2 ∈ wsX7_init ∧ Cond.instantiable RX2 12 ∈ wsX7_init ∧ Cond.initialized RX2 ∈ wsX7_init := by decide +kernel
theorem iw_X7_init_X2_init : Cond.instanceMethod yX2_init ∈ wsX7_init ∧ Cond.initialized RX2 ∈ wsX7_init := by decide +kernel
set_option maxRecDepth 20000 in
theorem ff_X7_init_10 : FF RX7 wsX7_init 10 7 0 (.object "ErasingMonks$Rock") := ⟨RX7, TX7, 12, tyX7, rfl, (fun w h => List.mem_cons_of_mem _ (List.mem_append_left _ (List.mem_append_left _ (List.mem_append_left _ (List.mem_append_left _ (List.mem_append_left _ (List.mem_append_left _ (List.mem_append_right _ h)))))))), by decide, by decide +kernel, tyX7_ok, nmX7, rfl, rfl, by decide +kernel⟩
theorem nc_X7_init_0 : Cond.classLink RX7 16 RX0 ∈ wsX7_init ∧ Cond.instantiable RX0 3 ∈ wsX7_init ∧ Cond.initialized RX0 ∈ wsX7_init := by decide +kernel
theorem md_X0_init : MD yX0_init wsX0_init 0 2 none := ⟨_, _, rfl, by decide, by decide +kernel, by decide +kernel, by decide +kernel⟩
theorem iw_X7_init_X0_init : Cond.instanceMethod yX0_init ∈ wsX7_init ∧ Cond.initialized RX0 ∈ wsX7_init ∧ Cond.methodLink RX7 18 yX0_init ∈ wsX7_init := by decide +kernel
set_option maxRecDepth 20000 in
theorem ff_X7_init_19 : FF RX7 wsX7_init 19 7 1 (.object "ErasingMonks$Known") := ⟨RX7, TX7, 12, tyX7, rfl, (fun w h => List.mem_cons_of_mem _ (List.mem_append_left _ (List.mem_append_left _ (List.mem_append_left _ (List.mem_append_left _ (List.mem_append_left _ (List.mem_append_left _ (List.mem_append_right _ h)))))))), by decide, by decide +kernel, tyX7_ok, nmX7, rfl, rfl, by decide +kernel⟩
set_option maxRecDepth 20000 in
theorem ff_X7_init_23 : FF RX7 wsX7_init 23 7 2 (.object "ErasingMonks$Rock") := ⟨RX7, TX7, 12, tyX7, rfl, (fun w h => List.mem_cons_of_mem _ (List.mem_append_left _ (List.mem_append_left _ (List.mem_append_left _ (List.mem_append_left _ (List.mem_append_left _ (List.mem_append_left _ (List.mem_append_right _ h)))))))), by decide, by decide +kernel, tyX7_ok, nmX7, rfl, rfl, by decide +kernel⟩
set_option maxRecDepth 20000 in
theorem ff_X7_init_26 : FF RX7 wsX7_init 26 7 3 (.object "ErasingMonks$Known") := ⟨RX7, TX7, 12, tyX7, rfl, (fun w h => List.mem_cons_of_mem _ (List.mem_append_left _ (List.mem_append_left _ (List.mem_append_left _ (List.mem_append_left _ (List.mem_append_left _ (List.mem_append_left _ (List.mem_append_right _ h)))))))), by decide, by decide +kernel, tyX7_ok, nmX7, rfl, rfl, by decide +kernel⟩
theorem nc_X7_init_6 : Cond.classLink RX7 29 RX6 ∈ wsX7_init ∧ Cond.instantiable RX6 4 ∈ wsX7_init ∧ Cond.initialized RX6 ∈ wsX7_init := by decide +kernel
theorem md_X6_init : MD yX6_init wsX6_init 0 1 none := ⟨_, _, rfl, by decide, by decide +kernel, by decide +kernel, by decide +kernel⟩
theorem iw_X7_init_X6_init : Cond.instanceMethod yX6_init ∈ wsX7_init ∧ Cond.initialized RX6 ∈ wsX7_init := by decide +kernel
set_option maxRecDepth 20000 in
theorem ff_X7_init_32 : FF RX7 wsX7_init 32 7 5 (.object "ErasingMonks$Tape") := ⟨RX7, TX7, 12, tyX7, rfl, (fun w h => List.mem_cons_of_mem _ (List.mem_append_left _ (List.mem_append_left _ (List.mem_append_left _ (List.mem_append_left _ (List.mem_append_left _ (List.mem_append_left _ (List.mem_append_right _ h)))))))), by decide, by decide +kernel, tyX7_ok, nmX7, rfl, rfl, by decide +kernel⟩
theorem ca_X7_init_36 : Cond.classLink RX7 36 RX5 ∈ wsX7_init := by decide +kernel
set_option maxRecDepth 20000 in
theorem ff_X7_init_38 : FF RX7 wsX7_init 38 7 6 (.array (.object "ErasingMonks$Sheet")) := ⟨RX7, TX7, 12, tyX7, rfl, (fun w h => List.mem_cons_of_mem _ (List.mem_append_left _ (List.mem_append_left _ (List.mem_append_left _ (List.mem_append_left _ (List.mem_append_left _ (List.mem_append_left _ (List.mem_append_right _ h)))))))), by decide, by decide +kernel, tyX7_ok, nmX7, rfl, rfl, by decide +kernel⟩
set_option maxRecDepth 20000 in
theorem ff_X7_init_42 : FF RX7 wsX7_init 42 7 7 (.object "ErasingMonks$Rock") := ⟨RX7, TX7, 12, tyX7, rfl, (fun w h => List.mem_cons_of_mem _ (List.mem_append_left _ (List.mem_append_left _ (List.mem_append_left _ (List.mem_append_left _ (List.mem_append_left _ (List.mem_append_left _ (List.mem_append_right _ h)))))))), by decide, by decide +kernel, tyX7_ok, nmX7, rfl, rfl, by decide +kernel⟩
theorem nc_X7_init_4 : Cond.classLink RX7 45 RX4 ∈ wsX7_init ∧ Cond.instantiable RX4 6 ∈ wsX7_init ∧ Cond.initialized RX4 ∈ wsX7_init := by decide +kernel
theorem md_X4_init : MD yX4_init wsX4_init 0 1 none := ⟨_, _, rfl, by decide, by decide +kernel, by decide +kernel, by decide +kernel⟩
theorem iw_X7_init_X4_init : Cond.instanceMethod yX4_init ∈ wsX7_init ∧ Cond.initialized RX4 ∈ wsX7_init := by decide +kernel
set_option maxRecDepth 20000 in
theorem ff_X7_init_48 : FF RX7 wsX7_init 48 7 8 (.object "ErasingMonks$SendPlan") := ⟨RX7, TX7, 12, tyX7, rfl, (fun w h => List.mem_cons_of_mem _ (List.mem_append_left _ (List.mem_append_left _ (List.mem_append_left _ (List.mem_append_left _ (List.mem_append_left _ (List.mem_append_left _ (List.mem_append_right _ h)))))))), by decide, by decide +kernel, tyX7_ok, nmX7, rfl, rfl, by decide +kernel⟩
theorem nc_X7_init_3 : Cond.classLink RX7 52 RX3 ∈ wsX7_init ∧ Cond.instantiable RX3 4 ∈ wsX7_init ∧ Cond.initialized RX3 ∈ wsX7_init := by decide +kernel
theorem md_X3_init : MD yX3_init wsX3_init 0 1 none := ⟨_, _, rfl, by decide, by decide +kernel, by decide +kernel, by decide +kernel⟩
theorem iw_X7_init_X3_init : Cond.instanceMethod yX3_init ∈ wsX7_init ∧ Cond.initialized RX3 ∈ wsX7_init := by decide +kernel
set_option maxRecDepth 20000 in
theorem ff_X7_init_55 : FF RX7 wsX7_init 55 7 9 (.object "ErasingMonks$RoundPlan") := ⟨RX7, TX7, 12, tyX7, rfl, (fun w h => List.mem_cons_of_mem _ (List.mem_append_left _ (List.mem_append_left _ (List.mem_append_left _ (List.mem_append_left _ (List.mem_append_left _ (List.mem_append_left _ (List.mem_append_right _ h)))))))), by decide, by decide +kernel, tyX7_ok, nmX7, rfl, rfl, by decide +kernel⟩
theorem nc_X7_init_1 : Cond.classLink RX7 59 RX1 ∈ wsX7_init ∧ Cond.instantiable RX1 4 ∈ wsX7_init ∧ Cond.initialized RX1 ∈ wsX7_init := by decide +kernel
theorem md_X1_init : MD yX1_init wsX1_init 0 1 none := ⟨_, _, rfl, by decide, by decide +kernel, by decide +kernel, by decide +kernel⟩
theorem iw_X7_init_X1_init : Cond.instanceMethod yX1_init ∈ wsX7_init ∧ Cond.initialized RX1 ∈ wsX7_init := by decide +kernel
set_option maxRecDepth 20000 in
theorem ff_X7_init_62 : FF RX7 wsX7_init 62 7 10 (.object "ErasingMonks$PairPlan") := ⟨RX7, TX7, 12, tyX7, rfl, (fun w h => List.mem_cons_of_mem _ (List.mem_append_left _ (List.mem_append_left _ (List.mem_append_left _ (List.mem_append_left _ (List.mem_append_left _ (List.mem_append_left _ (List.mem_append_right _ h)))))))), by decide, by decide +kernel, tyX7_ok, nmX7, rfl, rfl, by decide +kernel⟩
theorem aw_X7_init_int : Cond.arrayClass .int ∈ wsX7_init := by decide +kernel
set_option maxRecDepth 20000 in
theorem ff_X7_init_66 : FF RX7 wsX7_init 66 7 11 (.array .int) := ⟨RX7, TX7, 12, tyX7, rfl, (fun w h => List.mem_cons_of_mem _ (List.mem_append_left _ (List.mem_append_left _ (List.mem_append_left _ (List.mem_append_left _ (List.mem_append_left _ (List.mem_append_left _ (List.mem_append_right _ h)))))))), by decide, by decide +kernel, tyX7_ok, nmX7, rfl, rfl, by decide +kernel⟩
set_option maxRecDepth 20000 in
theorem fl_X7_init_38 : FL RX7 wsX7_init 38 7 6 := ⟨RX7, TX7, 12, rfl, (fun w h => List.mem_cons_of_mem _ (List.mem_append_left _ (List.mem_append_left _ (List.mem_append_left _ (List.mem_append_left _ (List.mem_append_left _ (List.mem_append_left _ (List.mem_append_right _ h)))))))), by decide, by decide +kernel⟩
theorem nc_X7_init_5 : Cond.classLink RX7 36 RX5 ∈ wsX7_init ∧ Cond.instantiable RX5 4 ∈ wsX7_init ∧ Cond.initialized RX5 ∈ wsX7_init := by decide +kernel
theorem md_X5_init : MD yX5_init wsX5_init 0 1 none := ⟨_, _, rfl, by decide, by decide +kernel, by decide +kernel, by decide +kernel⟩
theorem iw_X7_init_X5_init : Cond.instanceMethod yX5_init ∈ wsX7_init ∧ Cond.initialized RX5 ∈ wsX7_init := by decide +kernel
set_option maxHeartbeats 4000000 in
set_option maxRecDepth 100000 in
theorem c_X7_init (l : Launch) (G : va_G) (cA : Nat → ClassId) : CtN l yX7_init wsX7_init 3 177 1349 G cA (.inr (7, [.null, .null, .null, .null, .int 0, .null, .null, .null, .null, .null, .null, .null])) (fun h0 w => ∃ (an ai at_ : Nat → Nat) (qk rk0 : Nat) (fk : Nat → Option Nat) (ak : Nat → Nat → Nat) (qi ri0 : Nat) (fi : Nat → Option Nat) (aI : Nat → Nat → Nat) (qt tl qs : Nat) (fs : Nat → Option Nat) (qp s1 s2 s3 s4 qr o1 o2 qq qw : Nat) (sh ti : Nat → Nat), (∀ i, i < 8 → fk i = some (ak i 0)) ∧ (∀ i, i < 8 → fi i = some (aI i 0)) ∧ (∀ i, i < 4 → fs i = some (sh i)) ∧ w = emW cA h0 an ai at_ qk rk0 fk ak qi ri0 fi aI qt tl qs fs qp s1 s2 s3 s4 qr o1 o2 qq qw sh ti) := by
  refine mkN (cc := cX7_init) (maxL := 2) rfl rfl (by decide) rfl ?_
  intro X h0 hl hG hA C hr
  subst hl
  subst hG
  subst hA
  have hin := hr.2.2.1
  show Gj X [(h0, .inr (7, [.null, .null, .null, .null, .int 0, .null, .null, .null, .null, .null, .null, .null]))] 0 0 [some (.ref h0), none] 0 []
  refine g_aload0 C dX7_init_0 ?_
  refine g_obj C dX7_init_1 ob_X7_init (by decide) (Nat.le_of_ble_eq_true rfl) ?_
  refine g_aload0 C dX7_init_4 ?_
  refine g_new (ci := 2) (Cn := RX2) (T := TX2) (ty := tyX2) C [.int 0, .int 0, .int 0, .int 0, .int 0, .null, .null, .null, .null, .null, .null, .null] dX7_init_5 rfl (fun w h => List.mem_cons_of_mem _ (List.mem_append_left _ (List.mem_append_left _ (List.mem_append_left _ (List.mem_append_left _ (List.mem_append_left _ (List.mem_append_left _ (List.mem_append_left _ (List.mem_append_right _ h))))))))) tyX2_ok nc_X7_init_2 (fun j hj => by rcases (show j = 0 ∨ j = 1 ∨ j = 2 ∨ j = 3 ∨ j = 4 ∨ j = 5 ∨ j = 6 ∨ j = 7 ∨ j = 8 ∨ j = 9 ∨ j = 10 ∨ j = 11 by omega) with rfl | rfl | rfl | rfl | rfl | rfl | rfl | rfl | rfl | rfl | rfl | rfl <;> rfl) (by decide) (by decide) (fun q1 => ?_)
  refine g_dup C dX7_init_8 rfl ?_
  refine g_initN C dX7_init_9 (c_X2_init (xl X) (xY X).1 (xY X).2.2) ggX7_init_X2_init md_X2_init rfl iw_X7_init_X2_init C.2.2.2.2.2.2.2.1.2.2.2.1 (by decide) (by decide) (by decide) (Nat.le_of_ble_eq_true rfl) (fun w hw => ?_)
  obtain ⟨an, rfl, rfl⟩ := hw
  refine g_tl1 (fun R1 hR1 => ?_)
  refine g_putE C hin [.ref (an 0), .null, .null, .null, .int 0, .null, .null, .null, .null, .null, .null, .null] dX7_init_12 ff_X7_init_10 rfl rfl (Nat.le_of_ble_eq_true rfl) rfl ?_
  refine g_aload0 C dX7_init_15 ?_
  refine g_new (ci := 0) (Cn := RX0) (T := TX0) (ty := tyX0) C [.null, .int 0, .int 0] dX7_init_16 rfl (fun w h => List.mem_cons_of_mem _ (List.mem_append_left _ (List.mem_append_left _ (List.mem_append_left _ (List.mem_append_left _ (List.mem_append_left _ (List.mem_append_right _ h))))))) tyX0_ok nc_X7_init_0 (fun j hj => by rcases (show j = 0 ∨ j = 1 ∨ j = 2 by omega) with rfl | rfl | rfl <;> rfl) (by decide) (by decide) (fun q2 => ?_)
  refine g_dup C dX7_init_19 rfl ?_
  refine g_initI C dX7_init_20 (c_X0_init (xl X) (xY X).1 (xY X).2.2) ggX7_init_X0_init md_X0_init rfl iw_X7_init_X0_init (by decide) (by decide) (by decide) (Nat.le_of_ble_eq_true rfl) (fun w hw => ?_)
  obtain ⟨r0, f0, k0, hf0, rfl⟩ := hw
  refine g_tl1 (fun R2 hR2 => ?_)
  refine g_putE C hin [.ref (an 0), .ref q2, .null, .null, .int 0, .null, .null, .null, .null, .null, .null, .null] dX7_init_23 ff_X7_init_19 rfl rfl (Nat.le_of_ble_eq_true rfl) rfl ?_
  refine g_aload0 C dX7_init_26 ?_
  refine g_new (ci := 2) (Cn := RX2) (T := TX2) (ty := tyX2) C [.int 0, .int 0, .int 0, .int 0, .int 0, .null, .null, .null, .null, .null, .null, .null] dX7_init_27 rfl (fun w h => List.mem_cons_of_mem _ (List.mem_append_left _ (List.mem_append_left _ (List.mem_append_left _ (List.mem_append_left _ (List.mem_append_left _ (List.mem_append_left _ (List.mem_append_left _ (List.mem_append_right _ h))))))))) tyX2_ok nc_X7_init_2 (fun j hj => by rcases (show j = 0 ∨ j = 1 ∨ j = 2 ∨ j = 3 ∨ j = 4 ∨ j = 5 ∨ j = 6 ∨ j = 7 ∨ j = 8 ∨ j = 9 ∨ j = 10 ∨ j = 11 by omega) with rfl | rfl | rfl | rfl | rfl | rfl | rfl | rfl | rfl | rfl | rfl | rfl <;> rfl) (by decide) (by decide) (fun q3 => ?_)
  refine g_dup C dX7_init_30 rfl ?_
  refine g_initN C dX7_init_31 (c_X2_init (xl X) (xY X).1 (xY X).2.2) ggX7_init_X2_init md_X2_init rfl iw_X7_init_X2_init C.2.2.2.2.2.2.2.1.2.2.2.1 (by decide) (by decide) (by decide) (Nat.le_of_ble_eq_true rfl) (fun w hw => ?_)
  obtain ⟨ai, rfl, rfl⟩ := hw
  refine g_tl1 (fun R3 hR3 => ?_)
  refine g_putE C hin [.ref (an 0), .ref q2, .ref (ai 0), .null, .int 0, .null, .null, .null, .null, .null, .null, .null] dX7_init_34 ff_X7_init_23 rfl rfl (Nat.le_of_ble_eq_true rfl) rfl ?_
  refine g_aload0 C dX7_init_37 ?_
  refine g_new (ci := 0) (Cn := RX0) (T := TX0) (ty := tyX0) C [.null, .int 0, .int 0] dX7_init_38 rfl (fun w h => List.mem_cons_of_mem _ (List.mem_append_left _ (List.mem_append_left _ (List.mem_append_left _ (List.mem_append_left _ (List.mem_append_left _ (List.mem_append_right _ h))))))) tyX0_ok nc_X7_init_0 (fun j hj => by rcases (show j = 0 ∨ j = 1 ∨ j = 2 by omega) with rfl | rfl | rfl <;> rfl) (by decide) (by decide) (fun q4 => ?_)
  refine g_dup C dX7_init_41 rfl ?_
  refine g_initI C dX7_init_42 (c_X0_init (xl X) (xY X).1 (xY X).2.2) ggX7_init_X0_init md_X0_init rfl iw_X7_init_X0_init (by decide) (by decide) (by decide) (Nat.le_of_ble_eq_true rfl) (fun w hw => ?_)
  obtain ⟨r1, f1, k1, hf1, rfl⟩ := hw
  refine g_tl1 (fun R4 hR4 => ?_)
  refine g_putE C hin [.ref (an 0), .ref q2, .ref (ai 0), .ref q4, .int 0, .null, .null, .null, .null, .null, .null, .null] dX7_init_45 ff_X7_init_26 rfl rfl (Nat.le_of_ble_eq_true rfl) rfl ?_
  refine g_aload0 C dX7_init_48 ?_
  refine g_new (ci := 6) (Cn := RX6) (T := TX6) (ty := tyX6) C [.null, .int 0, .int 0, .int 0] dX7_init_49 rfl (fun w h => List.mem_cons_of_mem _ (List.mem_append_left _ (List.mem_append_left _ (List.mem_append_left _ (List.mem_append_left _ (List.mem_append_right _ h)))))) tyX6_ok nc_X7_init_6 (fun j hj => by rcases (show j = 0 ∨ j = 1 ∨ j = 2 ∨ j = 3 by omega) with rfl | rfl | rfl | rfl <;> rfl) (by decide) (by decide) (fun q5 => ?_)
  refine g_dup C dX7_init_52 rfl ?_
  refine g_initN C dX7_init_53 (c_X6_init (xl X) (xY X).1 (xY X).2.2) ggX7_init_X6_init md_X6_init rfl iw_X7_init_X6_init C.2.2.2.2.2.2.2.1.2.2.2.2.1 (by decide) (by decide) (by decide) (Nat.le_of_ble_eq_true rfl) (fun w hw => ?_)
  obtain ⟨tl, rfl⟩ := hw
  refine g_tl1 (fun R5 hR5 => ?_)
  refine g_putE C hin [.ref (an 0), .ref q2, .ref (ai 0), .ref q4, .int 0, .ref q5, .null, .null, .null, .null, .null, .null] dX7_init_56 ff_X7_init_32 rfl rfl (Nat.le_of_ble_eq_true rfl) rfl ?_
  refine g_aload0 C dX7_init_59 ?_
  refine g_iconst C (nI 4) dX7_init_60 (by decide) ?_
  refine g_newq C 4 3 dX7_init_61 ca_X7_init_36 C.2.2.2.2.2.2.2.1.2.1 rfl (by decide) (by decide) (by decide) (fun q6 => ?_)
  refine g_sw ?_
  refine g_putE C hin [.ref (an 0), .ref q2, .ref (ai 0), .ref q4, .int 0, .ref q5, .ref q6, .null, .null, .null, .null, .null] dX7_init_64 ff_X7_init_38 rfl rfl (Nat.le_of_ble_eq_true rfl) rfl ?_
  refine g_aload0 C dX7_init_67 ?_
  refine g_new (ci := 2) (Cn := RX2) (T := TX2) (ty := tyX2) C [.int 0, .int 0, .int 0, .int 0, .int 0, .null, .null, .null, .null, .null, .null, .null] dX7_init_68 rfl (fun w h => List.mem_cons_of_mem _ (List.mem_append_left _ (List.mem_append_left _ (List.mem_append_left _ (List.mem_append_left _ (List.mem_append_left _ (List.mem_append_left _ (List.mem_append_left _ (List.mem_append_right _ h))))))))) tyX2_ok nc_X7_init_2 (fun j hj => by rcases (show j = 0 ∨ j = 1 ∨ j = 2 ∨ j = 3 ∨ j = 4 ∨ j = 5 ∨ j = 6 ∨ j = 7 ∨ j = 8 ∨ j = 9 ∨ j = 10 ∨ j = 11 by omega) with rfl | rfl | rfl | rfl | rfl | rfl | rfl | rfl | rfl | rfl | rfl | rfl <;> rfl) (by decide) (by decide) (fun q7 => ?_)
  refine g_dup C dX7_init_71 rfl ?_
  refine g_initN C dX7_init_72 (c_X2_init (xl X) (xY X).1 (xY X).2.2) ggX7_init_X2_init md_X2_init rfl iw_X7_init_X2_init C.2.2.2.2.2.2.2.1.2.2.2.1 (by decide) (by decide) (by decide) (Nat.le_of_ble_eq_true rfl) (fun w hw => ?_)
  obtain ⟨at_, rfl, rfl⟩ := hw
  refine g_tl2 (fun R6 hR6 => ?_)
  refine g_putE C hin [.ref (an 0), .ref q2, .ref (ai 0), .ref q4, .int 0, .ref q5, .ref q6, .ref (at_ 0), .null, .null, .null, .null] dX7_init_75 ff_X7_init_42 rfl rfl (Nat.le_of_ble_eq_true rfl) rfl ?_
  refine g_aload0 C dX7_init_78 ?_
  refine g_new (ci := 4) (Cn := RX4) (T := TX4) (ty := tyX4) C [.null, .null, .null, .int 0, .null, .int 0] dX7_init_79 rfl (fun w h => List.mem_cons_of_mem _ (List.mem_append_left _ (List.mem_append_left _ (List.mem_append_left _ (List.mem_append_right _ h))))) tyX4_ok nc_X7_init_4 (fun j hj => by rcases (show j = 0 ∨ j = 1 ∨ j = 2 ∨ j = 3 ∨ j = 4 ∨ j = 5 by omega) with rfl | rfl | rfl | rfl | rfl | rfl <;> rfl) (by decide) (by decide) (fun q8 => ?_)
  refine g_dup C dX7_init_82 rfl ?_
  refine g_initN C dX7_init_83 (c_X4_init (xl X) (xY X).1 (xY X).2.2) ggX7_init_X4_init md_X4_init rfl iw_X7_init_X4_init C.2.2.2.2.2.2.2.1.2.2.2.2.2.1 (by decide) (by decide) (by decide) (Nat.le_of_ble_eq_true rfl) (fun w hw => ?_)
  obtain ⟨s1, s2, s3, s4, rfl⟩ := hw
  refine g_tl2 (fun R7 hR7 => ?_)
  refine g_putE C hin [.ref (an 0), .ref q2, .ref (ai 0), .ref q4, .int 0, .ref q5, .ref q6, .ref (at_ 0), .ref q8, .null, .null, .null] dX7_init_86 ff_X7_init_48 rfl rfl (Nat.le_of_ble_eq_true rfl) rfl ?_
  refine g_aload0 C dX7_init_89 ?_
  refine g_new (ci := 3) (Cn := RX3) (T := TX3) (ty := tyX3) C [.null, .null, .int 0, .int 0] dX7_init_90 rfl (fun w h => List.mem_cons_of_mem _ (List.mem_append_left _ (List.mem_append_left _ (List.mem_append_right _ h)))) tyX3_ok nc_X7_init_3 (fun j hj => by rcases (show j = 0 ∨ j = 1 ∨ j = 2 ∨ j = 3 by omega) with rfl | rfl | rfl | rfl <;> rfl) (by decide) (by decide) (fun q9 => ?_)
  refine g_dup C dX7_init_93 rfl ?_
  refine g_initN C dX7_init_94 (c_X3_init (xl X) (xY X).1 (xY X).2.2) ggX7_init_X3_init md_X3_init rfl iw_X7_init_X3_init C.2.2.2.2.2.2.2.1.2.2.2.2.2.2.1 (by decide) (by decide) (by decide) (Nat.le_of_ble_eq_true rfl) (fun w hw => ?_)
  obtain ⟨o1, o2, rfl⟩ := hw
  refine g_tl2 (fun R8 hR8 => ?_)
  refine g_putE C hin [.ref (an 0), .ref q2, .ref (ai 0), .ref q4, .int 0, .ref q5, .ref q6, .ref (at_ 0), .ref q8, .ref q9, .null, .null] dX7_init_97 ff_X7_init_55 rfl rfl (Nat.le_of_ble_eq_true rfl) rfl ?_
  refine g_aload0 C dX7_init_100 ?_
  refine g_new (ci := 1) (Cn := RX1) (T := TX1) (ty := tyX1) C [.int 0, .int 0, .int 0, .int 0] dX7_init_101 rfl (fun w h => List.mem_cons_of_mem _ (List.mem_append_left _ (List.mem_append_right _ h))) tyX1_ok nc_X7_init_1 (fun j hj => by rcases (show j = 0 ∨ j = 1 ∨ j = 2 ∨ j = 3 by omega) with rfl | rfl | rfl | rfl <;> rfl) (by decide) (by decide) (fun q10 => ?_)
  refine g_dup C dX7_init_104 rfl ?_
  refine g_initN C dX7_init_105 (c_X1_init (xl X) (xY X).1 (xY X).2.2) ggX7_init_X1_init md_X1_init rfl iw_X7_init_X1_init C.2.2.2.2.2.2.2.1.2.2.2.2.2.2.2.1 (by decide) (by decide) (by decide) (Nat.le_of_ble_eq_true rfl) (fun w hw => ?_)
  subst hw
  refine g_tl2 (fun R9 hR9 => ?_)
  refine g_putE C hin [.ref (an 0), .ref q2, .ref (ai 0), .ref q4, .int 0, .ref q5, .ref q6, .ref (at_ 0), .ref q8, .ref q9, .ref q10, .null] dX7_init_108 ff_X7_init_62 rfl rfl (Nat.le_of_ble_eq_true rfl) rfl ?_
  refine g_aload0 C dX7_init_111 ?_
  refine g_bipush C (nI 100) dX7_init_112 (by decide) ?_
  refine g_newI C 100 dX7_init_114 aw_X7_init_int (by decide) (by decide) (by decide) (fun q11 => ?_)
  refine g_tl2 (fun R10 hR10 => ?_)
  refine g_putE C hin [.ref (an 0), .ref q2, .ref (ai 0), .ref q4, .int 0, .ref q5, .ref q6, .ref (at_ 0), .ref q8, .ref q9, .ref q10, .ref q11] dX7_init_116 ff_X7_init_66 rfl rfl (Nat.le_of_ble_eq_true rfl) rfl ?_
  refine g_iconst C (nI 0) dX7_init_119 (by decide) ?_
  refine g_istore1 C dX7_init_120 nl_r ?_
  refine g_iload1 C dX7_init_121 ?_
  refine g_iconst C (nI 4) dX7_init_122 (by decide) ?_
  refine g_geF C 145 dX7_init_123 (by decide) (by decide) ?_
  refine g_aload0 C dX7_init_126 ?_
  refine g_get (v := .ref q6) C dX7_init_127 fl_X7_init_38 rfl ?_
  refine g_iload1 C dX7_init_130 ?_
  refine g_new (ci := 5) (Cn := RX5) (T := TX5) (ty := tyX5) C [.int 0, .int 0, .int 0, .null] dX7_init_131 rfl (fun w h => List.mem_cons_of_mem _ (List.mem_append_right _ h)) tyX5_ok nc_X7_init_5 (fun j hj => by rcases (show j = 0 ∨ j = 1 ∨ j = 2 ∨ j = 3 by omega) with rfl | rfl | rfl | rfl <;> rfl) (by decide) (by decide) (fun q12 => ?_)
  refine g_dup C dX7_init_134 rfl ?_
  refine g_initN C dX7_init_135 (c_X5_init (xl X) (xY X).1 (xY X).2.2) ggX7_init_X5_init md_X5_init rfl iw_X7_init_X5_init C.2.2.2.2.2.2.2.1.2.2.2.2.2.2.2.2 (by decide) (by decide) (by decide) (Nat.le_of_ble_eq_true rfl) (fun w hw => ?_)
  obtain ⟨t0, rfl⟩ := hw
  refine g_astL (Cn := RX5) (T := TX5) (NN := 4) C 3 5 dX7_init_138 rfl rfl (by decide) (by decide) ?_
  refine g_tl3 (fun R11 hR11 => ?_)
  refine g_iinc1 C (nI 1) dX7_init_139 (by decide) nl_r ?_
  refine g_goto C 121 dX7_init_142 (by decide) ?_
  refine g_iload1 C dX7_init_121 ?_
  refine g_iconst C (nI 4) dX7_init_122 (by decide) ?_
  refine g_geF C 145 dX7_init_123 (by decide) (by decide) ?_
  refine g_aload0 C dX7_init_126 ?_
  refine g_get (v := .ref q6) C dX7_init_127 fl_X7_init_38 rfl ?_
  refine g_iload1 C dX7_init_130 ?_
  refine g_new (ci := 5) (Cn := RX5) (T := TX5) (ty := tyX5) C [.int 0, .int 0, .int 0, .null] dX7_init_131 rfl (fun w h => List.mem_cons_of_mem _ (List.mem_append_right _ h)) tyX5_ok nc_X7_init_5 (fun j hj => by rcases (show j = 0 ∨ j = 1 ∨ j = 2 ∨ j = 3 by omega) with rfl | rfl | rfl | rfl <;> rfl) (by decide) (by decide) (fun q13 => ?_)
  refine g_dup C dX7_init_134 rfl ?_
  refine g_initN C dX7_init_135 (c_X5_init (xl X) (xY X).1 (xY X).2.2) ggX7_init_X5_init md_X5_init rfl iw_X7_init_X5_init C.2.2.2.2.2.2.2.1.2.2.2.2.2.2.2.2 (by decide) (by decide) (by decide) (Nat.le_of_ble_eq_true rfl) (fun w hw => ?_)
  obtain ⟨t1, rfl⟩ := hw
  refine g_astL (Cn := RX5) (T := TX5) (NN := 4) C 3 5 dX7_init_138 rfl rfl (by decide) (by decide) ?_
  refine g_tl3 (fun R12 hR12 => ?_)
  refine g_iinc1 C (nI 2) dX7_init_139 (by decide) nl_r ?_
  refine g_goto C 121 dX7_init_142 (by decide) ?_
  refine g_iload1 C dX7_init_121 ?_
  refine g_iconst C (nI 4) dX7_init_122 (by decide) ?_
  refine g_geF C 145 dX7_init_123 (by decide) (by decide) ?_
  refine g_aload0 C dX7_init_126 ?_
  refine g_get (v := .ref q6) C dX7_init_127 fl_X7_init_38 rfl ?_
  refine g_iload1 C dX7_init_130 ?_
  refine g_new (ci := 5) (Cn := RX5) (T := TX5) (ty := tyX5) C [.int 0, .int 0, .int 0, .null] dX7_init_131 rfl (fun w h => List.mem_cons_of_mem _ (List.mem_append_right _ h)) tyX5_ok nc_X7_init_5 (fun j hj => by rcases (show j = 0 ∨ j = 1 ∨ j = 2 ∨ j = 3 by omega) with rfl | rfl | rfl | rfl <;> rfl) (by decide) (by decide) (fun q14 => ?_)
  refine g_dup C dX7_init_134 rfl ?_
  refine g_initN C dX7_init_135 (c_X5_init (xl X) (xY X).1 (xY X).2.2) ggX7_init_X5_init md_X5_init rfl iw_X7_init_X5_init C.2.2.2.2.2.2.2.1.2.2.2.2.2.2.2.2 (by decide) (by decide) (by decide) (Nat.le_of_ble_eq_true rfl) (fun w hw => ?_)
  obtain ⟨t2, rfl⟩ := hw
  refine g_astL (Cn := RX5) (T := TX5) (NN := 4) C 3 5 dX7_init_138 rfl rfl (by decide) (by decide) ?_
  refine g_tl3 (fun R13 hR13 => ?_)
  refine g_iinc1 C (nI 3) dX7_init_139 (by decide) nl_r ?_
  refine g_goto C 121 dX7_init_142 (by decide) ?_
  refine g_iload1 C dX7_init_121 ?_
  refine g_iconst C (nI 4) dX7_init_122 (by decide) ?_
  refine g_geF C 145 dX7_init_123 (by decide) (by decide) ?_
  refine g_aload0 C dX7_init_126 ?_
  refine g_get (v := .ref q6) C dX7_init_127 fl_X7_init_38 rfl ?_
  refine g_iload1 C dX7_init_130 ?_
  refine g_new (ci := 5) (Cn := RX5) (T := TX5) (ty := tyX5) C [.int 0, .int 0, .int 0, .null] dX7_init_131 rfl (fun w h => List.mem_cons_of_mem _ (List.mem_append_right _ h)) tyX5_ok nc_X7_init_5 (fun j hj => by rcases (show j = 0 ∨ j = 1 ∨ j = 2 ∨ j = 3 by omega) with rfl | rfl | rfl | rfl <;> rfl) (by decide) (by decide) (fun q15 => ?_)
  refine g_dup C dX7_init_134 rfl ?_
  refine g_initN C dX7_init_135 (c_X5_init (xl X) (xY X).1 (xY X).2.2) ggX7_init_X5_init md_X5_init rfl iw_X7_init_X5_init C.2.2.2.2.2.2.2.1.2.2.2.2.2.2.2.2 (by decide) (by decide) (by decide) (Nat.le_of_ble_eq_true rfl) (fun w hw => ?_)
  obtain ⟨t3, rfl⟩ := hw
  refine g_astL (Cn := RX5) (T := TX5) (NN := 4) C 3 5 dX7_init_138 rfl rfl (by decide) (by decide) ?_
  refine g_tl3 (fun R14 hR14 => ?_)
  refine g_iinc1 C (nI 4) dX7_init_139 (by decide) nl_r ?_
  refine g_goto C 121 dX7_init_142 (by decide) ?_
  refine g_iload1 C dX7_init_121 ?_
  refine g_iconst C (nI 4) dX7_init_122 (by decide) ?_
  refine g_geT C 145 dX7_init_123 (by decide) (by decide) ?_
  exact g_vret C dX7_init_145 hr (by decide) (by decide) ⟨an, ai, at_, q2, r0, f0, k0, q4, r1, f1, k1, q5, tl, q6, (va_up (va_up (va_up (va_up (fun _ => none) 0 (some q12)) 1 (some q13)) 2 (some q14)) 3 (some q15)), q8, s1, s2, s3, s4, q9, o1, o2, q10, q11, fun i => [q12, q13, q14, q15].getD i 0, fun i => [t0, t1, t2, t3].getD i 0, hf0, hf1, fun i hi => by rcases (show i = 0 ∨ i = 1 ∨ i = 2 ∨ i = 3 by omega) with rfl | rfl | rfl | rfl <;> rfl, by rw [hR14, hR13, hR12, hR11, hR10, hR9, hR8, hR7, hR6, hR5, hR4, hR3, hR2, hR1]; rfl⟩
