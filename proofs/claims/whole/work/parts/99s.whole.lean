theorem T_congr {ty : FieldType} {t N : Nat} {f g : Nat → Value} {A : Nat → Prop} {U : State} {H : Heap} (h : va_T ty t N f A U H) (e : ∀ j, j < N → f j = g j) : va_T ty t N g A U H := by
  obtain ⟨cell, h1, h2, h3, h4, h5, h6, h7⟩ := h
  exact ⟨cell, h1, h2, h3, h4, h5, fun j hj => by rw [← e j hj]; exact h6 j hj, h7⟩
set_option maxHeartbeats 4000000 in
set_option maxRecDepth 100000 in
/-- the text of the kinds, at the start -/
theorem law_str {s : State} {b : Nat} (hts : ∀ w ∈ lw_tbl, w.before #[Value.ref b] s = true) (hgv : (Jvm.Cond.and given_1 narrow_1).before #[Value.ref b] s = true) : ∃ ka kb, kSA (fun q => s.heap.size ≤ q) ka kb s := by
  have hfl := flat_of_before _ hgv
  have hnA : ∀ a : Nat, a < s.heap.size → ¬ (fun q : Nat => s.heap.size ≤ q) a := fun a h => Nat.not_le.mpr h
  obtain ⟨adK, adV, hS, hv⟩ := vk_Sof (args := #[Value.ref b]) (s := s) (N := 1) (tm := fun _ => (Term.string "ErasingMonks$Tape" 66)) (len := [5]) (byt := [[112, 110, 115, 116, 97]]) (A := fun q => s.heap.size ≤ q) (fun i hi => by rcases (show i = 0 by omega) with rfl; decide)
    (fun i hi => hfl (Cond.exactly (Term.string "ErasingMonks$Tape" 66) "java/lang/String") (by decide +kernel))
    (fun i hi => hfl (Cond.eq (.field (Term.string "ErasingMonks$Tape" 66) "java/lang/String" "coder" "B") (.int 0)) (by decide +kernel))
    (fun i hi => hfl (Cond.arrayOf (.field (Term.string "ErasingMonks$Tape" 66) "java/lang/String" "value" "[B") .byte) (by decide +kernel))
    (fun i hi => by rcases (show i = 0 by omega) with rfl; exact hfl (Cond.eq (.length (.field (Term.string "ErasingMonks$Tape" 66) "java/lang/String" "value" "[B")) (.int 5)) (by decide +kernel))
    (fun i hi j hj => by
      rcases (show i = 0 by omega) with rfl
      have hj : j < 5 := hj
      rcases (show j = 0 ∨ j = 1 ∨ j = 2 ∨ j = 3 ∨ j = 4 by omega) with rfl | rfl | rfl | rfl | rfl
      · exact hfl (Cond.eq (.elem (.field (Term.string "ErasingMonks$Tape" 66) "java/lang/String" "value" "[B") (.int 0)) (.int 112)) (by decide +kernel)
      · exact hfl (Cond.eq (.elem (.field (Term.string "ErasingMonks$Tape" 66) "java/lang/String" "value" "[B") (.int 1)) (.int 110)) (by decide +kernel)
      · exact hfl (Cond.eq (.elem (.field (Term.string "ErasingMonks$Tape" 66) "java/lang/String" "value" "[B") (.int 2)) (.int 115)) (by decide +kernel)
      · exact hfl (Cond.eq (.elem (.field (Term.string "ErasingMonks$Tape" 66) "java/lang/String" "value" "[B") (.int 3)) (.int 116)) (by decide +kernel)
      · exact hfl (Cond.eq (.elem (.field (Term.string "ErasingMonks$Tape" 66) "java/lang/String" "value" "[B") (.int 4)) (.int 97)) (by decide +kernel))
    (fun i j hi hj hij => by omega) hnA
  obtain ⟨h1, h2, h3, h4⟩ := hS.1 0 (by decide)
  refine ⟨adK 0, adV 0, va_Zof (hts (.laysStatic "java/lang/String" "COMPACT_STRINGS" "Z") (List.mem_of_getElem? (i := 448) (by decide +kernel))) (hts (.initialized "java/lang/String") (List.mem_of_getElem? (i := 67) (by decide +kernel))) (va_eqt (hfl (Cond.eq (.static "java/lang/String" "COMPACT_STRINGS" "Z") (.int 1)) (by decide +kernel))) hnA, h1, h2, h3, T_congr h4 (fun j hj => ?_), vk_R.of (hts (.stringRef RX6 66 "pnsta") (List.mem_of_getElem? (i := 434) (by decide +kernel))) (hv 0 (by decide))⟩
  have hj : j < 5 := hj
  rcases (show j = 0 ∨ j = 1 ∨ j = 2 ∨ j = 3 ∨ j = 4 by omega) with rfl | rfl | rfl | rfl | rfl <;> rfl
set_option maxHeartbeats 4000000 in
set_option maxRecDepth 100000 in
theorem law_nest {s : State} {b : Nat} (hts : ∀ w ∈ lw_tbl, w.before #[Value.ref b] s = true) : nW s :=
  ⟨va_AO.of (hts (.arrayOver (.object RX2)) (List.mem_of_getElem? (i := 153) (by decide +kernel))), va_AO.of (hts (.arrayOver (.object RX5)) (List.mem_of_getElem? (i := 187) (by decide +kernel))), va_Nw.of rfl (hts (.methodLinkNest RX0 17 yX2_init RX7) (List.mem_of_getElem? (i := 154) (by decide +kernel))), va_Nw.of rfl (hts (.methodLinkNest RX7 9 yX2_init RX7) (List.mem_of_getElem? (i := 85) (by decide +kernel))), va_Nw.of rfl (hts (.methodLinkNest RX7 31 yX6_init RX7) (List.mem_of_getElem? (i := 168) (by decide +kernel))), va_Nw.of rfl (hts (.methodLinkNest RX7 47 yX4_init RX7) (List.mem_of_getElem? (i := 190) (by decide +kernel))), va_Nw.of rfl (hts (.methodLinkNest RX7 54 yX3_init RX7) (List.mem_of_getElem? (i := 217) (by decide +kernel))), va_Nw.of rfl (hts (.methodLinkNest RX7 61 yX1_init RX7) (List.mem_of_getElem? (i := 238) (by decide +kernel))), va_Nw.of rfl (hts (.methodLinkNest RX7 70 yX5_init RX7) (List.mem_of_getElem? (i := 260) (by decide +kernel)))⟩
set_option maxHeartbeats 4000000 in
set_option maxRecDepth 100000 in
/-- the classes and the rows' classes, at the start -/
theorem law_known {s : State} {b : Nat} (hts : ∀ w ∈ lw_tbl, w.before #[Value.ref b] s = true) : ∃ (G : va_G) (cA : Nat → ClassId), va_K G vwCl (tyC cA) s := by
  obtain ⟨c0, i0, k0⟩ := u_known (C := RX0) (T := TX0) (N := 3) (n := 3) hts inX0 (hts (.instantiable RX0 3) (List.mem_of_getElem? (i := 147) (by decide +kernel)))
  obtain ⟨c1, i1, k1⟩ := u_known (C := RX1) (T := TX1) (N := 4) (n := 4) hts inX1 (hts (.instantiable RX1 4) (List.mem_of_getElem? (i := 237) (by decide +kernel)))
  obtain ⟨c2, i2, k2⟩ := u_known (C := RX2) (T := TX2) (N := 12) (n := 12) hts inX2 (hts (.instantiable RX2 12) (List.mem_of_getElem? (i := 84) (by decide +kernel)))
  obtain ⟨c3, i3, k3⟩ := u_known (C := RX3) (T := TX3) (N := 4) (n := 4) hts inX3 (hts (.instantiable RX3 4) (List.mem_of_getElem? (i := 216) (by decide +kernel)))
  obtain ⟨c4, i4, k4⟩ := u_known (C := RX4) (T := TX4) (N := 6) (n := 6) hts inX4 (hts (.instantiable RX4 6) (List.mem_of_getElem? (i := 189) (by decide +kernel)))
  obtain ⟨c5, i5, k5⟩ := u_known (C := RX5) (T := TX5) (N := 4) (n := 4) hts inX5 (hts (.instantiable RX5 4) (List.mem_of_getElem? (i := 259) (by decide +kernel)))
  obtain ⟨c6, i6, k6⟩ := u_known (C := RX6) (T := TX6) (N := 4) (n := 4) hts inX6 (hts (.instantiable RX6 4) (List.mem_of_getElem? (i := 167) (by decide +kernel)))
  obtain ⟨c7, i7, k7⟩ := u_known (C := RX7) (T := TX7) (N := 12) (n := 12) hts inX7 (hts (.instantiable RX7 12) (List.mem_of_getElem? (i := 76) (by decide +kernel)))
  obtain ⟨c8, i8, k8⟩ := u_known (C := RX8) (T := TX8) (N := 15) (n := 15) hts inX8 (hts (.instantiable RX8 15) (List.mem_of_getElem? (i := 847) (by decide +kernel)))
  obtain ⟨dC, dI, hKc⟩ : ∃ (dC : Nat → ClassId) (dI : Nat → Nat → Nat), ∀ (k : Nat) (q : vw_C), vwCl[k]? = some q → u_Kn s q.1 q.2.1 q.2.2 (dC k) (dI k) := by
    refine ⟨fun k => [c0, c1, c2, c3, c4, c5, c6, c7, c8].getD k c0, fun k => [i0, i1, i2, i3, i4, i5, i6, i7, i8].getD k i0, ?_⟩
    intro k q hq
    match k, hq with
    | 0, hq => cases hq; exact k0
    | 1, hq => cases hq; exact k1
    | 2, hq => cases hq; exact k2
    | 3, hq => cases hq; exact k3
    | 4, hq => cases hq; exact k4
    | 5, hq => cases hq; exact k5
    | 6, hq => cases hq; exact k6
    | 7, hq => cases hq; exact k7
    | 8, hq => cases hq; exact k8
    | k + 9, hq => simp [vwCl] at hq
  obtain ⟨aI, kI, cI, a1, a2, a3⟩ := Cond.arrayClass_spec (args := #[Value.ref b]) (first := s) (o := none) (s := s) (idx := []) (hts (.arrayClass .int) (List.mem_of_getElem? (i := 145) (by decide +kernel)))
  obtain ⟨aJ, kJ, cJ, b1, b2, b3⟩ := Cond.arrayClass_spec (args := #[Value.ref b]) (first := s) (o := none) (s := s) (idx := []) (hts (.arrayClass .long) (List.mem_of_getElem? (i := 281) (by decide +kernel)))
  obtain ⟨cR, aR, kR, r1, -, r3, r4, r5⟩ := Cond.arrayOver_spec (args := #[Value.ref b]) (first := s) (o := none) (s := s) (idx := []) (hts (.arrayOver (.object RX2)) (List.mem_of_getElem? (i := 153) (by decide +kernel)))
  obtain ⟨cS, aS, kS, t1, -, t3, t4, t5⟩ := Cond.arrayOver_spec (args := #[Value.ref b]) (first := s) (o := none) (s := s) (idx := []) (hts (.arrayOver (.object RX5)) (List.mem_of_getElem? (i := 187) (by decide +kernel)))
  refine ⟨(dC, dI), fun k => [aI, aJ, aR, aS].getD k aI, hKc, fun k q hq => ?_⟩
  match k, hq with
  | 0, hq => cases hq; exact ⟨fun n z => ⟨fun k h => (by cases h), kI, a2, cI, a3⟩, a1⟩
  | 1, hq => cases hq; exact ⟨fun n z => ⟨fun k h => (by cases h), kJ, b2, cJ, b3⟩, b1⟩
  | 2, hq => cases hq; exact ⟨fun n z => ⟨fun k h => (by cases h), kR, r3, cR, r4⟩, kR, cR, r3, r4, r1, r5⟩
  | 3, hq => cases hq; exact ⟨fun n z => ⟨fun k h => (by cases h), kS, t3, cS, t4⟩, kS, cS, t3, t4, t1, t5⟩
  | k + 4, hq => simp [tyC] at hq
set_option maxHeartbeats 4000000 in
set_option maxRecDepth 100000 in
theorem whole_start {p : Program} {e : Env} {s : State} {m : MethodId} {below : List Frame} {meth : Method} {c : Code} (l : Launch) {b L : Nat} {xs : Nat → Int32} (hL : L ≤ 3584) (C0 : lw_At p s m meth c b L xs) : W p l e room_1 s m #[Value.ref b] below meth c s.heap [] 0 0 (lw_Z below #[Value.ref b] s) (entryFrame m ([Value.ref b] : List Value).toArray 4) := by
  obtain ⟨hx, hb, hr, hml, hown, hts, hX, hbl, hlocks, hgv⟩ := id C0
  obtain ⟨ka, kb, hk⟩ := law_str hts hgv
  obtain ⟨G, cA, hK⟩ := law_known hts
  rw [lg_entry_eq]
  exact law_begin (X := (p, l, e, room_1, s, m, #[Value.ref b], below, meth, c, lw_Z below #[Value.ref b] s, (G, fun _ => 0, cA), fun q => s.heap.size ≤ q, 4, 0, 0)) (sb := b) (L := L) (f := xs) ⟨hx, hb, hml, hown, fun w h => hts w (wsL_law_in w h), hK, fun q h => h, law_nest hts, show 2 * 16 ≤ 2048 by decide, show 100 * 16 ≤ 84000 by decide, Nat.le_refl 600000, Nat.le_refl 7302250⟩ ⟨hX, hbl, Nat.not_le.mpr hbl, hL⟩ hk ⟨rfl, rfl, rfl, rfl, hr, hlocks⟩ s.heap [] _ (fun k q h => by simp at h) ⟨fun i j p q h => by simp at h, fun k q h => by simp at h⟩ va_S.rf (zl_entry [.ref b] (Nat.le_of_ble_eq_true rfl))
