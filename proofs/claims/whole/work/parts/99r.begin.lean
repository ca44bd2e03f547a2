theorem inlX7 : ∀ w ∈ wsX70, w ∈ wsL_law := fun _ h => List.mem_append_left _ (List.mem_append_left _ (List.mem_append_left _ (List.mem_append_left _ (List.mem_append_left _ (List.mem_append_left _ (List.mem_append_left _ (List.mem_append_left _ (List.mem_append_left _ (List.mem_append_right _ h)))))))))
theorem inlX8 : ∀ w ∈ wsX80, w ∈ wsL_law := fun _ h => List.mem_append_left _ (List.mem_append_left _ (List.mem_append_left _ (List.mem_append_left _ (List.mem_append_left _ (List.mem_append_left _ (List.mem_append_left _ (List.mem_append_left _ (List.mem_append_right _ h))))))))
theorem nc_L_law_7 : Cond.classLink RL 7 RX7 ∈ wsL_law ∧ Cond.instantiable RX7 12 ∈ wsL_law ∧ Cond.initialized RX7 ∈ wsL_law := by decide +kernel
theorem nc_L_law_8 : Cond.classLink RL 10 RX8 ∈ wsL_law ∧ Cond.instantiable RX8 15 ∈ wsL_law ∧ Cond.initialized RX8 ∈ wsL_law := by decide +kernel
theorem iw_L_law_X7 : Cond.instanceMethod yX7_init ∈ wsL_law ∧ Cond.initialized RX7 ∈ wsL_law ∧ Cond.methodLink RL 9 yX7_init ∈ wsL_law := by decide +kernel
theorem iw_L_law_X8 : Cond.instanceMethod yX8_init ∈ wsL_law ∧ Cond.initialized RX8 ∈ wsL_law ∧ Cond.methodLink RL 12 yX8_init ∈ wsL_law := by decide +kernel
theorem md_X7_init : MD yX7_init wsX7_init 0 2 none := ⟨_, _, rfl, by decide, by decide +kernel, by decide +kernel, by decide +kernel⟩
theorem md_X8_init : MD yX8_init wsX8_init 0 2 none := ⟨_, _, rfl, by decide, by decide +kernel, by decide +kernel, by decide +kernel⟩
/-- the law's frame while the constructors run -/
def LE0 (X : CX) (sb : Nat) : Prop := xR X = room_1 ∧ xa X = #[Value.ref sb] ∧ xQ X = lw_Z (xb X) #[Value.ref sb] (xs X) ∧ xA X = (fun q => (xs X).heap.size ≤ q) ∧ (xt X).sig.returnType = ret ∧ (xt X).locks = false
set_option maxHeartbeats 4000000 in
set_option maxRecDepth 100000 in
theorem law_begin {X : CX} {sb L : Nat} {f : Nat → Int32} (C : Gx X cL_law RL wsL_law 16 600000 7302250) (hB : LX X sb L f) {ka kb : Nat} (hk : kSA (xA X) ka kb (xs X)) (hE : LE0 X sb) : Gj X [] 0 0 [some (.ref sb), none, none, none] 0 [] := by
  refine g_new (ci := 7) (Cn := RX7) (T := TX7) (ty := tyX7) C [.null, .null, .null, .null, .int 0, .null, .null, .null, .null, .null, .null, .null] dL_law_0 rfl inlX7 tyX7_ok nc_L_law_7 (fun j hj => by rcases (show j = 0 ∨ j = 1 ∨ j = 2 ∨ j = 3 ∨ j = 4 ∨ j = 5 ∨ j = 6 ∨ j = 7 ∨ j = 8 ∨ j = 9 ∨ j = 10 ∨ j = 11 by omega) with rfl | rfl | rfl | rfl | rfl | rfl | rfl | rfl | rfl | rfl | rfl | rfl <;> rfl) (by decide) (by decide) (fun h0 => ?_)
  refine g_dup C dL_law_3 rfl ?_
  refine g_initI C dL_law_4 (c_X7_init (xl X) (xY X).1 (xY X).2.2) gL_law_X7_init md_X7_init rfl iw_L_law_X7 (by decide) (by decide) (by decide) (Nat.le_of_ble_eq_true rfl) (fun w hw => ?_)
  obtain ⟨an, ai, at_, qk, rk0, fk, ak, qi, ri0, fi, aI, qt, tl, qs, fs, qp, s1, s2, s3, s4, qr, o1, o2, qq, qw, sh, ti, hfk, hfi, hfs, rfl⟩ := hw
  refine g_astore1 C dL_law_7 nl_r ?_
  refine g_new (ci := 8) (Cn := RX8) (T := TX8) (ty := tyX8) C [.null, .int 0, .null, .int 0, .null, .null, .null, .int 0, .int 0, .null, .null, .null, .null, .null, .null] dL_law_8 rfl inlX8 tyX8_ok nc_L_law_8 (fun j hj => by rcases (show j = 0 ∨ j = 1 ∨ j = 2 ∨ j = 3 ∨ j = 4 ∨ j = 5 ∨ j = 6 ∨ j = 7 ∨ j = 8 ∨ j = 9 ∨ j = 10 ∨ j = 11 ∨ j = 12 ∨ j = 13 ∨ j = 14 by omega) with rfl | rfl | rfl | rfl | rfl | rfl | rfl | rfl | rfl | rfl | rfl | rfl | rfl | rfl | rfl <;> rfl) (by decide) (by decide) (fun m0 => ?_)
  refine g_dup C dL_law_11 rfl ?_
  refine g_initI C dL_law_12 (c_X8_init (xl X) (xY X).1 (xY X).2.2) gL_law_X8_init md_X8_init rfl iw_L_law_X8 (by decide) (by decide) (by decide) (Nat.le_of_ble_eq_true rfl) (fun w hw => ?_)
  obtain ⟨w1, w2, w3, w4, w5, w6, w7, w8, w9, w10, w11, rfl⟩ := hw
  refine g_astore2 C dL_law_15 nl_r ?_
  refine g_iconst C (nI 0) dL_law_16 (by decide) ?_
  refine g_istore3 C dL_law_17 nl_r ?_
  intro H locs ls hP hD hS hl
  have hP : va_P (xY X).1 vwCl (lwW (xY X).2.2 h0 an ai at_ qk rk0 fk ak qi ri0 fi aI qt tl qs fs qp s1 s2 s3 s4 qr o1 o2 qq qw sh ti m0 w1 w2 w3 w4 w5 w6 w7 w8 w9 w10 w11) H := hP
  have hD : va_D (xA X) (lwW (xY X).2.2 h0 an ai at_ qk rk0 fk ak qi ri0 fi aI qt tl qs fs qp s1 s2 s3 s4 qr o1 o2 qq qw sh ti m0 w1 w2 w3 w4 w5 w6 w7 w8 w9 w10 w11) := hD
  obtain ⟨hY, hAY⟩ := lw_dY (G := (xY X).1) hD
  have hW := lw_wP (lw_cells hfk hfi hfs hP)
  obtain ⟨hx, hb, hml, hown, hts, hK, hA, hn, hf, hlo, hk1, hk2⟩ := id C
  obtain ⟨h1, h2, h3, h4, h5, h6⟩ := id hE
  exact law_loop (X := (xp X, xl X, xe X, xR X, xs X, xm X, xa X, xb X, xt X, xc X, xQ X, lwY (xY X).1 (xY X).2.2 h0 an ai at_ qk rk0 fk ak qi ri0 fi aI qt tl qs fs qp s1 s2 s3 s4 qr o1 o2 qq qw sh ti m0 w1 w2 w3 w4 w5 w6 w7 w8 w9 w10 w11, xA X, xn X, 190, 2694)) (sb := sb) (L := L) (f := f) ⟨hx, hb, hml, hown, hts, ⟨hK, hY⟩, hAY, hf, hlo, Nat.le_trans (show 190 ≤ 600000 by decide) hk1, Nat.le_trans (show 2694 ≤ 7302250 by decide) hk2⟩ hB hk ⟨h1, h2, h3, h4, h5, h6, show 190 ≤ 600000 by decide, show 2694 ≤ 7302250 by decide⟩ (L + 1) 0 S0 bb0 bb0 qq0 tt0 0 (by omega) (by omega) lc0 lm0 lo0 H locs ls hW hS hl
