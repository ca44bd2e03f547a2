theorem in_w {v a b : Int32} (h1 : ¬ lg_cmp v.toInt64 a.toInt64 < 0) (h2 : ¬ 0 < lg_cmp v.toInt64 b.toInt64) : a ≤ v ∧ v ≤ b := by
  rw [cmp_lt] at h1
  rw [cmp_gt] at h2
  rw [Int64.lt_iff_toInt_lt] at h1 h2
  rw [Int32.le_iff_toInt_le, Int32.le_iff_toInt_le]
  simp only [Int32.toInt_toInt64] at h1 h2
  omega
theorem in_n1 {v a b : Int32} (h1 : lg_cmp v.toInt64 a.toInt64 < 0) : ¬ (a ≤ v ∧ v ≤ b) := by
  rw [cmp_lt, Int64.lt_iff_toInt_lt] at h1
  rw [Int32.le_iff_toInt_le, Int32.le_iff_toInt_le]
  simp only [Int32.toInt_toInt64] at h1
  omega
theorem in_n2 {v a b : Int32} (h2 : 0 < lg_cmp v.toInt64 b.toInt64) : ¬ (a ≤ v ∧ v ≤ b) := by
  rw [cmp_gt, Int64.lt_iff_toInt_lt] at h2
  rw [Int32.le_iff_toInt_le, Int32.le_iff_toInt_le]
  simp only [Int32.toInt_toInt64] at h2
  omega

set_option maxHeartbeats 4000000 in
set_option maxRecDepth 100000 in
theorem c_X8_in {l : Launch} {Y : LY} {S : GS} {v a b : Int32} : CtI l yX8_in wsX8_in 1 Y [.long v.toInt64, .long a.toInt64, .long b.toInt64] S (bi (a ≤ v ∧ v ≤ b)) (S) := by
  refine mkI (cc := cX8_in) (maxL := 6) rfl rfl (Nat.le_of_ble_eq_true rfl) ?_
  intro X hl hY C hr
  subst hl
  subst hY
  show Zj X S [some (.long v.toInt64), none, some (.long a.toInt64), none, some (.long b.toInt64), none] 0 []
  refine z_lload0 C dX8_in_0 ?_
  refine z_lload2 C dX8_in_1 ?_
  refine z_lcmp C dX8_in_2 ?_
  refine z_if_lt C 17 dX8_in_3 (by decide) (fun c3 => ?_) (fun c3 => ?_)
  · refine z_iconstN 0 C dX8_in_17 ?_
    exact z_iret C dX8_in_18 hr bi_nar (b0 (by first | exact in_n1 c3 | exact in_n2 c10)) rfl
  · refine z_lload0 C dX8_in_6 ?_
    refine z_lload4 C dX8_in_7 ?_
    refine z_lcmp C dX8_in_9 ?_
    refine z_if_gt C 17 dX8_in_10 (by decide) (fun c10 => ?_) (fun c10 => ?_)
    · refine z_iconstN 0 C dX8_in_17 ?_
      exact z_iret C dX8_in_18 hr bi_nar (b0 (by first | exact in_n1 c3 | exact in_n2 c10)) rfl
    · refine z_iconstN 1 C dX8_in_13 ?_
      refine z_goto C 18 dX8_in_14 (by decide) ?_
      exact z_iret C dX8_in_18 hr bi_nar (b1 (in_w c3 c10)) rfl

set_option maxHeartbeats 4000000 in
set_option maxRecDepth 100000 in
theorem c_X8_has {l : Launch} {Y : LY} {S : GS} {x k : Int32} : CtI l yX8_has wsX8_has 1 Y [.int x, .int k] S (bi (x >>> (k &&& 31) &&& nI 1 = nI 1)) (S) := by
  refine mkI (cc := cX8_has) (maxL := 2) rfl rfl (Nat.le_of_ble_eq_true rfl) ?_
  intro X hl hY C hr
  subst hl
  subst hY
  show Zj X S [some (.int x), some (.int k)] 0 []
  refine z_iload0 C dX8_has_0 ?_
  refine z_iload1 C dX8_has_1 ?_
  refine z_ishr C dX8_has_2 ?_
  refine z_iconstN 1 C dX8_has_3 ?_
  refine z_iand C dX8_has_4 ?_
  refine z_iconstN 1 C dX8_has_5 ?_
  refine z_icmp_ne C 13 dX8_has_6 (by decide) (fun c6 => ?_) (fun c6 => ?_)
  · refine z_iconstN 0 C dX8_has_13 ?_
    exact z_iret C dX8_has_14 hr bi_nar (b0 (by intro hh; first | contradiction | (obtain ⟨h1, h2⟩ := hh; contradiction) | (obtain ⟨h1, h2, h3⟩ := hh; contradiction) | (obtain ⟨h1, h2, h3, h4⟩ := hh; contradiction))) rfl
  · refine z_iconstN 1 C dX8_has_9 ?_
    refine z_goto C 14 dX8_has_10 (by decide) ?_
    exact z_iret C dX8_has_14 hr bi_nar (b1 (by first | assumption | (refine ⟨?_, ?_⟩ <;> assumption) | (refine ⟨?_, ?_, ?_⟩ <;> assumption))) rfl

set_option maxRecDepth 20000 in
theorem fl_X8_isMark_7 : FL RX8 wsX8_isMark 7 8 0 := ⟨RX8, TX8, 15, rfl, (fun w h => List.mem_cons_of_mem _ (List.mem_append_right _ h)), by decide, by decide +kernel⟩
theorem md_X8_in : MD yX8_in wsX8_in 3 6 (some .boolean) := ⟨_, _, rfl, by decide, by decide +kernel, by decide +kernel, by decide +kernel⟩
set_option maxHeartbeats 4000000 in
set_option maxRecDepth 100000 in
theorem c_X8_isMark {l : Launch} {Y : LY} {S : GS} {nm : Nat} {x : Int32} (hM : S.1 179 0 = nI nm) : CtI l yX8_isMark wsX8_isMark 2 Y [.ref (ad Y 178), .int x] S (bi (nI 0 ≤ x ∧ x ≤ nI nm - nI 1)) (S) := by
  refine mkI (cc := cX8_isMark) (maxL := 2) rfl rfl (Nat.le_of_ble_eq_true rfl) ?_
  intro X hl hY C hr
  subst hl
  subst hY
  show Zj X S [some (.ref (ad (xY X) 178)), some (.int x)] 0 []
  refine z_iload1 C dX8_isMark_0 ?_
  refine z_i2l C dX8_isMark_1 ?_
  refine z_lconst (v := 0) C dX8_isMark_2 rfl ?_
  refine z_topl (y := (nI 0).toInt64) C (by decide) ?_
  refine z_aload0 C dX8_isMark_3 ?_
  refine z_get C dX8_isMark_4 fl_X8_isMark_7 (k_Model _) rfl ?_
  refine z_iconstN 0 C dX8_isMark_7 ?_
  refine z_iald C dX8_isMark_8 (k_i179 _) (by omega) ?_
  refine z_top C hM ?_
  refine z_iconstN 1 C dX8_isMark_9 ?_
  refine z_isub C dX8_isMark_10 ?_
  refine z_i2l C dX8_isMark_11 ?_
  refine z_callSI C dX8_isMark_12 c_X8_in gX8_isMark_X8_in md_X8_in (by decide) rfl rfl (Nat.le_of_ble_eq_true rfl) ?_
  exact z_iret C dX8_isMark_15 hr bi_nar rfl rfl

set_option maxRecDepth 20000 in
theorem fl_X8_isMonk_7 : FL RX8 wsX8_isMonk 7 8 0 := ⟨RX8, TX8, 15, rfl, (fun w h => List.mem_cons_of_mem _ (List.mem_append_right _ h)), by decide, by decide +kernel⟩
set_option maxHeartbeats 4000000 in
set_option maxRecDepth 100000 in
theorem c_X8_isMonk {l : Launch} {Y : LY} {S : GS} {nk : Nat} {x : Int32} (hK : S.1 179 1 = nI nk) : CtI l yX8_isMonk wsX8_isMonk 2 Y [.ref (ad Y 178), .int x] S (bi (nI 0 ≤ x ∧ x ≤ nI nk - nI 1)) (S) := by
  refine mkI (cc := cX8_isMonk) (maxL := 2) rfl rfl (Nat.le_of_ble_eq_true rfl) ?_
  intro X hl hY C hr
  subst hl
  subst hY
  show Zj X S [some (.ref (ad (xY X) 178)), some (.int x)] 0 []
  refine z_iload1 C dX8_isMonk_0 ?_
  refine z_i2l C dX8_isMonk_1 ?_
  refine z_lconst (v := 0) C dX8_isMonk_2 rfl ?_
  refine z_topl (y := (nI 0).toInt64) C (by decide) ?_
  refine z_aload0 C dX8_isMonk_3 ?_
  refine z_get C dX8_isMonk_4 fl_X8_isMonk_7 (k_Model _) rfl ?_
  refine z_iconstN 1 C dX8_isMonk_7 ?_
  refine z_iald C dX8_isMonk_8 (k_i179 _) (by omega) ?_
  refine z_top C hK ?_
  refine z_iconstN 1 C dX8_isMonk_9 ?_
  refine z_isub C dX8_isMonk_10 ?_
  refine z_i2l C dX8_isMonk_11 ?_
  refine z_callSI C dX8_isMonk_12 c_X8_in gX8_isMonk_X8_in md_X8_in (by decide) rfl rfl (Nat.le_of_ble_eq_true rfl) ?_
  exact z_iret C dX8_isMonk_15 hr bi_nar rfl rfl

abbrev mG (S : GS) (r m : Nat) : Prop := S.1 179 (r + 5 + m) = 0 ∧ S.1 179 (r + 11 + m) = 0
abbrev mT (S : GS) (r m : Nat) : Prop := S.1 179 (r + 17 + m) = nI 20
abbrev mC (S : GS) (r k m : Nat) : Prop := ¬ S.1 179 (r + 23 + k) ≤ 0 ∧ ¬ mT S r m ∧ ¬ mG S r m
def lD (kd sz : Int32) : Int32 := if kd = nI 2 ∨ kd = nI 4 then nI 8 else if (kd = nI 1 ∨ kd = nI 3) ∧ ¬ sz < nI 30 then nI 6 else nI 4
def lss (v w : Int32) : Int32 := if w ≤ v then v - w else nI 0
def mw20 (v : Int32) : Int32 := if v ≤ nI 20 then v else nI 20
theorem mw20_y {v : Int32} (h : v ≤ nI 20) : v = mw20 v := (if_pos h).symm
theorem mw20_n {v : Int32} (h : ¬ v ≤ nI 20) : nI 20 = mw20 v := (if_neg h).symm

set_option maxRecDepth 20000 in
theorem fl_X8_isGone_7 : FL RX8 wsX8_isGone 7 8 0 := ⟨RX8, TX8, 15, rfl, (fun w h => List.mem_cons_of_mem _ (List.mem_append_right _ h)), by decide, by decide +kernel⟩
set_option maxHeartbeats 4000000 in
set_option maxRecDepth 100000 in
theorem c_X8_isGone {l : Launch} {Y : LY} {S : GS} {r m : Nat} (hr0 : r ≤ 630) (hm : m < 6) : CtI l yX8_isGone wsX8_isGone 1 Y [.ref (ad Y 178), .int (nI r), .int (nI m)] S (bi (mG S r m)) (S) := by
  refine mkI (cc := cX8_isGone) (maxL := 3) rfl rfl (Nat.le_of_ble_eq_true rfl) ?_
  intro X hl hY C hr
  subst hl
  subst hY
  show Zj X S [some (.ref (ad (xY X) 178)), some (.int (nI r)), some (.int (nI m))] 0 []
  refine z_aload0 C dX8_isGone_0 ?_
  refine z_get C dX8_isGone_1 fl_X8_isGone_7 (k_Model _) rfl ?_
  refine z_iload1 C dX8_isGone_4 ?_
  refine z_iconstN 5 C dX8_isGone_5 ?_
  refine z_iaddN C dX8_isGone_6 ?_
  refine z_iload2 C dX8_isGone_7 ?_
  refine z_iaddN C dX8_isGone_8 ?_
  refine z_iald C dX8_isGone_9 (k_i179 _) (by omega) ?_
  refine z_if_ne C 31 dX8_isGone_10 (by decide) (fun c10 => ?_) (fun c10 => ?_)
  · refine z_iconstN 0 C dX8_isGone_31 ?_
    exact z_iret C dX8_isGone_32 hr bi_nar (b0 (by intro hh; first | contradiction | (obtain ⟨h1, h2⟩ := hh; contradiction) | (obtain ⟨h1, h2, h3⟩ := hh; contradiction) | (obtain ⟨h1, h2, h3, h4⟩ := hh; contradiction))) rfl
  · refine z_aload0 C dX8_isGone_13 ?_
    refine z_get C dX8_isGone_14 fl_X8_isGone_7 (k_Model _) rfl ?_
    refine z_iload1 C dX8_isGone_17 ?_
    refine z_bipush (v := nI 11) C dX8_isGone_18 (by decide) ?_
    refine z_iaddN C dX8_isGone_20 ?_
    refine z_iload2 C dX8_isGone_21 ?_
    refine z_iaddN C dX8_isGone_22 ?_
    refine z_iald C dX8_isGone_23 (k_i179 _) (by omega) ?_
    refine z_if_ne C 31 dX8_isGone_24 (by decide) (fun c24 => ?_) (fun c24 => ?_)
    · refine z_iconstN 0 C dX8_isGone_31 ?_
      exact z_iret C dX8_isGone_32 hr bi_nar (b0 (by intro hh; first | contradiction | (obtain ⟨h1, h2⟩ := hh; contradiction) | (obtain ⟨h1, h2, h3⟩ := hh; contradiction) | (obtain ⟨h1, h2, h3, h4⟩ := hh; contradiction))) rfl
    · refine z_iconstN 1 C dX8_isGone_27 ?_
      refine z_goto C 32 dX8_isGone_28 (by decide) ?_
      exact z_iret C dX8_isGone_32 hr bi_nar (b1 (by first | assumption | (refine ⟨?_, ?_⟩ <;> assumption) | (refine ⟨?_, ?_, ?_⟩ <;> assumption))) rfl

set_option maxRecDepth 20000 in
theorem fl_X8_isTorn_7 : FL RX8 wsX8_isTorn 7 8 0 := ⟨RX8, TX8, 15, rfl, (fun w h => List.mem_cons_of_mem _ (List.mem_append_right _ h)), by decide, by decide +kernel⟩
set_option maxHeartbeats 4000000 in
set_option maxRecDepth 100000 in
theorem c_X8_isTorn {l : Launch} {Y : LY} {S : GS} {r m : Nat} (hr0 : r ≤ 630) (hm : m < 6) : CtI l yX8_isTorn wsX8_isTorn 1 Y [.ref (ad Y 178), .int (nI r), .int (nI m)] S (bi (mT S r m)) (S) := by
  refine mkI (cc := cX8_isTorn) (maxL := 3) rfl rfl (Nat.le_of_ble_eq_true rfl) ?_
  intro X hl hY C hr
  subst hl
  subst hY
  show Zj X S [some (.ref (ad (xY X) 178)), some (.int (nI r)), some (.int (nI m))] 0 []
  refine z_aload0 C dX8_isTorn_0 ?_
  refine z_get C dX8_isTorn_1 fl_X8_isTorn_7 (k_Model _) rfl ?_
  refine z_iload1 C dX8_isTorn_4 ?_
  refine z_bipush (v := nI 17) C dX8_isTorn_5 (by decide) ?_
  refine z_iaddN C dX8_isTorn_7 ?_
  refine z_iload2 C dX8_isTorn_8 ?_
  refine z_iaddN C dX8_isTorn_9 ?_
  refine z_iald C dX8_isTorn_10 (k_i179 _) (by omega) ?_
  refine z_bipush (v := nI 20) C dX8_isTorn_11 (by decide) ?_
  refine z_icmp_ne C 20 dX8_isTorn_13 (by decide) (fun c13 => ?_) (fun c13 => ?_)
  · refine z_iconstN 0 C dX8_isTorn_20 ?_
    exact z_iret C dX8_isTorn_21 hr bi_nar (b0 (by intro hh; first | contradiction | (obtain ⟨h1, h2⟩ := hh; contradiction) | (obtain ⟨h1, h2, h3⟩ := hh; contradiction) | (obtain ⟨h1, h2, h3, h4⟩ := hh; contradiction))) rfl
  · refine z_iconstN 1 C dX8_isTorn_16 ?_
    refine z_goto C 21 dX8_isTorn_17 (by decide) ?_
    exact z_iret C dX8_isTorn_21 hr bi_nar (b1 (by first | assumption | (refine ⟨?_, ?_⟩ <;> assumption) | (refine ⟨?_, ?_, ?_⟩ <;> assumption))) rfl

set_option maxRecDepth 20000 in
theorem fl_X8_canRub_7 : FL RX8 wsX8_canRub 7 8 0 := ⟨RX8, TX8, 15, rfl, (fun w h => List.mem_cons_of_mem _ (List.mem_append_right _ h)), by decide, by decide +kernel⟩
theorem md_X8_isTorn : MD yX8_isTorn wsX8_isTorn 2 3 (some .boolean) := ⟨_, _, rfl, by decide, by decide +kernel, by decide +kernel, by decide +kernel⟩
theorem md_X8_isGone : MD yX8_isGone wsX8_isGone 2 3 (some .boolean) := ⟨_, _, rfl, by decide, by decide +kernel, by decide +kernel, by decide +kernel⟩
set_option maxHeartbeats 4000000 in
set_option maxRecDepth 100000 in
theorem c_X8_canRub {l : Launch} {Y : LY} {S : GS} {r k m : Nat} (hr0 : r ≤ 630) (hk : k < 5) (hm : m < 6) : CtI l yX8_canRub wsX8_canRub 2 Y [.ref (ad Y 178), .int (nI r), .int (nI k), .int (nI m)] S (bi (mC S r k m)) (S) := by
  refine mkI (cc := cX8_canRub) (maxL := 4) rfl rfl (Nat.le_of_ble_eq_true rfl) ?_
  intro X hl hY C hr
  subst hl
  subst hY
  show Zj X S [some (.ref (ad (xY X) 178)), some (.int (nI r)), some (.int (nI k)), some (.int (nI m))] 0 []
  refine z_aload0 C dX8_canRub_0 ?_
  refine z_get C dX8_canRub_1 fl_X8_canRub_7 (k_Model _) rfl ?_
  refine z_iload1 C dX8_canRub_4 ?_
  refine z_bipush (v := nI 23) C dX8_canRub_5 (by decide) ?_
  refine z_iaddN C dX8_canRub_7 ?_
  refine z_iload2 C dX8_canRub_8 ?_
  refine z_iaddN C dX8_canRub_9 ?_
  refine z_iald C dX8_canRub_10 (k_i179 _) (by omega) ?_
  refine z_if_le C 36 dX8_canRub_11 (by decide) (fun c11 => ?_) (fun c11 => ?_)
  · refine z_iconstN 0 C dX8_canRub_36 ?_
    exact z_iret C dX8_canRub_37 hr bi_nar (b0 (by intro hh; first | contradiction | (obtain ⟨h1, h2⟩ := hh; contradiction) | (obtain ⟨h1, h2, h3⟩ := hh; contradiction) | (obtain ⟨h1, h2, h3, h4⟩ := hh; contradiction))) rfl
  · refine z_aload0 C dX8_canRub_14 ?_
    refine z_iload1 C dX8_canRub_15 ?_
    refine z_iload3 C dX8_canRub_16 ?_
    refine z_callVI C dX8_canRub_17 (c_X8_isTorn (by omega) (by omega)) gX8_canRub_X8_isTorn md_X8_isTorn rfl (by decide) (k_Model _) rfl rfl rfl (Nat.le_of_ble_eq_true rfl) ?_
    refine z_if_neB C 36 dX8_canRub_20 (by decide) (fun c20 => ?_) (fun c20 => ?_)
    · refine z_iconstN 0 C dX8_canRub_36 ?_
      exact z_iret C dX8_canRub_37 hr bi_nar (b0 (by intro hh; first | contradiction | (obtain ⟨h1, h2⟩ := hh; contradiction) | (obtain ⟨h1, h2, h3⟩ := hh; contradiction) | (obtain ⟨h1, h2, h3, h4⟩ := hh; contradiction))) rfl
    · refine z_aload0 C dX8_canRub_23 ?_
      refine z_iload1 C dX8_canRub_24 ?_
      refine z_iload3 C dX8_canRub_25 ?_
      refine z_callVI C dX8_canRub_26 (c_X8_isGone (by omega) (by omega)) gX8_canRub_X8_isGone md_X8_isGone rfl (by decide) (k_Model _) rfl rfl rfl (Nat.le_of_ble_eq_true rfl) ?_
      refine z_if_neB C 36 dX8_canRub_29 (by decide) (fun c29 => ?_) (fun c29 => ?_)
      · refine z_iconstN 0 C dX8_canRub_36 ?_
        exact z_iret C dX8_canRub_37 hr bi_nar (b0 (by intro hh; first | contradiction | (obtain ⟨h1, h2⟩ := hh; contradiction) | (obtain ⟨h1, h2, h3⟩ := hh; contradiction) | (obtain ⟨h1, h2, h3, h4⟩ := hh; contradiction))) rfl
      · refine z_iconstN 1 C dX8_canRub_32 ?_
        refine z_goto C 37 dX8_canRub_33 (by decide) ?_
        exact z_iret C dX8_canRub_37 hr bi_nar (b1 (by first | assumption | (refine ⟨?_, ?_⟩ <;> assumption) | (refine ⟨?_, ?_, ?_⟩ <;> assumption))) rfl

set_option maxHeartbeats 4000000 in
set_option maxRecDepth 100000 in
theorem c_X8_lessDark {l : Launch} {Y : LY} {S : GS} {kd sz : Int32} : CtI l yX8_lessDark wsX8_lessDark 1 Y [.int kd, .int sz] S (lD kd sz) (S) := by
  refine mkI (cc := cX8_lessDark) (maxL := 2) rfl rfl (Nat.le_of_ble_eq_true rfl) ?_
  intro X hl hY C hr
  subst hl
  subst hY
  show Zj X S [some (.int kd), some (.int sz)] 0 []
  refine z_iload0 C dX8_lessDark_0 ?_
  refine z_iconstN 2 C dX8_lessDark_1 ?_
  refine z_icmp_eq C 10 dX8_lessDark_2 (by decide) (fun c2 => ?_) (fun c2 => ?_)
  · refine z_bipush (v := nI 8) C dX8_lessDark_10 (by decide) ?_
    refine z_goto C 37 dX8_lessDark_12 (by decide) ?_
    exact z_iret C dX8_lessDark_37 hr rfl (by unfold lD; rw [if_pos (by first | exact Or.inl (by assumption) | exact Or.inr (by assumption))]) rfl
  · refine z_iload0 C dX8_lessDark_5 ?_
    refine z_iconstN 4 C dX8_lessDark_6 ?_
    refine z_icmp_ne C 15 dX8_lessDark_7 (by decide) (fun c7 => ?_) (fun c7 => ?_)
    · refine z_iload0 C dX8_lessDark_15 ?_
      refine z_iconstN 1 C dX8_lessDark_16 ?_
      refine z_icmp_eq C 25 dX8_lessDark_17 (by decide) (fun c17 => ?_) (fun c17 => ?_)
      · refine z_iload1 C dX8_lessDark_25 ?_
        refine z_bipush (v := nI 30) C dX8_lessDark_26 (by decide) ?_
        refine z_icmp_lt C 36 dX8_lessDark_28 (by decide) (fun c28 => ?_) (fun c28 => ?_)
        · refine z_iconstN 4 C dX8_lessDark_36 ?_
          exact z_iret C dX8_lessDark_37 hr rfl (by unfold lD; rw [if_neg (by rintro (h | h) <;> contradiction), if_neg (by rintro ⟨h1 | h1, h2⟩ <;> contradiction)]) rfl
        · refine z_bipush (v := nI 6) C dX8_lessDark_31 (by decide) ?_
          refine z_goto C 37 dX8_lessDark_33 (by decide) ?_
          exact z_iret C dX8_lessDark_37 hr rfl (by unfold lD; rw [if_neg (by rintro (h | h) <;> contradiction), if_pos ⟨(by first | exact Or.inl (by assumption) | exact Or.inr (by assumption)), by assumption⟩]) rfl
      · refine z_iload0 C dX8_lessDark_20 ?_
        refine z_iconstN 3 C dX8_lessDark_21 ?_
        refine z_icmp_ne C 36 dX8_lessDark_22 (by decide) (fun c22 => ?_) (fun c22 => ?_)
        · refine z_iconstN 4 C dX8_lessDark_36 ?_
          exact z_iret C dX8_lessDark_37 hr rfl (by unfold lD; rw [if_neg (by rintro (h | h) <;> contradiction), if_neg (by rintro ⟨h1 | h1, h2⟩ <;> contradiction)]) rfl
        · refine z_iload1 C dX8_lessDark_25 ?_
          refine z_bipush (v := nI 30) C dX8_lessDark_26 (by decide) ?_
          refine z_icmp_lt C 36 dX8_lessDark_28 (by decide) (fun c28 => ?_) (fun c28 => ?_)
          · refine z_iconstN 4 C dX8_lessDark_36 ?_
            exact z_iret C dX8_lessDark_37 hr rfl (by unfold lD; rw [if_neg (by rintro (h | h) <;> contradiction), if_neg (by rintro ⟨h1 | h1, h2⟩ <;> contradiction)]) rfl
          · refine z_bipush (v := nI 6) C dX8_lessDark_31 (by decide) ?_
            refine z_goto C 37 dX8_lessDark_33 (by decide) ?_
            exact z_iret C dX8_lessDark_37 hr rfl (by unfold lD; rw [if_neg (by rintro (h | h) <;> contradiction), if_pos ⟨(by first | exact Or.inl (by assumption) | exact Or.inr (by assumption)), by assumption⟩]) rfl
    · refine z_bipush (v := nI 8) C dX8_lessDark_10 (by decide) ?_
      refine z_goto C 37 dX8_lessDark_12 (by decide) ?_
      exact z_iret C dX8_lessDark_37 hr rfl (by unfold lD; rw [if_pos (by first | exact Or.inl (by assumption) | exact Or.inr (by assumption))]) rfl

set_option maxHeartbeats 4000000 in
set_option maxRecDepth 100000 in
theorem c_X8_lessSize {l : Launch} {Y : LY} {S : GS} {kd hd : Int32} : CtI l yX8_lessSize wsX8_lessSize 1 Y [.int kd, .int hd] S (wer kd hd) (S) := by
  refine mkI (cc := cX8_lessSize) (maxL := 2) rfl rfl (Nat.le_of_ble_eq_true rfl) ?_
  intro X hl hY C hr
  subst hl
  subst hY
  show Zj X S [some (.int kd), some (.int hd)] 0 []
  refine z_iload0 C dX8_lessSize_0 ?_
  refine z_iconstN 3 C dX8_lessSize_1 ?_
  refine z_icmp_ne C 13 dX8_lessSize_2 (by decide) (fun c2 => ?_) (fun c2 => ?_)
  · refine z_iload0 C dX8_lessSize_13 ?_
    refine z_iconstN 4 C dX8_lessSize_14 ?_
    refine z_icmp_ne C 22 dX8_lessSize_15 (by decide) (fun c15 => ?_) (fun c15 => ?_)
    · refine z_iload1 C dX8_lessSize_22 ?_
      exact z_iret C dX8_lessSize_23 hr rfl (by unfold wer; first | rw [if_pos c2] | rw [if_neg c2, if_pos c15] | rw [if_neg c2, if_neg c15]) rfl
    · refine z_iconstN 1 C dX8_lessSize_18 ?_
      refine z_goto C 23 dX8_lessSize_19 (by decide) ?_
      exact z_iret C dX8_lessSize_23 hr rfl (by unfold wer; first | rw [if_pos c2] | rw [if_neg c2, if_pos c15] | rw [if_neg c2, if_neg c15]) rfl
  · refine z_iload1 C dX8_lessSize_5 ?_
    refine z_iconstN 2 C dX8_lessSize_6 ?_
    refine z_idiv C dX8_lessSize_7 (by decide) ?_
    refine z_iconstN 1 C dX8_lessSize_8 ?_
    refine z_iadd C dX8_lessSize_9 ?_
    refine z_goto C 23 dX8_lessSize_10 (by decide) ?_
    exact z_iret C dX8_lessSize_23 hr rfl (by unfold wer; first | rw [if_pos c2] | rw [if_neg c2, if_pos c15] | rw [if_neg c2, if_neg c15]) rfl

set_option maxHeartbeats 4000000 in
set_option maxRecDepth 100000 in
theorem c_X8_moreWool {l : Launch} {Y : LY} {S : GS} {kd : Int32} : CtI l yX8_moreWool wsX8_moreWool 1 Y [.int kd] S (wol kd) (S) := by
  refine mkI (cc := cX8_moreWool) (maxL := 1) rfl rfl (Nat.le_of_ble_eq_true rfl) ?_
  intro X hl hY C hr
  subst hl
  subst hY
  show Zj X S [some (.int kd)] 0 []
  refine z_iload0 C dX8_moreWool_0 ?_
  refine z_iconstN 2 C dX8_moreWool_1 ?_
  refine z_icmp_ne C 9 dX8_moreWool_2 (by decide) (fun c2 => ?_) (fun c2 => ?_)
  · refine z_iload0 C dX8_moreWool_9 ?_
    refine z_iconstN 4 C dX8_moreWool_10 ?_
    refine z_icmp_ne C 18 dX8_moreWool_11 (by decide) (fun c11 => ?_) (fun c11 => ?_)
    · refine z_iconstN 1 C dX8_moreWool_18 ?_
      exact z_iret C dX8_moreWool_19 hr rfl (by unfold wol; first | rw [if_pos c2] | rw [if_neg c2, if_pos c11] | rw [if_neg c2, if_neg c11]) rfl
    · refine z_iconstN 2 C dX8_moreWool_14 ?_
      refine z_goto C 19 dX8_moreWool_15 (by decide) ?_
      exact z_iret C dX8_moreWool_19 hr rfl (by unfold wol; first | rw [if_pos c2] | rw [if_neg c2, if_pos c11] | rw [if_neg c2, if_neg c11]) rfl
  · refine z_iconstN 3 C dX8_moreWool_5 ?_
    refine z_goto C 19 dX8_moreWool_6 (by decide) ?_
    exact z_iret C dX8_moreWool_19 hr rfl (by unfold wol; first | rw [if_pos c2] | rw [if_neg c2, if_pos c11] | rw [if_neg c2, if_neg c11]) rfl

set_option maxHeartbeats 4000000 in
set_option maxRecDepth 100000 in
theorem c_X8_less {l : Launch} {Y : LY} {S : GS} {v w : Int32} : CtI l yX8_less wsX8_less 1 Y [.int v, .int w] S (lss v w) (S) := by
  refine mkI (cc := cX8_less) (maxL := 2) rfl rfl (Nat.le_of_ble_eq_true rfl) ?_
  intro X hl hY C hr
  subst hl
  subst hY
  show Zj X S [some (.int v), some (.int w)] 0 []
  refine z_iload0 C dX8_less_0 ?_
  refine z_iload1 C dX8_less_1 ?_
  refine z_icmp_ge C 9 dX8_less_2 (by decide) (fun c2 => ?_) (fun c2 => ?_)
  · refine z_iload0 C dX8_less_9 ?_
    refine z_iload1 C dX8_less_10 ?_
    refine z_isub C dX8_less_11 ?_
    exact z_iret C dX8_less_12 hr rfl (by unfold lss; first | rw [if_pos c2] | rw [if_neg c2]) rfl
  · refine z_iconstN 0 C dX8_less_5 ?_
    refine z_goto C 12 dX8_less_6 (by decide) ?_
    exact z_iret C dX8_less_12 hr rfl (by unfold lss; first | rw [if_pos c2] | rw [if_neg c2]) rfl
