abbrev rG (S : GS) (b m : Nat) : Prop := S.1 (b + 1) m = 0 ∧ S.1 (b + 3) m = 0
abbrev rT (S : GS) (b m : Nat) : Prop := ¬ S.1 (b + 4) m < nI 20
abbrev rO (S : GS) (b m : Nat) : Prop := ¬ rG S b m ∧ ¬ rT S b m
abbrev rC (S : GS) (b k m : Nat) : Prop := ¬ S.1 (b + 6) k ≤ 0 ∧ rO S b m

set_option maxRecDepth 20000 in
theorem fl_X2_isGone_15 : FL RX2 wsX2_isGone 15 2 5 := ⟨RX2, TX2, 12, rfl, (fun w h => List.mem_cons_of_mem _ (List.mem_append_right _ h)), by decide, by decide +kernel⟩
set_option maxRecDepth 20000 in
theorem fl_X2_isGone_22 : FL RX2 wsX2_isGone 22 2 7 := ⟨RX2, TX2, 12, rfl, (fun w h => List.mem_cons_of_mem _ (List.mem_append_right _ h)), by decide, by decide +kernel⟩
set_option maxHeartbeats 4000000 in
set_option maxRecDepth 100000 in
theorem c_X2_isGone {l : Launch} {Y : LY} {S : GS} {b m : Nat} (hb : isR b) (hm : m < 6) : CtI l yX2_isGone wsX2_isGone 1 Y [.ref (ad Y b), .int (nI m)] S (bi (rG S b m)) (S) := by
  refine mkI (cc := cX2_isGone) (maxL := 2) rfl rfl (Nat.le_of_ble_eq_true rfl) ?_
  intro X hl hY C hr
  subst hl
  subst hY
  show Zj X S [some (.ref (ad (xY X) b)), some (.int (nI m))] 0 []
  refine z_aload0 C dX2_isGone_0 ?_
  refine z_get C dX2_isGone_1 fl_X2_isGone_15 (k_Rock _ hb) rfl ?_
  refine z_iload1 C dX2_isGone_4 ?_
  refine z_iald C dX2_isGone_5 (k_dark _ hb) (by omega) ?_
  refine z_if_ne C 22 dX2_isGone_6 (by decide) (fun c6 => ?_) (fun c6 => ?_)
  · refine z_iconstN 0 C dX2_isGone_22 ?_
    exact z_iret C dX2_isGone_23 hr bi_nar (b0 (by intro hh; first | contradiction | (obtain ⟨h1, h2⟩ := hh; contradiction) | (obtain ⟨h1, h2, h3⟩ := hh; contradiction) | (obtain ⟨h1, h2, h3, h4⟩ := hh; contradiction))) rfl
  · refine z_aload0 C dX2_isGone_9 ?_
    refine z_get C dX2_isGone_10 fl_X2_isGone_22 (k_Rock _ hb) rfl ?_
    refine z_iload1 C dX2_isGone_13 ?_
    refine z_iald C dX2_isGone_14 (k_under _ hb) (by omega) ?_
    refine z_if_ne C 22 dX2_isGone_15 (by decide) (fun c15 => ?_) (fun c15 => ?_)
    · refine z_iconstN 0 C dX2_isGone_22 ?_
      exact z_iret C dX2_isGone_23 hr bi_nar (b0 (by intro hh; first | contradiction | (obtain ⟨h1, h2⟩ := hh; contradiction) | (obtain ⟨h1, h2, h3⟩ := hh; contradiction) | (obtain ⟨h1, h2, h3, h4⟩ := hh; contradiction))) rfl
    · refine z_iconstN 1 C dX2_isGone_18 ?_
      refine z_goto C 23 dX2_isGone_19 (by decide) ?_
      exact z_iret C dX2_isGone_23 hr bi_nar (b1 (by first | assumption | (refine ⟨?_, ?_⟩ <;> assumption) | (refine ⟨?_, ?_, ?_⟩ <;> assumption))) rfl

set_option maxRecDepth 20000 in
theorem fl_X2_isTorn_25 : FL RX2 wsX2_isTorn 25 2 8 := ⟨RX2, TX2, 12, rfl, (fun w h => List.mem_cons_of_mem _ (List.mem_append_right _ h)), by decide, by decide +kernel⟩
set_option maxHeartbeats 4000000 in
set_option maxRecDepth 100000 in
theorem c_X2_isTorn {l : Launch} {Y : LY} {S : GS} {b m : Nat} (hb : isR b) (hm : m < 6) : CtI l yX2_isTorn wsX2_isTorn 1 Y [.ref (ad Y b), .int (nI m)] S (bi (rT S b m)) (S) := by
  refine mkI (cc := cX2_isTorn) (maxL := 2) rfl rfl (Nat.le_of_ble_eq_true rfl) ?_
  intro X hl hY C hr
  subst hl
  subst hY
  show Zj X S [some (.ref (ad (xY X) b)), some (.int (nI m))] 0 []
  refine z_aload0 C dX2_isTorn_0 ?_
  refine z_get C dX2_isTorn_1 fl_X2_isTorn_25 (k_Rock _ hb) rfl ?_
  refine z_iload1 C dX2_isTorn_4 ?_
  refine z_iald C dX2_isTorn_5 (k_wool _ hb) (by omega) ?_
  refine z_bipush (v := nI 20) C dX2_isTorn_6 (by decide) ?_
  refine z_icmp_lt C 15 dX2_isTorn_8 (by decide) (fun c8 => ?_) (fun c8 => ?_)
  · refine z_iconstN 0 C dX2_isTorn_15 ?_
    exact z_iret C dX2_isTorn_16 hr bi_nar (b0 (by intro hh; first | contradiction | (obtain ⟨h1, h2⟩ := hh; contradiction) | (obtain ⟨h1, h2, h3⟩ := hh; contradiction) | (obtain ⟨h1, h2, h3, h4⟩ := hh; contradiction))) rfl
  · refine z_iconstN 1 C dX2_isTorn_11 ?_
    refine z_goto C 16 dX2_isTorn_12 (by decide) ?_
    exact z_iret C dX2_isTorn_16 hr bi_nar (b1 (by first | assumption | (refine ⟨?_, ?_⟩ <;> assumption) | (refine ⟨?_, ?_, ?_⟩ <;> assumption))) rfl

theorem md_X2_isGone : MD yX2_isGone wsX2_isGone 1 2 (some .boolean) := ⟨_, _, rfl, by decide, by decide +kernel, by decide +kernel, by decide +kernel⟩
theorem md_X2_isTorn : MD yX2_isTorn wsX2_isTorn 1 2 (some .boolean) := ⟨_, _, rfl, by decide, by decide +kernel, by decide +kernel, by decide +kernel⟩
set_option maxHeartbeats 4000000 in
set_option maxRecDepth 100000 in
theorem c_X2_isOpen {l : Launch} {Y : LY} {S : GS} {b m : Nat} (hb : isR b) (hm : m < 6) : CtI l yX2_isOpen wsX2_isOpen 2 Y [.ref (ad Y b), .int (nI m)] S (bi (rO S b m)) (S) := by
  refine mkI (cc := cX2_isOpen) (maxL := 2) rfl rfl (Nat.le_of_ble_eq_true rfl) ?_
  intro X hl hY C hr
  subst hl
  subst hY
  show Zj X S [some (.ref (ad (xY X) b)), some (.int (nI m))] 0 []
  refine z_aload0 C dX2_isOpen_0 ?_
  refine z_iload1 C dX2_isOpen_1 ?_
  refine z_callVI C dX2_isOpen_2 (c_X2_isGone hb (by omega)) gX2_isOpen_X2_isGone md_X2_isGone rfl (by decide) (k_Rock _ hb) rfl rfl rfl (Nat.le_of_ble_eq_true rfl) ?_
  refine z_if_neB C 20 dX2_isOpen_5 (by decide) (fun c5 => ?_) (fun c5 => ?_)
  · refine z_iconstN 0 C dX2_isOpen_20 ?_
    exact z_iret C dX2_isOpen_21 hr bi_nar (b0 (by intro hh; first | contradiction | (obtain ⟨h1, h2⟩ := hh; contradiction) | (obtain ⟨h1, h2, h3⟩ := hh; contradiction) | (obtain ⟨h1, h2, h3, h4⟩ := hh; contradiction))) rfl
  · refine z_aload0 C dX2_isOpen_8 ?_
    refine z_iload1 C dX2_isOpen_9 ?_
    refine z_callVI C dX2_isOpen_10 (c_X2_isTorn hb (by omega)) gX2_isOpen_X2_isTorn md_X2_isTorn rfl (by decide) (k_Rock _ hb) rfl rfl rfl (Nat.le_of_ble_eq_true rfl) ?_
    refine z_if_neB C 20 dX2_isOpen_13 (by decide) (fun c13 => ?_) (fun c13 => ?_)
    · refine z_iconstN 0 C dX2_isOpen_20 ?_
      exact z_iret C dX2_isOpen_21 hr bi_nar (b0 (by intro hh; first | contradiction | (obtain ⟨h1, h2⟩ := hh; contradiction) | (obtain ⟨h1, h2, h3⟩ := hh; contradiction) | (obtain ⟨h1, h2, h3, h4⟩ := hh; contradiction))) rfl
    · refine z_iconstN 1 C dX2_isOpen_16 ?_
      refine z_goto C 21 dX2_isOpen_17 (by decide) ?_
      exact z_iret C dX2_isOpen_21 hr bi_nar (b1 (by first | assumption | (refine ⟨?_, ?_⟩ <;> assumption) | (refine ⟨?_, ?_, ?_⟩ <;> assumption))) rfl

set_option maxRecDepth 20000 in
theorem fl_X2_canRub_31 : FL RX2 wsX2_canRub 31 2 10 := ⟨RX2, TX2, 12, rfl, (fun w h => List.mem_cons_of_mem _ (List.mem_append_right _ h)), by decide, by decide +kernel⟩
theorem md_X2_isOpen : MD yX2_isOpen wsX2_isOpen 1 2 (some .boolean) := ⟨_, _, rfl, by decide, by decide +kernel, by decide +kernel, by decide +kernel⟩
set_option maxHeartbeats 4000000 in
set_option maxRecDepth 100000 in
theorem c_X2_canRub {l : Launch} {Y : LY} {S : GS} {b k m : Nat} (hb : isR b) (hk : k < 5) (hm : m < 6) : CtI l yX2_canRub wsX2_canRub 3 Y [.ref (ad Y b), .int (nI k), .int (nI m)] S (bi (rC S b k m)) (S) := by
  refine mkI (cc := cX2_canRub) (maxL := 3) rfl rfl (Nat.le_of_ble_eq_true rfl) ?_
  intro X hl hY C hr
  subst hl
  subst hY
  show Zj X S [some (.ref (ad (xY X) b)), some (.int (nI k)), some (.int (nI m))] 0 []
  refine z_aload0 C dX2_canRub_0 ?_
  refine z_get C dX2_canRub_1 fl_X2_canRub_31 (k_Rock _ hb) rfl ?_
  refine z_iload1 C dX2_canRub_4 ?_
  refine z_iald C dX2_canRub_5 (k_size _ hb) (by omega) ?_
  refine z_if_le C 21 dX2_canRub_6 (by decide) (fun c6 => ?_) (fun c6 => ?_)
  · refine z_iconstN 0 C dX2_canRub_21 ?_
    exact z_iret C dX2_canRub_22 hr bi_nar (b0 (by intro hh; first | contradiction | (obtain ⟨h1, h2⟩ := hh; contradiction) | (obtain ⟨h1, h2, h3⟩ := hh; contradiction) | (obtain ⟨h1, h2, h3, h4⟩ := hh; contradiction))) rfl
  · refine z_aload0 C dX2_canRub_9 ?_
    refine z_iload2 C dX2_canRub_10 ?_
    refine z_callVI C dX2_canRub_11 (c_X2_isOpen hb (by omega)) gX2_canRub_X2_isOpen md_X2_isOpen rfl (by decide) (k_Rock _ hb) rfl rfl rfl (Nat.le_of_ble_eq_true rfl) ?_
    refine z_if_eqB C 21 dX2_canRub_14 (by decide) (fun c14 => ?_) (fun c14 => ?_)
    · refine z_iconstN 0 C dX2_canRub_21 ?_
      exact z_iret C dX2_canRub_22 hr bi_nar (b0 (by intro hh; first | contradiction | (obtain ⟨h1, h2⟩ := hh; contradiction) | (obtain ⟨h1, h2, h3⟩ := hh; contradiction) | (obtain ⟨h1, h2, h3, h4⟩ := hh; contradiction))) rfl
    · refine z_iconstN 1 C dX2_canRub_17 ?_
      refine z_goto C 22 dX2_canRub_18 (by decide) ?_
      exact z_iret C dX2_canRub_22 hr bi_nar (b1 (by first | assumption | (refine ⟨?_, ?_⟩ <;> assumption) | (refine ⟨?_, ?_, ?_⟩ <;> assumption))) rfl

def pal (kd sz : Int32) : Int32 := if kd = nI 1 ∨ kd = nI 3 then (if sz < nI 30 then nI 4 else nI 6) else if kd = nI 2 ∨ kd = nI 4 then nI 8 else nI 4
def wer (kd hd : Int32) : Int32 := if kd = nI 3 then hd / nI 2 + nI 1 else if kd = nI 4 then nI 1 else hd
def wol (kd : Int32) : Int32 := if kd = nI 2 then nI 3 else if kd = nI 4 then nI 2 else nI 1
def mx0 (v : Int32) : Int32 := if nI 0 < v then v else nI 0
def mn20 (v : Int32) : Int32 := if v < nI 20 then v else nI 20

set_option maxHeartbeats 4000000 in
set_option maxRecDepth 100000 in
theorem c_X2_paleness {l : Launch} {Y : LY} {S : GS} {kd sz : Int32} : CtI l yX2_paleness wsX2_paleness 1 Y [.int kd, .int sz] S (pal kd sz) (S) := by
  refine mkI (cc := cX2_paleness) (maxL := 2) rfl rfl (Nat.le_of_ble_eq_true rfl) ?_
  intro X hl hY C hr
  subst hl
  subst hY
  show Zj X S [some (.int kd), some (.int sz)] 0 []
  refine z_iload0 C dX2_paleness_0 ?_
  refine z_name (fun x1 e1 => ?_)
  rcases sw_1_4 x1 with rfl | rfl | rfl | rfl | o1
  · refine z_tabIn (off := 31) C 32 dX2_paleness_1 (by decide) (by decide) (by decide) (by decide) ?_
    refine z_iload1 C dX2_paleness_32 ?_
    refine z_bipush (v := nI 30) C dX2_paleness_33 (by decide) ?_
    refine z_icmp_lt C 43 dX2_paleness_35 (by decide) (fun c35 => ?_) (fun c35 => ?_)
    · refine z_iconstN 4 C dX2_paleness_43 ?_
      exact z_iret C dX2_paleness_44 hr rfl (by first | (subst e1; unfold pal; first | rw [if_pos (by decide), if_pos (by assumption)] | rw [if_pos (by decide), if_neg (by assumption)] | rw [if_neg (by decide), if_pos (by decide)]) | (unfold pal; rw [if_neg (by rintro (h | h) <;> (rw [e1, h] at o1; revert o1; decide)), if_neg (by rintro (h | h) <;> (rw [e1, h] at o1; revert o1; decide))])) rfl
    · refine z_bipush (v := nI 6) C dX2_paleness_38 (by decide) ?_
      refine z_goto C 44 dX2_paleness_40 (by decide) ?_
      exact z_iret C dX2_paleness_44 hr rfl (by first | (subst e1; unfold pal; first | rw [if_pos (by decide), if_pos (by assumption)] | rw [if_pos (by decide), if_neg (by assumption)] | rw [if_neg (by decide), if_pos (by decide)]) | (unfold pal; rw [if_neg (by rintro (h | h) <;> (rw [e1, h] at o1; revert o1; decide)), if_neg (by rintro (h | h) <;> (rw [e1, h] at o1; revert o1; decide))])) rfl
  · refine z_tabIn (off := 44) C 45 dX2_paleness_1 (by decide) (by decide) (by decide) (by decide) ?_
    refine z_bipush (v := nI 8) C dX2_paleness_45 (by decide) ?_
    exact z_iret C dX2_paleness_47 hr rfl (by first | (subst e1; unfold pal; first | rw [if_pos (by decide), if_pos (by assumption)] | rw [if_pos (by decide), if_neg (by assumption)] | rw [if_neg (by decide), if_pos (by decide)]) | (unfold pal; rw [if_neg (by rintro (h | h) <;> (rw [e1, h] at o1; revert o1; decide)), if_neg (by rintro (h | h) <;> (rw [e1, h] at o1; revert o1; decide))])) rfl
  · refine z_tabIn (off := 31) C 32 dX2_paleness_1 (by decide) (by decide) (by decide) (by decide) ?_
    refine z_iload1 C dX2_paleness_32 ?_
    refine z_bipush (v := nI 30) C dX2_paleness_33 (by decide) ?_
    refine z_icmp_lt C 43 dX2_paleness_35 (by decide) (fun c35 => ?_) (fun c35 => ?_)
    · refine z_iconstN 4 C dX2_paleness_43 ?_
      exact z_iret C dX2_paleness_44 hr rfl (by first | (subst e1; unfold pal; first | rw [if_pos (by decide), if_pos (by assumption)] | rw [if_pos (by decide), if_neg (by assumption)] | rw [if_neg (by decide), if_pos (by decide)]) | (unfold pal; rw [if_neg (by rintro (h | h) <;> (rw [e1, h] at o1; revert o1; decide)), if_neg (by rintro (h | h) <;> (rw [e1, h] at o1; revert o1; decide))])) rfl
    · refine z_bipush (v := nI 6) C dX2_paleness_38 (by decide) ?_
      refine z_goto C 44 dX2_paleness_40 (by decide) ?_
      exact z_iret C dX2_paleness_44 hr rfl (by first | (subst e1; unfold pal; first | rw [if_pos (by decide), if_pos (by assumption)] | rw [if_pos (by decide), if_neg (by assumption)] | rw [if_neg (by decide), if_pos (by decide)]) | (unfold pal; rw [if_neg (by rintro (h | h) <;> (rw [e1, h] at o1; revert o1; decide)), if_neg (by rintro (h | h) <;> (rw [e1, h] at o1; revert o1; decide))])) rfl
  · refine z_tabIn (off := 44) C 45 dX2_paleness_1 (by decide) (by decide) (by decide) (by decide) ?_
    refine z_bipush (v := nI 8) C dX2_paleness_45 (by decide) ?_
    exact z_iret C dX2_paleness_47 hr rfl (by first | (subst e1; unfold pal; first | rw [if_pos (by decide), if_pos (by assumption)] | rw [if_pos (by decide), if_neg (by assumption)] | rw [if_neg (by decide), if_pos (by decide)]) | (unfold pal; rw [if_neg (by rintro (h | h) <;> (rw [e1, h] at o1; revert o1; decide)), if_neg (by rintro (h | h) <;> (rw [e1, h] at o1; revert o1; decide))])) rfl
  · refine z_tabOut C 48 dX2_paleness_1 o1 (by decide) ?_
    refine z_iconstN 4 C dX2_paleness_48 ?_
    exact z_iret C dX2_paleness_49 hr rfl (by first | (subst e1; unfold pal; first | rw [if_pos (by decide), if_pos (by assumption)] | rw [if_pos (by decide), if_neg (by assumption)] | rw [if_neg (by decide), if_pos (by decide)]) | (unfold pal; rw [if_neg (by rintro (h | h) <;> (rw [e1, h] at o1; revert o1; decide)), if_neg (by rintro (h | h) <;> (rw [e1, h] at o1; revert o1; decide))])) rfl

set_option maxHeartbeats 4000000 in
set_option maxRecDepth 100000 in
theorem c_X2_wear {l : Launch} {Y : LY} {S : GS} {kd hd : Int32} : CtI l yX2_wear wsX2_wear 1 Y [.int kd, .int hd] S (wer kd hd) (S) := by
  refine mkI (cc := cX2_wear) (maxL := 2) rfl rfl (Nat.le_of_ble_eq_true rfl) ?_
  intro X hl hY C hr
  subst hl
  subst hY
  show Zj X S [some (.int kd), some (.int hd)] 0 []
  refine z_iload0 C dX2_wear_0 ?_
  refine z_name (fun x1 e1 => ?_)
  rcases sw_3_4 x1 with rfl | rfl | o1
  · refine z_look (off := 27) C 28 dX2_wear_1 (by decide) (by decide) (by decide) ?_
    refine z_iload1 C dX2_wear_28 ?_
    refine z_iconstN 2 C dX2_wear_29 ?_
    refine z_idiv C dX2_wear_30 (by decide) ?_
    refine z_iconstN 1 C dX2_wear_31 ?_
    refine z_iadd C dX2_wear_32 ?_
    exact z_iret C dX2_wear_33 hr rfl (by first | (subst e1; unfold wer; first | rw [if_pos (by decide)] | rw [if_neg (by decide), if_pos (by decide)]) | (unfold wer; rw [if_neg (fun h => by rw [e1, h] at o1; revert o1; decide), if_neg (fun h => by rw [e1, h] at o1; revert o1; decide)])) rfl
  · refine z_look (off := 33) C 34 dX2_wear_1 (by decide) (by decide) (by decide) ?_
    refine z_iconstN 1 C dX2_wear_34 ?_
    exact z_iret C dX2_wear_35 hr rfl (by first | (subst e1; unfold wer; first | rw [if_pos (by decide)] | rw [if_neg (by decide), if_pos (by decide)]) | (unfold wer; rw [if_neg (fun h => by rw [e1, h] at o1; revert o1; decide), if_neg (fun h => by rw [e1, h] at o1; revert o1; decide)])) rfl
  · refine z_look (off := 35) C 36 dX2_wear_1 (by decide) (by simp [Op.lookupswitch.offset, Ne.symm o1.1, Ne.symm o1.2, o1.1, o1.2]) (by decide) ?_
    refine z_iload1 C dX2_wear_36 ?_
    exact z_iret C dX2_wear_37 hr rfl (by first | (subst e1; unfold wer; first | rw [if_pos (by decide)] | rw [if_neg (by decide), if_pos (by decide)]) | (unfold wer; rw [if_neg (fun h => by rw [e1, h] at o1; revert o1; decide), if_neg (fun h => by rw [e1, h] at o1; revert o1; decide)])) rfl

set_option maxHeartbeats 4000000 in
set_option maxRecDepth 100000 in
theorem c_X2_woolOf {l : Launch} {Y : LY} {S : GS} {kd : Int32} : CtI l yX2_woolOf wsX2_woolOf 1 Y [.int kd] S (wol kd) (S) := by
  refine mkI (cc := cX2_woolOf) (maxL := 1) rfl rfl (Nat.le_of_ble_eq_true rfl) ?_
  intro X hl hY C hr
  subst hl
  subst hY
  show Zj X S [some (.int kd)] 0 []
  refine z_iload0 C dX2_woolOf_0 ?_
  refine z_name (fun x1 e1 => ?_)
  rcases sw_2_4 x1 with rfl | rfl | o1
  · refine z_look (off := 27) C 28 dX2_woolOf_1 (by decide) (by decide) (by decide) ?_
    refine z_iconstN 3 C dX2_woolOf_28 ?_
    exact z_iret C dX2_woolOf_29 hr rfl (by first | (subst e1; unfold wol; first | rw [if_pos (by decide)] | rw [if_neg (by decide), if_pos (by decide)]) | (unfold wol; rw [if_neg (fun h => by rw [e1, h] at o1; revert o1; decide), if_neg (fun h => by rw [e1, h] at o1; revert o1; decide)])) rfl
  · refine z_look (off := 29) C 30 dX2_woolOf_1 (by decide) (by decide) (by decide) ?_
    refine z_iconstN 2 C dX2_woolOf_30 ?_
    exact z_iret C dX2_woolOf_31 hr rfl (by first | (subst e1; unfold wol; first | rw [if_pos (by decide)] | rw [if_neg (by decide), if_pos (by decide)]) | (unfold wol; rw [if_neg (fun h => by rw [e1, h] at o1; revert o1; decide), if_neg (fun h => by rw [e1, h] at o1; revert o1; decide)])) rfl
  · refine z_look (off := 31) C 32 dX2_woolOf_1 (by decide) (by simp [Op.lookupswitch.offset, Ne.symm o1.1, Ne.symm o1.2, o1.1, o1.2]) (by decide) ?_
    refine z_iconstN 1 C dX2_woolOf_32 ?_
    exact z_iret C dX2_woolOf_33 hr rfl (by first | (subst e1; unfold wol; first | rw [if_pos (by decide)] | rw [if_neg (by decide), if_pos (by decide)]) | (unfold wol; rw [if_neg (fun h => by rw [e1, h] at o1; revert o1; decide), if_neg (fun h => by rw [e1, h] at o1; revert o1; decide)])) rfl
