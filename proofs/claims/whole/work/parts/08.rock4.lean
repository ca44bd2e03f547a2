set_option maxRecDepth 20000 in
theorem fl_X2_crewOf_40 : FL RX2 wsX2_crewOf 40 2 1 := ⟨RX2, TX2, 12, rfl, (fun w h => List.mem_cons_of_mem _ (List.mem_append_right _ h)), by decide, by decide +kernel⟩
set_option maxRecDepth 20000 in
theorem fl_X2_crewOf_34 : FL RX2 wsX2_crewOf 34 2 11 := ⟨RX2, TX2, 12, rfl, (fun w h => List.mem_cons_of_mem _ (List.mem_append_right _ h)), by decide, by decide +kernel⟩
set_option maxHeartbeats 4000000 in
set_option maxRecDepth 100000 in
theorem lp_X2_crewOf {X : CX} {b nk : Nat} (hb : isR b) (hn : nk ≤ 5) {S : GS} (hK : S.1 b 1 = nI nk) {x : Int32} (C : Cx X cX2_crewOf RX2 wsX2_crewOf 2) : ∀ (n : Nat) (i : Nat) (v : Int32), i + n = nk → Zj X S [some (.ref (ad (xY X) b)), some (.int (x)), some (.int (foldN (fun i v => if S.1 (b + 7) i = x then v ||| nI 1 <<< (nI i &&& 31) else v) n i v)), some (.int (nI (nk)))] 34 [] → Zj X S [some (.ref (ad (xY X) b)), some (.int (x)), some (.int (v)), some (.int (nI (i)))] 4 [] := by
  intro n
  induction n with
  | zero =>
    intro i v hi kk
    obtain rfl : i = nk := by omega
    refine z_iload3 C dX2_crewOf_4 ?_
    refine z_aload0 C dX2_crewOf_5 ?_
    refine z_get C dX2_crewOf_6 fl_X2_crewOf_40 (k_Rock _ hb) rfl ?_
    refine z_top C hK ?_
    refine z_icmp_geN C 34 dX2_crewOf_9 (by decide) (by omega) (by omega) (fun c9 => ?_) (fun c9 => ?_)
    · exact kk
    · exact absurd c9 (by omega)
  | succ n ih =>
    intro i v hi kk
    refine z_iload3 C dX2_crewOf_4 ?_
    refine z_aload0 C dX2_crewOf_5 ?_
    refine z_get C dX2_crewOf_6 fl_X2_crewOf_40 (k_Rock _ hb) rfl ?_
    refine z_top C hK ?_
    refine z_icmp_geN C 34 dX2_crewOf_9 (by decide) (by omega) (by omega) (fun c9 => ?_) (fun c9 => ?_)
    · exact absurd c9 (by omega)
    · refine z_aload0 C dX2_crewOf_12 ?_
      refine z_get C dX2_crewOf_13 fl_X2_crewOf_34 (k_Rock _ hb) rfl ?_
      refine z_iload3 C dX2_crewOf_16 ?_
      refine z_iald C dX2_crewOf_17 (k_sent _ hb) (by omega) ?_
      refine z_iload1 C dX2_crewOf_18 ?_
      refine z_icmp_ne C 28 dX2_crewOf_19 (by decide) (fun c19 => ?_) (fun c19 => ?_)
      · refine z_iinc3 C dX2_crewOf_28 (inc1 _) nl_i ?_
        refine z_goto C 4 dX2_crewOf_31 (by decide) ?_
        exact ih (i + 1) _ (by omega) (by simp only [foldN] at kk; first | (rw [if_pos c19] at kk; exact kk) | (rw [if_neg c19] at kk; exact kk))
      · refine z_iload2 C dX2_crewOf_22 ?_
        refine z_iconstN 1 C dX2_crewOf_23 ?_
        refine z_iload3 C dX2_crewOf_24 ?_
        refine z_ishl C dX2_crewOf_25 ?_
        refine z_ior C dX2_crewOf_26 ?_
        refine z_istore2 C dX2_crewOf_27 nl_i ?_
        refine z_iinc3 C dX2_crewOf_28 (inc1 _) nl_i ?_
        refine z_goto C 4 dX2_crewOf_31 (by decide) ?_
        exact ih (i + 1) _ (by omega) (by simp only [foldN] at kk; first | (rw [if_pos c19] at kk; exact kk) | (rw [if_neg c19] at kk; exact kk))

set_option maxHeartbeats 4000000 in
set_option maxRecDepth 100000 in
theorem c_X2_crewOf {l : Launch} {Y : LY} {S : GS} {b nk : Nat} (hb : isR b) (hn : nk ≤ 5) (hK : S.1 b 1 = nI nk) {x : Int32} : CtI l yX2_crewOf wsX2_crewOf 2 Y [.ref (ad Y b), .int x] S (foldN (fun i v => if S.1 (b + 7) i = x then v ||| nI 1 <<< (nI i &&& 31) else v) nk 0 (nI 0)) (S) := by
  refine mkI (cc := cX2_crewOf) (maxL := 4) rfl rfl (Nat.le_of_ble_eq_true rfl) ?_
  intro X hl hY C hr
  subst hl
  subst hY
  show Zj X S [some (.ref (ad (xY X) b)), some (.int x), none, none] 0 []
  refine z_iconstN 0 C dX2_crewOf_0 ?_
  refine z_istore2 C dX2_crewOf_1 nl_i ?_
  refine z_iconstN 0 C dX2_crewOf_2 ?_
  refine z_istore3 C dX2_crewOf_3 nl_i ?_
  refine lp_X2_crewOf hb hn hK C nk 0 (nI 0) (by omega) ?_
  refine z_iload2 C dX2_crewOf_34 ?_
  exact z_iret C dX2_crewOf_35 hr rfl rfl rfl

set_option maxRecDepth 20000 in
theorem fl_X2_sentSet_40 : FL RX2 wsX2_sentSet 40 2 1 := ⟨RX2, TX2, 12, rfl, (fun w h => List.mem_cons_of_mem _ (List.mem_append_right _ h)), by decide, by decide +kernel⟩
set_option maxRecDepth 20000 in
theorem fl_X2_sentSet_34 : FL RX2 wsX2_sentSet 34 2 11 := ⟨RX2, TX2, 12, rfl, (fun w h => List.mem_cons_of_mem _ (List.mem_append_right _ h)), by decide, by decide +kernel⟩
set_option maxHeartbeats 4000000 in
set_option maxRecDepth 100000 in
theorem lp_X2_sentSet {X : CX} {b nk : Nat} (hb : isR b) (hn : nk ≤ 5) {S : GS} (hK : S.1 b 1 = nI nk) (C : Cx X cX2_sentSet RX2 wsX2_sentSet 2) : ∀ (n : Nat) (i : Nat) (v : Int32), i + n = nk → Zj X S [some (.ref (ad (xY X) b)), some (.int (foldN (fun i v => if S.1 (b + 7) i < 0 then v else v ||| nI 1 <<< (nI i &&& 31)) n i v)), some (.int (nI (nk)))] 33 [] → Zj X S [some (.ref (ad (xY X) b)), some (.int (v)), some (.int (nI (i)))] 4 [] := by
  intro n
  induction n with
  | zero =>
    intro i v hi kk
    obtain rfl : i = nk := by omega
    refine z_iload2 C dX2_sentSet_4 ?_
    refine z_aload0 C dX2_sentSet_5 ?_
    refine z_get C dX2_sentSet_6 fl_X2_sentSet_40 (k_Rock _ hb) rfl ?_
    refine z_top C hK ?_
    refine z_icmp_geN C 33 dX2_sentSet_9 (by decide) (by omega) (by omega) (fun c9 => ?_) (fun c9 => ?_)
    · exact kk
    · exact absurd c9 (by omega)
  | succ n ih =>
    intro i v hi kk
    refine z_iload2 C dX2_sentSet_4 ?_
    refine z_aload0 C dX2_sentSet_5 ?_
    refine z_get C dX2_sentSet_6 fl_X2_sentSet_40 (k_Rock _ hb) rfl ?_
    refine z_top C hK ?_
    refine z_icmp_geN C 33 dX2_sentSet_9 (by decide) (by omega) (by omega) (fun c9 => ?_) (fun c9 => ?_)
    · exact absurd c9 (by omega)
    · refine z_aload0 C dX2_sentSet_12 ?_
      refine z_get C dX2_sentSet_13 fl_X2_sentSet_34 (k_Rock _ hb) rfl ?_
      refine z_iload2 C dX2_sentSet_16 ?_
      refine z_iald C dX2_sentSet_17 (k_sent _ hb) (by omega) ?_
      refine z_if_lt C 27 dX2_sentSet_18 (by decide) (fun c18 => ?_) (fun c18 => ?_)
      · refine z_iinc2 C dX2_sentSet_27 (inc1 _) nl_i ?_
        refine z_goto C 4 dX2_sentSet_30 (by decide) ?_
        exact ih (i + 1) _ (by omega) (by simp only [foldN] at kk; first | (rw [if_pos c18] at kk; exact kk) | (rw [if_neg c18] at kk; exact kk))
      · refine z_iload1 C dX2_sentSet_21 ?_
        refine z_iconstN 1 C dX2_sentSet_22 ?_
        refine z_iload2 C dX2_sentSet_23 ?_
        refine z_ishl C dX2_sentSet_24 ?_
        refine z_ior C dX2_sentSet_25 ?_
        refine z_istore1 C dX2_sentSet_26 nl_r ?_
        refine z_iinc2 C dX2_sentSet_27 (inc1 _) nl_i ?_
        refine z_goto C 4 dX2_sentSet_30 (by decide) ?_
        exact ih (i + 1) _ (by omega) (by simp only [foldN] at kk; first | (rw [if_pos c18] at kk; exact kk) | (rw [if_neg c18] at kk; exact kk))

set_option maxHeartbeats 4000000 in
set_option maxRecDepth 100000 in
theorem c_X2_sentSet {l : Launch} {Y : LY} {S : GS} {b nk : Nat} (hb : isR b) (hn : nk ≤ 5) (hK : S.1 b 1 = nI nk) : CtI l yX2_sentSet wsX2_sentSet 2 Y [.ref (ad Y b)] S (foldN (fun i v => if S.1 (b + 7) i < 0 then v else v ||| nI 1 <<< (nI i &&& 31)) nk 0 (nI 0)) (S) := by
  refine mkI (cc := cX2_sentSet) (maxL := 3) rfl rfl (Nat.le_of_ble_eq_true rfl) ?_
  intro X hl hY C hr
  subst hl
  subst hY
  show Zj X S [some (.ref (ad (xY X) b)), none, none] 0 []
  refine z_iconstN 0 C dX2_sentSet_0 ?_
  refine z_istore1 C dX2_sentSet_1 nl_r ?_
  refine z_iconstN 0 C dX2_sentSet_2 ?_
  refine z_istore2 C dX2_sentSet_3 nl_i ?_
  refine lp_X2_sentSet hb hn hK C nk 0 (nI 0) (by omega) ?_
  refine z_iload1 C dX2_sentSet_33 ?_
  exact z_iret C dX2_sentSet_34 hr rfl rfl rfl

set_option maxRecDepth 20000 in
theorem fl_X2_openMarks_37 : FL RX2 wsX2_openMarks 37 2 0 := ⟨RX2, TX2, 12, rfl, (fun w h => List.mem_cons_of_mem _ (List.mem_append_right _ h)), by decide, by decide +kernel⟩
set_option maxHeartbeats 4000000 in
set_option maxRecDepth 100000 in
theorem lp_X2_openMarks {X : CX} {b nm : Nat} (hb : isR b) (hn : nm ≤ 6) {S : GS} (hM : S.1 b 0 = nI nm) (C : Cx X cX2_openMarks RX2 wsX2_openMarks 3) : ∀ (n : Nat) (i v : Nat), i + n = nm → Zj X S [some (.ref (ad (xY X) b)), some (.int (nI (foldN (fun i v => if rO S b i then v + 1 else v) n i v))), some (.int (nI (nm)))] 29 [] → Zj X S [some (.ref (ad (xY X) b)), some (.int (nI (v))), some (.int (nI (i)))] 4 [] := by
  intro n
  induction n with
  | zero =>
    intro i v hi kk
    obtain rfl : i = nm := by omega
    refine z_iload2 C dX2_openMarks_4 ?_
    refine z_aload0 C dX2_openMarks_5 ?_
    refine z_get C dX2_openMarks_6 fl_X2_openMarks_37 (k_Rock _ hb) rfl ?_
    refine z_top C hM ?_
    refine z_icmp_geN C 29 dX2_openMarks_9 (by decide) (by omega) (by omega) (fun c9 => ?_) (fun c9 => ?_)
    · exact kk
    · exact absurd c9 (by omega)
  | succ n ih =>
    intro i v hi kk
    refine z_iload2 C dX2_openMarks_4 ?_
    refine z_aload0 C dX2_openMarks_5 ?_
    refine z_get C dX2_openMarks_6 fl_X2_openMarks_37 (k_Rock _ hb) rfl ?_
    refine z_top C hM ?_
    refine z_icmp_geN C 29 dX2_openMarks_9 (by decide) (by omega) (by omega) (fun c9 => ?_) (fun c9 => ?_)
    · exact absurd c9 (by omega)
    · refine z_aload0 C dX2_openMarks_12 ?_
      refine z_iload2 C dX2_openMarks_13 ?_
      refine z_callVI C dX2_openMarks_14 (c_X2_isOpen hb (by omega)) gX2_openMarks_X2_isOpen md_X2_isOpen rfl (by decide) (k_Rock _ hb) rfl rfl rfl (Nat.le_of_ble_eq_true rfl) ?_
      refine z_if_eqB C 23 dX2_openMarks_17 (by decide) (fun c17 => ?_) (fun c17 => ?_)
      · refine z_iinc2 C dX2_openMarks_23 (inc1 _) nl_i ?_
        refine z_goto C 4 dX2_openMarks_26 (by decide) ?_
        exact ih (i + 1) _ (by omega) (by simp only [foldN] at kk; first | (rw [if_pos c17] at kk; exact kk) | (rw [if_neg c17] at kk; exact kk))
      · refine z_iinc1 C dX2_openMarks_20 (inc1 _) nl_r ?_
        refine z_iinc2 C dX2_openMarks_23 (inc1 _) nl_i ?_
        refine z_goto C 4 dX2_openMarks_26 (by decide) ?_
        exact ih (i + 1) _ (by omega) (by simp only [foldN] at kk; first | (rw [if_pos c17] at kk; exact kk) | (rw [if_neg c17] at kk; exact kk))

set_option maxHeartbeats 4000000 in
set_option maxRecDepth 100000 in
theorem c_X2_openMarks {l : Launch} {Y : LY} {S : GS} {b nm : Nat} (hb : isR b) (hn : nm ≤ 6) (hM : S.1 b 0 = nI nm) : CtI l yX2_openMarks wsX2_openMarks 3 Y [.ref (ad Y b)] S (nI (foldN (fun i v => if rO S b i then v + 1 else v) nm 0 0)) (S) := by
  refine mkI (cc := cX2_openMarks) (maxL := 3) rfl rfl (Nat.le_of_ble_eq_true rfl) ?_
  intro X hl hY C hr
  subst hl
  subst hY
  show Zj X S [some (.ref (ad (xY X) b)), none, none] 0 []
  refine z_iconstN 0 C dX2_openMarks_0 ?_
  refine z_istore1 C dX2_openMarks_1 nl_r ?_
  refine z_iconstN 0 C dX2_openMarks_2 ?_
  refine z_istore2 C dX2_openMarks_3 nl_i ?_
  refine lp_X2_openMarks hb hn hM C nm 0 0 (by omega) ?_
  refine z_iload1 C dX2_openMarks_29 ?_
  exact z_iret C dX2_openMarks_30 hr rfl rfl rfl
