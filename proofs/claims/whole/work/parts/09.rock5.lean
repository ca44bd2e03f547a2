set_option maxRecDepth 20000 in
theorem fl_X2_darkTogether_37 : FL RX2 wsX2_darkTogether 37 2 0 := ⟨RX2, TX2, 12, rfl, (fun w h => List.mem_cons_of_mem _ (List.mem_append_right _ h)), by decide, by decide +kernel⟩
set_option maxRecDepth 20000 in
theorem fl_X2_darkTogether_15 : FL RX2 wsX2_darkTogether 15 2 5 := ⟨RX2, TX2, 12, rfl, (fun w h => List.mem_cons_of_mem _ (List.mem_append_right _ h)), by decide, by decide +kernel⟩
set_option maxHeartbeats 4000000 in
set_option maxRecDepth 100000 in
theorem lp_X2_darkTogether {X : CX} {b nm : Nat} (hb : isR b) (hn : nm ≤ 6) {S : GS} (hM : S.1 b 0 = nI nm) (C : Cx X cX2_darkTogether RX2 wsX2_darkTogether 2) : ∀ (n : Nat) (i : Nat) (v : Int32), i + n = nm → Zj X S [some (.ref (ad (xY X) b)), some (.int (foldN (fun i v => v + S.1 (b + 1) i) n i v)), some (.int (nI (nm)))] 27 [] → Zj X S [some (.ref (ad (xY X) b)), some (.int (v)), some (.int (nI (i)))] 4 [] := by
  intro n
  induction n with
  | zero =>
    intro i v hi kk
    obtain rfl : i = nm := by omega
    refine z_iload2 C dX2_darkTogether_4 ?_
    refine z_aload0 C dX2_darkTogether_5 ?_
    refine z_get C dX2_darkTogether_6 fl_X2_darkTogether_37 (k_Rock _ hb) rfl ?_
    refine z_top C hM ?_
    refine z_icmp_geN C 27 dX2_darkTogether_9 (by decide) (by omega) (by omega) (fun c9 => ?_) (fun c9 => ?_)
    · exact kk
    · exact absurd c9 (by omega)
  | succ n ih =>
    intro i v hi kk
    refine z_iload2 C dX2_darkTogether_4 ?_
    refine z_aload0 C dX2_darkTogether_5 ?_
    refine z_get C dX2_darkTogether_6 fl_X2_darkTogether_37 (k_Rock _ hb) rfl ?_
    refine z_top C hM ?_
    refine z_icmp_geN C 27 dX2_darkTogether_9 (by decide) (by omega) (by omega) (fun c9 => ?_) (fun c9 => ?_)
    · exact absurd c9 (by omega)
    · refine z_iload1 C dX2_darkTogether_12 ?_
      refine z_aload0 C dX2_darkTogether_13 ?_
      refine z_get C dX2_darkTogether_14 fl_X2_darkTogether_15 (k_Rock _ hb) rfl ?_
      refine z_iload2 C dX2_darkTogether_17 ?_
      refine z_iald C dX2_darkTogether_18 (k_dark _ hb) (by omega) ?_
      refine z_iadd C dX2_darkTogether_19 ?_
      refine z_istore1 C dX2_darkTogether_20 nl_r ?_
      refine z_iinc2 C dX2_darkTogether_21 (inc1 _) nl_i ?_
      refine z_goto C 4 dX2_darkTogether_24 (by decide) ?_
      exact ih (i + 1) _ (by omega) (by simp only [foldN] at kk; exact kk)

set_option maxHeartbeats 4000000 in
set_option maxRecDepth 100000 in
theorem c_X2_darkTogether {l : Launch} {Y : LY} {S : GS} {b nm : Nat} (hb : isR b) (hn : nm ≤ 6) (hM : S.1 b 0 = nI nm) : CtI l yX2_darkTogether wsX2_darkTogether 2 Y [.ref (ad Y b)] S (foldN (fun i v => v + S.1 (b + 1) i) nm 0 (nI 0)) (S) := by
  refine mkI (cc := cX2_darkTogether) (maxL := 3) rfl rfl (Nat.le_of_ble_eq_true rfl) ?_
  intro X hl hY C hr
  subst hl
  subst hY
  show Zj X S [some (.ref (ad (xY X) b)), none, none] 0 []
  refine z_iconstN 0 C dX2_darkTogether_0 ?_
  refine z_istore1 C dX2_darkTogether_1 nl_r ?_
  refine z_iconstN 0 C dX2_darkTogether_2 ?_
  refine z_istore2 C dX2_darkTogether_3 nl_i ?_
  refine lp_X2_darkTogether hb hn hM C nm 0 (nI 0) (by omega) ?_
  refine z_iload1 C dX2_darkTogether_27 ?_
  exact z_iret C dX2_darkTogether_28 hr rfl rfl rfl

set_option maxRecDepth 20000 in
theorem fl_X2_sizeTogether_40 : FL RX2 wsX2_sizeTogether 40 2 1 := ⟨RX2, TX2, 12, rfl, (fun w h => List.mem_cons_of_mem _ (List.mem_append_right _ h)), by decide, by decide +kernel⟩
set_option maxRecDepth 20000 in
theorem fl_X2_sizeTogether_31 : FL RX2 wsX2_sizeTogether 31 2 10 := ⟨RX2, TX2, 12, rfl, (fun w h => List.mem_cons_of_mem _ (List.mem_append_right _ h)), by decide, by decide +kernel⟩
set_option maxHeartbeats 4000000 in
set_option maxRecDepth 100000 in
theorem lp_X2_sizeTogether {X : CX} {b nk : Nat} (hb : isR b) (hn : nk ≤ 5) {S : GS} (hK : S.1 b 1 = nI nk) (C : Cx X cX2_sizeTogether RX2 wsX2_sizeTogether 2) : ∀ (n : Nat) (i : Nat) (v : Int32), i + n = nk → Zj X S [some (.ref (ad (xY X) b)), some (.int (foldN (fun i v => v + S.1 (b + 6) i) n i v)), some (.int (nI (nk)))] 27 [] → Zj X S [some (.ref (ad (xY X) b)), some (.int (v)), some (.int (nI (i)))] 4 [] := by
  intro n
  induction n with
  | zero =>
    intro i v hi kk
    obtain rfl : i = nk := by omega
    refine z_iload2 C dX2_sizeTogether_4 ?_
    refine z_aload0 C dX2_sizeTogether_5 ?_
    refine z_get C dX2_sizeTogether_6 fl_X2_sizeTogether_40 (k_Rock _ hb) rfl ?_
    refine z_top C hK ?_
    refine z_icmp_geN C 27 dX2_sizeTogether_9 (by decide) (by omega) (by omega) (fun c9 => ?_) (fun c9 => ?_)
    · exact kk
    · exact absurd c9 (by omega)
  | succ n ih =>
    intro i v hi kk
    refine z_iload2 C dX2_sizeTogether_4 ?_
    refine z_aload0 C dX2_sizeTogether_5 ?_
    refine z_get C dX2_sizeTogether_6 fl_X2_sizeTogether_40 (k_Rock _ hb) rfl ?_
    refine z_top C hK ?_
    refine z_icmp_geN C 27 dX2_sizeTogether_9 (by decide) (by omega) (by omega) (fun c9 => ?_) (fun c9 => ?_)
    · exact absurd c9 (by omega)
    · refine z_iload1 C dX2_sizeTogether_12 ?_
      refine z_aload0 C dX2_sizeTogether_13 ?_
      refine z_get C dX2_sizeTogether_14 fl_X2_sizeTogether_31 (k_Rock _ hb) rfl ?_
      refine z_iload2 C dX2_sizeTogether_17 ?_
      refine z_iald C dX2_sizeTogether_18 (k_size _ hb) (by omega) ?_
      refine z_iadd C dX2_sizeTogether_19 ?_
      refine z_istore1 C dX2_sizeTogether_20 nl_r ?_
      refine z_iinc2 C dX2_sizeTogether_21 (inc1 _) nl_i ?_
      refine z_goto C 4 dX2_sizeTogether_24 (by decide) ?_
      exact ih (i + 1) _ (by omega) (by simp only [foldN] at kk; exact kk)

set_option maxHeartbeats 4000000 in
set_option maxRecDepth 100000 in
theorem c_X2_sizeTogether {l : Launch} {Y : LY} {S : GS} {b nk : Nat} (hb : isR b) (hn : nk ≤ 5) (hK : S.1 b 1 = nI nk) : CtI l yX2_sizeTogether wsX2_sizeTogether 2 Y [.ref (ad Y b)] S (foldN (fun i v => v + S.1 (b + 6) i) nk 0 (nI 0)) (S) := by
  refine mkI (cc := cX2_sizeTogether) (maxL := 3) rfl rfl (Nat.le_of_ble_eq_true rfl) ?_
  intro X hl hY C hr
  subst hl
  subst hY
  show Zj X S [some (.ref (ad (xY X) b)), none, none] 0 []
  refine z_iconstN 0 C dX2_sizeTogether_0 ?_
  refine z_istore1 C dX2_sizeTogether_1 nl_r ?_
  refine z_iconstN 0 C dX2_sizeTogether_2 ?_
  refine z_istore2 C dX2_sizeTogether_3 nl_i ?_
  refine lp_X2_sizeTogether hb hn hK C nk 0 (nI 0) (by omega) ?_
  refine z_iload1 C dX2_sizeTogether_27 ?_
  exact z_iret C dX2_sizeTogether_28 hr rfl rfl rfl

def cAM (S : GS) (b nm : Nat) (x y z : Int32) : GS := stI (stI (stI (stI (stI S (b + 1) nm x) (b + 2) nm y) (b + 3) nm z) (b + 4) nm (nI 0)) b 0 (nI (nm + 1))
def cAK (S : GS) (b nk : Nat) (x y z : Int32) : GS := stI (stI (stI (stI S (b + 5) nk x) (b + 6) nk y) (b + 7) nk z) b 1 (nI (nk + 1))

set_option maxRecDepth 20000 in
theorem fl_X2_addMark_37 : FL RX2 wsX2_addMark 37 2 0 := ⟨RX2, TX2, 12, rfl, (fun w h => List.mem_cons_of_mem _ (List.mem_append_right _ h)), by decide, by decide +kernel⟩
set_option maxRecDepth 20000 in
theorem fl_X2_addMark_15 : FL RX2 wsX2_addMark 15 2 5 := ⟨RX2, TX2, 12, rfl, (fun w h => List.mem_cons_of_mem _ (List.mem_append_right _ h)), by decide, by decide +kernel⟩
set_option maxRecDepth 20000 in
theorem fl_X2_addMark_19 : FL RX2 wsX2_addMark 19 2 6 := ⟨RX2, TX2, 12, rfl, (fun w h => List.mem_cons_of_mem _ (List.mem_append_right _ h)), by decide, by decide +kernel⟩
set_option maxRecDepth 20000 in
theorem fl_X2_addMark_22 : FL RX2 wsX2_addMark 22 2 7 := ⟨RX2, TX2, 12, rfl, (fun w h => List.mem_cons_of_mem _ (List.mem_append_right _ h)), by decide, by decide +kernel⟩
set_option maxRecDepth 20000 in
theorem fl_X2_addMark_25 : FL RX2 wsX2_addMark 25 2 8 := ⟨RX2, TX2, 12, rfl, (fun w h => List.mem_cons_of_mem _ (List.mem_append_right _ h)), by decide, by decide +kernel⟩
theorem fp_X2_addMark_37 : FP RX2 wsX2_addMark 37 2 0 .int := ⟨fl_X2_addMark_37, RX2, TX2, 12, tyX2, rfl, tyX2_ok, nmX2, rfl, by decide +kernel⟩
set_option maxHeartbeats 4000000 in
set_option maxRecDepth 100000 in
theorem c_X2_addMark {l : Launch} {Y : LY} {S : GS} {b nm : Nat} {x y z : Int32} (hb : isR b) (hn : nm < 6) (hM : S.1 b 0 = nI nm) : CtI l yX2_addMark wsX2_addMark 2 Y [.ref (ad Y b), .int x, .int y, .int z] S (nI nm) (cAM S b nm x y z) := by
  refine mkI (cc := cX2_addMark) (maxL := 5) rfl rfl (Nat.le_of_ble_eq_true rfl) ?_
  intro X hl hY C hr
  subst hl
  subst hY
  show Zj X S [some (.ref (ad (xY X) b)), some (.int x), some (.int y), some (.int z), none] 0 []
  refine z_aload0 C dX2_addMark_0 ?_
  refine z_get C dX2_addMark_1 fl_X2_addMark_37 (k_Rock _ hb) rfl ?_
  refine z_top C hM ?_
  refine z_istore4 C dX2_addMark_4 nl_i ?_
  refine z_aload0 C dX2_addMark_6 ?_
  refine z_get C dX2_addMark_7 fl_X2_addMark_15 (k_Rock _ hb) rfl ?_
  refine z_iload4 C dX2_addMark_10 ?_
  refine z_iload1 C dX2_addMark_12 ?_
  refine z_iast C dX2_addMark_13 (k_dark _ hb) (by omega) ?_
  refine z_aload0 C dX2_addMark_14 ?_
  refine z_get C dX2_addMark_15 fl_X2_addMark_19 (k_Rock _ hb) rfl ?_
  refine z_iload4 C dX2_addMark_18 ?_
  refine z_iload2 C dX2_addMark_20 ?_
  refine z_iast C dX2_addMark_21 (k_hard _ hb) (by omega) ?_
  refine z_aload0 C dX2_addMark_22 ?_
  refine z_get C dX2_addMark_23 fl_X2_addMark_22 (k_Rock _ hb) rfl ?_
  refine z_iload4 C dX2_addMark_26 ?_
  refine z_iload3 C dX2_addMark_28 ?_
  refine z_iast C dX2_addMark_29 (k_under _ hb) (by omega) ?_
  refine z_aload0 C dX2_addMark_30 ?_
  refine z_get C dX2_addMark_31 fl_X2_addMark_25 (k_Rock _ hb) rfl ?_
  refine z_iload4 C dX2_addMark_34 ?_
  refine z_iconstN 0 C dX2_addMark_36 ?_
  refine z_iast C dX2_addMark_37 (k_wool _ hb) (by omega) ?_
  refine z_aload0 C dX2_addMark_38 ?_
  refine z_iload4 C dX2_addMark_39 ?_
  refine z_iconstN 1 C dX2_addMark_41 ?_
  refine z_iaddN C dX2_addMark_42 ?_
  refine z_put C dX2_addMark_43 fp_X2_addMark_37 (k_Rock _ hb) rfl rfl (Nat.le_of_ble_eq_true rfl) rfl ?_
  refine z_iload4 C dX2_addMark_46 ?_
  exact z_iret C dX2_addMark_48 hr rfl rfl rfl

set_option maxRecDepth 20000 in
theorem fl_X2_addMonk_40 : FL RX2 wsX2_addMonk 40 2 1 := ⟨RX2, TX2, 12, rfl, (fun w h => List.mem_cons_of_mem _ (List.mem_append_right _ h)), by decide, by decide +kernel⟩
set_option maxRecDepth 20000 in
theorem fl_X2_addMonk_28 : FL RX2 wsX2_addMonk 28 2 9 := ⟨RX2, TX2, 12, rfl, (fun w h => List.mem_cons_of_mem _ (List.mem_append_right _ h)), by decide, by decide +kernel⟩
set_option maxRecDepth 20000 in
theorem fl_X2_addMonk_31 : FL RX2 wsX2_addMonk 31 2 10 := ⟨RX2, TX2, 12, rfl, (fun w h => List.mem_cons_of_mem _ (List.mem_append_right _ h)), by decide, by decide +kernel⟩
set_option maxRecDepth 20000 in
theorem fl_X2_addMonk_34 : FL RX2 wsX2_addMonk 34 2 11 := ⟨RX2, TX2, 12, rfl, (fun w h => List.mem_cons_of_mem _ (List.mem_append_right _ h)), by decide, by decide +kernel⟩
theorem fp_X2_addMonk_40 : FP RX2 wsX2_addMonk 40 2 1 .int := ⟨fl_X2_addMonk_40, RX2, TX2, 12, tyX2, rfl, tyX2_ok, nmX2, rfl, by decide +kernel⟩
set_option maxHeartbeats 4000000 in
set_option maxRecDepth 100000 in
theorem c_X2_addMonk {l : Launch} {Y : LY} {S : GS} {b nk : Nat} {x y z : Int32} (hb : isR b) (hn : nk < 5) (hK : S.1 b 1 = nI nk) : CtI l yX2_addMonk wsX2_addMonk 2 Y [.ref (ad Y b), .int x, .int y, .int z] S (nI nk) (cAK S b nk x y z) := by
  refine mkI (cc := cX2_addMonk) (maxL := 5) rfl rfl (Nat.le_of_ble_eq_true rfl) ?_
  intro X hl hY C hr
  subst hl
  subst hY
  show Zj X S [some (.ref (ad (xY X) b)), some (.int x), some (.int y), some (.int z), none] 0 []
  refine z_aload0 C dX2_addMonk_0 ?_
  refine z_get C dX2_addMonk_1 fl_X2_addMonk_40 (k_Rock _ hb) rfl ?_
  refine z_top C hK ?_
  refine z_istore4 C dX2_addMonk_4 nl_i ?_
  refine z_aload0 C dX2_addMonk_6 ?_
  refine z_get C dX2_addMonk_7 fl_X2_addMonk_28 (k_Rock _ hb) rfl ?_
  refine z_iload4 C dX2_addMonk_10 ?_
  refine z_iload1 C dX2_addMonk_12 ?_
  refine z_iast C dX2_addMonk_13 (k_kind _ hb) (by omega) ?_
  refine z_aload0 C dX2_addMonk_14 ?_
  refine z_get C dX2_addMonk_15 fl_X2_addMonk_31 (k_Rock _ hb) rfl ?_
  refine z_iload4 C dX2_addMonk_18 ?_
  refine z_iload2 C dX2_addMonk_20 ?_
  refine z_iast C dX2_addMonk_21 (k_size _ hb) (by omega) ?_
  refine z_aload0 C dX2_addMonk_22 ?_
  refine z_get C dX2_addMonk_23 fl_X2_addMonk_34 (k_Rock _ hb) rfl ?_
  refine z_iload4 C dX2_addMonk_26 ?_
  refine z_iload3 C dX2_addMonk_28 ?_
  refine z_iast C dX2_addMonk_29 (k_sent _ hb) (by omega) ?_
  refine z_aload0 C dX2_addMonk_30 ?_
  refine z_iload4 C dX2_addMonk_31 ?_
  refine z_iconstN 1 C dX2_addMonk_33 ?_
  refine z_iaddN C dX2_addMonk_34 ?_
  refine z_put C dX2_addMonk_35 fp_X2_addMonk_40 (k_Rock _ hb) rfl rfl (Nat.le_of_ble_eq_true rfl) rfl ?_
  refine z_iload4 C dX2_addMonk_38 ?_
  exact z_iret C dX2_addMonk_40 hr rfl rfl rfl

def cCl (S : GS) (b : Nat) : GS := stI (stI (stI (stI S b 0 (nI 0)) b 1 (nI 0)) b 2 (nI 0)) b 3 (nI 0)

set_option maxRecDepth 20000 in
theorem fl_X2_clear_37 : FL RX2 wsX2_clear 37 2 0 := ⟨RX2, TX2, 12, rfl, (fun w h => List.mem_cons_of_mem _ (List.mem_append_right _ h)), by decide, by decide +kernel⟩
theorem fp_X2_clear_37 : FP RX2 wsX2_clear 37 2 0 .int := ⟨fl_X2_clear_37, RX2, TX2, 12, tyX2, rfl, tyX2_ok, nmX2, rfl, by decide +kernel⟩
set_option maxRecDepth 20000 in
theorem fl_X2_clear_40 : FL RX2 wsX2_clear 40 2 1 := ⟨RX2, TX2, 12, rfl, (fun w h => List.mem_cons_of_mem _ (List.mem_append_right _ h)), by decide, by decide +kernel⟩
theorem fp_X2_clear_40 : FP RX2 wsX2_clear 40 2 1 .int := ⟨fl_X2_clear_40, RX2, TX2, 12, tyX2, rfl, tyX2_ok, nmX2, rfl, by decide +kernel⟩
set_option maxRecDepth 20000 in
theorem fl_X2_clear_43 : FL RX2 wsX2_clear 43 2 2 := ⟨RX2, TX2, 12, rfl, (fun w h => List.mem_cons_of_mem _ (List.mem_append_right _ h)), by decide, by decide +kernel⟩
theorem fp_X2_clear_43 : FP RX2 wsX2_clear 43 2 2 .int := ⟨fl_X2_clear_43, RX2, TX2, 12, tyX2, rfl, tyX2_ok, nmX2, rfl, by decide +kernel⟩
set_option maxRecDepth 20000 in
theorem fl_X2_clear_46 : FL RX2 wsX2_clear 46 2 3 := ⟨RX2, TX2, 12, rfl, (fun w h => List.mem_cons_of_mem _ (List.mem_append_right _ h)), by decide, by decide +kernel⟩
theorem fp_X2_clear_46 : FP RX2 wsX2_clear 46 2 3 .int := ⟨fl_X2_clear_46, RX2, TX2, 12, tyX2, rfl, tyX2_ok, nmX2, rfl, by decide +kernel⟩
set_option maxHeartbeats 4000000 in
set_option maxRecDepth 100000 in
theorem c_X2_clear {l : Launch} {Y : LY} {S : GS} {b : Nat} (hb : isR b) : CtV l yX2_clear wsX2_clear 1 Y [.ref (ad Y b)] S (cCl S b) := by
  refine mkV (cc := cX2_clear) (maxL := 1) rfl rfl (Nat.le_of_ble_eq_true rfl) ?_
  intro X hl hY C hr
  subst hl
  subst hY
  show Zj X S [some (.ref (ad (xY X) b))] 0 []
  refine z_aload0 C dX2_clear_0 ?_
  refine z_iconstN 0 C dX2_clear_1 ?_
  refine z_put C dX2_clear_2 fp_X2_clear_37 (k_Rock _ hb) rfl rfl (Nat.le_of_ble_eq_true rfl) rfl ?_
  refine z_aload0 C dX2_clear_5 ?_
  refine z_iconstN 0 C dX2_clear_6 ?_
  refine z_put C dX2_clear_7 fp_X2_clear_40 (k_Rock _ hb) rfl rfl (Nat.le_of_ble_eq_true rfl) rfl ?_
  refine z_aload0 C dX2_clear_10 ?_
  refine z_iconstN 0 C dX2_clear_11 ?_
  refine z_put C dX2_clear_12 fp_X2_clear_43 (k_Rock _ hb) rfl rfl (Nat.le_of_ble_eq_true rfl) rfl ?_
  refine z_aload0 C dX2_clear_15 ?_
  refine z_iconstN 0 C dX2_clear_16 ?_
  refine z_put C dX2_clear_17 fp_X2_clear_46 (k_Rock _ hb) rfl rfl (Nat.le_of_ble_eq_true rfl) rfl ?_
  exact z_vret C dX2_clear_20 hr rfl

def cM1 (S : GS) (b o m : Nat) (f : Nat) : GS := stI S (b + f) m (S.1 (o + f) m)
def cMI (S : GS) (b o m : Nat) : GS := cM1 (cM1 (cM1 (cM1 S b o m 1) b o m 2) b o m 3) b o m 4
def cH1 (S : GS) (b o : Nat) (i : Nat) : GS := stI S b i (S.1 o i)
def cA1 (S : GS) (b o : Nat) (f n : Nat) : GS := stA S (b + f) (va_cpy (S.1 (o + f)) (S.1 (b + f)) 0 0 n)
def cBec (S : GS) (b o : Nat) : GS := cA1 (cA1 (cA1 (cA1 (cA1 (cA1 (cA1 (cH1 (cH1 (cH1 (cH1 (cH1 S b o 0) b o 1) b o 2) b o 3) b o 4) b o 1 6) b o 2 6) b o 3 6) b o 4 6) b o 5 5) b o 6 5) b o 7 5

set_option maxRecDepth 20000 in
theorem fl_X2_markAsIn_15 : FL RX2 wsX2_markAsIn 15 2 5 := ⟨RX2, TX2, 12, rfl, (fun w h => List.mem_cons_of_mem _ (List.mem_append_right _ h)), by decide, by decide +kernel⟩
set_option maxRecDepth 20000 in
theorem fl_X2_markAsIn_19 : FL RX2 wsX2_markAsIn 19 2 6 := ⟨RX2, TX2, 12, rfl, (fun w h => List.mem_cons_of_mem _ (List.mem_append_right _ h)), by decide, by decide +kernel⟩
set_option maxRecDepth 20000 in
theorem fl_X2_markAsIn_22 : FL RX2 wsX2_markAsIn 22 2 7 := ⟨RX2, TX2, 12, rfl, (fun w h => List.mem_cons_of_mem _ (List.mem_append_right _ h)), by decide, by decide +kernel⟩
set_option maxRecDepth 20000 in
theorem fl_X2_markAsIn_25 : FL RX2 wsX2_markAsIn 25 2 8 := ⟨RX2, TX2, 12, rfl, (fun w h => List.mem_cons_of_mem _ (List.mem_append_right _ h)), by decide, by decide +kernel⟩
set_option maxHeartbeats 4000000 in
set_option maxRecDepth 100000 in
theorem c_X2_markAsIn {l : Launch} {Y : LY} {S : GS} {b o m : Nat} (hb : isR b) (ho : isR o) (hm : m < 6) : CtV l yX2_markAsIn wsX2_markAsIn 1 Y [.ref (ad Y b), .ref (ad Y o), .int (nI m)] S (cMI S b o m) := by
  refine mkV (cc := cX2_markAsIn) (maxL := 3) rfl rfl (Nat.le_of_ble_eq_true rfl) ?_
  intro X hl hY C hr
  subst hl
  subst hY
  show Zj X S [some (.ref (ad (xY X) b)), some (.ref (ad (xY X) o)), some (.int (nI m))] 0 []
  refine z_aload0 C dX2_markAsIn_0 ?_
  refine z_get C dX2_markAsIn_1 fl_X2_markAsIn_15 (k_Rock _ hb) rfl ?_
  refine z_iload2 C dX2_markAsIn_4 ?_
  refine z_aload1 C dX2_markAsIn_5 ?_
  refine z_get C dX2_markAsIn_6 fl_X2_markAsIn_15 (k_Rock _ ho) rfl ?_
  refine z_iload2 C dX2_markAsIn_9 ?_
  refine z_iald C dX2_markAsIn_10 (k_dark _ ho) (by omega) ?_
  refine z_iast C dX2_markAsIn_11 (k_dark _ hb) (by omega) ?_
  refine z_aload0 C dX2_markAsIn_12 ?_
  refine z_get C dX2_markAsIn_13 fl_X2_markAsIn_19 (k_Rock _ hb) rfl ?_
  refine z_iload2 C dX2_markAsIn_16 ?_
  refine z_aload1 C dX2_markAsIn_17 ?_
  refine z_get C dX2_markAsIn_18 fl_X2_markAsIn_19 (k_Rock _ ho) rfl ?_
  refine z_iload2 C dX2_markAsIn_21 ?_
  refine z_iald C dX2_markAsIn_22 (k_hard _ ho) (by omega) ?_
  refine z_iast C dX2_markAsIn_23 (k_hard _ hb) (by omega) ?_
  refine z_aload0 C dX2_markAsIn_24 ?_
  refine z_get C dX2_markAsIn_25 fl_X2_markAsIn_22 (k_Rock _ hb) rfl ?_
  refine z_iload2 C dX2_markAsIn_28 ?_
  refine z_aload1 C dX2_markAsIn_29 ?_
  refine z_get C dX2_markAsIn_30 fl_X2_markAsIn_22 (k_Rock _ ho) rfl ?_
  refine z_iload2 C dX2_markAsIn_33 ?_
  refine z_iald C dX2_markAsIn_34 (k_under _ ho) (by omega) ?_
  refine z_iast C dX2_markAsIn_35 (k_under _ hb) (by omega) ?_
  refine z_aload0 C dX2_markAsIn_36 ?_
  refine z_get C dX2_markAsIn_37 fl_X2_markAsIn_25 (k_Rock _ hb) rfl ?_
  refine z_iload2 C dX2_markAsIn_40 ?_
  refine z_aload1 C dX2_markAsIn_41 ?_
  refine z_get C dX2_markAsIn_42 fl_X2_markAsIn_25 (k_Rock _ ho) rfl ?_
  refine z_iload2 C dX2_markAsIn_45 ?_
  refine z_iald C dX2_markAsIn_46 (k_wool _ ho) (by omega) ?_
  refine z_iast C dX2_markAsIn_47 (k_wool _ hb) (by omega) ?_
  exact z_vret C dX2_markAsIn_48 hr rfl

set_option maxRecDepth 20000 in
theorem fl_X2_become_37 : FL RX2 wsX2_become 37 2 0 := ⟨RX2, TX2, 12, rfl, (fun w h => List.mem_cons_of_mem _ (List.mem_append_right _ h)), by decide, by decide +kernel⟩
theorem fp_X2_become_37 : FP RX2 wsX2_become 37 2 0 .int := ⟨fl_X2_become_37, RX2, TX2, 12, tyX2, rfl, tyX2_ok, nmX2, rfl, by decide +kernel⟩
set_option maxRecDepth 20000 in
theorem fl_X2_become_40 : FL RX2 wsX2_become 40 2 1 := ⟨RX2, TX2, 12, rfl, (fun w h => List.mem_cons_of_mem _ (List.mem_append_right _ h)), by decide, by decide +kernel⟩
theorem fp_X2_become_40 : FP RX2 wsX2_become 40 2 1 .int := ⟨fl_X2_become_40, RX2, TX2, 12, tyX2, rfl, tyX2_ok, nmX2, rfl, by decide +kernel⟩
set_option maxRecDepth 20000 in
theorem fl_X2_become_43 : FL RX2 wsX2_become 43 2 2 := ⟨RX2, TX2, 12, rfl, (fun w h => List.mem_cons_of_mem _ (List.mem_append_right _ h)), by decide, by decide +kernel⟩
theorem fp_X2_become_43 : FP RX2 wsX2_become 43 2 2 .int := ⟨fl_X2_become_43, RX2, TX2, 12, tyX2, rfl, tyX2_ok, nmX2, rfl, by decide +kernel⟩
set_option maxRecDepth 20000 in
theorem fl_X2_become_46 : FL RX2 wsX2_become 46 2 3 := ⟨RX2, TX2, 12, rfl, (fun w h => List.mem_cons_of_mem _ (List.mem_append_right _ h)), by decide, by decide +kernel⟩
theorem fp_X2_become_46 : FP RX2 wsX2_become 46 2 3 .int := ⟨fl_X2_become_46, RX2, TX2, 12, tyX2, rfl, tyX2_ok, nmX2, rfl, by decide +kernel⟩
set_option maxRecDepth 20000 in
theorem fl_X2_become_9 : FL RX2 wsX2_become 9 2 4 := ⟨RX2, TX2, 12, rfl, (fun w h => List.mem_cons_of_mem _ (List.mem_append_right _ h)), by decide, by decide +kernel⟩
theorem fp_X2_become_9 : FP RX2 wsX2_become 9 2 4 .int := ⟨fl_X2_become_9, RX2, TX2, 12, tyX2, rfl, tyX2_ok, nmX2, rfl, by decide +kernel⟩
set_option maxRecDepth 20000 in
theorem fl_X2_become_15 : FL RX2 wsX2_become 15 2 5 := ⟨RX2, TX2, 12, rfl, (fun w h => List.mem_cons_of_mem _ (List.mem_append_right _ h)), by decide, by decide +kernel⟩
theorem ac_X2_become_49 : Cond.methodLink RX2 49 arraycopyName ∈ wsX2_become ∧ Cond.native arraycopyName ∈ wsX2_become ∧ Cond.static arraycopyName ∈ wsX2_become ∧ Cond.initialized "java/lang/System" ∈ wsX2_become := by decide +kernel
set_option maxRecDepth 20000 in
theorem fl_X2_become_19 : FL RX2 wsX2_become 19 2 6 := ⟨RX2, TX2, 12, rfl, (fun w h => List.mem_cons_of_mem _ (List.mem_append_right _ h)), by decide, by decide +kernel⟩
set_option maxRecDepth 20000 in
theorem fl_X2_become_22 : FL RX2 wsX2_become 22 2 7 := ⟨RX2, TX2, 12, rfl, (fun w h => List.mem_cons_of_mem _ (List.mem_append_right _ h)), by decide, by decide +kernel⟩
set_option maxRecDepth 20000 in
theorem fl_X2_become_25 : FL RX2 wsX2_become 25 2 8 := ⟨RX2, TX2, 12, rfl, (fun w h => List.mem_cons_of_mem _ (List.mem_append_right _ h)), by decide, by decide +kernel⟩
set_option maxRecDepth 20000 in
theorem fl_X2_become_28 : FL RX2 wsX2_become 28 2 9 := ⟨RX2, TX2, 12, rfl, (fun w h => List.mem_cons_of_mem _ (List.mem_append_right _ h)), by decide, by decide +kernel⟩
set_option maxRecDepth 20000 in
theorem fl_X2_become_31 : FL RX2 wsX2_become 31 2 10 := ⟨RX2, TX2, 12, rfl, (fun w h => List.mem_cons_of_mem _ (List.mem_append_right _ h)), by decide, by decide +kernel⟩
set_option maxRecDepth 20000 in
theorem fl_X2_become_34 : FL RX2 wsX2_become 34 2 11 := ⟨RX2, TX2, 12, rfl, (fun w h => List.mem_cons_of_mem _ (List.mem_append_right _ h)), by decide, by decide +kernel⟩
set_option maxHeartbeats 4000000 in
set_option maxRecDepth 100000 in
theorem c_X2_become {l : Launch} {Y : LY} {S : GS} {b o : Nat} (hb : isR b) (ho : isR o) : CtV l yX2_become wsX2_become 2 Y [.ref (ad Y b), .ref (ad Y o)] S (cBec S b o) := by
  refine mkV (cc := cX2_become) (maxL := 2) rfl rfl (Nat.le_of_ble_eq_true rfl) ?_
  intro X hl hY C hr
  subst hl
  subst hY
  show Zj X S [some (.ref (ad (xY X) b)), some (.ref (ad (xY X) o))] 0 []
  refine z_aload0 C dX2_become_0 ?_
  refine z_aload1 C dX2_become_1 ?_
  refine z_get C dX2_become_2 fl_X2_become_37 (k_Rock _ ho) rfl ?_
  refine z_put C dX2_become_5 fp_X2_become_37 (k_Rock _ hb) rfl rfl (Nat.le_of_ble_eq_true rfl) rfl ?_
  refine z_aload0 C dX2_become_8 ?_
  refine z_aload1 C dX2_become_9 ?_
  refine z_get C dX2_become_10 fl_X2_become_40 (k_Rock _ ho) rfl ?_
  refine z_put C dX2_become_13 fp_X2_become_40 (k_Rock _ hb) rfl rfl (Nat.le_of_ble_eq_true rfl) rfl ?_
  refine z_aload0 C dX2_become_16 ?_
  refine z_aload1 C dX2_become_17 ?_
  refine z_get C dX2_become_18 fl_X2_become_43 (k_Rock _ ho) rfl ?_
  refine z_put C dX2_become_21 fp_X2_become_43 (k_Rock _ hb) rfl rfl (Nat.le_of_ble_eq_true rfl) rfl ?_
  refine z_aload0 C dX2_become_24 ?_
  refine z_aload1 C dX2_become_25 ?_
  refine z_get C dX2_become_26 fl_X2_become_46 (k_Rock _ ho) rfl ?_
  refine z_put C dX2_become_29 fp_X2_become_46 (k_Rock _ hb) rfl rfl (Nat.le_of_ble_eq_true rfl) rfl ?_
  refine z_aload0 C dX2_become_32 ?_
  refine z_aload1 C dX2_become_33 ?_
  refine z_get C dX2_become_34 fl_X2_become_9 (k_Rock _ ho) rfl ?_
  refine z_put C dX2_become_37 fp_X2_become_9 (k_Rock _ hb) rfl rfl (Nat.le_of_ble_eq_true rfl) rfl ?_
  refine z_aload1 C dX2_become_40 ?_
  refine z_get C dX2_become_41 fl_X2_become_15 (k_Rock _ ho) rfl ?_
  refine z_iconstN 0 C dX2_become_44 ?_
  refine z_aload0 C dX2_become_45 ?_
  refine z_get C dX2_become_46 fl_X2_become_15 (k_Rock _ hb) rfl ?_
  refine z_iconstN 0 C dX2_become_49 ?_
  refine z_bipush (v := nI 6) C dX2_become_50 (by decide) ?_
  refine z_copyi C dX2_become_52 ac_X2_become_49.1 ac_X2_become_49.2.1 ac_X2_become_49.2.2.1 ac_X2_become_49.2.2.2 (by decide) (Nat.le_of_ble_eq_true rfl) (k_dark _ ho) (k_dark _ hb) (by omega) (by omega) ?_
  refine z_aload1 C dX2_become_55 ?_
  refine z_get C dX2_become_56 fl_X2_become_19 (k_Rock _ ho) rfl ?_
  refine z_iconstN 0 C dX2_become_59 ?_
  refine z_aload0 C dX2_become_60 ?_
  refine z_get C dX2_become_61 fl_X2_become_19 (k_Rock _ hb) rfl ?_
  refine z_iconstN 0 C dX2_become_64 ?_
  refine z_bipush (v := nI 6) C dX2_become_65 (by decide) ?_
  refine z_copyi C dX2_become_67 ac_X2_become_49.1 ac_X2_become_49.2.1 ac_X2_become_49.2.2.1 ac_X2_become_49.2.2.2 (by decide) (Nat.le_of_ble_eq_true rfl) (k_hard _ ho) (k_hard _ hb) (by omega) (by omega) ?_
  refine z_aload1 C dX2_become_70 ?_
  refine z_get C dX2_become_71 fl_X2_become_22 (k_Rock _ ho) rfl ?_
  refine z_iconstN 0 C dX2_become_74 ?_
  refine z_aload0 C dX2_become_75 ?_
  refine z_get C dX2_become_76 fl_X2_become_22 (k_Rock _ hb) rfl ?_
  refine z_iconstN 0 C dX2_become_79 ?_
  refine z_bipush (v := nI 6) C dX2_become_80 (by decide) ?_
  refine z_copyi C dX2_become_82 ac_X2_become_49.1 ac_X2_become_49.2.1 ac_X2_become_49.2.2.1 ac_X2_become_49.2.2.2 (by decide) (Nat.le_of_ble_eq_true rfl) (k_under _ ho) (k_under _ hb) (by omega) (by omega) ?_
  refine z_aload1 C dX2_become_85 ?_
  refine z_get C dX2_become_86 fl_X2_become_25 (k_Rock _ ho) rfl ?_
  refine z_iconstN 0 C dX2_become_89 ?_
  refine z_aload0 C dX2_become_90 ?_
  refine z_get C dX2_become_91 fl_X2_become_25 (k_Rock _ hb) rfl ?_
  refine z_iconstN 0 C dX2_become_94 ?_
  refine z_bipush (v := nI 6) C dX2_become_95 (by decide) ?_
  refine z_copyi C dX2_become_97 ac_X2_become_49.1 ac_X2_become_49.2.1 ac_X2_become_49.2.2.1 ac_X2_become_49.2.2.2 (by decide) (Nat.le_of_ble_eq_true rfl) (k_wool _ ho) (k_wool _ hb) (by omega) (by omega) ?_
  refine z_aload1 C dX2_become_100 ?_
  refine z_get C dX2_become_101 fl_X2_become_28 (k_Rock _ ho) rfl ?_
  refine z_iconstN 0 C dX2_become_104 ?_
  refine z_aload0 C dX2_become_105 ?_
  refine z_get C dX2_become_106 fl_X2_become_28 (k_Rock _ hb) rfl ?_
  refine z_iconstN 0 C dX2_become_109 ?_
  refine z_iconstN 5 C dX2_become_110 ?_
  refine z_copyi C dX2_become_111 ac_X2_become_49.1 ac_X2_become_49.2.1 ac_X2_become_49.2.2.1 ac_X2_become_49.2.2.2 (by decide) (Nat.le_of_ble_eq_true rfl) (k_kind _ ho) (k_kind _ hb) (by omega) (by omega) ?_
  refine z_aload1 C dX2_become_114 ?_
  refine z_get C dX2_become_115 fl_X2_become_31 (k_Rock _ ho) rfl ?_
  refine z_iconstN 0 C dX2_become_118 ?_
  refine z_aload0 C dX2_become_119 ?_
  refine z_get C dX2_become_120 fl_X2_become_31 (k_Rock _ hb) rfl ?_
  refine z_iconstN 0 C dX2_become_123 ?_
  refine z_iconstN 5 C dX2_become_124 ?_
  refine z_copyi C dX2_become_125 ac_X2_become_49.1 ac_X2_become_49.2.1 ac_X2_become_49.2.2.1 ac_X2_become_49.2.2.2 (by decide) (Nat.le_of_ble_eq_true rfl) (k_size _ ho) (k_size _ hb) (by omega) (by omega) ?_
  refine z_aload1 C dX2_become_128 ?_
  refine z_get C dX2_become_129 fl_X2_become_34 (k_Rock _ ho) rfl ?_
  refine z_iconstN 0 C dX2_become_132 ?_
  refine z_aload0 C dX2_become_133 ?_
  refine z_get C dX2_become_134 fl_X2_become_34 (k_Rock _ hb) rfl ?_
  refine z_iconstN 0 C dX2_become_137 ?_
  refine z_iconstN 5 C dX2_become_138 ?_
  refine z_copyi C dX2_become_139 ac_X2_become_49.1 ac_X2_become_49.2.1 ac_X2_become_49.2.2.1 ac_X2_become_49.2.2.2 (by decide) (Nat.le_of_ble_eq_true rfl) (k_sent _ ho) (k_sent _ hb) (by omega) (by omega) ?_
  exact z_vret C dX2_become_142 hr rfl
