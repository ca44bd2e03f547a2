/-! THE MODEL reads what is typed -/
def FrT (S T : GS) : Prop := (∀ o, o ≠ 178 → T.1 o = S.1 o) ∧ (∀ i, i ≠ 7 → i ≠ 8 → T.1 178 i = S.1 178 i) ∧ T.2 = S.2
theorem FrT.rf {S : GS} : FrT S S := ⟨fun _ _ => rfl, fun _ _ _ => rfl, rfl⟩
theorem FrT.tr {S T U : GS} (h : FrT S T) (h2 : FrT T U) : FrT S U := ⟨fun o a => (h2.1 o a).trans (h.1 o a), fun i a b => (h2.2.1 i a b).trans (h.2.1 i a b), h2.2.2.trans h.2.2⟩
theorem FrT.p {S : GS} {v : Int32} : FrT S (stI S 178 7 v) := ⟨fun o a => stI_no a, fun i a b => stI_ni a, rfl⟩
theorem FrT.n {S : GS} {v : Int32} : FrT S (stI S 178 8 v) := ⟨fun o a => stI_no a, fun i a b => stI_ni b, rfl⟩
def FrR (S T : GS) : Prop := (∀ o, o ≠ 178 → o ≠ 179 → T.1 o = S.1 o) ∧ (∀ i, i ≠ 7 → i ≠ 8 → T.1 178 i = S.1 178 i) ∧ (∀ i, i < 630 → T.1 179 i = S.1 179 i) ∧ T.2 = S.2
theorem FrR.rf {S : GS} : FrR S S := ⟨fun _ _ _ => rfl, fun _ _ _ => rfl, fun _ _ => rfl, rfl⟩
theorem FrR.tr {S T U : GS} (h : FrR S T) (h2 : FrR T U) : FrR S U := ⟨fun o a b => (h2.1 o a b).trans (h.1 o a b), fun i a b => (h2.2.1 i a b).trans (h.2.1 i a b), fun i a => (h2.2.2.1 i a).trans (h.2.2.1 i a), h2.2.2.2.trans h.2.2.2⟩
theorem FrT.r {S T : GS} (h : FrT S T) : FrR S T := ⟨fun o a _ => h.1 o a, h.2.1, fun i _ => by rw [h.1 179 (by decide)], h.2.2⟩
theorem FrR.of {S T : GS} (h : Fr om S T) (h2 : ∀ i, i < 630 → T.1 179 i = S.1 179 i) : FrR S T := ⟨fun o _ b => h.1 o b, fun i _ _ => by rw [h.1 178 (by decide)], h2, h.2⟩
def TM (S : GS) (tx : Nat → Nat) (n p : Nat) : Prop := S.1 178 3 = nI n ∧ S.1 178 7 = nI p ∧ (∀ i, i < n → S.1 180 i = nI (tx i)) ∧ p ≤ n
theorem TM_put {S : GS} {tx : Nat → Nat} {n p q : Nat} (h : TM S tx n p) (hq : q ≤ n) : TM (stI S 178 7 (nI q)) tx n q := ⟨by rw [stI_ni (by decide)]; exact h.1, stI_me _ _ _ _, fun i hi => by rw [stI_no (by decide)]; exact h.2.2.1 i hi, hq⟩
theorem TM_n {S : GS} {tx : Nat → Nat} {n p : Nat} {x : Int32} (h : TM S tx n p) : TM (stI S 178 8 x) tx n p := ⟨by rw [stI_ni (by decide)]; exact h.1, by rw [stI_ni (by decide)]; exact h.2.1, fun i hi => by rw [stI_no (by decide)]; exact h.2.2.1 i hi, h.2.2.2⟩
theorem TM_om {S T : GS} {tx : Nat → Nat} {n p : Nat} (h : TM S tx n p) (f : Fr om S T) : TM T tx n p := by
  unfold TM
  rw [f.1 178 (by decide), f.1 180 (by decide)]
  exact h
def lkn (tx : Nat → Nat) (n q : Nat) : Nat := if q < n then tx q else 0
theorem lkn_y {tx : Nat → Nat} {n q : Nat} (h : q < n) : lkn tx n q = tx q := if_pos h
theorem lkn_n {tx : Nat → Nat} {n q : Nat} (h : ¬ q < n) : lkn tx n q = 0 := if_neg h
theorem lkn_le {tx : Nat → Nat} {n q : Nat} (hx : TxOk tx n) : lkn tx n q ≤ 126 := by
  unfold lkn
  split
  · next h => exact (hx.2 q h).2
  · omega
theorem lkn_eq {tx : Nat → Nat} {n q c : Nat} (hc : 0 < c) : lkn tx n q = c ↔ q < n ∧ tx q = c := by
  unfold lkn
  split
  · next h => exact ⟨fun z => ⟨h, z⟩, fun z => z.2⟩
  · next h => exact ⟨fun z => by omega, fun z => absurd z.1 h⟩
theorem lkn_0 {tx : Nat → Nat} {n q : Nat} (hx : TxOk tx n) : lkn tx n q = 0 ↔ ¬ q < n := by
  unfold lkn
  split
  · next h => have := (hx.2 q h).1; exact ⟨fun z => by omega, fun z => absurd h z⟩
  · next h => exact ⟨fun _ => h, fun _ => rfl⟩
theorem dgiM {tx : Nat → Nat} {n q lo hi : Nat} (hx : TxOk tx n) (hl : lo < 1000) (hh : hi < 1000) : (nI lo ≤ nI (lkn tx n q) - nI 48 ∧ nI (lkn tx n q) - nI 48 ≤ nI hi) ↔ (q < n ∧ 48 + lo ≤ tx q ∧ tx q ≤ 48 + hi) := by
  have := lkn_le (q := q) hx
  rw [Int32.le_iff_toInt_le, Int32.le_iff_toInt_le, nI_toInt (by omega), nI_toInt (by omega), pk_sub_toInt (by omega) (by decide)]
  unfold lkn at *
  split
  · omega
  · omega
theorem kd_lk {tx : Nat → Nat} {n q : Nat} : kdN (lkn tx n q) ≠ 0 ↔ q < n ∧ kdN (tx q) ≠ 0 := by
  unfold lkn
  split
  · next h => exact ⟨fun z => ⟨h, z⟩, fun z => z.2⟩
  · next h => exact ⟨fun z => absurd (show kdN 0 = 0 by rfl) z, fun z => absurd z.1 h⟩
theorem mAM_lo {S : GS} {n i : Nat} {x y z : Int32} (h : i < 630) : (mAM S 630 n x y z).1 179 i = S.1 179 i := by
  unfold mAM
  rw [stI_ni (by omega), stI_ni (by omega), stI_ni (by omega), stI_ni (by omega), stI_ni (by omega)]
theorem mAK_lo {S : GS} {n i : Nat} {x y z : Int32} (h : i < 630) : (mAK S 630 n x y z).1 179 i = S.1 179 i := by
  unfold mAK
  rw [stI_ni (by omega), stI_ni (by omega), stI_ni (by omega), stI_ni (by omega)]
theorem mAM_R {S : GS} {n : Nat} {x y z : Int32} : FrR S (mAM S 630 n x y z) := FrR.of mAM_fr (fun _ h => mAM_lo h)
theorem mAK_R {S : GS} {n : Nat} {x y z : Int32} : FrR S (mAK S 630 n x y z) := FrR.of mAK_fr (fun _ h => mAK_lo h)
theorem HW_AMd {S : GS} {x y z d : Nat} {W : VR} (ho : Ok W) (h6 : W 0 0 < 6) (h : HW (S.1 179) 630 (vs W 0 4 d)) : HW ((mAM S 630 (W 0 0) (nI x) (nI y) (nI z)).1 179) 630 (vs (vAM W x y z) 0 4 d) := by
  have q := HW_AM (x := x) (y := y) (z := z) (vs_ok ho (Or.inl ⟨rfl, by decide⟩)) (by rw [vs_00]; exact h6) h
  rw [vAM_vs, vs_00] at q
  exact q
theorem HW_AKd {S : GS} {x y z d : Nat} {W : VR} (ho : Ok W) (h5 : W 0 1 < 5) (h : HW (S.1 179) 630 (vs W 0 4 d)) : HW ((mAK S 630 (W 0 1) (nI x) (nI y) (sI z)).1 179) 630 (vs (vAK W x y z) 0 4 d) := by
  have q := HW_AK (x := x) (y := y) (z := z) (vs_ok ho (Or.inl ⟨rfl, by decide⟩)) (by rw [vs_01]; exact h5) h
  rw [vAK_vs, vs_01] at q
  exact q
theorem HW_T {S T : GS} {V : VR} (h : HW (S.1 179) 630 V) (f : FrT S T) : HW (T.1 179) 630 V := by
  rw [f.1 179 (by decide)]
  exact h

set_option maxRecDepth 20000 in
theorem fl_X8_peek_89 : FL RX8 wsX8_peek 89 8 7 := ⟨RX8, TX8, 15, rfl, (fun w h => List.mem_cons_of_mem _ (List.mem_append_right _ h)), by decide, by decide +kernel⟩
set_option maxRecDepth 20000 in
theorem fl_X8_peek_85 : FL RX8 wsX8_peek 85 8 3 := ⟨RX8, TX8, 15, rfl, (fun w h => List.mem_cons_of_mem _ (List.mem_append_right _ h)), by decide, by decide +kernel⟩
set_option maxRecDepth 20000 in
theorem fl_X8_peek_13 : FL RX8 wsX8_peek 13 8 2 := ⟨RX8, TX8, 15, rfl, (fun w h => List.mem_cons_of_mem _ (List.mem_append_right _ h)), by decide, by decide +kernel⟩
theorem fp_X8_peek_89 : FP RX8 wsX8_peek 89 8 7 .int := ⟨fl_X8_peek_89, RX8, TX8, 15, tyX8, rfl, tyX8_ok, nmX8, rfl, by decide +kernel⟩
set_option maxHeartbeats 4000000 in
set_option maxRecDepth 100000 in
theorem lp_X8_peek {X : CX} {S : GS} {tx : Nat → Nat} {N p0 : Nat} (hx : TxOk tx N) (hr : RtP X .int (fun r u => r = nI (lkn tx N (sk tx N p0)) ∧ TM u tx N (sk tx N p0) ∧ FrT S u)) (C : Cx X cX8_peek RX8 wsX8_peek 1) : ∀ (n : Nat) (p : Nat) (T : GS), p + n = N → TM T tx N p → FrT S T → sk tx N p0 = sk tx N p → Zj X T [some (.ref (ad (xY X) 178))] 0 [] := by
  intro n
  induction n with
  | zero =>
    intro p T hp hP hf hg
    have x90 := hx.1
    obtain rfl : p = N := by omega
    have hk : sk tx p p = p := sk_n (fun z => absurd z.1 (by omega))
    refine z_aload0 C dX8_peek_0 ?_
    refine z_get C dX8_peek_1 fl_X8_peek_89 (k_Model _) rfl ?_
    refine z_top C hP.2.1 ?_
    refine z_aload0 C dX8_peek_4 ?_
    refine z_get C dX8_peek_5 fl_X8_peek_85 (k_Model _) rfl ?_
    refine z_top C hP.1 ?_
    refine z_icmp_geN C 38 dX8_peek_8 (by decide) (by omega) (by omega) (fun c8 => ?_) (fun c8 => ?_)
    · refine z_aload0 C dX8_peek_38 ?_
      refine z_get C dX8_peek_39 fl_X8_peek_89 (k_Model _) rfl ?_
      refine z_top C hP.2.1 ?_
      refine z_aload0 C dX8_peek_42 ?_
      refine z_get C dX8_peek_43 fl_X8_peek_85 (k_Model _) rfl ?_
      refine z_top C hP.1 ?_
      refine z_icmp_geN C 61 dX8_peek_46 (by decide) (by omega) (by omega) (fun c46 => ?_) (fun c46 => ?_)
      · refine z_iconstN 0 C dX8_peek_61 ?_
        exact z_iretP C dX8_peek_62 hr rfl ⟨by rw [hg, hk, lkn_n (by omega)], by rw [hg, hk]; exact hP, hf⟩
      · exact absurd c46 (by omega)
    · exact absurd c8 (by omega)
  | succ n ih =>
    intro p T hp hP hf hg
    have x90 := hx.1
    have xp := hx.2 p (by omega)
    refine z_aload0 C dX8_peek_0 ?_
    refine z_get C dX8_peek_1 fl_X8_peek_89 (k_Model _) rfl ?_
    refine z_top C hP.2.1 ?_
    refine z_aload0 C dX8_peek_4 ?_
    refine z_get C dX8_peek_5 fl_X8_peek_85 (k_Model _) rfl ?_
    refine z_top C hP.1 ?_
    refine z_icmp_geN C 38 dX8_peek_8 (by decide) (by omega) (by omega) (fun c8 => ?_) (fun c8 => ?_)
    · exact absurd c8 (by omega)
    · refine z_aload0 C dX8_peek_11 ?_
      refine z_get C dX8_peek_12 fl_X8_peek_13 (k_Model _) rfl ?_
      refine z_aload0 C dX8_peek_15 ?_
      refine z_get C dX8_peek_16 fl_X8_peek_89 (k_Model _) rfl ?_
      refine z_top C hP.2.1 ?_
      refine z_iald C dX8_peek_19 (k_i180 _) (by omega) ?_
      refine z_top C (hP.2.2.1 p (by omega)) ?_
      refine z_bipush (v := nI 32) C dX8_peek_20 (by decide) ?_
      refine z_icmp_neN C 38 dX8_peek_22 (by decide) (by omega) (by omega) (fun c22 => ?_) (fun c22 => ?_)
      · have hk : sk tx N p = p := sk_n (fun z => c22 z.2)
        refine z_aload0 C dX8_peek_38 ?_
        refine z_get C dX8_peek_39 fl_X8_peek_89 (k_Model _) rfl ?_
        refine z_top C hP.2.1 ?_
        refine z_aload0 C dX8_peek_42 ?_
        refine z_get C dX8_peek_43 fl_X8_peek_85 (k_Model _) rfl ?_
        refine z_top C hP.1 ?_
        refine z_icmp_geN C 61 dX8_peek_46 (by decide) (by omega) (by omega) (fun c46 => ?_) (fun c46 => ?_)
        · exact absurd c46 (by omega)
        · refine z_aload0 C dX8_peek_49 ?_
          refine z_get C dX8_peek_50 fl_X8_peek_13 (k_Model _) rfl ?_
          refine z_aload0 C dX8_peek_53 ?_
          refine z_get C dX8_peek_54 fl_X8_peek_89 (k_Model _) rfl ?_
          refine z_top C hP.2.1 ?_
          refine z_iald C dX8_peek_57 (k_i180 _) (by omega) ?_
          refine z_top C (hP.2.2.1 p (by omega)) ?_
          refine z_goto C 62 dX8_peek_58 (by decide) ?_
          exact z_iretP C dX8_peek_62 hr rfl ⟨by rw [hg, hk, lkn_y (by omega)], by rw [hg, hk]; exact hP, hf⟩
      · refine z_aload0 C dX8_peek_25 ?_
        refine z_dup C dX8_peek_26 rfl ?_
        refine z_get C dX8_peek_27 fl_X8_peek_89 (k_Model _) rfl ?_
        refine z_top C hP.2.1 ?_
        refine z_iconstN 1 C dX8_peek_30 ?_
        refine z_iaddN C dX8_peek_31 ?_
        refine z_put C dX8_peek_32 fp_X8_peek_89 (k_Model _) rfl rfl (Nat.le_of_ble_eq_true rfl) rfl ?_
        refine z_goto C 0 dX8_peek_35 (by decide) ?_
        exact ih (p + 1) _ (by omega) (TM_put hP (by omega)) (hf.tr FrT.p) (hg.trans (sk_y ⟨by omega, c22⟩))

theorem c_X8_peek {l : Launch} {Y : LY} {S : GS} {tx : Nat → Nat} {N p : Nat} (hx : TxOk tx N) (hP : TM S tx N p) : CtP l yX8_peek wsX8_peek 1 Y [.ref (ad Y 178)] S (fun r u => r = nI (lkn tx N (sk tx N p)) ∧ TM u tx N (sk tx N p) ∧ FrT S u) := by
  refine mkP (cc := cX8_peek) (maxL := 1) rfl rfl (Nat.le_of_ble_eq_true rfl) ?_
  intro X hl hY C hr
  subst hl
  subst hY
  have pN := hP.2.2.2
  exact lp_X8_peek hx hr C (N - p) p S (by omega) hP FrT.rf rfl

theorem md_X8_peek : MD yX8_peek wsX8_peek 0 1 (some .int) := ⟨_, _, rfl, by decide, by decide +kernel, by decide +kernel, by decide +kernel⟩
set_option maxRecDepth 20000 in
theorem fl_X8_takes_89 : FL RX8 wsX8_takes 89 8 7 := ⟨RX8, TX8, 15, rfl, (fun w h => List.mem_cons_of_mem _ (List.mem_append_right _ h)), by decide, by decide +kernel⟩
theorem fp_X8_takes_89 : FP RX8 wsX8_takes 89 8 7 .int := ⟨fl_X8_takes_89, RX8, TX8, 15, tyX8, rfl, tyX8_ok, nmX8, rfl, by decide +kernel⟩
set_option maxHeartbeats 4000000 in
set_option maxRecDepth 100000 in
theorem c_X8_takes {l : Launch} {Y : LY} {S : GS} {tx : Nat → Nat} {N p : Nat} (hx : TxOk tx N) (hP : TM S tx N p) {c : Nat} (hc0 : 0 < c) (hc : c < 1000) : CtP l yX8_takes wsX8_takes 2 Y [.ref (ad Y 178), .int (nI c)] S (fun r u => r = bi (tkP tx N c p) ∧ TM u tx N (tkN tx N c p) ∧ FrT S u) := by
  refine mkP (cc := cX8_takes) (maxL := 2) rfl rfl (Nat.le_of_ble_eq_true rfl) ?_
  intro X hl hY C hr
  subst hl
  subst hY
  have x90 := hx.1
  have pN := hP.2.2.2
  show Zj X S [some (.ref (ad (xY X) 178)), some (.int (nI c))] 0 []
  refine z_aload0 C dX8_takes_0 ?_
  refine z_callVP C dX8_takes_1 (c_X8_peek hx hP) gX8_takes_X8_peek md_X8_peek rfl (by decide) (k_Model _) rfl rfl rfl (Nat.le_of_ble_eq_true rfl) ?_
  rintro _ T ⟨rfl, hP, hf⟩
  obtain ⟨sk1, sk2, sk3⟩ := sk_in (tx := tx) pN
  have lk1 := lkn_le (q := sk tx N p) hx
  refine z_iload1 C dX8_takes_4 ?_
  have hk := lkn_eq (tx := tx) (n := N) (q := sk tx N p) hc0
  refine z_icmp_eqN C 10 dX8_takes_5 (by decide) (by omega) (by omega) (fun c5 => ?_) (fun c5 => ?_)
  · refine z_aload0 C dX8_takes_10 ?_
    refine z_dup C dX8_takes_11 rfl ?_
    refine z_get C dX8_takes_12 fl_X8_takes_89 (k_Model _) rfl ?_
    refine z_top C hP.2.1 ?_
    refine z_iconstN 1 C dX8_takes_15 ?_
    refine z_iaddN C dX8_takes_16 ?_
    refine z_put C dX8_takes_17 fp_X8_takes_89 (k_Model _) rfl rfl (Nat.le_of_ble_eq_true rfl) rfl ?_
    refine z_iconstN 1 C dX8_takes_20 ?_
    exact z_iretP C dX8_takes_21 hr rfl ⟨(bi_1 (hk.mp c5)).symm, by rw [tkN_y (hk.mp c5)]; exact TM_put hP (by have := (hk.mp c5).1; omega), hf.tr FrT.p⟩
  · refine z_iconstN 0 C dX8_takes_8 ?_
    exact z_iretP C dX8_takes_9 hr rfl ⟨(bi_0 (fun z => c5 (hk.mpr z))).symm, by rw [tkN_n (fun z => c5 (hk.mpr z))]; exact hP, hf⟩

set_option maxRecDepth 20000 in
theorem fl_X8_isFigure_85 : FL RX8 wsX8_isFigure 85 8 3 := ⟨RX8, TX8, 15, rfl, (fun w h => List.mem_cons_of_mem _ (List.mem_append_right _ h)), by decide, by decide +kernel⟩
set_option maxRecDepth 20000 in
theorem fl_X8_isFigure_13 : FL RX8 wsX8_isFigure 13 8 2 := ⟨RX8, TX8, 15, rfl, (fun w h => List.mem_cons_of_mem _ (List.mem_append_right _ h)), by decide, by decide +kernel⟩
theorem kl_X8_isFigure_96 : Cond.constantLong RX8 96 (48) ∈ wsX8_isFigure := by decide +kernel
theorem kl_X8_isFigure_98 : Cond.constantLong RX8 98 (57) ∈ wsX8_isFigure := by decide +kernel
set_option maxHeartbeats 4000000 in
set_option maxRecDepth 100000 in
theorem c_X8_isFigure {l : Launch} {Y : LY} {S : GS} {tx : Nat → Nat} {N p : Nat} (hx : TxOk tx N) (hP : TM S tx N p) {k : Nat} (hk : k ≤ N) : CtI l yX8_isFigure wsX8_isFigure 2 Y [.ref (ad Y 178), .int (nI k)] S (bi (dgt tx N k)) (S) := by
  refine mkI (cc := cX8_isFigure) (maxL := 2) rfl rfl (Nat.le_of_ble_eq_true rfl) ?_
  intro X hl hY C hr
  subst hl
  subst hY
  have x90 := hx.1
  show Zj X S [some (.ref (ad (xY X) 178)), some (.int (nI k))] 0 []
  refine z_iload1 C dX8_isFigure_0 ?_
  refine z_aload0 C dX8_isFigure_1 ?_
  refine z_get C dX8_isFigure_2 fl_X8_isFigure_85 (k_Model _) rfl ?_
  refine z_top C hP.1 ?_
  refine z_icmp_geN C 31 dX8_isFigure_5 (by decide) (by omega) (by omega) (fun c5 => ?_) (fun c5 => ?_)
  · refine z_iconstN 0 C dX8_isFigure_31 ?_
    exact z_iret C dX8_isFigure_32 hr bi_nar (b0 (fun z => absurd z.1 (by omega))) rfl
  · have lk := hx.2 k (by omega)
    refine z_aload0 C dX8_isFigure_8 ?_
    refine z_get C dX8_isFigure_9 fl_X8_isFigure_13 (k_Model _) rfl ?_
    refine z_iload1 C dX8_isFigure_12 ?_
    refine z_iald C dX8_isFigure_13 (k_i180 _) (by omega) ?_
    refine z_top C (hP.2.2.1 k (by omega)) ?_
    refine z_i2l C dX8_isFigure_14 ?_
    refine z_ldc2 (v := 48) C dX8_isFigure_15 kl_X8_isFigure_96 ?_
    refine z_topl (y := (nI 48).toInt64) C (by decide) ?_
    refine z_ldc2 (v := 57) C dX8_isFigure_18 kl_X8_isFigure_98 ?_
    refine z_topl (y := (nI 57).toInt64) C (by decide) ?_
    refine z_callSI C dX8_isFigure_21 c_X8_in gX8_isFigure_X8_in md_X8_in (by decide) rfl rfl (Nat.le_of_ble_eq_true rfl) ?_
    refine z_if_eqB C 31 dX8_isFigure_24 (by decide) (fun c24 => ?_) (fun c24 => ?_)
    · refine z_iconstN 0 C dX8_isFigure_31 ?_
      exact z_iret C dX8_isFigure_32 hr bi_nar (b0 (fun z => c24 ((inB_d (by omega)).mpr z.2))) rfl
    · refine z_iconstN 1 C dX8_isFigure_27 ?_
      refine z_goto C 32 dX8_isFigure_28 (by decide) ?_
      exact z_iret C dX8_isFigure_32 hr bi_nar (b1 ⟨by omega, (inB_d (by omega)).mp c24⟩) rfl

set_option maxRecDepth 20000 in
theorem fl_X8_takesDigit_100 : FL RX8 wsX8_takesDigit 100 8 8 := ⟨RX8, TX8, 15, rfl, (fun w h => List.mem_cons_of_mem _ (List.mem_append_right _ h)), by decide, by decide +kernel⟩
theorem fp_X8_takesDigit_100 : FP RX8 wsX8_takesDigit 100 8 8 .int := ⟨fl_X8_takesDigit_100, RX8, TX8, 15, tyX8, rfl, tyX8_ok, nmX8, rfl, by decide +kernel⟩
set_option maxRecDepth 20000 in
theorem fl_X8_takesDigit_89 : FL RX8 wsX8_takesDigit 89 8 7 := ⟨RX8, TX8, 15, rfl, (fun w h => List.mem_cons_of_mem _ (List.mem_append_right _ h)), by decide, by decide +kernel⟩
theorem fp_X8_takesDigit_89 : FP RX8 wsX8_takesDigit 89 8 7 .int := ⟨fl_X8_takesDigit_89, RX8, TX8, 15, tyX8, rfl, tyX8_ok, nmX8, rfl, by decide +kernel⟩
set_option maxHeartbeats 4000000 in
set_option maxRecDepth 100000 in
theorem c_X8_takesDigit {l : Launch} {Y : LY} {S : GS} {tx : Nat → Nat} {N p : Nat} (hx : TxOk tx N) (hP : TM S tx N p) {lo hi : Nat} (hl : lo < 1000) (hh : hi < 1000) : CtP l yX8_takesDigit wsX8_takesDigit 2 Y [.ref (ad Y 178), .int (nI lo), .int (nI hi)] S (fun r u => (∃ v q, dig tx N lo hi p = .ok (v, q) ∧ r = nI 1 ∧ u.1 178 8 = nI v ∧ TM u tx N q ∧ FrT S u) ∨ (∃ q, dig tx N lo hi p = .error q ∧ r = nI 0 ∧ TM u tx N q ∧ FrT S u)) := by
  refine mkP (cc := cX8_takesDigit) (maxL := 4) rfl rfl (Nat.le_of_ble_eq_true rfl) ?_
  intro X hl hY C hr
  subst hl
  subst hY
  have x90 := hx.1
  have pN := hP.2.2.2
  show Zj X S [some (.ref (ad (xY X) 178)), some (.int (nI lo)), some (.int (nI hi)), none] 0 []
  refine z_aload0 C dX8_takesDigit_0 ?_
  refine z_callVP C dX8_takesDigit_1 (c_X8_peek hx hP) gX8_takesDigit_X8_peek md_X8_peek rfl (by decide) (k_Model _) rfl rfl rfl (Nat.le_of_ble_eq_true rfl) ?_
  rintro _ T ⟨rfl, hP, hf⟩
  obtain ⟨sk1, sk2, sk3⟩ := sk_in (tx := tx) pN
  have lk1 := lkn_le (q := sk tx N p) hx
  refine z_bipush (v := nI 48) C dX8_takesDigit_4 (by decide) ?_
  refine z_isub C dX8_takesDigit_6 ?_
  refine z_istore3 C dX8_takesDigit_7 nl_i ?_
  have hd := dgiM (q := sk tx N p) hx hl hh
  refine z_iload3 C dX8_takesDigit_8 ?_
  refine z_i2l C dX8_takesDigit_9 ?_
  refine z_iload1 C dX8_takesDigit_10 ?_
  refine z_i2l C dX8_takesDigit_11 ?_
  refine z_iload2 C dX8_takesDigit_12 ?_
  refine z_i2l C dX8_takesDigit_13 ?_
  refine z_callSI C dX8_takesDigit_14 c_X8_in gX8_takesDigit_X8_in md_X8_in (by decide) rfl rfl (Nat.le_of_ble_eq_true rfl) ?_
  refine z_if_neB C 22 dX8_takesDigit_17 (by decide) (fun c17 => ?_) (fun c17 => ?_)
  · have hq := hd.mp c17
    refine z_aload0 C dX8_takesDigit_22 ?_
    refine z_iload3 C dX8_takesDigit_23 ?_
    refine z_put C dX8_takesDigit_24 fp_X8_takesDigit_100 (k_Model _) rfl rfl (Nat.le_of_ble_eq_true rfl) rfl ?_
    refine z_genS (P := fun T => T.1 178 8 = nI (tx (sk tx N p) - 48) ∧ TM T tx N (sk tx N p) ∧ FrT S T) ⟨by rw [stI_me, lkn_y hq.1, pk_sub (by omega)], TM_n hP, hf.tr FrT.n⟩ (fun T2 hT2 => ?_)
    obtain ⟨h8, hP, hf⟩ := hT2
    refine z_aload0 C dX8_takesDigit_27 ?_
    refine z_dup C dX8_takesDigit_28 rfl ?_
    refine z_get C dX8_takesDigit_29 fl_X8_takesDigit_89 (k_Model _) rfl ?_
    refine z_top C hP.2.1 ?_
    refine z_iconstN 1 C dX8_takesDigit_32 ?_
    refine z_iaddN C dX8_takesDigit_33 ?_
    refine z_put C dX8_takesDigit_34 fp_X8_takesDigit_89 (k_Model _) rfl rfl (Nat.le_of_ble_eq_true rfl) rfl ?_
    refine z_iconstN 1 C dX8_takesDigit_37 ?_
    exact z_iretP C dX8_takesDigit_38 hr rfl (Or.inl ⟨_, _, dig_y hq, rfl, by rw [stI_ni (by decide)]; exact h8, TM_put hP (by omega), hf.tr FrT.p⟩)
  · refine z_iconstN 0 C dX8_takesDigit_20 ?_
    exact z_iretP C dX8_takesDigit_21 hr rfl (Or.inr ⟨_, dig_n (fun z => c17 (hd.mpr z)), rfl, hP, hf⟩)
