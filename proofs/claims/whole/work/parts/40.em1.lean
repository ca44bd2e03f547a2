set_option maxHeartbeats 4000000 in
set_option maxRecDepth 100000 in
theorem c_X7_within {l : Launch} {Y : LY} {S : GS} {x : Int32} {lo hi : Nat} : CtI l yX7_within wsX7_within 1 Y [.int x, .int (nI lo), .int (nI hi)] S (bi (inB x lo hi)) (S) := by
  refine mkI (cc := cX7_within) (maxL := 3) rfl rfl (Nat.le_of_ble_eq_true rfl) ?_
  intro X hl hY C hr
  subst hl
  subst hY
  show Zj X S [some (.int x), some (.int (nI lo)), some (.int (nI hi))] 0 []
  refine z_iload0 C dX7_within_0 ?_
  refine z_iload1 C dX7_within_1 ?_
  refine z_icmp_lt C 14 dX7_within_2 (by decide) (fun c2 => ?_) (fun c2 => ?_)
  · refine z_iconstN 0 C dX7_within_14 ?_
    exact z_iret C dX7_within_15 hr bi_nar (b0 (fun h => by have h2 := inB_c.mpr h; first | exact h2.1 c2 | exact h2.2 c7)) rfl
  · refine z_iload0 C dX7_within_5 ?_
    refine z_iload2 C dX7_within_6 ?_
    refine z_icmp_gt C 14 dX7_within_7 (by decide) (fun c7 => ?_) (fun c7 => ?_)
    · refine z_iconstN 0 C dX7_within_14 ?_
      exact z_iret C dX7_within_15 hr bi_nar (b0 (fun h => by have h2 := inB_c.mpr h; first | exact h2.1 c2 | exact h2.2 c7)) rfl
    · refine z_iconstN 1 C dX7_within_10 ?_
      refine z_goto C 15 dX7_within_11 (by decide) ?_
      exact z_iret C dX7_within_15 hr bi_nar (b1 (inB_c.mp ⟨c2, c7⟩)) rfl

set_option maxRecDepth 20000 in
theorem fl_X7_hasMark_10 : FL RX7 wsX7_hasMark 10 7 0 := ⟨RX7, TX7, 12, rfl, (fun w h => List.mem_cons_of_mem _ (List.mem_append_left _ (List.mem_append_right _ h))), by decide, by decide +kernel⟩
set_option maxRecDepth 20000 in
theorem fl_X7_hasMark_75 : FL RX7 wsX7_hasMark 75 2 0 := ⟨RX2, TX2, 12, rfl, (fun w h => List.mem_cons_of_mem _ (List.mem_append_right _ h)), by decide, by decide +kernel⟩
set_option maxHeartbeats 4000000 in
set_option maxRecDepth 100000 in
theorem c_X7_hasMark {l : Launch} {Y : LY} {S : GS} {x : Int32} {nm : Nat} (hM : S.1 26 0 = nI nm) : CtI l yX7_hasMark wsX7_hasMark 1 Y [.ref (ad Y 0), .int x] S (bi (inR x nm)) (S) := by
  refine mkI (cc := cX7_hasMark) (maxL := 2) rfl rfl (Nat.le_of_ble_eq_true rfl) ?_
  intro X hl hY C hr
  subst hl
  subst hY
  show Zj X S [some (.ref (ad (xY X) 0)), some (.int x)] 0 []
  refine z_iload1 C dX7_hasMark_0 ?_
  refine z_if_lt C 19 dX7_hasMark_1 (by decide) (fun c1 => ?_) (fun c1 => ?_)
  · refine z_iconstN 0 C dX7_hasMark_19 ?_
    exact z_iret C dX7_hasMark_20 hr bi_nar (b0 (fun h => by have h2 := inR_c.mpr h; first | exact h2.1 c1 | (have h3 := h2.2; rw [Int32.lt_iff_toInt_lt] at h3; rw [Int32.le_iff_toInt_le] at c12; omega))) rfl
  · refine z_iload1 C dX7_hasMark_4 ?_
    refine z_aload0 C dX7_hasMark_5 ?_
    refine z_get C dX7_hasMark_6 fl_X7_hasMark_10 (k_EM _) rfl ?_
    refine z_get C dX7_hasMark_9 fl_X7_hasMark_75 (k_Rock _ isR_now) rfl ?_
    refine z_top C hM ?_
    refine z_icmp_ge C 19 dX7_hasMark_12 (by decide) (fun c12 => ?_) (fun c12 => ?_)
    · refine z_iconstN 0 C dX7_hasMark_19 ?_
      exact z_iret C dX7_hasMark_20 hr bi_nar (b0 (fun h => by have h2 := inR_c.mpr h; first | exact h2.1 c1 | (have h3 := h2.2; rw [Int32.lt_iff_toInt_lt] at h3; rw [Int32.le_iff_toInt_le] at c12; omega))) rfl
    · refine z_iconstN 1 C dX7_hasMark_15 ?_
      refine z_goto C 20 dX7_hasMark_16 (by decide) ?_
      exact z_iret C dX7_hasMark_20 hr bi_nar (b1 (inR_c.mp ⟨c1, by rw [Int32.lt_iff_toInt_lt]; rw [Int32.le_iff_toInt_le] at c12; omega⟩)) rfl

set_option maxRecDepth 20000 in
theorem fl_X7_hasMonk_10 : FL RX7 wsX7_hasMonk 10 7 0 := ⟨RX7, TX7, 12, rfl, (fun w h => List.mem_cons_of_mem _ (List.mem_append_left _ (List.mem_append_right _ h))), by decide, by decide +kernel⟩
set_option maxRecDepth 20000 in
theorem fl_X7_hasMonk_86 : FL RX7 wsX7_hasMonk 86 2 1 := ⟨RX2, TX2, 12, rfl, (fun w h => List.mem_cons_of_mem _ (List.mem_append_right _ h)), by decide, by decide +kernel⟩
set_option maxHeartbeats 4000000 in
set_option maxRecDepth 100000 in
theorem c_X7_hasMonk {l : Launch} {Y : LY} {S : GS} {x : Int32} {nk : Nat} (hK : S.1 26 1 = nI nk) : CtI l yX7_hasMonk wsX7_hasMonk 1 Y [.ref (ad Y 0), .int x] S (bi (inR x nk)) (S) := by
  refine mkI (cc := cX7_hasMonk) (maxL := 2) rfl rfl (Nat.le_of_ble_eq_true rfl) ?_
  intro X hl hY C hr
  subst hl
  subst hY
  show Zj X S [some (.ref (ad (xY X) 0)), some (.int x)] 0 []
  refine z_iload1 C dX7_hasMonk_0 ?_
  refine z_if_lt C 19 dX7_hasMonk_1 (by decide) (fun c1 => ?_) (fun c1 => ?_)
  · refine z_iconstN 0 C dX7_hasMonk_19 ?_
    exact z_iret C dX7_hasMonk_20 hr bi_nar (b0 (fun h => by have h2 := inR_c.mpr h; first | exact h2.1 c1 | (have h3 := h2.2; rw [Int32.lt_iff_toInt_lt] at h3; rw [Int32.le_iff_toInt_le] at c12; omega))) rfl
  · refine z_iload1 C dX7_hasMonk_4 ?_
    refine z_aload0 C dX7_hasMonk_5 ?_
    refine z_get C dX7_hasMonk_6 fl_X7_hasMonk_10 (k_EM _) rfl ?_
    refine z_get C dX7_hasMonk_9 fl_X7_hasMonk_86 (k_Rock _ isR_now) rfl ?_
    refine z_top C hK ?_
    refine z_icmp_ge C 19 dX7_hasMonk_12 (by decide) (fun c12 => ?_) (fun c12 => ?_)
    · refine z_iconstN 0 C dX7_hasMonk_19 ?_
      exact z_iret C dX7_hasMonk_20 hr bi_nar (b0 (fun h => by have h2 := inR_c.mpr h; first | exact h2.1 c1 | (have h3 := h2.2; rw [Int32.lt_iff_toInt_lt] at h3; rw [Int32.le_iff_toInt_le] at c12; omega))) rfl
    · refine z_iconstN 1 C dX7_hasMonk_15 ?_
      refine z_goto C 20 dX7_hasMonk_16 (by decide) ?_
      exact z_iret C dX7_hasMonk_20 hr bi_nar (b1 (inR_c.mp ⟨c1, by rw [Int32.lt_iff_toInt_lt]; rw [Int32.le_iff_toInt_le] at c12; omega⟩)) rfl

theorem md_X7_within : MD yX7_within wsX7_within 3 3 (some .boolean) := ⟨_, _, rfl, by decide, by decide +kernel, by decide +kernel, by decide +kernel⟩
set_option maxHeartbeats 4000000 in
set_option maxRecDepth 100000 in
theorem c_X7_isSheet {l : Launch} {Y : LY} {S : GS} {x y : Int32} : CtI l yX7_isSheet wsX7_isSheet 2 Y [.int x, .int y] S (bi (inB x 0 3 ∧ inB y 0 3)) (S) := by
  refine mkI (cc := cX7_isSheet) (maxL := 2) rfl rfl (Nat.le_of_ble_eq_true rfl) ?_
  intro X hl hY C hr
  subst hl
  subst hY
  show Zj X S [some (.int x), some (.int y)] 0 []
  refine z_iload0 C dX7_isSheet_0 ?_
  refine z_iconstN 0 C dX7_isSheet_1 ?_
  refine z_iconstN 3 C dX7_isSheet_2 ?_
  refine z_callSI C dX7_isSheet_3 c_X7_within gX7_isSheet_X7_within md_X7_within (by decide) rfl rfl (Nat.le_of_ble_eq_true rfl) ?_
  refine z_if_eqB C 22 dX7_isSheet_6 (by decide) (fun c6 => ?_) (fun c6 => ?_)
  · refine z_iconstN 0 C dX7_isSheet_22 ?_
    exact z_iret C dX7_isSheet_23 hr bi_nar (b0 (by intro hh; first | contradiction | (obtain ⟨h1, h2⟩ := hh; contradiction) | (obtain ⟨h1, h2, h3⟩ := hh; contradiction) | (obtain ⟨h1, h2, h3, h4⟩ := hh; contradiction))) rfl
  · refine z_iload1 C dX7_isSheet_9 ?_
    refine z_iconstN 0 C dX7_isSheet_10 ?_
    refine z_iconstN 3 C dX7_isSheet_11 ?_
    refine z_callSI C dX7_isSheet_12 c_X7_within gX7_isSheet_X7_within md_X7_within (by decide) rfl rfl (Nat.le_of_ble_eq_true rfl) ?_
    refine z_if_eqB C 22 dX7_isSheet_15 (by decide) (fun c15 => ?_) (fun c15 => ?_)
    · refine z_iconstN 0 C dX7_isSheet_22 ?_
      exact z_iret C dX7_isSheet_23 hr bi_nar (b0 (by intro hh; first | contradiction | (obtain ⟨h1, h2⟩ := hh; contradiction) | (obtain ⟨h1, h2, h3⟩ := hh; contradiction) | (obtain ⟨h1, h2, h3, h4⟩ := hh; contradiction))) rfl
    · refine z_iconstN 1 C dX7_isSheet_18 ?_
      refine z_goto C 23 dX7_isSheet_19 (by decide) ?_
      exact z_iret C dX7_isSheet_23 hr bi_nar (b1 (by first | assumption | (refine ⟨?_, ?_⟩ <;> assumption) | (refine ⟨?_, ?_, ?_⟩ <;> assumption))) rfl

def cFt (S : GS) (n nk : Nat) : GS := foldN (fun _ T => cPD T 42 (nI 0) nk) n 0 (cBec S 42 26)
def vDays (V : VR) (n : Nat) : VR := foldN (fun _ U => vPD U (nI 0)) n 0 V
theorem HC_days {b : Nat} : ∀ (n i : Nat) (T : GS) (U : VR), HC T b U → Ok U → HC (foldN (fun _ T => cPD T b (nI 0) (U 0 1)) n i T) b (foldN (fun _ U => vPD U (nI 0)) n i U) ∧ Ok (foldN (fun _ U => vPD U (nI 0)) n i U) ∧ ∀ j, j ≠ 2 → j ≠ 3 → foldN (fun _ U => vPD U (nI 0)) n i U 0 j = U 0 j := by
  intro n
  induction n with
  | zero => intro i T U h ho; exact ⟨h, ho, fun _ _ _ => rfl⟩
  | succ n ih =>
    intro i T U h ho
    obtain ⟨h1, h2⟩ := HC_PD (ill := nI 0) h ho
    obtain ⟨a1, a2, a3⟩ := ih (i + 1) _ _ h1 h2
    rw [vPD_hd (by decide) (by decide)] at a1
    exact ⟨a1, a2, fun j hj hj3 => (a3 j hj hj3).trans (vPD_hd hj hj3)⟩
theorem dis_tn : dis 42 26 := Or.inl (by decide)
theorem cFt_fr {S : GS} {n nk : Nat} : Fr (rk 42) S (cFt S n nk) := cBec_fr.tr (foldN_fr (fun _ _ => cPD_fr) n 0 _)
theorem HC_Ft {S : GS} {V : VR} (h : HC S 26 V) (ho : Ok V) (n : Nat) : HC (cFt S n (V 0 1)) 42 (vDays V n) ∧ Ok (vDays V n) ∧ ∀ j, j ≠ 2 → j ≠ 3 → vDays V n 0 j = V 0 j := HC_days n 0 _ V (HC_bec dis_tn h ho) ho

set_option maxRecDepth 20000 in
theorem fl_X7_foretell_42 : FL RX7 wsX7_foretell 42 7 7 := ⟨RX7, TX7, 12, rfl, (fun w h => List.mem_cons_of_mem _ (List.mem_append_left _ (List.mem_append_right _ h))), by decide, by decide +kernel⟩
theorem md_X2_passDay : MD yX2_passDay wsX2_passDay 1 4 none := ⟨_, _, rfl, by decide, by decide +kernel, by decide +kernel, by decide +kernel⟩
set_option maxHeartbeats 4000000 in
set_option maxRecDepth 100000 in
theorem lp_X7_foretell {X : CX} {N nk : Nat} (hN : N ≤ 60) (C : Cx X cX7_foretell RX7 wsX7_foretell 5) : ∀ (n : Nat) (i : Nat) (T : GS) (U : VR), i + n = N → HC T 42 U → Ok U → U 0 1 = nk → Zj X (foldN (fun _ T => cPD T 42 (nI 0) nk) n i T) [some (.ref (ad (xY X) 0)), some (.int (nI (N))), some (.int (nI (N)))] 32 [] → Zj X T [some (.ref (ad (xY X) 0)), some (.int (nI (N))), some (.int (nI (i)))] 13 [] := by
  intro n
  induction n with
  | zero =>
    intro i T U hi h ho hk kk
    obtain rfl : i = N := by omega
    refine z_iload2 C dX7_foretell_13 ?_
    refine z_iload1 C dX7_foretell_14 ?_
    refine z_icmp_geN C 32 dX7_foretell_15 (by decide) (by omega) (by omega) (fun c15 => ?_) (fun c15 => ?_)
    · exact kk
    · exact absurd c15 (by omega)
  | succ n ih =>
    intro i T U hi h ho hk kk
    subst hk
    refine z_iload2 C dX7_foretell_13 ?_
    refine z_iload1 C dX7_foretell_14 ?_
    refine z_icmp_geN C 32 dX7_foretell_15 (by decide) (by omega) (by omega) (fun c15 => ?_) (fun c15 => ?_)
    · exact absurd c15 (by omega)
    · refine z_aload0 C dX7_foretell_18 ?_
      refine z_get C dX7_foretell_19 fl_X7_foretell_42 (k_EM _) rfl ?_
      refine z_iconstN 0 C dX7_foretell_22 ?_
      refine z_callVV C dX7_foretell_23 (c_X2_passDay isR_trial ho.2.1 (h.1 1 (by decide)) (HC_sOk h ho)) gX7_foretell_X2_passDay md_X2_passDay rfl (by decide) (k_Rock _ isR_trial) rfl rfl rfl (Nat.le_of_ble_eq_true rfl) ?_
      refine z_iinc2 C dX7_foretell_26 (inc1 _) nl_i ?_
      refine z_goto C 13 dX7_foretell_29 (by decide) ?_
      exact ih (i + 1) _ _ (by omega) (HC_PD h ho).1 (HC_PD h ho).2 (vPD_hd (by decide) (by decide)) kk

set_option maxRecDepth 20000 in
theorem fl_X7_foretell_10 : FL RX7 wsX7_foretell 10 7 0 := ⟨RX7, TX7, 12, rfl, (fun w h => List.mem_cons_of_mem _ (List.mem_append_left _ (List.mem_append_right _ h))), by decide, by decide +kernel⟩
theorem md_X2_become : MD yX2_become wsX2_become 1 2 none := ⟨_, _, rfl, by decide, by decide +kernel, by decide +kernel, by decide +kernel⟩
set_option maxHeartbeats 4000000 in
set_option maxRecDepth 100000 in
theorem c_X7_foretell {l : Launch} {Y : LY} {S : GS} {V : VR} {n : Nat} (h : HC S 26 V) (ho : Ok V) (hn : n ≤ 60) : CtV l yX7_foretell wsX7_foretell 5 Y [.ref (ad Y 0), .int (nI n)] S (cFt S n (V 0 1)) := by
  refine mkV (cc := cX7_foretell) (maxL := 3) rfl rfl (Nat.le_of_ble_eq_true rfl) ?_
  intro X hl hY C hr
  subst hl
  subst hY
  show Zj X S [some (.ref (ad (xY X) 0)), some (.int (nI n)), none] 0 []
  refine z_aload0 C dX7_foretell_0 ?_
  refine z_get C dX7_foretell_1 fl_X7_foretell_42 (k_EM _) rfl ?_
  refine z_aload0 C dX7_foretell_4 ?_
  refine z_get C dX7_foretell_5 fl_X7_foretell_10 (k_EM _) rfl ?_
  refine z_callVV C dX7_foretell_8 (c_X2_become isR_trial isR_now) gX7_foretell_X2_become md_X2_become rfl (by decide) (k_Rock _ isR_trial) rfl rfl rfl (Nat.le_of_ble_eq_true rfl) ?_
  refine z_iconstN 0 C dX7_foretell_11 ?_
  refine z_istore2 C dX7_foretell_12 nl_i ?_
  refine lp_X7_foretell hn C n 0 _ V (by omega) (HC_bec dis_tn h ho) ho rfl ?_
  exact z_vret C dX7_foretell_32 hr rfl

abbrev scr (o : Nat) : Prop := (1 ≤ o ∧ o ≤ 10) ∨ (42 ≤ o ∧ o < 50)
theorem fr_tr {S T : GS} (h : Fr (rk 42) S T) : Fr scr S T := h.mono (fun o h => Or.inr ⟨h.1, by omega⟩)
/-! the answers that are read off a rock -/
def crewV (V : VR) (m : Nat) : Int32 := foldN (fun i v => if V 7 i = m + 1 then v ||| nI 1 <<< (nI i &&& 31) else v) (V 0 1) 0 (nI 0)
def aOf (V : VR) (x y : Int32) : Int32 := if inR x (V 0 0) then (if y = nI 0 then nI (V 1 x.toNatClampNeg) else if y = nI 1 then nI (V 2 x.toNatClampNeg) else if y = nI 2 then nI (V 3 x.toNatClampNeg) else if y = nI 3 then nI (V 4 x.toNatClampNeg) else if y = nI 4 then bi (vG V x.toNatClampNeg) else if y = nI 5 then bi (vT V x.toNatClampNeg) else if y = nI 6 then crewV V x.toNatClampNeg else -1) else -1
def aAt (V : VR) (x y : Int32) : Int32 := if inR x (V 0 1) then (if y = nI 0 then nI (V 5 x.toNatClampNeg) else if y = nI 1 then nI (V 6 x.toNatClampNeg) else if y = nI 2 then sI (V 7 x.toNatClampNeg) else -1) else -1
def aDark (V : VR) (x y : Int32) : Int32 := if inR x (V 0 0) ∧ inB y 0 60 then nI (vDays V y.toNatClampNeg 1 x.toNatClampNeg) else -1
def aSize (V : VR) (x y : Int32) : Int32 := if inR x (V 0 1) ∧ inB y 0 60 then nI (vDays V y.toNatClampNeg 6 x.toNatClampNeg) else -1
def aThen (V : VR) (x y : Int32) : Int32 := if inB x 0 60 ∧ inB y 0 2 then (if y = nI 0 then goneV (vDays V x.toNatClampNeg) else if y = nI 1 then tornV (vDays V x.toNatClampNeg) else nI (vDays V x.toNatClampNeg 0 3)) else -1
theorem aDark_y {V : VR} {m n : Nat} (hm : m < V 0 0) (h6 : V 0 0 ≤ 6) (hn : n ≤ 60) : aDark V (nI m) (nI n) = nI (vDays V n 1 m) := by
  unfold aDark
  rw [if_pos ⟨inR_nI hm (by omega), inB_nI (by omega) hn (by decide)⟩, nI_clamp (by omega), nI_clamp (by omega)]
theorem aDark_n {V : VR} {x y : Int32} (h : ¬ (inR x (V 0 0) ∧ inB y 0 60)) : aDark V x y = -1 := if_neg h
theorem aSize_y {V : VR} {m n : Nat} (hm : m < V 0 1) (h6 : V 0 1 ≤ 5) (hn : n ≤ 60) : aSize V (nI m) (nI n) = nI (vDays V n 6 m) := by
  unfold aSize
  rw [if_pos ⟨inR_nI hm (by omega), inB_nI (by omega) hn (by decide)⟩, nI_clamp (by omega), nI_clamp (by omega)]
theorem aSize_n {V : VR} {x y : Int32} (h : ¬ (inR x (V 0 1) ∧ inB y 0 60)) : aSize V x y = -1 := if_neg h

theorem md_X7_hasMark : MD yX7_hasMark wsX7_hasMark 1 2 (some .boolean) := ⟨_, _, rfl, by decide, by decide +kernel, by decide +kernel, by decide +kernel⟩
theorem md_X7_foretell : MD yX7_foretell wsX7_foretell 1 3 none := ⟨_, _, rfl, by decide, by decide +kernel, by decide +kernel, by decide +kernel⟩
set_option maxRecDepth 20000 in
theorem fl_X7_dark_42 : FL RX7 wsX7_dark 42 7 7 := ⟨RX7, TX7, 12, rfl, (fun w h => List.mem_cons_of_mem _ (List.mem_append_left _ (List.mem_append_right _ h))), by decide, by decide +kernel⟩
set_option maxRecDepth 20000 in
theorem fl_X7_dark_96 : FL RX7 wsX7_dark 96 2 5 := ⟨RX2, TX2, 12, rfl, (fun w h => List.mem_cons_of_mem _ (List.mem_append_right _ h)), by decide, by decide +kernel⟩
set_option maxHeartbeats 4000000 in
set_option maxRecDepth 100000 in
theorem c_X7_dark {l : Launch} {Y : LY} {S : GS} {V : VR} (h : HC S 26 V) (ho : Ok V) {x y : Int32} : CtP l yX7_dark wsX7_dark 6 Y [.ref (ad Y 0), .int x, .int y] S (fun r u => r = aDark V x y ∧ Fr scr S u) := by
  refine mkP (cc := cX7_dark) (maxL := 3) rfl rfl (Nat.le_of_ble_eq_true rfl) ?_
  intro X hl hY C hr
  subst hl
  subst hY
  have hM : S.1 26 0 = nI (V 0 0) := h.1 0 (by decide)
  have hK : S.1 26 1 = nI (V 0 1) := h.1 1 (by decide)
  have o1 := ho.1
  have o2 := ho.2.1
  show Zj X S [some (.ref (ad (xY X) 0)), some (.int x), some (.int y)] 0 []
  refine z_aload0 C dX7_dark_0 ?_
  refine z_iload1 C dX7_dark_1 ?_
  refine z_callVI C dX7_dark_2 (c_X7_hasMark hM) gX7_dark_X7_hasMark md_X7_hasMark rfl (by decide) (k_EM _) rfl rfl rfl (Nat.le_of_ble_eq_true rfl) ?_
  refine z_if_eqB C 18 dX7_dark_5 (by decide) (fun c5 => ?_) (fun c5 => ?_)
  · refine z_iconst (v := (-1)) C dX7_dark_18 (by decide) ?_
    exact z_iretP C dX7_dark_19 hr rfl ⟨by rw [aDark_n (by rintro ⟨h1, h2⟩; contradiction)], Fr.rf⟩
  · refine z_iload2 C dX7_dark_8 ?_
    refine z_iconstN 0 C dX7_dark_9 ?_
    refine z_bipush (v := nI 60) C dX7_dark_10 (by decide) ?_
    refine z_callSI C dX7_dark_12 c_X7_within gX7_dark_X7_within md_X7_within (by decide) rfl rfl (Nat.le_of_ble_eq_true rfl) ?_
    refine z_if_neB C 20 dX7_dark_15 (by decide) (fun c15 => ?_) (fun c15 => ?_)
    · obtain ⟨m, hm, rfl⟩ := inR_of (by omega) c5
      obtain ⟨n, -, hn, rfl⟩ := inB_of (by decide) c15 (by decide)
      obtain ⟨q1, q2, q3⟩ := HC_Ft h ho n
      refine z_aload0 C dX7_dark_20 ?_
      refine z_iload2 C dX7_dark_21 ?_
      refine z_callVV C dX7_dark_22 (c_X7_foretell h ho (by omega)) gX7_dark_X7_foretell md_X7_foretell rfl (by decide) (k_EM _) rfl rfl rfl (Nat.le_of_ble_eq_true rfl) ?_
      refine z_aload0 C dX7_dark_25 ?_
      refine z_get C dX7_dark_26 fl_X7_dark_42 (k_EM _) rfl ?_
      refine z_get C dX7_dark_29 fl_X7_dark_96 (k_Rock _ isR_trial) rfl ?_
      refine z_iload1 C dX7_dark_32 ?_
      refine z_iald C dX7_dark_33 (k_dark _ isR_trial) (by omega) ?_
      exact z_iretP C dX7_dark_34 hr rfl ⟨by rw [aDark_y hm (by omega) hn]; exact (q1.2.1 m (by rw [q3 0 (by decide) (by decide)]; exact hm)).1, fr_tr cFt_fr⟩
    · refine z_iconst (v := (-1)) C dX7_dark_18 (by decide) ?_
      exact z_iretP C dX7_dark_19 hr rfl ⟨by rw [aDark_n (by rintro ⟨h1, h2⟩; contradiction)], Fr.rf⟩

theorem md_X7_hasMonk : MD yX7_hasMonk wsX7_hasMonk 1 2 (some .boolean) := ⟨_, _, rfl, by decide, by decide +kernel, by decide +kernel, by decide +kernel⟩
set_option maxRecDepth 20000 in
theorem fl_X7_size_42 : FL RX7 wsX7_size 42 7 7 := ⟨RX7, TX7, 12, rfl, (fun w h => List.mem_cons_of_mem _ (List.mem_append_left _ (List.mem_append_right _ h))), by decide, by decide +kernel⟩
set_option maxRecDepth 20000 in
theorem fl_X7_size_124 : FL RX7 wsX7_size 124 2 10 := ⟨RX2, TX2, 12, rfl, (fun w h => List.mem_cons_of_mem _ (List.mem_append_right _ h)), by decide, by decide +kernel⟩
set_option maxHeartbeats 4000000 in
set_option maxRecDepth 100000 in
theorem c_X7_size {l : Launch} {Y : LY} {S : GS} {V : VR} (h : HC S 26 V) (ho : Ok V) {x y : Int32} : CtP l yX7_size wsX7_size 6 Y [.ref (ad Y 0), .int x, .int y] S (fun r u => r = aSize V x y ∧ Fr scr S u) := by
  refine mkP (cc := cX7_size) (maxL := 3) rfl rfl (Nat.le_of_ble_eq_true rfl) ?_
  intro X hl hY C hr
  subst hl
  subst hY
  have hM : S.1 26 0 = nI (V 0 0) := h.1 0 (by decide)
  have hK : S.1 26 1 = nI (V 0 1) := h.1 1 (by decide)
  have o1 := ho.1
  have o2 := ho.2.1
  show Zj X S [some (.ref (ad (xY X) 0)), some (.int x), some (.int y)] 0 []
  refine z_aload0 C dX7_size_0 ?_
  refine z_iload1 C dX7_size_1 ?_
  refine z_callVI C dX7_size_2 (c_X7_hasMonk hK) gX7_size_X7_hasMonk md_X7_hasMonk rfl (by decide) (k_EM _) rfl rfl rfl (Nat.le_of_ble_eq_true rfl) ?_
  refine z_if_eqB C 18 dX7_size_5 (by decide) (fun c5 => ?_) (fun c5 => ?_)
  · refine z_iconst (v := (-1)) C dX7_size_18 (by decide) ?_
    exact z_iretP C dX7_size_19 hr rfl ⟨by rw [aSize_n (by rintro ⟨h1, h2⟩; contradiction)], Fr.rf⟩
  · refine z_iload2 C dX7_size_8 ?_
    refine z_iconstN 0 C dX7_size_9 ?_
    refine z_bipush (v := nI 60) C dX7_size_10 (by decide) ?_
    refine z_callSI C dX7_size_12 c_X7_within gX7_size_X7_within md_X7_within (by decide) rfl rfl (Nat.le_of_ble_eq_true rfl) ?_
    refine z_if_neB C 20 dX7_size_15 (by decide) (fun c15 => ?_) (fun c15 => ?_)
    · obtain ⟨m, hm, rfl⟩ := inR_of (by omega) c5
      obtain ⟨n, -, hn, rfl⟩ := inB_of (by decide) c15 (by decide)
      obtain ⟨q1, q2, q3⟩ := HC_Ft h ho n
      refine z_aload0 C dX7_size_20 ?_
      refine z_iload2 C dX7_size_21 ?_
      refine z_callVV C dX7_size_22 (c_X7_foretell h ho (by omega)) gX7_size_X7_foretell md_X7_foretell rfl (by decide) (k_EM _) rfl rfl rfl (Nat.le_of_ble_eq_true rfl) ?_
      refine z_aload0 C dX7_size_25 ?_
      refine z_get C dX7_size_26 fl_X7_size_42 (k_EM _) rfl ?_
      refine z_get C dX7_size_29 fl_X7_size_124 (k_Rock _ isR_trial) rfl ?_
      refine z_iload1 C dX7_size_32 ?_
      refine z_iald C dX7_size_33 (k_size _ isR_trial) (by omega) ?_
      exact z_iretP C dX7_size_34 hr rfl ⟨by rw [aSize_y hm (by omega) hn]; exact (q1.2.2 m (by rw [q3 1 (by decide) (by decide)]; exact hm)).2.1, fr_tr cFt_fr⟩
    · refine z_iconst (v := (-1)) C dX7_size_18 (by decide) ?_
      exact z_iretP C dX7_size_19 hr rfl ⟨by rw [aSize_n (by rintro ⟨h1, h2⟩; contradiction)], Fr.rf⟩
