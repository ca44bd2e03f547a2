theorem z_ldcw {X : CX} {S : GS} {lv : List (Option Value)} {pc : Nat} {st : List Value} {cc : ByteArray} {own : String} {Ts : List Cond} {d : Nat} (C : Cx X cc own Ts d) {index : Nat} {v : Int32} (hdg : decode cc pc = .ok (.ldc_w index, 3)) (hm : Cond.constant own index v ∈ Ts) (k : Zj X S lv (pc + 3) (.int v :: st)) : Zj X S lv pc st := fun H locs ls hP hS hl => lv_ldcw C.1 C.2.1 C.2.2.2.1 (C.2.2.2.2.1 _ hm) hdg (k H locs ls hP hS hl)
abbrev okIt (x : Int64) : Prop := 1 ≤ x.toInt ∧ x.toInt ≤ 9
def hN (x : Int64) : Nat := x.toInt.toNat
theorem okIt_h {x : Int64} (h : okIt x) : x.toInt32 = nI (hN x) ∧ 1 ≤ hN x ∧ hN x ≤ 9 := by
  obtain ⟨h1, h2⟩ := h
  unfold hN
  refine ⟨?_, by omega, by omega⟩
  apply Int32.toInt_inj.mp
  rw [Int64.toInt_toInt32, nI_toInt (by omega), Int.bmod_eq_of_le (by omega) (by omega)]
  omega
theorem okIt_c {x : Int64} (h1 : ¬ lg_cmp x 1 < 0) (h2 : lg_cmp x 9 ≤ 0) : okIt x := by
  rw [cmp_lt, Int64.lt_iff_toInt_lt] at h1
  rw [cmp_le, Int64.lt_iff_toInt_lt] at h2
  have e1 : (1 : Int64).toInt = 1 := rfl
  have e9 : (9 : Int64).toInt = 9 := rfl
  omega
theorem okIt_n1 {x : Int64} (h1 : lg_cmp x 1 < 0) : ¬ okIt x := by
  rw [cmp_lt, Int64.lt_iff_toInt_lt] at h1
  have e1 : (1 : Int64).toInt = 1 := rfl
  rintro ⟨a, b⟩
  omega
theorem okIt_n2 {x : Int64} (h2 : ¬ lg_cmp x 9 ≤ 0) : ¬ okIt x := by
  rw [cmp_le, Int64.lt_iff_toInt_lt] at h2
  have e9 : (9 : Int64).toInt = 9 := rfl
  rintro ⟨a, b⟩
  omega
theorem okIt_i {x : Int64} : ((1 : Int64) ≤ x ∧ x ≤ 9) ↔ okIt x := by
  rw [Int64.le_iff_toInt_le, Int64.le_iff_toInt_le]
  exact Iff.rfl
def HD (S : GS) (o n : Nat) (D : Nat → Nat) : Prop := ∀ v, v ≤ n → S.1 o v = nI (D v) ∧ D v < 1000003
def swR (h : Nat) (c v : Nat) (D : Nat → Nat) : Nat → Nat := foldN (fun v D => qu D v ((D v + D (v - h)) % 1000003)) c v D
def swD0 : Nat → Nat := fun v => if v = 0 then 1 else 0
def swA (it : Nat → Int64) (i n : Nat) (k e : Nat) (D : Nat → Nat) : Nat → Nat := foldN (fun e D => swR (hN (it (i + e))) (n + 1 - hN (it (i + e))) (hN (it (i + e))) D) k e D
def aSwept (q : SQ) (n s l i k : Int32) : Int32 := if inB n 0 99 ∧ (inB s 0 3 ∧ inB l 0 3) ∧ inB k 1 5 then (if 0 ≤ aLook q s.toNatClampNeg l i k then (if ∀ e, e < k.toNatClampNeg → okIt (q.2.2.2 s.toNatClampNeg (i.toNatClampNeg + e)) then nI (swA (q.2.2.2 s.toNatClampNeg) i.toNatClampNeg n.toNatClampNeg k.toNatClampNeg 0 swD0 n.toNatClampNeg) else -2) else aLook q s.toNatClampNeg l i k) else -1
theorem aSwept_n {q : SQ} {n s l i k : Int32} (h : ¬ (inB n 0 99 ∧ (inB s 0 3 ∧ inB l 0 3) ∧ inB k 1 5)) : aSwept q n s l i k = -1 := if_neg h
theorem aSwept_l {q : SQ} {n l i k : Int32} {j : Nat} (hj : j < 4) (h1 : inB n 0 99) (h2 : inB l 0 3) (h3 : inB k 1 5) (h : ¬ 0 ≤ aLook q j l i k) : aSwept q n (nI j) l i k = aLook q j l i k := by
  unfold aSwept
  rw [if_pos ⟨h1, ⟨inB_nI (by omega) (by omega) (by decide), h2⟩, h3⟩, nI_clamp (by omega), if_neg h]
theorem aSwept_y {q : SQ} {n j i k : Nat} {l : Int32} (hj : j < 4) (h1 : n ≤ 99) (h2 : inB l 0 3) (h3 : 1 ≤ k) (h4 : k ≤ 5) (hi : i ≤ 24) (h : 0 ≤ aLook q j l (nI i) (nI k)) : aSwept q (nI n) (nI j) l (nI i) (nI k) = if ∀ e, e < k → okIt (q.2.2.2 j (i + e)) then nI (swA (q.2.2.2 j) i n k 0 swD0 n) else -2 := by
  unfold aSwept
  simp only [nI_clamp (show j < 2 ^ 31 by omega), nI_clamp (show n < 2 ^ 31 by omega), nI_clamp (show i < 2 ^ 31 by omega), nI_clamp (show k < 2 ^ 31 by omega)]
  rw [if_pos ⟨inB_nI (by omega) h1 (by decide), ⟨inB_nI (by omega) (by omega) (by decide), h2⟩, inB_nI h3 h4 (by decide)⟩, if_pos h]
theorem HD_st {S : GS} {o n v x : Nat} {D : Nat → Nat} (h : HD S o n D) (hx : x < 1000003) : HD (stI S o v (nI x)) o n (qu D v x) := by
  intro u hu
  by_cases c : u = v
  · subst c
    rw [stI_me, qu_me]
    exact ⟨rfl, hx⟩
  · rw [stI_ni c, qu_no c]
    exact h u hu

set_option maxRecDepth 20000 in
theorem fl_X7_waysTogether_66 : FL RX7 wsX7_waysTogether 66 7 11 := ⟨RX7, TX7, 12, rfl, (fun w h => List.mem_cons_of_mem _ (List.mem_append_right _ h)), by decide, by decide +kernel⟩
set_option maxHeartbeats 4000000 in
set_option maxRecDepth 100000 in
theorem la_X7_ways {X : CX} {S : GS} {N j i k : Nat} (hN : N ≤ 99) (hj : j < 4) (C : Cx X cX7_waysTogether RX7 wsX7_waysTogether 1) : ∀ (n : Nat) (c : Nat) (T : GS), c + n = N + 1 → (∀ v, v < c → T.1 10 v = nI 0) → Fr scr S T → (∀ U : GS, (∀ v, v ≤ N → U.1 10 v = nI 0) → Fr scr S U → Zj X U [some (.ref (ad (xY X) 0)), some (.int (nI (N))), some (.ref (ad (xY X) (14 + 2 * j + 1))), some (.int (nI (i))), some (.int (nI (k))), some (.int (nI (N + 1))), none, none] 23 []) → Zj X T [some (.ref (ad (xY X) 0)), some (.int (nI (N))), some (.ref (ad (xY X) (14 + 2 * j + 1))), some (.int (nI (i))), some (.int (nI (k))), some (.int (nI (c))), none, none] 3 [] := by
  intro n
  induction n with
  | zero =>
    intro c T hc h0 hf kk
    obtain rfl : c = N + 1 := by omega
    refine z_iload5 C dX7_waysTogether_3 ?_
    refine z_iload1 C dX7_waysTogether_5 ?_
    refine z_icmp_gtN C 23 dX7_waysTogether_6 (by decide) (by omega) (by omega) (fun c6 => ?_) (fun c6 => ?_)
    · exact kk T (fun v hv => h0 v (by omega)) hf
    · exact absurd c6 (by omega)
  | succ n ih =>
    intro c T hc h0 hf kk
    refine z_iload5 C dX7_waysTogether_3 ?_
    refine z_iload1 C dX7_waysTogether_5 ?_
    refine z_icmp_gtN C 23 dX7_waysTogether_6 (by decide) (by omega) (by omega) (fun c6 => ?_) (fun c6 => ?_)
    · exact absurd c6 (by omega)
    · refine z_aload0 C dX7_waysTogether_9 ?_
      refine z_get C dX7_waysTogether_10 fl_X7_waysTogether_66 (k_EM _) rfl ?_
      refine z_iload5 C dX7_waysTogether_13 ?_
      refine z_iconstN 0 C dX7_waysTogether_15 ?_
      refine z_iast C dX7_waysTogether_16 (k_i10 _) (by omega) ?_
      refine z_iinc5 C dX7_waysTogether_17 (inc1 _) nl_i ?_
      refine z_goto C 3 dX7_waysTogether_20 (by decide) ?_
      refine ih (c + 1) _ (by omega) (fun v hv => ?_) (hf.tr (Fr.I (by omega))) kk
      by_cases z : v = c
      · subst z
        exact stI_me _ _ _ _
      · rw [stI_ni z]
        exact h0 v (by omega)

theorem kc_X7_waysTogether_310 : Cond.constant RX7 310 (1000003) ∈ wsX7_waysTogether := by decide +kernel
set_option maxHeartbeats 4000000 in
set_option maxRecDepth 100000 in
theorem lc_X7_ways {X : CX} {S : GS} {N j i k e h : Nat} (hN : N ≤ 99) (hj : j < 4) (h1 : 1 ≤ h) (h9 : h ≤ 9) (C : Cx X cX7_waysTogether RX7 wsX7_waysTogether 1) : ∀ (n : Nat) (v : Nat) (T : GS) (D : Nat → Nat), (v + n = N + 1 ∨ (n = 0 ∧ N < v ∧ v ≤ 9)) → h ≤ v → HD T 10 N D → Fr scr S T → (∀ U v', HD U 10 N (swR h n v D) → Fr scr S U → Zj X U [some (.ref (ad (xY X) 0)), some (.int (nI (N))), some (.ref (ad (xY X) (14 + 2 * j + 1))), some (.int (nI (i))), some (.int (nI (k))), some (.int (nI (e))), some (.int (nI (h))), some (.int (nI (v')))] 94 []) → Zj X T [some (.ref (ad (xY X) 0)), some (.int (nI (N))), some (.ref (ad (xY X) (14 + 2 * j + 1))), some (.int (nI (i))), some (.int (nI (k))), some (.int (nI (e))), some (.int (nI (h))), some (.int (nI (v)))] 53 [] := by
  intro n
  induction n with
  | zero =>
    intro v T D hv hl hD hf kk
    refine z_iload7 C dX7_waysTogether_53 ?_
    refine z_iload1 C dX7_waysTogether_55 ?_
    refine z_icmp_gtN C 94 dX7_waysTogether_56 (by decide) (by omega) (by omega) (fun c56 => ?_) (fun c56 => ?_)
    · exact kk T v hD hf
    · exact absurd c56 (by omega)
  | succ n ih =>
    intro v T D hv hl hD hf kk
    have v1 : v ≤ N := by omega
    have d1 := hD v v1
    have d2 := hD (v - h) (by omega)
    refine z_iload7 C dX7_waysTogether_53 ?_
    refine z_iload1 C dX7_waysTogether_55 ?_
    refine z_icmp_gtN C 94 dX7_waysTogether_56 (by decide) (by omega) (by omega) (fun c56 => ?_) (fun c56 => ?_)
    · exact absurd c56 (by omega)
    · refine z_aload0 C dX7_waysTogether_59 ?_
      refine z_get C dX7_waysTogether_60 fl_X7_waysTogether_66 (k_EM _) rfl ?_
      refine z_iload7 C dX7_waysTogether_63 ?_
      refine z_aload0 C dX7_waysTogether_65 ?_
      refine z_get C dX7_waysTogether_66 fl_X7_waysTogether_66 (k_EM _) rfl ?_
      refine z_iload7 C dX7_waysTogether_69 ?_
      refine z_iald C dX7_waysTogether_71 (k_i10 _) (by omega) ?_
      refine z_top C d1.1 ?_
      refine z_aload0 C dX7_waysTogether_72 ?_
      refine z_get C dX7_waysTogether_73 fl_X7_waysTogether_66 (k_EM _) rfl ?_
      refine z_iload7 C dX7_waysTogether_76 ?_
      refine z_iload6 C dX7_waysTogether_78 ?_
      refine z_isubN C dX7_waysTogether_80 hl ?_
      refine z_iald C dX7_waysTogether_81 (k_i10 _) (by omega) ?_
      refine z_top C d2.1 ?_
      refine z_iaddN C dX7_waysTogether_82 ?_
      refine z_ldcw (v := 1000003) C dX7_waysTogether_83 kc_X7_waysTogether_310 ?_
      refine z_top (y := nI 1000003) C (by decide) ?_
      refine z_iremN C dX7_waysTogether_86 (by omega) (by decide) (by decide) ?_
      refine z_iast C dX7_waysTogether_87 (k_i10 _) (by omega) ?_
      refine z_iinc7 C dX7_waysTogether_88 (inc1 _) nl_i ?_
      refine z_goto C 53 dX7_waysTogether_91 (by decide) ?_
      exact ih (v + 1) _ _ (by omega) (by omega) (HD_st hD (Nat.mod_lt _ (by decide))) (hf.tr (Fr.I (by omega))) kk

set_option maxHeartbeats 4000000 in
set_option maxRecDepth 100000 in
theorem lb_X7_ways {X : CX} {S : GS} {it : Nat → Int64} {N j i k : Nat} (hNN : N ≤ 99) (hj : j < 4) (hi : i + k ≤ 24) (hk : 1 ≤ k) (hit : ∀ e, e < 24 → S.2 (14 + 2 * j + 1) e = it e) (hok : ∀ e, e < k → okIt (it (i + e))) (hr : RtP X .int (fun r u => r = nI (swA it i N k 0 swD0 N) ∧ Fr scr S u)) (C : Cx X cX7_waysTogether RX7 wsX7_waysTogether 1) : ∀ (n : Nat) (e : Nat) (T : GS) (D : Nat → Nat) (x6 x7 : Option Value), e + n = k → nl x6 → HD T 10 N D → Fr scr S T → swA it i N k 0 swD0 = swA it i N n e D → Zj X T [some (.ref (ad (xY X) 0)), some (.int (nI (N))), some (.ref (ad (xY X) (14 + 2 * j + 1))), some (.int (nI (i))), some (.int (nI (k))), some (.int (nI (i + e))), x6, x7] 33 [] := by
  intro n
  induction n with
  | zero =>
    intro e T D x6 x7 he hx hD hf hg
    obtain rfl : e = k := by omega
    have d0 := (hD N (Nat.le_refl _)).1
    refine z_iload5 C dX7_waysTogether_33 ?_
    refine z_iload3 C dX7_waysTogether_35 ?_
    refine z_iload4 C dX7_waysTogether_36 ?_
    refine z_iaddN C dX7_waysTogether_38 ?_
    refine z_icmp_geN C 100 dX7_waysTogether_39 (by decide) (by omega) (by omega) (fun c39 => ?_) (fun c39 => ?_)
    · refine z_aload0 C dX7_waysTogether_100 ?_
      refine z_get C dX7_waysTogether_101 fl_X7_waysTogether_66 (k_EM _) rfl ?_
      refine z_iload1 C dX7_waysTogether_104 ?_
      refine z_iald C dX7_waysTogether_105 (k_i10 _) (by omega) ?_
      exact z_iretP C dX7_waysTogether_106 hr rfl ⟨by rw [hg]; exact d0, hf⟩
    · exact absurd c39 (by omega)
  | succ n ih =>
    intro e T D x6 x7 he hx hD hf hg
    have o0 := hok e (by omega)
    obtain ⟨e1, e2, e3⟩ := okIt_h o0
    have e4 : T.2 (14 + 2 * j + 1) (i + e) = it (i + e) := by rw [hf.2]; exact hit _ (by omega)
    refine z_iload5 C dX7_waysTogether_33 ?_
    refine z_iload3 C dX7_waysTogether_35 ?_
    refine z_iload4 C dX7_waysTogether_36 ?_
    refine z_iaddN C dX7_waysTogether_38 ?_
    refine z_icmp_geN C 100 dX7_waysTogether_39 (by decide) (by omega) (by omega) (fun c39 => ?_) (fun c39 => ?_)
    · exact absurd c39 (by omega)
    · refine z_aload2 C dX7_waysTogether_42 ?_
      refine z_iload5 C dX7_waysTogether_43 ?_
      refine z_lald C dX7_waysTogether_45 (k_items _ hj) (by omega) ?_
      refine z_topl C e4 ?_
      refine z_l2i C dX7_waysTogether_46 ?_
      refine z_top C e1 ?_
      refine z_istore6 C dX7_waysTogether_47 nl_i ?_
      refine z_iload6 C dX7_waysTogether_49 ?_
      refine z_istore7 C dX7_waysTogether_51 nl_i ?_
      refine lc_X7_ways (S := S) hNN hj e2 e3 C (N + 1 - hN (it (i + e))) _ _ D (by omega) (Nat.le_refl _) hD hf (fun U v2 hU hfU => ?_)
      refine z_iinc5 C dX7_waysTogether_94 (inc1 _) nl_i ?_
      refine z_goto C 33 dX7_waysTogether_97 (by decide) ?_
      exact ih (e + 1) _ _ _ _ (by omega) nl_i hU hfU hg

set_option maxHeartbeats 4000000 in
set_option maxRecDepth 100000 in
theorem c_X7_waysTogether {l : Launch} {Y : LY} {S : GS} {it : Nat → Int64} {N j i k : Nat} (hNN : N ≤ 99) (hj : j < 4) (hi : i + k ≤ 24) (hk : 1 ≤ k) (hit : ∀ e, e < 24 → S.2 (14 + 2 * j + 1) e = it e) (hok : ∀ e, e < k → okIt (it (i + e))) : CtP l yX7_waysTogether wsX7_waysTogether 1 Y [.ref (ad Y 0), .int (nI N), .ref (ad Y (14 + 2 * j + 1)), .int (nI i), .int (nI k)] S (fun r u => r = nI (swA it i N k 0 swD0 N) ∧ Fr scr S u) := by
  refine mkP (cc := cX7_waysTogether) (maxL := 8) rfl rfl (Nat.le_of_ble_eq_true rfl) ?_
  intro X hl hY C hr
  subst hl
  subst hY
  show Zj X S [some (.ref (ad (xY X) 0)), some (.int (nI N)), some (.ref (ad (xY X) (14 + 2 * j + 1))), some (.int (nI i)), some (.int (nI k)), none, none, none] 0 []
  refine z_iconstN 0 C dX7_waysTogether_0 ?_
  refine z_istore5 C dX7_waysTogether_1 nl_i ?_
  refine la_X7_ways (S := S) hNN hj C (N + 1) 0 _ (by omega) (fun v hv => absurd hv (by omega)) Fr.rf (fun U hU hfU => ?_)
  refine z_aload0 C dX7_waysTogether_23 ?_
  refine z_get C dX7_waysTogether_24 fl_X7_waysTogether_66 (k_EM _) rfl ?_
  refine z_iconstN 0 C dX7_waysTogether_27 ?_
  refine z_iconstN 1 C dX7_waysTogether_28 ?_
  refine z_iast C dX7_waysTogether_29 (k_i10 _) (by omega) ?_
  refine z_iload3 C dX7_waysTogether_30 ?_
  refine z_istore5 C dX7_waysTogether_31 nl_i ?_
  exact lb_X7_ways hNN hj hi hk hit hok hr C k 0 _ swD0 none none (by omega) nl_n (fun v hv => by
    unfold swD0
    by_cases z : v = 0
    · subst z
      rw [stI_me]
      exact ⟨rfl, by decide⟩
    · rw [stI_ni z, hU v hv, if_neg z]
      exact ⟨rfl, by decide⟩) (hfU.tr (Fr.I (by omega))) rfl

theorem md_X7_waysTogether : MD yX7_waysTogether wsX7_waysTogether 4 8 (some .int) := ⟨_, _, rfl, by decide, by decide +kernel, by decide +kernel, by decide +kernel⟩
theorem kl_X7_swept_273 : Cond.constantLong RX7 273 (9) ∈ wsX7_swept := by decide +kernel
set_option maxHeartbeats 4000000 in
set_option maxRecDepth 100000 in
theorem lp_X7_swept {X : CX} {S : GS} {q : SQ} {N j i k : Nat} {l x6 : Int32} (hj : j < 4) (hNN : N ≤ 99) (h2 : inB l 0 3) (hk1 : 1 ≤ k) (hk : k ≤ 5) (hi : i + k ≤ 24) (hl : 0 ≤ aLook q j l (nI i) (nI k)) (hQ : QC S q) (hr : RtP X .int (fun r u => r = aSwept q (nI N) (nI j) l (nI i) (nI k) ∧ Fr scr S u)) (C : Cx X cX7_swept RX7 wsX7_swept 3) : ∀ (n : Nat) (e : Nat), e + n = k → (∀ c, c < e → okIt (q.2.2.2 j (i + c))) → Zj X S [some (.ref (ad (xY X) 0)), some (.int (nI (N))), some (.int (nI (j))), some (.int (l)), some (.int (nI (i))), some (.int (nI (k))), some (.int (x6)), some (.ref (ad (xY X) (14 + 2 * j + 1))), some (.int (nI (i + e)))] 65 [] := by
  intro n
  induction n with
  | zero =>
    intro e he hok
    obtain rfl : e = k := by omega
    refine z_iload8 C dX7_swept_65 ?_
    refine z_iload4 C dX7_swept_67 ?_
    refine z_iload5 C dX7_swept_69 ?_
    refine z_iaddN C dX7_swept_71 ?_
    refine z_icmp_geN C 106 dX7_swept_72 (by decide) (by omega) (by omega) (fun c72 => ?_) (fun c72 => ?_)
    · refine z_aload0 C dX7_swept_106 ?_
      refine z_iload1 C dX7_swept_107 ?_
      refine z_aload7 C dX7_swept_108 ?_
      refine z_iload4 C dX7_swept_110 ?_
      refine z_iload5 C dX7_swept_112 ?_
      refine z_callVP C dX7_swept_114 (c_X7_waysTogether hNN hj hi hk1 (hQ j hj).2.2.2 hok) gX7_swept_X7_waysTogether md_X7_waysTogether rfl (by decide) (k_EM _) rfl rfl rfl (Nat.le_of_ble_eq_true rfl) ?_
      intro r0 S0 hS0
      exact z_iretP C dX7_swept_117 hr rfl ⟨by rw [aSwept_y hj hNN h2 hk1 hk (by omega) hl, if_pos hok]; exact hS0.1, hS0.2⟩
    · exact absurd c72 (by omega)
  | succ n ih =>
    intro e he hok
    have w := (hQ j hj).2.2.2 (i + e) (by omega)
    refine z_iload8 C dX7_swept_65 ?_
    refine z_iload4 C dX7_swept_67 ?_
    refine z_iload5 C dX7_swept_69 ?_
    refine z_iaddN C dX7_swept_71 ?_
    refine z_icmp_geN C 106 dX7_swept_72 (by decide) (by omega) (by omega) (fun c72 => ?_) (fun c72 => ?_)
    · exact absurd c72 (by omega)
    · refine z_aload7 C dX7_swept_75 ?_
      refine z_iload8 C dX7_swept_77 ?_
      refine z_lald C dX7_swept_79 (k_items _ hj) (by omega) ?_
      refine z_topl C w ?_
      refine z_lconst (v := 1) C dX7_swept_80 rfl ?_
      refine z_lcmp C dX7_swept_81 ?_
      refine z_if_lt C 97 dX7_swept_82 (by decide) (fun c82 => ?_) (fun c82 => ?_)
      · refine z_bipush (v := (-2)) C dX7_swept_97 (by decide) ?_
        exact z_iretP C dX7_swept_99 hr rfl ⟨by rw [aSwept_y hj hNN h2 hk1 hk (by omega) hl, if_neg (fun z => by first | exact okIt_n1 c82 (z e (by omega)) | exact okIt_n2 c94 (z e (by omega)))], Fr.rf⟩
      · refine z_aload7 C dX7_swept_85 ?_
        refine z_iload8 C dX7_swept_87 ?_
        refine z_lald C dX7_swept_89 (k_items _ hj) (by omega) ?_
        refine z_topl C w ?_
        refine z_ldc2 (v := 9) C dX7_swept_90 kl_X7_swept_273 ?_
        refine z_lcmp C dX7_swept_93 ?_
        refine z_if_le C 100 dX7_swept_94 (by decide) (fun c94 => ?_) (fun c94 => ?_)
        · refine z_iinc8 C dX7_swept_100 (inc1 _) nl_r ?_
          refine z_goto C 65 dX7_swept_103 (by decide) ?_
          refine ih (e + 1) (by omega) (fun c hc => ?_)
          by_cases z : c = e
          · subst z
            exact okIt_c c82 c94
          · exact hok c (by omega)
        · refine z_bipush (v := (-2)) C dX7_swept_97 (by decide) ?_
          exact z_iretP C dX7_swept_99 hr rfl ⟨by rw [aSwept_y hj hNN h2 hk1 hk (by omega) hl, if_neg (fun z => by first | exact okIt_n1 c82 (z e (by omega)) | exact okIt_n2 c94 (z e (by omega)))], Fr.rf⟩

set_option maxRecDepth 20000 in
theorem fl_X7_swept_38 : FL RX7 wsX7_swept 38 7 6 := ⟨RX7, TX7, 12, rfl, (fun w h => List.mem_cons_of_mem _ (List.mem_append_left _ (List.mem_append_right _ h))), by decide, by decide +kernel⟩
set_option maxRecDepth 20000 in
theorem fl_X7_swept_269 : FL RX7 wsX7_swept 269 5 3 := ⟨RX5, TX5, 4, rfl, (fun w h => List.mem_cons_of_mem _ (List.mem_append_right _ h)), by decide, by decide +kernel⟩
set_option maxHeartbeats 4000000 in
set_option maxRecDepth 100000 in
theorem c_X7_swept {l : Launch} {Y : LY} {S : GS} {q : SQ} (hQ : QC S q) (hO : QOk q) {x s ln i k : Int32} : CtP l yX7_swept wsX7_swept 3 Y [.ref (ad Y 0), .int x, .int s, .int ln, .int i, .int k] S (fun r u => r = aSwept q x s ln i k ∧ Fr scr S u) := by
  refine mkP (cc := cX7_swept) (maxL := 9) rfl rfl (Nat.le_of_ble_eq_true rfl) ?_
  intro X hl hY C hr
  subst hl
  subst hY
  show Zj X S [some (.ref (ad (xY X) 0)), some (.int x), some (.int s), some (.int ln), some (.int i), some (.int k), none, none, none] 0 []
  refine z_iload1 C dX7_swept_0 ?_
  refine z_iconstN 0 C dX7_swept_1 ?_
  refine z_bipush (v := nI 99) C dX7_swept_2 (by decide) ?_
  refine z_callSI C dX7_swept_4 c_X7_within gX7_swept_X7_within md_X7_within (by decide) rfl rfl (Nat.le_of_ble_eq_true rfl) ?_
  refine z_if_eqB C 28 dX7_swept_7 (by decide) (fun c7 => ?_) (fun c7 => ?_)
  · refine z_iconst (v := (-1)) C dX7_swept_28 (by decide) ?_
    exact z_iretP C dX7_swept_29 hr rfl ⟨by rw [aSwept_n (by rintro ⟨h1, h2, h3⟩; contradiction)], Fr.rf⟩
  · refine z_iload2 C dX7_swept_10 ?_
    refine z_iload3 C dX7_swept_11 ?_
    refine z_callSI C dX7_swept_12 c_X7_isSheet gX7_swept_X7_isSheet md_X7_isSheet (by decide) rfl rfl (Nat.le_of_ble_eq_true rfl) ?_
    refine z_if_eqB C 28 dX7_swept_15 (by decide) (fun c15 => ?_) (fun c15 => ?_)
    · refine z_iconst (v := (-1)) C dX7_swept_28 (by decide) ?_
      exact z_iretP C dX7_swept_29 hr rfl ⟨by rw [aSwept_n (by rintro ⟨h1, h2, h3⟩; contradiction)], Fr.rf⟩
    · refine z_iload5 C dX7_swept_18 ?_
      refine z_iconstN 1 C dX7_swept_20 ?_
      refine z_iconstN 5 C dX7_swept_21 ?_
      refine z_callSI C dX7_swept_22 c_X7_within gX7_swept_X7_within md_X7_within (by decide) rfl rfl (Nat.le_of_ble_eq_true rfl) ?_
      refine z_if_neB C 30 dX7_swept_25 (by decide) (fun c25 => ?_) (fun c25 => ?_)
      · obtain ⟨N, -, hNN, rfl⟩ := inB_of (by decide) c7 (by decide)
        obtain ⟨j, -, hj3, rfl⟩ := inB_of (by decide) c15.1 (by decide)
        obtain ⟨k, hk1, hk, rfl⟩ := inB_of (by decide) c25 (by decide)
        have hj : j < 4 := by omega
        refine z_aload0 C dX7_swept_30 ?_
        refine z_iload2 C dX7_swept_31 ?_
        refine z_iload3 C dX7_swept_32 ?_
        refine z_iload4 C dX7_swept_33 ?_
        refine z_iload5 C dX7_swept_35 ?_
        refine z_callVI C dX7_swept_37 (c_X7_lookAt hQ hO hj) gX7_swept_X7_lookAt md_X7_lookAt rfl (by decide) (k_EM _) rfl rfl rfl (Nat.le_of_ble_eq_true rfl) ?_
        refine z_istore6 C dX7_swept_40 nl_i ?_
        refine z_iload6 C dX7_swept_42 ?_
        refine z_if_ge C 50 dX7_swept_44 (by decide) (fun c44 => ?_) (fun c44 => ?_)
        · obtain ⟨-, -, i, rfl, hi⟩ := aLook_n (show k ≤ 24 by omega) hO hj c44
          refine z_aload0 C dX7_swept_50 ?_
          refine z_get C dX7_swept_51 fl_X7_swept_38 (k_EM _) rfl ?_
          refine z_iload2 C dX7_swept_54 ?_
          refine z_aald3 C dX7_swept_55 (k_r13 _) hj ?_
          refine z_get C dX7_swept_56 fl_X7_swept_269 (k_Sheet _ hj) rfl ?_
          refine z_astore7 C dX7_swept_59 nl_i ?_
          refine z_iload4 C dX7_swept_61 ?_
          refine z_istore8 C dX7_swept_63 nl_r ?_
          exact lp_X7_swept hj hNN c15.2 hk1 hk hi c44 hQ hr C k 0 (by omega) (fun c hc => absurd hc (by omega))
        · refine z_iload6 C dX7_swept_47 ?_
          exact z_iretP C dX7_swept_49 hr rfl ⟨by rw [aSwept_l hj c7 c15.2 c25 c44], Fr.rf⟩
      · refine z_iconst (v := (-1)) C dX7_swept_28 (by decide) ?_
        exact z_iretP C dX7_swept_29 hr rfl ⟨by rw [aSwept_n (by rintro ⟨h1, h2, h3⟩; contradiction)], Fr.rf⟩
