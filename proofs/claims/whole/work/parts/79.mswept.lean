theorem inl_w {v a b : Int64} (h1 : ¬ lg_cmp v a < 0) (h2 : ¬ 0 < lg_cmp v b) : a ≤ v ∧ v ≤ b := by
  rw [cmp_lt, Int64.lt_iff_toInt_lt] at h1
  rw [cmp_gt, Int64.lt_iff_toInt_lt] at h2
  rw [Int64.le_iff_toInt_le, Int64.le_iff_toInt_le]
  omega
theorem inl_n1 {v a b : Int64} (h1 : lg_cmp v a < 0) : ¬ (a ≤ v ∧ v ≤ b) := by
  rw [cmp_lt, Int64.lt_iff_toInt_lt] at h1
  rw [Int64.le_iff_toInt_le, Int64.le_iff_toInt_le]
  omega
theorem inl_n2 {v a b : Int64} (h2 : 0 < lg_cmp v b) : ¬ (a ≤ v ∧ v ≤ b) := by
  rw [cmp_gt, Int64.lt_iff_toInt_lt] at h2
  rw [Int64.le_iff_toInt_le, Int64.le_iff_toInt_le]
  omega

set_option maxHeartbeats 4000000 in
set_option maxRecDepth 100000 in
theorem c_X8_inL {l : Launch} {Y : LY} {S : GS} {v a b : Int64} : CtI l yX8_in wsX8_in 1 Y [.long v, .long a, .long b] S (bi (a ≤ v ∧ v ≤ b)) (S) := by
  refine mkI (cc := cX8_in) (maxL := 6) rfl rfl (Nat.le_of_ble_eq_true rfl) ?_
  intro X hl hY C hr
  subst hl
  subst hY
  show Zj X S [some (.long v), none, some (.long a), none, some (.long b), none] 0 []
  refine z_lload0 C dX8_in_0 ?_
  refine z_lload2 C dX8_in_1 ?_
  refine z_lcmp C dX8_in_2 ?_
  refine z_if_lt C 17 dX8_in_3 (by decide) (fun c3 => ?_) (fun c3 => ?_)
  · refine z_iconstN 0 C dX8_in_17 ?_
    exact z_iret C dX8_in_18 hr bi_nar (b0 (by first | exact inl_n1 c3 | exact inl_n2 c10)) rfl
  · refine z_lload0 C dX8_in_6 ?_
    refine z_lload4 C dX8_in_7 ?_
    refine z_lcmp C dX8_in_9 ?_
    refine z_if_gt C 17 dX8_in_10 (by decide) (fun c10 => ?_) (fun c10 => ?_)
    · refine z_iconstN 0 C dX8_in_17 ?_
      exact z_iret C dX8_in_18 hr bi_nar (b0 (by first | exact inl_n1 c3 | exact inl_n2 c10)) rfl
    · refine z_iconstN 1 C dX8_in_13 ?_
      refine z_goto C 18 dX8_in_14 (by decide) ?_
      exact z_iret C dX8_in_18 hr bi_nar (b1 (inl_w c3 c10)) rfl

theorem FrM.I188 {S : GS} {i : Nat} {v : Int32} : FrM S (stI S 188 i v) := ⟨fun o _ b => stI_no (by omega), fun i _ => by rw [stI_no (by decide)], fun _ _ => rfl⟩

set_option maxRecDepth 20000 in
theorem fl_X8_swept_38 : FL RX8 wsX8_swept 38 8 13 := ⟨RX8, TX8, 15, rfl, (fun w h => List.mem_cons_of_mem _ (List.mem_append_right _ h)), by decide, by decide +kernel⟩
set_option maxHeartbeats 4000000 in
set_option maxRecDepth 100000 in
theorem la_X8_swept {X : CX} {S : GS} {N j i k : Nat} {l x6 : Int32} (hNN : N ≤ 99) (C : Cx X cX8_swept RX8 wsX8_swept 4) : ∀ (n : Nat) (c : Nat) (T : GS), c + n = N + 1 → (∀ v, v < c → T.1 188 v = nI (swD0 v)) → FrM S T → (∀ U : GS, HD U 188 N swD0 → FrM S U → Zj X U [some (.ref (ad (xY X) 178)), some (.int (nI (N))), some (.int (nI (j))), some (.int (l)), some (.int (nI (i))), some (.int (nI (k))), some (.int (x6)), some (.int (nI (N + 1))), none, none] 131 []) → Zj X T [some (.ref (ad (xY X) 178)), some (.int (nI (N))), some (.int (nI (j))), some (.int (l)), some (.int (nI (i))), some (.int (nI (k))), some (.int (x6)), some (.int (nI (c))), none, none] 102 [] := by
  intro n
  induction n with
  | zero =>
    intro c T hc h0 hf kk
    obtain rfl : c = N + 1 := by omega
    refine z_iload7 C dX8_swept_102 ?_
    refine z_iload1 C dX8_swept_104 ?_
    refine z_icmp_gtN C 131 dX8_swept_105 (by decide) (by omega) (by omega) (fun c105 => ?_) (fun c105 => ?_)
    · exact kk T (fun v hv => ⟨h0 v (by omega), by unfold swD0; split <;> omega⟩) hf
    · exact absurd c105 (by omega)
  | succ n ih =>
    intro c T hc h0 hf kk
    refine z_iload7 C dX8_swept_102 ?_
    refine z_iload1 C dX8_swept_104 ?_
    refine z_icmp_gtN C 131 dX8_swept_105 (by decide) (by omega) (by omega) (fun c105 => ?_) (fun c105 => ?_)
    · exact absurd c105 (by omega)
    · refine z_aload0 C dX8_swept_108 ?_
      refine z_get C dX8_swept_109 fl_X8_swept_38 (k_Model _) rfl ?_
      refine z_iload7 C dX8_swept_112 ?_
      refine z_iload7 C dX8_swept_114 ?_
      refine z_if_neN C 123 dX8_swept_116 (by decide) (by omega) (fun c116 => ?_) (fun c116 => ?_)
      · refine z_iconstN 0 C dX8_swept_123 ?_
        refine z_iast C dX8_swept_124 (k_i188 _) (by omega) ?_
        refine z_iinc7 C dX8_swept_125 (inc1 _) nl_i ?_
        refine z_goto C 102 dX8_swept_128 (by decide) ?_
        refine ih (c + 1) _ (by omega) (fun v hv => ?_) (hf.tr FrM.I188) kk
        by_cases z : v = c
        · subst z
          rw [stI_me]
          unfold swD0
          rw [if_neg (by omega)]
        · rw [stI_ni z]
          exact h0 v (by omega)
      · refine z_iconstN 1 C dX8_swept_119 ?_
        refine z_goto C 124 dX8_swept_120 (by decide) ?_
        refine z_iast C dX8_swept_124 (k_i188 _) (by omega) ?_
        refine z_iinc7 C dX8_swept_125 (inc1 _) nl_i ?_
        refine z_goto C 102 dX8_swept_128 (by decide) ?_
        refine ih (c + 1) _ (by omega) (fun v hv => ?_) (hf.tr FrM.I188) kk
        by_cases z : v = c
        · subst z
          rw [stI_me]
          unfold swD0
          rw [if_pos (by omega)]
        · rw [stI_ni z]
          exact h0 v (by omega)

theorem kc_X8_swept_231 : Cond.constant RX8 231 (1000003) ∈ wsX8_swept := by decide +kernel
set_option maxHeartbeats 4000000 in
set_option maxRecDepth 100000 in
theorem lc_X8_swept {X : CX} {S : GS} {N j i k e h : Nat} {l x6 : Int32} (hNN : N ≤ 99) (h1 : 1 ≤ h) (h9 : h ≤ 9) (C : Cx X cX8_swept RX8 wsX8_swept 4) : ∀ (n : Nat) (v : Nat) (T : GS) (D : Nat → Nat), (v + n = N + 1 ∨ (n = 0 ∧ N < v ∧ v ≤ 9)) → h ≤ v → HD T 188 N D → FrM S T → (∀ U v', HD U 188 N (swR h n v D) → FrM S U → Zj X U [some (.ref (ad (xY X) 178)), some (.int (nI (N))), some (.int (nI (j))), some (.int (l)), some (.int (nI (i))), some (.int (nI (k))), some (.int (x6)), some (.int (nI (e))), some (.int (nI (h))), some (.int (nI (v')))] 203 []) → Zj X T [some (.ref (ad (xY X) 178)), some (.int (nI (N))), some (.int (nI (j))), some (.int (l)), some (.int (nI (i))), some (.int (nI (k))), some (.int (x6)), some (.int (nI (e))), some (.int (nI (h))), some (.int (nI (v)))] 163 [] := by
  intro n
  induction n with
  | zero =>
    intro v T D hv hl hD hf kk
    refine z_iload9 C dX8_swept_163 ?_
    refine z_iload1 C dX8_swept_165 ?_
    refine z_icmp_gtN C 203 dX8_swept_166 (by decide) (by omega) (by omega) (fun c166 => ?_) (fun c166 => ?_)
    · exact kk T v hD hf
    · exact absurd c166 (by omega)
  | succ n ih =>
    intro v T D hv hl hD hf kk
    have v1 : v ≤ N := by omega
    have d1 := hD v v1
    have d2 := hD (v - h) (by omega)
    refine z_iload9 C dX8_swept_163 ?_
    refine z_iload1 C dX8_swept_165 ?_
    refine z_icmp_gtN C 203 dX8_swept_166 (by decide) (by omega) (by omega) (fun c166 => ?_) (fun c166 => ?_)
    · exact absurd c166 (by omega)
    · refine z_aload0 C dX8_swept_169 ?_
      refine z_get C dX8_swept_170 fl_X8_swept_38 (k_Model _) rfl ?_
      refine z_iload9 C dX8_swept_173 ?_
      refine z_aload0 C dX8_swept_175 ?_
      refine z_get C dX8_swept_176 fl_X8_swept_38 (k_Model _) rfl ?_
      refine z_iload9 C dX8_swept_179 ?_
      refine z_iald C dX8_swept_181 (k_i188 _) (by omega) ?_
      refine z_top C d1.1 ?_
      refine z_aload0 C dX8_swept_182 ?_
      refine z_get C dX8_swept_183 fl_X8_swept_38 (k_Model _) rfl ?_
      refine z_iload9 C dX8_swept_186 ?_
      refine z_iload8 C dX8_swept_188 ?_
      refine z_isubN C dX8_swept_190 hl ?_
      refine z_iald C dX8_swept_191 (k_i188 _) (by omega) ?_
      refine z_top C d2.1 ?_
      refine z_iaddN C dX8_swept_192 ?_
      refine z_ldc (v := 1000003) C dX8_swept_193 kc_X8_swept_231 ?_
      refine z_top (y := nI 1000003) C (by decide) ?_
      refine z_iremN C dX8_swept_195 (by omega) (by decide) (by decide) ?_
      refine z_iast C dX8_swept_196 (k_i188 _) (by omega) ?_
      refine z_iinc9 C dX8_swept_197 (inc1 _) nl_i ?_
      refine z_goto C 163 dX8_swept_200 (by decide) ?_
      exact ih (v + 1) _ _ (by omega) (by omega) (HD_st hD (Nat.mod_lt _ (by decide))) (hf.tr FrM.I188) kk

set_option maxRecDepth 20000 in
theorem fl_X8_swept_16 : FL RX8 wsX8_swept 16 8 4 := ⟨RX8, TX8, 15, rfl, (fun w h => List.mem_cons_of_mem _ (List.mem_append_right _ h)), by decide, by decide +kernel⟩
set_option maxHeartbeats 4000000 in
set_option maxRecDepth 100000 in
theorem lb_X8_swept {X : CX} {S : GS} {q : SQ} {N j i k : Nat} {l x6 : Int32} (hj : j < 4) (hNN : N ≤ 99) (h2 : inB l 0 3) (hk1 : 1 ≤ k) (hk : k ≤ 5) (hi : i + k ≤ 24) (hl : 0 ≤ aLook q j l (nI i) (nI k)) (hQ : QM S q) (hr : RtP X .int (fun r u => r = aSwept q (nI N) (nI j) l (nI i) (nI k) ∧ FrM S u)) (hok : ∀ e, e < k → okIt (q.2.2.2 j (i + e))) (C : Cx X cX8_swept RX8 wsX8_swept 4) : ∀ (n : Nat) (e : Nat) (T : GS) (D : Nat → Nat) (x8 x9 : Option Value), e + n = k → nl x8 → HD T 188 N D → FrM S T → swA (q.2.2.2 j) i N k 0 swD0 = swA (q.2.2.2 j) i N n e D → Zj X T [some (.ref (ad (xY X) 178)), some (.int (nI (N))), some (.int (nI (j))), some (.int (l)), some (.int (nI (i))), some (.int (nI (k))), some (.int (x6)), some (.int (nI (e))), x8, x9] 134 [] := by
  intro n
  induction n with
  | zero =>
    intro e T D x8 x9 he hx hD hf hg
    obtain rfl : e = k := by omega
    have d0 := (hD N (Nat.le_refl _)).1
    refine z_iload7 C dX8_swept_134 ?_
    refine z_iload5 C dX8_swept_136 ?_
    refine z_icmp_geN C 209 dX8_swept_138 (by decide) (by omega) (by omega) (fun c138 => ?_) (fun c138 => ?_)
    · refine z_aload0 C dX8_swept_209 ?_
      refine z_get C dX8_swept_210 fl_X8_swept_38 (k_Model _) rfl ?_
      refine z_iload1 C dX8_swept_213 ?_
      refine z_iald C dX8_swept_214 (k_i188 _) (by omega) ?_
      exact z_iretP C dX8_swept_215 hr rfl ⟨by rw [aSwept_y hj hNN h2 hk1 hk (by omega) hl, if_pos hok, hg]; exact d0, hf⟩
    · exact absurd c138 (by omega)
  | succ n ih =>
    intro e T D x8 x9 he hx hD hf hg
    have o0 := hok e (by omega)
    obtain ⟨e1, e2, e3⟩ := okIt_h o0
    have e4 : T.2 181 (24 * j + i + e) = q.2.2.2 j (i + e) := by rw [hf.2.2 181 (by decide), Nat.add_assoc]; exact (hQ j hj).2.2 _ (by omega)
    refine z_iload7 C dX8_swept_134 ?_
    refine z_iload5 C dX8_swept_136 ?_
    refine z_icmp_geN C 209 dX8_swept_138 (by decide) (by omega) (by omega) (fun c138 => ?_) (fun c138 => ?_)
    · exact absurd c138 (by omega)
    · refine z_aload0 C dX8_swept_141 ?_
      refine z_get C dX8_swept_142 fl_X8_swept_16 (k_Model _) rfl ?_
      refine z_bipush (v := nI 24) C dX8_swept_145 (by decide) ?_
      refine z_iload2 C dX8_swept_147 ?_
      refine z_imulN C dX8_swept_148 ?_
      refine z_iload4 C dX8_swept_149 ?_
      refine z_iaddN C dX8_swept_151 ?_
      refine z_iload7 C dX8_swept_152 ?_
      refine z_iaddN C dX8_swept_154 ?_
      refine z_lald C dX8_swept_155 (k_l181 _) (by omega) ?_
      refine z_topl C e4 ?_
      refine z_l2i C dX8_swept_156 ?_
      refine z_top C e1 ?_
      refine z_istore8 C dX8_swept_157 nl_i ?_
      refine z_iload8 C dX8_swept_159 ?_
      refine z_istore9 C dX8_swept_161 nl_i ?_
      refine lc_X8_swept (S := S) hNN e2 e3 C (N + 1 - hN (q.2.2.2 j (i + e))) _ _ D (by omega) (Nat.le_refl _) hD hf (fun U v2 hU hfU => ?_)
      refine z_iinc7 C dX8_swept_203 (inc1 _) nl_i ?_
      refine z_goto C 134 dX8_swept_206 (by decide) ?_
      exact ih (e + 1) _ _ _ _ (by omega) nl_i hU hfU hg

theorem kl_X8_swept_50 : Cond.constantLong RX8 50 (9) ∈ wsX8_swept := by decide +kernel
set_option maxHeartbeats 4000000 in
set_option maxRecDepth 100000 in
theorem lp_X8_swept {X : CX} {S : GS} {q : SQ} {N j i k : Nat} {l x6 : Int32} (hj : j < 4) (hNN : N ≤ 99) (h2 : inB l 0 3) (hk1 : 1 ≤ k) (hk : k ≤ 5) (hi : i + k ≤ 24) (hl : 0 ≤ aLook q j l (nI i) (nI k)) (hQ : QM S q) (hr : RtP X .int (fun r u => r = aSwept q (nI N) (nI j) l (nI i) (nI k) ∧ FrM S u)) (C : Cx X cX8_swept RX8 wsX8_swept 4) : ∀ (n : Nat) (e : Nat), e + n = k → (∀ c, c < e → okIt (q.2.2.2 j (i + c))) → Zj X S [some (.ref (ad (xY X) 178)), some (.int (nI (N))), some (.int (nI (j))), some (.int (l)), some (.int (nI (i))), some (.int (nI (k))), some (.int (x6)), some (.int (nI (e))), none, none] 58 [] := by
  intro n
  induction n with
  | zero =>
    intro e he hok
    obtain rfl : e = k := by omega
    refine z_iload7 C dX8_swept_58 ?_
    refine z_iload5 C dX8_swept_60 ?_
    refine z_icmp_geN C 99 dX8_swept_62 (by decide) (by omega) (by omega) (fun c62 => ?_) (fun c62 => ?_)
    · refine z_iconstN 0 C dX8_swept_99 ?_
      refine z_istore7 C dX8_swept_100 nl_i ?_
      refine la_X8_swept (S := S) hNN C (N + 1) 0 _ (by omega) (fun v hv => absurd hv (by omega)) FrM.rf (fun U hU hfU => ?_)
      refine z_iconstN 0 C dX8_swept_131 ?_
      refine z_istore7 C dX8_swept_132 nl_i ?_
      exact lb_X8_swept hj hNN h2 hk1 hk hi hl hQ hr hok C e 0 _ swD0 none none (by omega) nl_n hU hfU rfl
    · exact absurd c62 (by omega)
  | succ n ih =>
    intro e he hok
    have w : S.2 181 (24 * j + i + e) = q.2.2.2 j (i + e) := by rw [Nat.add_assoc]; exact (hQ j hj).2.2 (i + e) (by omega)
    refine z_iload7 C dX8_swept_58 ?_
    refine z_iload5 C dX8_swept_60 ?_
    refine z_icmp_geN C 99 dX8_swept_62 (by decide) (by omega) (by omega) (fun c62 => ?_) (fun c62 => ?_)
    · exact absurd c62 (by omega)
    · refine z_aload0 C dX8_swept_65 ?_
      refine z_get C dX8_swept_66 fl_X8_swept_16 (k_Model _) rfl ?_
      refine z_bipush (v := nI 24) C dX8_swept_69 (by decide) ?_
      refine z_iload2 C dX8_swept_71 ?_
      refine z_imulN C dX8_swept_72 ?_
      refine z_iload4 C dX8_swept_73 ?_
      refine z_iaddN C dX8_swept_75 ?_
      refine z_iload7 C dX8_swept_76 ?_
      refine z_iaddN C dX8_swept_78 ?_
      refine z_lald C dX8_swept_79 (k_l181 _) (by omega) ?_
      refine z_topl C w ?_
      refine z_lconst (v := 1) C dX8_swept_80 rfl ?_
      refine z_ldc2 (v := 9) C dX8_swept_81 kl_X8_swept_50 ?_
      refine z_callSI C dX8_swept_84 c_X8_inL gX8_swept_X8_in md_X8_in (by decide) rfl rfl (Nat.le_of_ble_eq_true rfl) ?_
      refine z_if_neB C 93 dX8_swept_87 (by decide) (fun c87 => ?_) (fun c87 => ?_)
      · refine z_iinc7 C dX8_swept_93 (inc1 _) nl_i ?_
        refine z_goto C 58 dX8_swept_96 (by decide) ?_
        refine ih (e + 1) (by omega) (fun c hc => ?_)
        by_cases z : c = e
        · subst z
          exact okIt_i.mp c87
        · exact hok c (by omega)
      · refine z_bipush (v := (-2)) C dX8_swept_90 (by decide) ?_
        exact z_iretP C dX8_swept_92 hr rfl ⟨by rw [aSwept_y hj hNN h2 hk1 hk (by omega) hl, if_neg (fun z => c87 (okIt_i.mpr (z e (by omega))))], FrM.rf⟩

theorem kl_X8_swept_58 : Cond.constantLong RX8 58 (99) ∈ wsX8_swept := by decide +kernel
theorem kl_X8_swept_229 : Cond.constantLong RX8 229 (5) ∈ wsX8_swept := by decide +kernel
set_option maxHeartbeats 4000000 in
set_option maxRecDepth 100000 in
theorem c_X8_swept {l : Launch} {Y : LY} {S : GS} {q : SQ} (hQ : QM S q) (hO : QOk q) {x s ln i k : Int32} : CtP l yX8_swept wsX8_swept 4 Y [.ref (ad Y 178), .int x, .int s, .int ln, .int i, .int k] S (fun r u => r = aSwept q x s ln i k ∧ FrM S u) := by
  refine mkP (cc := cX8_swept) (maxL := 10) rfl rfl (Nat.le_of_ble_eq_true rfl) ?_
  intro X hl hY C hr
  subst hl
  subst hY
  show Zj X S [some (.ref (ad (xY X) 178)), some (.int x), some (.int s), some (.int ln), some (.int i), some (.int k), none, none, none, none] 0 []
  refine z_iload1 C dX8_swept_0 ?_
  refine z_i2l C dX8_swept_1 ?_
  refine z_lconst (v := 0) C dX8_swept_2 rfl ?_
  refine z_topl (y := (nI 0).toInt64) C (by decide) ?_
  refine z_ldc2 (v := 99) C dX8_swept_3 kl_X8_swept_58 ?_
  refine z_topl (y := (nI 99).toInt64) C (by decide) ?_
  refine z_callSI C dX8_swept_6 c_X8_in gX8_swept_X8_in md_X8_in (by decide) rfl rfl (Nat.le_of_ble_eq_true rfl) ?_
  refine z_if_eqB C 33 dX8_swept_9 (by decide) (fun c9 => ?_) (fun c9 => ?_)
  · refine z_iconst (v := (-1)) C dX8_swept_33 (by decide) ?_
    exact z_iretP C dX8_swept_34 hr rfl ⟨by rw [aSwept_n (by rintro ⟨h1, h2, h3⟩; contradiction)], FrM.rf⟩
  · refine z_iload2 C dX8_swept_12 ?_
    refine z_iload3 C dX8_swept_13 ?_
    refine z_callSI C dX8_swept_14 c_X8_isLane gX8_swept_X8_isLane md_X8_isLane (by decide) rfl rfl (Nat.le_of_ble_eq_true rfl) ?_
    refine z_if_eqB C 33 dX8_swept_17 (by decide) (fun c17 => ?_) (fun c17 => ?_)
    · refine z_iconst (v := (-1)) C dX8_swept_33 (by decide) ?_
      exact z_iretP C dX8_swept_34 hr rfl ⟨by rw [aSwept_n (by rintro ⟨h1, h2, h3⟩; contradiction)], FrM.rf⟩
    · refine z_iload5 C dX8_swept_20 ?_
      refine z_i2l C dX8_swept_22 ?_
      refine z_lconst (v := 1) C dX8_swept_23 rfl ?_
      refine z_topl (y := (nI 1).toInt64) C (by decide) ?_
      refine z_ldc2 (v := 5) C dX8_swept_24 kl_X8_swept_229 ?_
      refine z_topl (y := (nI 5).toInt64) C (by decide) ?_
      refine z_callSI C dX8_swept_27 c_X8_in gX8_swept_X8_in md_X8_in (by decide) rfl rfl (Nat.le_of_ble_eq_true rfl) ?_
      refine z_if_neB C 35 dX8_swept_30 (by decide) (fun c30 => ?_) (fun c30 => ?_)
      · obtain ⟨N, -, hNN, rfl⟩ := inB_of (by decide) c9 (by decide)
        obtain ⟨j, -, hj3, rfl⟩ := inB_of (by decide) c17.1 (by decide)
        obtain ⟨k, hk1, hk, rfl⟩ := inB_of (by decide) c30 (by decide)
        have hj : j < 4 := by omega
        refine z_aload0 C dX8_swept_35 ?_
        refine z_iload2 C dX8_swept_36 ?_
        refine z_iload3 C dX8_swept_37 ?_
        refine z_iload4 C dX8_swept_38 ?_
        refine z_iload5 C dX8_swept_40 ?_
        refine z_callVI C dX8_swept_42 (c_X8_against hQ hO hj) gX8_swept_X8_against md_X8_against rfl (by decide) (k_Model _) rfl rfl rfl (Nat.le_of_ble_eq_true rfl) ?_
        refine z_istore6 C dX8_swept_45 nl_i ?_
        refine z_iload6 C dX8_swept_47 ?_
        refine z_if_ge C 55 dX8_swept_49 (by decide) (fun c49 => ?_) (fun c49 => ?_)
        · obtain ⟨-, -, i, rfl, hi⟩ := aLook_n (show k ≤ 24 by omega) hO hj c49
          refine z_iconstN 0 C dX8_swept_55 ?_
          refine z_istore7 C dX8_swept_56 nl_i ?_
          exact lp_X8_swept hj hNN c17.2 hk1 hk hi c49 hQ hr C k 0 (by omega) (fun c hc => absurd hc (by omega))
        · refine z_iload6 C dX8_swept_52 ?_
          exact z_iretP C dX8_swept_54 hr rfl ⟨by rw [aSwept_l hj c9 c17.2 c30 c49], FrM.rf⟩
      · refine z_iconst (v := (-1)) C dX8_swept_33 (by decide) ?_
        exact z_iretP C dX8_swept_34 hr rfl ⟨by rw [aSwept_n (by rintro ⟨h1, h2, h3⟩; contradiction)], FrM.rf⟩
