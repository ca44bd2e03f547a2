set_option maxRecDepth 20000 in
theorem fl_X8_copy_41 : FL RX8 wsX8_copy 41 8 14 := ⟨RX8, TX8, 15, rfl, (fun w h => List.mem_cons_of_mem _ (List.mem_append_right _ h)), by decide, by decide +kernel⟩
set_option maxRecDepth 20000 in
theorem fl_X8_copy_16 : FL RX8 wsX8_copy 16 8 4 := ⟨RX8, TX8, 15, rfl, (fun w h => List.mem_cons_of_mem _ (List.mem_append_right _ h)), by decide, by decide +kernel⟩
set_option maxHeartbeats 4000000 in
set_option maxRecDepth 100000 in
theorem lp_X8_copy1 {X : CX} {S : GS} {f i t j N : Nat} (hf : f < 4) (ht : t < 4) (h1 : i + N ≤ 24) (h2 : j + N ≤ 24) (C : Cx X cX8_copy RX8 wsX8_copy 4) : ∀ (n : Nat) (e : Nat) (T : GS), e + n = N → (T.1 = S.1 ∧ (∀ o, o ≠ 189 → T.2 o = S.2 o) ∧ (∀ k, k < e → T.2 189 k = S.2 181 (24 * f + i + k))) → (∀ U : GS, U.1 = S.1 → (∀ o, o ≠ 189 → U.2 o = S.2 o) → (∀ k, k < N → U.2 189 k = S.2 181 (24 * f + i + k)) → Zj X U [some (.ref (ad (xY X) 178)), some (.int (nI (f))), some (.int (nI (i))), some (.int (nI (t))), some (.int (nI (j))), some (.int (nI (N))), some (.int (nI (N)))] 130 []) → Zj X T [some (.ref (ad (xY X) 178)), some (.int (nI (f))), some (.int (nI (i))), some (.int (nI (t))), some (.int (nI (j))), some (.int (nI (N))), some (.int (nI (e)))] 96 [] := by
  intro n
  induction n with
  | zero =>
    intro e T he hI kk
    obtain rfl : e = N := by omega
    refine z_iload6 C dX8_copy_96 ?_
    refine z_iload5 C dX8_copy_98 ?_
    refine z_icmp_geN C 130 dX8_copy_100 (by decide) (by omega) (by omega) (fun c100 => ?_) (fun c100 => ?_)
    · exact kk T hI.1 hI.2.1 hI.2.2
    · exact absurd c100 (by omega)
  | succ n ih =>
    intro e T he hI kk
    refine z_iload6 C dX8_copy_96 ?_
    refine z_iload5 C dX8_copy_98 ?_
    refine z_icmp_geN C 130 dX8_copy_100 (by decide) (by omega) (by omega) (fun c100 => ?_) (fun c100 => ?_)
    · exact absurd c100 (by omega)
    · refine z_aload0 C dX8_copy_103 ?_
      refine z_get C dX8_copy_104 fl_X8_copy_41 (k_Model _) rfl ?_
      refine z_iload6 C dX8_copy_107 ?_
      refine z_aload0 C dX8_copy_109 ?_
      refine z_get C dX8_copy_110 fl_X8_copy_16 (k_Model _) rfl ?_
      refine z_bipush (v := nI 24) C dX8_copy_113 (by decide) ?_
      refine z_iload1 C dX8_copy_115 ?_
      refine z_imulN C dX8_copy_116 ?_
      refine z_iload2 C dX8_copy_117 ?_
      refine z_iaddN C dX8_copy_118 ?_
      refine z_iload6 C dX8_copy_119 ?_
      refine z_iaddN C dX8_copy_121 ?_
      refine z_lald C dX8_copy_122 (k_l181 _) (by omega) ?_
      refine z_last C dX8_copy_123 (k_l189 _) (by omega) ?_
      refine z_iinc6 C dX8_copy_124 (inc1 _) nl_i ?_
      refine z_goto C 96 dX8_copy_127 (by decide) ?_
      refine ih (e + 1) _ (by omega) ⟨hI.1, fun o h => (stL_no h).trans (hI.2.1 o h), fun k hk => ?_⟩ kk
      rw [stL_me]
      by_cases c : k = e
      · subst c
        rw [pk_uLs, hI.2.1 181 (by decide)]
      · rw [pk_uLn c]
        exact hI.2.2 k (by omega)

set_option maxHeartbeats 4000000 in
set_option maxRecDepth 100000 in
theorem lp_X8_copy2 {X : CX} {S : GS} {f i t j N : Nat} (hf : f < 4) (ht : t < 4) (h1 : i + N ≤ 24) (h2 : j + N ≤ 24) (C : Cx X cX8_copy RX8 wsX8_copy 4) : ∀ (n : Nat) (e : Nat) (T : GS), e + n = N → (T.1 = S.1 ∧ (∀ o, o ≠ 189 → o ≠ 181 → T.2 o = S.2 o) ∧ (∀ k, k < N → T.2 189 k = S.2 181 (24 * f + i + k)) ∧ (∀ k, T.2 181 k = if 24 * t + j ≤ k ∧ k < 24 * t + j + e then S.2 181 (24 * f + i + (k - (24 * t + j))) else S.2 181 k)) → (∀ U : GS, U.1 = S.1 → (∀ o, o ≠ 189 → o ≠ 181 → U.2 o = S.2 o) → (∀ k, U.2 181 k = if 24 * t + j ≤ k ∧ k < 24 * t + j + N then S.2 181 (24 * f + i + (k - (24 * t + j))) else S.2 181 k) → Zj X U [some (.ref (ad (xY X) 178)), some (.int (nI (f))), some (.int (nI (i))), some (.int (nI (t))), some (.int (nI (j))), some (.int (nI (N))), some (.int (nI (N)))] 168 []) → Zj X T [some (.ref (ad (xY X) 178)), some (.int (nI (f))), some (.int (nI (i))), some (.int (nI (t))), some (.int (nI (j))), some (.int (nI (N))), some (.int (nI (e)))] 133 [] := by
  intro n
  induction n with
  | zero =>
    intro e T he hI kk
    obtain rfl : e = N := by omega
    refine z_iload6 C dX8_copy_133 ?_
    refine z_iload5 C dX8_copy_135 ?_
    refine z_icmp_geN C 168 dX8_copy_137 (by decide) (by omega) (by omega) (fun c137 => ?_) (fun c137 => ?_)
    · exact kk T hI.1 hI.2.1 hI.2.2.2
    · exact absurd c137 (by omega)
  | succ n ih =>
    intro e T he hI kk
    refine z_iload6 C dX8_copy_133 ?_
    refine z_iload5 C dX8_copy_135 ?_
    refine z_icmp_geN C 168 dX8_copy_137 (by decide) (by omega) (by omega) (fun c137 => ?_) (fun c137 => ?_)
    · exact absurd c137 (by omega)
    · refine z_aload0 C dX8_copy_140 ?_
      refine z_get C dX8_copy_141 fl_X8_copy_16 (k_Model _) rfl ?_
      refine z_bipush (v := nI 24) C dX8_copy_144 (by decide) ?_
      refine z_iload3 C dX8_copy_146 ?_
      refine z_imulN C dX8_copy_147 ?_
      refine z_iload4 C dX8_copy_148 ?_
      refine z_iaddN C dX8_copy_150 ?_
      refine z_iload6 C dX8_copy_151 ?_
      refine z_iaddN C dX8_copy_153 ?_
      refine z_aload0 C dX8_copy_154 ?_
      refine z_get C dX8_copy_155 fl_X8_copy_41 (k_Model _) rfl ?_
      refine z_iload6 C dX8_copy_158 ?_
      refine z_lald C dX8_copy_160 (k_l189 _) (by omega) ?_
      refine z_last C dX8_copy_161 (k_l181 _) (by omega) ?_
      refine z_iinc6 C dX8_copy_162 (inc1 _) nl_i ?_
      refine z_goto C 133 dX8_copy_165 (by decide) ?_
      refine ih (e + 1) _ (by omega) ⟨hI.1, fun o h h' => (stL_no h').trans (hI.2.1 o h h'), fun k hk => ?_, fun k => ?_⟩ kk
      · rw [stL_no (by decide)]
        exact hI.2.2.1 k hk
      · rw [stL_me]
        by_cases c : k = 24 * t + j + e
        · subst c
          rw [pk_uLs, if_pos (by omega), hI.2.2.1 e (by omega), show 24 * t + j + e - (24 * t + j) = e by omega]
        · rw [pk_uLn c, hI.2.2.2 k]
          by_cases d : 24 * t + j ≤ k ∧ k < 24 * t + j + e
          · rw [if_pos d, if_pos (by omega)]
          · rw [if_neg d, if_neg (by omega)]

theorem QM_copy {S U : GS} {q : SQ} {f i t j n : Nat} (hf : f < 4) (h1 : i + n ≤ 24) (h2 : j + n ≤ 24) (h : QM S q) (e1 : U.1 = S.1) (e2 : ∀ o, o ≠ 189 → o ≠ 181 → U.2 o = S.2 o) (e3 : ∀ k, U.2 181 k = if 24 * t + j ≤ k ∧ k < 24 * t + j + n then S.2 181 (24 * f + i + (k - (24 * t + j))) else S.2 181 k) : QM U (qCopy q f i t j n) ∧ FrQm S U := by
  refine ⟨fun k hk => ?_, fun o _ _ => by rw [e1], fun o _ => by rw [e1], fun o a b => e2 o b a⟩
  obtain ⟨a, b, d⟩ := h k hk
  rw [e1]
  refine ⟨a, b, fun e he => ?_⟩
  rw [e3]
  unfold qCopy
  by_cases z : k = t
  · subst z
    simp only [qu_me]
    unfold va_cpy
    by_cases y : j ≤ e ∧ e < j + n
    · rw [if_pos (by omega), if_pos y, show 24 * f + i + (24 * k + e - (24 * k + j)) = 24 * f + (i + (e - j)) by omega]
      exact (h f hf).2.2 _ (by omega)
    · rw [if_neg (by omega), if_neg y]
      exact d e he
  · simp only [qu_no z]
    rw [if_neg (by omega)]
    exact d e he
theorem aLook_sp {q : SQ} {j : Nat} {i n : Int32} (h : q.1 j ≠ 0) : 0 ≤ aLook q j (nI (q.2.1 j)) i n ↔ spP i n (q.2.2.1 j) := by
  unfold aLook
  rw [if_neg h, if_pos rfl]
  by_cases c : spP i n (q.2.2.1 j)
  · rw [if_pos c]
    exact ⟨fun _ => c, fun _ => by decide⟩
  · rw [if_neg c]
    exact ⟨fun z => absurd z (by decide), fun z => absurd z c⟩
theorem lt_nle {x : Int32} : x < 0 ↔ ¬ 0 ≤ x := by
  rw [Int32.lt_iff_toInt_lt, Int32.le_iff_toInt_le]
  omega

set_option maxRecDepth 20000 in
theorem fl_X8_copy_20 : FL RX8 wsX8_copy 20 8 5 := ⟨RX8, TX8, 15, rfl, (fun w h => List.mem_cons_of_mem _ (List.mem_append_right _ h)), by decide, by decide +kernel⟩
set_option maxRecDepth 20000 in
theorem fl_X8_copy_23 : FL RX8 wsX8_copy 23 8 6 := ⟨RX8, TX8, 15, rfl, (fun w h => List.mem_cons_of_mem _ (List.mem_append_right _ h)), by decide, by decide +kernel⟩
set_option maxHeartbeats 4000000 in
set_option maxRecDepth 100000 in
theorem c_X8_copy {l : Launch} {Y : LY} {S : GS} {q : SQ} (hQ : QM S q) (hO : QOk q) {x i y j n : Int32} : CtP l yX8_copy wsX8_copy 4 Y [.ref (ad Y 178), .int x, .int i, .int y, .int j, .int n] S (fun r u => r = (aCopy q x i y j n).1 ∧ QM u (aCopy q x i y j n).2 ∧ FrQm S u) := by
  refine mkP (cc := cX8_copy) (maxL := 7) rfl rfl (Nat.le_of_ble_eq_true rfl) ?_
  intro X hl hY C hr
  subst hl
  subst hY
  show Zj X S [some (.ref (ad (xY X) 178)), some (.int x), some (.int i), some (.int y), some (.int j), some (.int n), none] 0 []
  refine z_iload1 C dX8_copy_0 ?_
  refine z_callSI C dX8_copy_1 c_X8_isSheet gX8_copy_X8_isSheet md_X8_isSheet (by decide) rfl rfl (Nat.le_of_ble_eq_true rfl) ?_
  refine z_if_eqB C 14 dX8_copy_4 (by decide) (fun c4 => ?_) (fun c4 => ?_)
  · refine z_iconst (v := (-1)) C dX8_copy_14 (by decide) ?_
    exact z_iretP C dX8_copy_15 hr rfl ⟨by rw [aCopy_n (by rintro ⟨h1, h2⟩; contradiction)], by rw [aCopy_n (by rintro ⟨h1, h2⟩; contradiction)]; exact hQ, FrQm.rf⟩
  · refine z_iload3 C dX8_copy_7 ?_
    refine z_callSI C dX8_copy_8 c_X8_isSheet gX8_copy_X8_isSheet md_X8_isSheet (by decide) rfl rfl (Nat.le_of_ble_eq_true rfl) ?_
    refine z_if_neB C 16 dX8_copy_11 (by decide) (fun c11 => ?_) (fun c11 => ?_)
    · obtain ⟨f, -, hf3, rfl⟩ := inB_of (by decide) c4 (by decide)
      obtain ⟨t, -, ht3, rfl⟩ := inB_of (by decide) c11 (by decide)
      have hf : f < 4 := by omega
      have ht : t < 4 := by omega
      have of := hO f hf
      have ot := hO t ht
      have zf := QM_sz hQ hO hf
      have zt := QM_sz hQ hO ht
      refine z_aload0 C dX8_copy_16 ?_
      refine z_get C dX8_copy_17 fl_X8_copy_20 (k_Model _) rfl ?_
      refine z_iload1 C dX8_copy_20 ?_
      refine z_iald C dX8_copy_21 (k_i182 _) (by omega) ?_
      refine z_if_lt C 34 dX8_copy_22 (by decide) (fun c22 => ?_) (fun c22 => ?_)
      · refine z_bipush (v := (-11)) C dX8_copy_34 (by decide) ?_
        exact z_iretP C dX8_copy_36 hr rfl ⟨by rw [aCopy_0 hf ht (by rcases zf with z | z; exact Or.inl z.1; rcases zt with z2 | z2; exact Or.inr z2.1; exfalso; first | exact lt_nle.mp c22 z.2.1 | exact c31 z2.2.1)], by rw [aCopy_0 hf ht (by rcases zf with z | z; exact Or.inl z.1; rcases zt with z2 | z2; exact Or.inr z2.1; exfalso; first | exact lt_nle.mp c22 z.2.1 | exact c31 z2.2.1)]; exact hQ, FrQm.rf⟩
      · refine z_aload0 C dX8_copy_25 ?_
        refine z_get C dX8_copy_26 fl_X8_copy_20 (k_Model _) rfl ?_
        refine z_iload3 C dX8_copy_29 ?_
        refine z_iald C dX8_copy_30 (k_i182 _) (by omega) ?_
        refine z_if_ge C 37 dX8_copy_31 (by decide) (fun c31 => ?_) (fun c31 => ?_)
        · have n0 : ¬ (q.1 f = 0 ∨ q.1 t = 0) := by
            rcases zf with z | z
            · exact absurd (lt_nle.mpr z.2) c22
            · rcases zt with z2 | z2
              · exact absurd c31 z2.2
              · omega
          refine z_aload0 C dX8_copy_37 ?_
          refine z_get C dX8_copy_38 fl_X8_copy_23 (k_Model _) rfl ?_
          refine z_iload1 C dX8_copy_41 ?_
          refine z_iald C dX8_copy_42 (k_i183 _) (by omega) ?_
          refine z_top C (hQ f hf).2.1 ?_
          refine z_aload0 C dX8_copy_43 ?_
          refine z_get C dX8_copy_44 fl_X8_copy_23 (k_Model _) rfl ?_
          refine z_iload3 C dX8_copy_47 ?_
          refine z_iald C dX8_copy_48 (k_i183 _) (by omega) ?_
          refine z_top C (hQ t ht).2.1 ?_
          refine z_icmp_eqN C 55 dX8_copy_49 (by decide) (by omega) (by omega) (fun c49 => ?_) (fun c49 => ?_)
          · refine z_aload0 C dX8_copy_55 ?_
            refine z_iload1 C dX8_copy_56 ?_
            refine z_aload0 C dX8_copy_57 ?_
            refine z_get C dX8_copy_58 fl_X8_copy_23 (k_Model _) rfl ?_
            refine z_iload1 C dX8_copy_61 ?_
            refine z_iald C dX8_copy_62 (k_i183 _) (by omega) ?_
            refine z_top C (hQ f hf).2.1 ?_
            refine z_iload2 C dX8_copy_63 ?_
            refine z_iload5 C dX8_copy_64 ?_
            refine z_callVI C dX8_copy_66 (c_X8_against hQ hO hf) gX8_copy_X8_against md_X8_against rfl (by decide) (k_Model _) rfl rfl rfl (Nat.le_of_ble_eq_true rfl) ?_
            refine z_if_lt C 90 dX8_copy_69 (by decide) (fun c69 => ?_) (fun c69 => ?_)
            · refine z_bipush (v := (-13)) C dX8_copy_90 (by decide) ?_
              exact z_iretP C dX8_copy_92 hr rfl ⟨by rw [aCopy_x hf ht n0 (by omega) (by rintro ⟨h1, h2⟩; first | exact lt_nle.mp c69 ((aLook_sp (by omega)).mpr h1) | exact c87 ((aLook_sp (by omega)).mpr h2))], by rw [aCopy_x hf ht n0 (by omega) (by rintro ⟨h1, h2⟩; first | exact lt_nle.mp c69 ((aLook_sp (by omega)).mpr h1) | exact c87 ((aLook_sp (by omega)).mpr h2))]; exact hQ, FrQm.rf⟩
            · refine z_aload0 C dX8_copy_72 ?_
              refine z_iload3 C dX8_copy_73 ?_
              refine z_aload0 C dX8_copy_74 ?_
              refine z_get C dX8_copy_75 fl_X8_copy_23 (k_Model _) rfl ?_
              refine z_iload3 C dX8_copy_78 ?_
              refine z_iald C dX8_copy_79 (k_i183 _) (by omega) ?_
              refine z_top C (hQ t ht).2.1 ?_
              refine z_iload4 C dX8_copy_80 ?_
              refine z_iload5 C dX8_copy_82 ?_
              refine z_callVI C dX8_copy_84 (c_X8_against hQ hO ht) gX8_copy_X8_against md_X8_against rfl (by decide) (k_Model _) rfl rfl rfl (Nat.le_of_ble_eq_true rfl) ?_
              refine z_if_ge C 93 dX8_copy_87 (by decide) (fun c87 => ?_) (fun c87 => ?_)
              · have s1 := (aLook_sp (show q.1 f ≠ 0 by omega)).mp (Classical.byContradiction (fun z => c69 (lt_nle.mpr z)))
                have s2 := (aLook_sp (show q.1 t ≠ 0 by omega)).mp c87
                obtain ⟨i, j, n, rfl, rfl, rfl, h1, h2⟩ := sp_two s1 s2 of.2.2 ot.2.2
                refine z_iconstN 0 C dX8_copy_93 ?_
                refine z_istore6 C dX8_copy_94 nl_i ?_
                refine lp_X8_copy1 (t := t) (j := j) hf ht (by omega) (by omega) C n 0 _ (by omega) ⟨rfl, fun _ _ => rfl, fun k hk => absurd hk (by omega)⟩ (fun U u1 u2 u3 => ?_)
                refine z_iconstN 0 C dX8_copy_130 ?_
                refine z_istore6 C dX8_copy_131 nl_i ?_
                refine lp_X8_copy2 (S := S) (i := i) hf ht (by omega) (by omega) C n 0 _ (by omega) ⟨u1, fun o z _ => u2 o z, u3, fun k => by rw [if_neg (by omega), u2 181 (by decide)]⟩ (fun V v1 v2 v3 => ?_)
                obtain ⟨w1, w2⟩ := QM_copy hf (by omega) (by omega) hQ v1 v2 v3
                refine z_iload5 C dX8_copy_168 ?_
                exact z_iretP C dX8_copy_170 hr rfl ⟨by rw [aCopy_y hf ht n0 (by omega) s1 s2 (by omega) (by omega) (by omega)], by rw [aCopy_y hf ht n0 (by omega) s1 s2 (by omega) (by omega) (by omega)]; exact w1, w2⟩
              · refine z_bipush (v := (-13)) C dX8_copy_90 (by decide) ?_
                exact z_iretP C dX8_copy_92 hr rfl ⟨by rw [aCopy_x hf ht n0 (by omega) (by rintro ⟨h1, h2⟩; first | exact lt_nle.mp c69 ((aLook_sp (by omega)).mpr h1) | exact c87 ((aLook_sp (by omega)).mpr h2))], by rw [aCopy_x hf ht n0 (by omega) (by rintro ⟨h1, h2⟩; first | exact lt_nle.mp c69 ((aLook_sp (by omega)).mpr h1) | exact c87 ((aLook_sp (by omega)).mpr h2))]; exact hQ, FrQm.rf⟩
          · refine z_bipush (v := (-12)) C dX8_copy_52 (by decide) ?_
            exact z_iretP C dX8_copy_54 hr rfl ⟨by rw [aCopy_c hf ht n0 (by omega)], by rw [aCopy_c hf ht n0 (by omega)]; exact hQ, FrQm.rf⟩
        · refine z_bipush (v := (-11)) C dX8_copy_34 (by decide) ?_
          exact z_iretP C dX8_copy_36 hr rfl ⟨by rw [aCopy_0 hf ht (by rcases zf with z | z; exact Or.inl z.1; rcases zt with z2 | z2; exact Or.inr z2.1; exfalso; first | exact lt_nle.mp c22 z.2.1 | exact c31 z2.2.1)], by rw [aCopy_0 hf ht (by rcases zf with z | z; exact Or.inl z.1; rcases zt with z2 | z2; exact Or.inr z2.1; exfalso; first | exact lt_nle.mp c22 z.2.1 | exact c31 z2.2.1)]; exact hQ, FrQm.rf⟩
    · refine z_iconst (v := (-1)) C dX8_copy_14 (by decide) ?_
      exact z_iretP C dX8_copy_15 hr rfl ⟨by rw [aCopy_n (by rintro ⟨h1, h2⟩; contradiction)], by rw [aCopy_n (by rintro ⟨h1, h2⟩; contradiction)]; exact hQ, FrQm.rf⟩

def filmG (k j i : Nat) : Nat → Nat → VR → SQ → SQ
  | 0, _, _, q => q
  | n + 1, e, U, q => filmG k j i n (e + 1) (vPD U (nI 0)) (qPut q j (i + e) (nI (vPD U (nI 0) 6 k)).toInt64)
def aFilm (V : VR) (q : SQ) (x y s l i : Int32) : Int32 × SQ := if (inR x (V 0 1) ∧ inB y 1 24) ∧ (inB s 0 3 ∧ inB l 0 3) then (if 0 ≤ aLook q s.toNatClampNeg l i y then (y, filmG x.toNatClampNeg s.toNatClampNeg i.toNatClampNeg y.toNatClampNeg 0 V q) else (aLook q s.toNatClampNeg l i y, q)) else (-1, q)
theorem aFilm_n {V : VR} {q : SQ} {x y s l i : Int32} (h : ¬ ((inR x (V 0 1) ∧ inB y 1 24) ∧ (inB s 0 3 ∧ inB l 0 3))) : aFilm V q x y s l i = (-1, q) := if_neg h
theorem aFilm_l {V : VR} {q : SQ} {x y l i : Int32} {j : Nat} (hj : j < 4) (h1 : inR x (V 0 1)) (h2 : inB y 1 24) (h3 : inB l 0 3) (h : ¬ 0 ≤ aLook q j l i y) : aFilm V q x y (nI j) l i = (aLook q j l i y, q) := by
  unfold aFilm
  rw [if_pos ⟨⟨h1, h2⟩, inB_nI (by omega) (by omega) (by decide), h3⟩, nI_clamp (by omega), if_neg h]
theorem aFilm_y {V : VR} {q : SQ} {k n j i : Nat} {l : Int32} (hj : j < 4) (h1 : k < V 0 1) (h5 : V 0 1 ≤ 5) (hn1 : 1 ≤ n) (hn : n ≤ 24) (hi : i ≤ 24) (h3 : inB l 0 3) (h : 0 ≤ aLook q j l (nI i) (nI n)) : aFilm V q (nI k) (nI n) (nI j) l (nI i) = (nI n, filmG k j i n 0 V q) := by
  unfold aFilm
  rw [if_pos ⟨⟨inR_nI h1 (by omega), inB_nI hn1 hn (by decide)⟩, inB_nI (by omega) (by omega) (by decide), h3⟩, nI_clamp (by omega), nI_clamp (by omega), nI_clamp (by omega), nI_clamp (by omega), if_pos h]
theorem low_small {ln s : Nat} (h : s ≤ 99) : lowL ln (nI s).toInt64 = (nI s).toInt64 := by
  have key : ∀ s : Fin 100, (nI s.1).toInt64.toInt32.toInt8.toInt32.toInt64 = (nI s.1).toInt64 ∧ (nI s.1).toInt64.toInt32.toInt16.toInt32.toInt64 = (nI s.1).toInt64 ∧ (nI s.1).toInt64.toInt32.toInt64 = (nI s.1).toInt64 := by decide +kernel
  obtain ⟨k1, k2, k3⟩ := key ⟨s, by omega⟩
  unfold lowL
  split
  · exact k1
  · split
    · exact k2
    · split
      · exact k3
      · rfl
theorem aLook_n {q : SQ} {j : Nat} {y i : Int32} {n : Nat} (hn : n ≤ 24) (hO : QOk q) (hj : j < 4) (h : 0 ≤ aLook q j y i (nI n)) : q.1 j ≠ 0 ∧ nI (q.2.1 j) = y ∧ ∃ i' : Nat, i = nI i' ∧ i' + n ≤ 24 := by
  obtain ⟨a, b, i', n', e1, e2, e3, e4⟩ := aLook_i hO hj h
  have : n = n' := (nI_eq (by omega) (by omega)).mp e2
  subst this
  exact ⟨a, b, i', e1, by omega⟩
theorem QC_PD {S : GS} {q : SQ} {ill : Int32} {nk : Nat} (h : QC S q) : QC (cPD S 42 ill nk) q := QC_fr h (fun o h1 h2 => ⟨cPD_fr.1 o (fun z => by have := z.1; omega), by rw [cPD_fr.2]⟩)
theorem QC_bec {S : GS} {q : SQ} (h : QC S q) : QC (cBec S 42 26) q := QC_fr h (fun o h1 h2 => ⟨cBec_fr.1 o (fun z => by have := z.1; omega), by rw [cBec_fr.2]⟩)
theorem QM_FrM {S T : GS} {q : SQ} (h : QM S q) (f : FrM S T) : QM T q := QM_fr h (f.1 182 (by decide) (by decide)) (f.1 183 (by decide) (by decide)) (f.2.2 181 (by decide))
theorem FrQm.M {S T : GS} (f : FrM S T) : FrQm S T := ⟨fun o a b => f.1 o a (by omega), f.2.1, fun o _ b => f.2.2 o b⟩

set_option maxRecDepth 20000 in
theorem fl_X7_film_42 : FL RX7 wsX7_film 42 7 7 := ⟨RX7, TX7, 12, rfl, (fun w h => List.mem_cons_of_mem _ (List.mem_append_left _ (List.mem_append_left _ (List.mem_append_right _ h)))), by decide, by decide +kernel⟩
set_option maxRecDepth 20000 in
theorem fl_X7_film_38 : FL RX7 wsX7_film 38 7 6 := ⟨RX7, TX7, 12, rfl, (fun w h => List.mem_cons_of_mem _ (List.mem_append_left _ (List.mem_append_left _ (List.mem_append_right _ h)))), by decide, by decide +kernel⟩
set_option maxRecDepth 20000 in
theorem fl_X7_film_124 : FL RX7 wsX7_film 124 2 10 := ⟨RX2, TX2, 12, rfl, (fun w h => List.mem_cons_of_mem _ (List.mem_append_left _ (List.mem_append_right _ h))), by decide, by decide +kernel⟩
set_option maxHeartbeats 4000000 in
set_option maxRecDepth 100000 in
theorem lp_X7_film {X : CX} {S : GS} {V : VR} {q : SQ} {k N j i : Nat} {l x6 : Int32} (hj : j < 4) (hk : k < V 0 1) (h5 : V 0 1 ≤ 5) (hn1 : 1 ≤ N) (hn : N ≤ 24) (hi : i + N ≤ 24) (h3 : inB l 0 3) (hl : 0 ≤ aLook q j l (nI i) (nI N)) (hr : RtP X .int (fun r u => r = (aFilm V q (nI k) (nI N) (nI j) l (nI i)).1 ∧ QC u (aFilm V q (nI k) (nI N) (nI j) l (nI i)).2 ∧ FrQ S u)) (C : Cx X cX7_film RX7 wsX7_film 7) : ∀ (n : Nat) (e : Nat) (T : GS) (U : VR) (p : SQ), e + n = N → HC T 42 U → Ok U → U 0 1 = V 0 1 → QC T p → QOk p → FrQ S T → filmG k j i N 0 V q = filmG k j i n e U p → Zj X T [some (.ref (ad (xY X) 0)), some (.int (nI (k))), some (.int (nI (N))), some (.int (nI (j))), some (.int (l)), some (.int (nI (i))), some (.int (x6)), some (.int (nI (e)))] 63 [] := by
  intro n
  induction n with
  | zero =>
    intro e T U p he h ho hu hQ hO hf hg
    obtain rfl : e = N := by omega
    refine z_iload7 C dX7_film_63 ?_
    refine z_iload2 C dX7_film_65 ?_
    refine z_icmp_geN C 107 dX7_film_66 (by decide) (by omega) (by omega) (fun c66 => ?_) (fun c66 => ?_)
    · refine z_iload2 C dX7_film_107 ?_
      exact z_iretP C dX7_film_108 hr rfl ⟨by rw [aFilm_y hj hk h5 hn1 hn (by omega) h3 hl, hg], by rw [aFilm_y hj hk h5 hn1 hn (by omega) h3 hl, hg]; exact hQ, hf⟩
    · exact absurd c66 (by omega)
  | succ n ih =>
    intro e T U p he h ho hu hQ hO hf hg
    obtain ⟨w1, w2⟩ := HC_PD (ill := nI 0) h ho
    have w3 := QC_PD (ill := nI 0) (nk := U 0 1) hQ
    have hk2 : k < (vPD U (nI 0)) 0 1 := by rw [vPD_hd (by decide) (by decide), hu]; exact hk
    have w4 := (w1.2.2 k hk2).2.1
    have hp := hO j hj
    refine z_iload7 C dX7_film_63 ?_
    refine z_iload2 C dX7_film_65 ?_
    refine z_icmp_geN C 107 dX7_film_66 (by decide) (by omega) (by omega) (fun c66 => ?_) (fun c66 => ?_)
    · exact absurd c66 (by omega)
    · refine z_aload0 C dX7_film_69 ?_
      refine z_get C dX7_film_70 fl_X7_film_42 (k_EM _) rfl ?_
      refine z_iconstN 0 C dX7_film_73 ?_
      refine z_callVV C dX7_film_74 (c_X2_passDay isR_trial ho.2.1 (h.1 1 (by decide)) (HC_sOk h ho)) gX7_film_X2_passDay md_X2_passDay rfl (by decide) (k_Rock _ isR_trial) rfl rfl rfl (Nat.le_of_ble_eq_true rfl) ?_
      refine z_aload0 C dX7_film_77 ?_
      refine z_get C dX7_film_78 fl_X7_film_38 (k_EM _) rfl ?_
      refine z_iload3 C dX7_film_81 ?_
      refine z_aald3 C dX7_film_82 (k_r13 _) hj ?_
      refine z_iload5 C dX7_film_83 ?_
      refine z_iload7 C dX7_film_85 ?_
      refine z_iaddN C dX7_film_87 ?_
      refine z_aload0 C dX7_film_88 ?_
      refine z_get C dX7_film_89 fl_X7_film_42 (k_EM _) rfl ?_
      refine z_get C dX7_film_92 fl_X7_film_124 (k_Rock _ isR_trial) rfl ?_
      refine z_iload1 C dX7_film_95 ?_
      refine z_iald C dX7_film_96 (k_size _ isR_trial) (by omega) ?_
      refine z_top C w4 ?_
      refine z_i2l C dX7_film_97 ?_
      refine z_callVV C dX7_film_98 (c_X5_write hj (show i + e < 24 by omega) (w3 j hj).2.1 hp.2.1) gX7_film_X5_write md_X5_write rfl (by decide) (k_Sheet _ hj) rfl rfl rfl (Nat.le_of_ble_eq_true rfl) ?_
      refine z_iinc7 C dX7_film_101 (inc1 _) nl_i ?_
      refine z_goto C 63 dX7_film_104 (by decide) ?_
      rw [low_small (w2.2.2.2 k hk2).2.1]
      exact ih (e + 1) _ _ _ (by omega) w1 w2 (by rw [vPD_hd (by decide) (by decide)]; exact hu) (QC_put w3) hO (hf.tr ((FrQ.of (fr_tr cPD_fr)).tr (FrQ.L (by omega)))) hg

set_option maxRecDepth 20000 in
theorem fl_X7_film_10 : FL RX7 wsX7_film 10 7 0 := ⟨RX7, TX7, 12, rfl, (fun w h => List.mem_cons_of_mem _ (List.mem_append_left _ (List.mem_append_left _ (List.mem_append_right _ h)))), by decide, by decide +kernel⟩
set_option maxHeartbeats 4000000 in
set_option maxRecDepth 100000 in
theorem c_X7_film {l : Launch} {Y : LY} {S : GS} {V : VR} {q : SQ} (h : HC S 26 V) (ho : Ok V) (hQ : QC S q) (hO : QOk q) {x y s ln i : Int32} : CtP l yX7_film wsX7_film 7 Y [.ref (ad Y 0), .int x, .int y, .int s, .int ln, .int i] S (fun r u => r = (aFilm V q x y s ln i).1 ∧ QC u (aFilm V q x y s ln i).2 ∧ FrQ S u) := by
  refine mkP (cc := cX7_film) (maxL := 8) rfl rfl (Nat.le_of_ble_eq_true rfl) ?_
  intro X hl hY C hr
  subst hl
  subst hY
  have hM : S.1 26 0 = nI (V 0 0) := h.1 0 (by decide)
  have hK : S.1 26 1 = nI (V 0 1) := h.1 1 (by decide)
  have o1 := ho.1
  have o2 := ho.2.1
  show Zj X S [some (.ref (ad (xY X) 0)), some (.int x), some (.int y), some (.int s), some (.int ln), some (.int i), none, none] 0 []
  refine z_aload0 C dX7_film_0 ?_
  refine z_iload1 C dX7_film_1 ?_
  refine z_callVI C dX7_film_2 (c_X7_hasMonk hK) gX7_film_X7_hasMonk md_X7_hasMonk rfl (by decide) (k_EM _) rfl rfl rfl (Nat.le_of_ble_eq_true rfl) ?_
  refine z_if_eqB C 27 dX7_film_5 (by decide) (fun c5 => ?_) (fun c5 => ?_)
  · refine z_iconst (v := (-1)) C dX7_film_27 (by decide) ?_
    exact z_iretP C dX7_film_28 hr rfl ⟨by rw [aFilm_n (by rintro ⟨⟨h1, h2⟩, h3⟩; contradiction)], by rw [aFilm_n (by rintro ⟨⟨h1, h2⟩, h3⟩; contradiction)]; exact hQ, FrQ.rf⟩
  · refine z_iload2 C dX7_film_8 ?_
    refine z_iconstN 1 C dX7_film_9 ?_
    refine z_bipush (v := nI 24) C dX7_film_10 (by decide) ?_
    refine z_callSI C dX7_film_12 c_X7_within gX7_film_X7_within md_X7_within (by decide) rfl rfl (Nat.le_of_ble_eq_true rfl) ?_
    refine z_if_eqB C 27 dX7_film_15 (by decide) (fun c15 => ?_) (fun c15 => ?_)
    · refine z_iconst (v := (-1)) C dX7_film_27 (by decide) ?_
      exact z_iretP C dX7_film_28 hr rfl ⟨by rw [aFilm_n (by rintro ⟨⟨h1, h2⟩, h3⟩; contradiction)], by rw [aFilm_n (by rintro ⟨⟨h1, h2⟩, h3⟩; contradiction)]; exact hQ, FrQ.rf⟩
    · refine z_iload3 C dX7_film_18 ?_
      refine z_iload4 C dX7_film_19 ?_
      refine z_callSI C dX7_film_21 c_X7_isSheet gX7_film_X7_isSheet md_X7_isSheet (by decide) rfl rfl (Nat.le_of_ble_eq_true rfl) ?_
      refine z_if_neB C 29 dX7_film_24 (by decide) (fun c24 => ?_) (fun c24 => ?_)
      · obtain ⟨k, hk, rfl⟩ := inR_of (by omega) c5
        obtain ⟨n, hn1, hn, rfl⟩ := inB_of (by decide) c15 (by decide)
        obtain ⟨j, -, hj3, rfl⟩ := inB_of (by decide) c24.1 (by decide)
        have hj : j < 4 := by omega
        refine z_aload0 C dX7_film_29 ?_
        refine z_iload3 C dX7_film_30 ?_
        refine z_iload4 C dX7_film_31 ?_
        refine z_iload5 C dX7_film_33 ?_
        refine z_iload2 C dX7_film_35 ?_
        refine z_callVI C dX7_film_36 (c_X7_lookAt hQ hO hj) gX7_film_X7_lookAt md_X7_lookAt rfl (by decide) (k_EM _) rfl rfl rfl (Nat.le_of_ble_eq_true rfl) ?_
        refine z_istore6 C dX7_film_39 nl_i ?_
        refine z_iload6 C dX7_film_41 ?_
        refine z_if_ge C 49 dX7_film_43 (by decide) (fun c43 => ?_) (fun c43 => ?_)
        · obtain ⟨-, -, i, rfl, hi⟩ := aLook_n hn hO hj c43
          refine z_aload0 C dX7_film_49 ?_
          refine z_get C dX7_film_50 fl_X7_film_42 (k_EM _) rfl ?_
          refine z_aload0 C dX7_film_53 ?_
          refine z_get C dX7_film_54 fl_X7_film_10 (k_EM _) rfl ?_
          refine z_callVV C dX7_film_57 (c_X2_become isR_trial isR_now) gX7_film_X2_become md_X2_become rfl (by decide) (k_Rock _ isR_trial) rfl rfl rfl (Nat.le_of_ble_eq_true rfl) ?_
          refine z_iconstN 0 C dX7_film_60 ?_
          refine z_istore7 C dX7_film_61 nl_i ?_
          exact lp_X7_film hj hk o2 hn1 hn hi c24.2 c43 hr C n 0 _ V q (by omega) (HC_bec dis_tn h ho) ho rfl (QC_bec hQ) hO (FrQ.of (fr_tr cBec_fr)) rfl
        · refine z_iload6 C dX7_film_46 ?_
          exact z_iretP C dX7_film_48 hr rfl ⟨by rw [aFilm_l hj c5 c15 c24.2 c43], by rw [aFilm_l hj c5 c15 c24.2 c43]; exact hQ, FrQ.rf⟩
      · refine z_iconst (v := (-1)) C dX7_film_27 (by decide) ?_
        exact z_iretP C dX7_film_28 hr rfl ⟨by rw [aFilm_n (by rintro ⟨⟨h1, h2⟩, h3⟩; contradiction)], by rw [aFilm_n (by rintro ⟨⟨h1, h2⟩, h3⟩; contradiction)]; exact hQ, FrQ.rf⟩

set_option maxRecDepth 20000 in
theorem fl_X8_film_16 : FL RX8 wsX8_film 16 8 4 := ⟨RX8, TX8, 15, rfl, (fun w h => List.mem_cons_of_mem _ (List.mem_append_right _ h)), by decide, by decide +kernel⟩
set_option maxRecDepth 20000 in
theorem fl_X8_film_7 : FL RX8 wsX8_film 7 8 0 := ⟨RX8, TX8, 15, rfl, (fun w h => List.mem_cons_of_mem _ (List.mem_append_right _ h)), by decide, by decide +kernel⟩
set_option maxHeartbeats 4000000 in
set_option maxRecDepth 100000 in
theorem lp_X8_film {X : CX} {S : GS} {V : VR} {q : SQ} {k N j i : Nat} {l x6 : Int32} (hj : j < 4) (hk : k < V 0 1) (h5 : V 0 1 ≤ 5) (hn1 : 1 ≤ N) (hn : N ≤ 24) (hi : i + N ≤ 24) (h3 : inB l 0 3) (hl : 0 ≤ aLook q j l (nI i) (nI N)) (hr : RtP X .int (fun r u => r = (aFilm V q (nI k) (nI N) (nI j) l (nI i)).1 ∧ QM u (aFilm V q (nI k) (nI N) (nI j) l (nI i)).2 ∧ FrQm S u)) (C : Cx X cX8_film RX8 wsX8_film 7) : ∀ (n : Nat) (e : Nat) (T : GS) (U : VR) (p : SQ), e + n = N → HW (T.1 179) 586 U → Ok U → U 0 1 = V 0 1 → QM T p → QOk p → FrQm S T → filmG k j i N 0 V q = filmG k j i n e U p → Zj X T [some (.ref (ad (xY X) 178)), some (.int (nI (k))), some (.int (nI (N))), some (.int (nI (j))), some (.int (l)), some (.int (nI (i))), some (.int (x6)), some (.int (nI (e)))] 58 [] := by
  intro n
  induction n with
  | zero =>
    intro e T U p he h ho hu hQ hO hf hg
    obtain rfl : e = N := by omega
    refine z_iload7 C dX8_film_58 ?_
    refine z_iload2 C dX8_film_60 ?_
    refine z_icmp_geN C 104 dX8_film_61 (by decide) (by omega) (by omega) (fun c61 => ?_) (fun c61 => ?_)
    · refine z_iload2 C dX8_film_104 ?_
      exact z_iretP C dX8_film_105 hr rfl ⟨by rw [aFilm_y hj hk h5 hn1 hn (by omega) h3 hl, hg], by rw [aFilm_y hj hk h5 hn1 hn (by omega) h3 hl, hg]; exact hQ, hf⟩
    · exact absurd c61 (by omega)
  | succ n ih =>
    intro e T U p he h ho hu hQ hO hf hg
    have w1 := HW_PS (ill := nI 0) h ho
    have w2 := Ok_PD (ill := nI 0) ho
    have wf : FrM T (mPs T 586 (nI 0) (U 0 1)) := FrM.of mPs_fr (fun i hi => mPs_far (HW_mOk h ho) ho.2.1 (by omega))
    have w3 := QM_FrM hQ wf
    have hk2 : k < (vPD U (nI 0)) 0 1 := by rw [vPD_hd (by decide) (by decide), hu]; exact hk
    have w4 := (w1.2.2 k hk2).2.1
    have hp := hO j hj
    refine z_iload7 C dX8_film_58 ?_
    refine z_iload2 C dX8_film_60 ?_
    refine z_icmp_geN C 104 dX8_film_61 (by decide) (by omega) (by omega) (fun c61 => ?_) (fun c61 => ?_)
    · exact absurd c61 (by omega)
    · refine z_aload0 C dX8_film_64 ?_
      refine z_sipush (v := nI 586) C dX8_film_65 (by decide) ?_
      refine z_iconstN 0 C dX8_film_68 ?_
      refine z_callVV C dX8_film_69 (c_X8_passes (by decide) ho.2.1 h.1.2.1 (HW_mOk h ho)) gX8_film_X8_passes md_X8_passes rfl (by decide) (k_Model _) rfl rfl rfl (Nat.le_of_ble_eq_true rfl) ?_
      refine z_aload0 C dX8_film_72 ?_
      refine z_get C dX8_film_73 fl_X8_film_16 (k_Model _) rfl ?_
      refine z_bipush (v := nI 24) C dX8_film_76 (by decide) ?_
      refine z_iload3 C dX8_film_78 ?_
      refine z_imulN C dX8_film_79 ?_
      refine z_iload5 C dX8_film_80 ?_
      refine z_iaddN C dX8_film_82 ?_
      refine z_iload7 C dX8_film_83 ?_
      refine z_iaddN C dX8_film_85 ?_
      refine z_aload0 C dX8_film_86 ?_
      refine z_get C dX8_film_87 fl_X8_film_7 (k_Model _) rfl ?_
      refine z_sipush (v := nI 609) C dX8_film_90 (by decide) ?_
      refine z_iload1 C dX8_film_93 ?_
      refine z_iaddN C dX8_film_94 ?_
      refine z_iald C dX8_film_95 (k_i179 _) (by omega) ?_
      refine z_top C w4 ?_
      refine z_i2l C dX8_film_96 ?_
      refine z_last C dX8_film_97 (k_l181 _) (by omega) ?_
      refine z_iinc7 C dX8_film_98 (inc1 _) nl_i ?_
      refine z_goto C 58 dX8_film_101 (by decide) ?_
      rw [Nat.add_assoc (24 * j) i e]
      exact ih (e + 1) _ _ _ (by omega) w1 w2 (by rw [vPD_hd (by decide) (by decide)]; exact hu) (QM_put (by omega) w3) hO (hf.tr ((FrQm.M wf).tr (FrQm.L (Or.inl rfl)))) hg

theorem kl_X8_film_232 : Cond.constantLong RX8 232 (24) ∈ wsX8_film := by decide +kernel
set_option maxHeartbeats 4000000 in
set_option maxRecDepth 100000 in
theorem c_X8_film {l : Launch} {Y : LY} {S : GS} {V : VR} {q : SQ} (h : HW (S.1 179) 0 V) (ho : Ok V) (hQ : QM S q) (hO : QOk q) {x y s ln i : Int32} : CtP l yX8_film wsX8_film 7 Y [.ref (ad Y 178), .int x, .int y, .int s, .int ln, .int i] S (fun r u => r = (aFilm V q x y s ln i).1 ∧ QM u (aFilm V q x y s ln i).2 ∧ FrQm S u) := by
  refine mkP (cc := cX8_film) (maxL := 8) rfl rfl (Nat.le_of_ble_eq_true rfl) ?_
  intro X hl hY C hr
  subst hl
  subst hY
  have hM : S.1 179 0 = nI (V 0 0) := h.1.1
  have hK : S.1 179 1 = nI (V 0 1) := h.1.2.1
  have o1 := ho.1
  have o2 := ho.2.1
  show Zj X S [some (.ref (ad (xY X) 178)), some (.int x), some (.int y), some (.int s), some (.int ln), some (.int i), none, none] 0 []
  refine z_aload0 C dX8_film_0 ?_
  refine z_iload1 C dX8_film_1 ?_
  refine z_callVI C dX8_film_2 (c_X8_isMonk2 ho.2.1 hK) gX8_film_X8_isMonk md_X8_isMonk rfl (by decide) (k_Model _) rfl rfl rfl (Nat.le_of_ble_eq_true rfl) ?_
  refine z_if_eqB C 29 dX8_film_5 (by decide) (fun c5 => ?_) (fun c5 => ?_)
  · refine z_iconst (v := (-1)) C dX8_film_29 (by decide) ?_
    exact z_iretP C dX8_film_30 hr rfl ⟨by rw [aFilm_n (by rintro ⟨⟨h1, h2⟩, h3⟩; contradiction)], by rw [aFilm_n (by rintro ⟨⟨h1, h2⟩, h3⟩; contradiction)]; exact hQ, FrQm.rf⟩
  · refine z_iload2 C dX8_film_8 ?_
    refine z_i2l C dX8_film_9 ?_
    refine z_lconst (v := 1) C dX8_film_10 rfl ?_
    refine z_topl (y := (nI 1).toInt64) C (by decide) ?_
    refine z_ldc2 (v := 24) C dX8_film_11 kl_X8_film_232 ?_
    refine z_topl (y := (nI 24).toInt64) C (by decide) ?_
    refine z_callSI C dX8_film_14 c_X8_in gX8_film_X8_in md_X8_in (by decide) rfl rfl (Nat.le_of_ble_eq_true rfl) ?_
    refine z_if_eqB C 29 dX8_film_17 (by decide) (fun c17 => ?_) (fun c17 => ?_)
    · refine z_iconst (v := (-1)) C dX8_film_29 (by decide) ?_
      exact z_iretP C dX8_film_30 hr rfl ⟨by rw [aFilm_n (by rintro ⟨⟨h1, h2⟩, h3⟩; contradiction)], by rw [aFilm_n (by rintro ⟨⟨h1, h2⟩, h3⟩; contradiction)]; exact hQ, FrQm.rf⟩
    · refine z_iload3 C dX8_film_20 ?_
      refine z_iload4 C dX8_film_21 ?_
      refine z_callSI C dX8_film_23 c_X8_isLane gX8_film_X8_isLane md_X8_isLane (by decide) rfl rfl (Nat.le_of_ble_eq_true rfl) ?_
      refine z_if_neB C 31 dX8_film_26 (by decide) (fun c26 => ?_) (fun c26 => ?_)
      · obtain ⟨k, hk, rfl⟩ := inR_of (by omega) c5
        obtain ⟨n, hn1, hn, rfl⟩ := inB_of (by decide) c17 (by decide)
        obtain ⟨j, -, hj3, rfl⟩ := inB_of (by decide) c26.1 (by decide)
        have hj : j < 4 := by omega
        refine z_aload0 C dX8_film_31 ?_
        refine z_iload3 C dX8_film_32 ?_
        refine z_iload4 C dX8_film_33 ?_
        refine z_iload5 C dX8_film_35 ?_
        refine z_iload2 C dX8_film_37 ?_
        refine z_callVI C dX8_film_38 (c_X8_against hQ hO hj) gX8_film_X8_against md_X8_against rfl (by decide) (k_Model _) rfl rfl rfl (Nat.le_of_ble_eq_true rfl) ?_
        refine z_istore6 C dX8_film_41 nl_i ?_
        refine z_iload6 C dX8_film_43 ?_
        refine z_if_ge C 51 dX8_film_45 (by decide) (fun c45 => ?_) (fun c45 => ?_)
        · obtain ⟨-, -, i, rfl, hi⟩ := aLook_n hn hO hj c45
          refine z_aload0 C dX8_film_51 ?_
          refine z_callVV C dX8_film_52 c_X8_tries gX8_film_X8_tries md_X8_tries rfl (by decide) (k_Model _) rfl rfl rfl (Nat.le_of_ble_eq_true rfl) ?_
          refine z_iconstN 0 C dX8_film_55 ?_
          refine z_istore7 C dX8_film_56 nl_i ?_
          exact lp_X8_film hj hk o2 hn1 hn hi c26.2 c45 hr C n 0 _ V q (by omega) (HW_tr h ho) ho rfl (QM_FrM hQ mTr_fr) hO (FrQm.M mTr_fr) rfl
        · refine z_iload6 C dX8_film_48 ?_
          exact z_iretP C dX8_film_50 hr rfl ⟨by rw [aFilm_l hj c5 c17 c26.2 c45], by rw [aFilm_l hj c5 c17 c26.2 c45]; exact hQ, FrQm.rf⟩
      · refine z_iconst (v := (-1)) C dX8_film_29 (by decide) ?_
        exact z_iretP C dX8_film_30 hr rfl ⟨by rw [aFilm_n (by rintro ⟨⟨h1, h2⟩, h3⟩; contradiction)], by rw [aFilm_n (by rintro ⟨⟨h1, h2⟩, h3⟩; contradiction)]; exact hQ, FrQm.rf⟩
