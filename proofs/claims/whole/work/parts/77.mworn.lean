theorem lorz (a : Int32) : a ||| nI 0 = a := by
  apply Int32.toBitVec_inj.mp
  have : (nI 0).toBitVec = 0#32 := rfl
  simp [this]

set_option maxRecDepth 20000 in
theorem fl_X8_worn_7 : FL RX8 wsX8_worn 7 8 0 := ⟨RX8, TX8, 15, rfl, (fun w h => List.mem_cons_of_mem _ (List.mem_append_right _ h)), by decide, by decide +kernel⟩
set_option maxRecDepth 20000 in
theorem fl_X8_worn_16 : FL RX8 wsX8_worn 16 8 4 := ⟨RX8, TX8, 15, rfl, (fun w h => List.mem_cons_of_mem _ (List.mem_append_right _ h)), by decide, by decide +kernel⟩
set_option maxHeartbeats 4000000 in
set_option maxRecDepth 100000 in
theorem li_X8_worn0 {X : CX} {S : GS} {it : Nat → Int64} {k j i N v : Nat} {l x7 a : Int32} (hj : j < 4) (h5 : k < 5) (hi : i + N ≤ 24) (hit : ∀ e, e < 24 → S.2 181 (24 * j + e) = it e) (C : Cx X cX8_worn RX8 wsX8_worn 7) : ∀ (n : Nat) (e : Nat) (T : GS) (U : VR), e + n = N → HW (T.1 179) 586 U → Ok U → k < U 0 1 → FrM S T → (wrs it k n (i + e) U = true → ∀ T' e', FrM S T' → Zj X T' [some (.ref (ad (xY X) 178)), some (.int (nI (k))), some (.int (nI (j))), some (.int (l)), some (.int (nI (i))), some (.int (nI (N))), some (.int (nI (0))), some (.int (x7)), some (.int (a)), some (.int (nI (v))), some (.int (nI (1))), some (.int e')] 216 []) → (wrs it k n (i + e) U = false → ∀ T' e', FrM S T' → Zj X T' [some (.ref (ad (xY X) 178)), some (.int (nI (k))), some (.int (nI (j))), some (.int (l)), some (.int (nI (i))), some (.int (nI (N))), some (.int (nI (0))), some (.int (x7)), some (.int (a)), some (.int (nI (v))), some (.int (nI (0))), some (.int e')] 216 []) → Zj X T [some (.ref (ad (xY X) 178)), some (.int (nI (k))), some (.int (nI (j))), some (.int (l)), some (.int (nI (i))), some (.int (nI (N))), some (.int (nI (0))), some (.int (x7)), some (.int (a)), some (.int (nI (v))), some (.int (nI (1))), some (.int (nI (e)))] 153 [] := by
  intro n
  induction n with
  | zero =>
    intro e T U he h ho hk hf k1 k0
    obtain rfl : e = N := by omega
    refine z_iload11 C dX8_worn_153 ?_
    refine z_iload5 C dX8_worn_155 ?_
    refine z_icmp_geN C 216 dX8_worn_157 (by decide) (by omega) (by omega) (fun c157 => ?_) (fun c157 => ?_)
    · exact k1 rfl T _ hf
    · exact absurd c157 (by omega)
  | succ n ih =>
    intro e T U he h ho hk hf k1 k0
    have w1 := HW_PS (ill := nI 0) h ho
    have w2 := Ok_PD (ill := nI 0) ho
    have wf : FrM S (mPs T 586 (nI 0) (U 0 1)) := hf.tr (FrM.of mPs_fr (fun i hi => mPs_far (HW_mOk h ho) ho.2.1 (by omega)))
    have hk2 : k < (vPD U (nI 0)) 0 1 := by rw [vPD_hd (by decide) (by decide)]; exact hk
    have w4 := (w1.2.2 k hk2).2.1
    have w5 : (mPs T 586 (nI 0) (U 0 1)).2 181 (24 * j + i + e) = it (i + e) := by rw [wf.2.2 181 (by decide), Nat.add_assoc]; exact hit _ (by omega)
    refine z_iload11 C dX8_worn_153 ?_
    refine z_iload5 C dX8_worn_155 ?_
    refine z_icmp_geN C 216 dX8_worn_157 (by decide) (by omega) (by omega) (fun c157 => ?_) (fun c157 => ?_)
    · exact absurd c157 (by omega)
    · refine z_iload10 C dX8_worn_160 ?_
      refine z_if_eqF C 216 dX8_worn_162 (by decide) (by decide) ?_
      refine z_aload0 C dX8_worn_165 ?_
      refine z_sipush (v := nI 586) C dX8_worn_166 (by decide) ?_
      refine z_iconstN 0 C dX8_worn_169 ?_
      refine z_callVV C dX8_worn_170 (c_X8_passes (by decide) ho.2.1 h.1.2.1 (HW_mOk h ho)) gX8_worn_X8_passes md_X8_passes rfl (by decide) (k_Model _) rfl rfl rfl (Nat.le_of_ble_eq_true rfl) ?_
      refine z_aload0 C dX8_worn_173 ?_
      refine z_get C dX8_worn_174 fl_X8_worn_7 (k_Model _) rfl ?_
      refine z_sipush (v := nI 609) C dX8_worn_177 (by decide) ?_
      refine z_iload1 C dX8_worn_180 ?_
      refine z_iaddN C dX8_worn_181 ?_
      refine z_iald C dX8_worn_182 (k_i179 _) (by omega) ?_
      refine z_top C w4 ?_
      refine z_i2l C dX8_worn_183 ?_
      refine z_aload0 C dX8_worn_184 ?_
      refine z_get C dX8_worn_185 fl_X8_worn_16 (k_Model _) rfl ?_
      refine z_bipush (v := nI 24) C dX8_worn_188 (by decide) ?_
      refine z_iload2 C dX8_worn_190 ?_
      refine z_imulN C dX8_worn_191 ?_
      refine z_iload4 C dX8_worn_192 ?_
      refine z_iaddN C dX8_worn_194 ?_
      refine z_iload11 C dX8_worn_195 ?_
      refine z_iaddN C dX8_worn_197 ?_
      refine z_lald C dX8_worn_198 (k_l181 _) (by omega) ?_
      refine z_topl C w5 ?_
      refine z_lcmp C dX8_worn_199 ?_
      refine z_if_ne C 207 dX8_worn_200 (by decide) (fun c200 => ?_) (fun c200 => ?_)
      · refine z_iconstN 0 C dX8_worn_207 ?_
        refine z_istore10 C dX8_worn_208 nl_i ?_
        refine z_iinc11 C dX8_worn_210 (inc1 _) nl_i ?_
        refine z_goto C 153 dX8_worn_213 (by decide) ?_
        refine z_iload11 C dX8_worn_153 ?_
        refine z_iload5 C dX8_worn_155 ?_
        refine z_icmp_geN C 216 dX8_worn_157 (by decide) (by omega) (by omega) (fun c157 => ?_) (fun c157 => ?_)
        · exact k0 (wrs_f (fun z => c200 ((cmp_eq _ _).mpr z.symm))) _ _ wf
        · refine z_iload10 C dX8_worn_160 ?_
          refine z_if_eqT C 216 dX8_worn_162 (by decide) (by decide) ?_
          exact k0 (wrs_f (fun z => c200 ((cmp_eq _ _).mpr z.symm))) _ _ wf
      · refine z_iconstN 1 C dX8_worn_203 ?_
        refine z_goto C 208 dX8_worn_204 (by decide) ?_
        refine z_istore10 C dX8_worn_208 nl_i ?_
        refine z_iinc11 C dX8_worn_210 (inc1 _) nl_i ?_
        refine z_goto C 153 dX8_worn_213 (by decide) ?_
        exact ih (e + 1) _ _ (by omega) w1 w2 hk2 wf (fun z => k1 ((wrs_t ((cmp_eq _ _).mp c200).symm).trans z)) (fun z => k0 ((wrs_t ((cmp_eq _ _).mp c200).symm).trans z))

set_option maxHeartbeats 4000000 in
set_option maxRecDepth 100000 in
theorem lo_X8_worn0 {X : CX} {S : GS} {V : VR} {it : Nat → Int64} {k j i N : Nat} {l x7 : Int32} {post : Int32 → GS → Prop} (hj : j < 4) (hk : k < V 0 1) (h : HW (S.1 179) 0 V) (ho : Ok V) (hi : i + N ≤ 24) (hit : ∀ e, e < 24 → S.2 181 (24 * j + e) = it e) (hr : RtP X .int post) (hpo : ∀ u, FrM S u → post (wrV V it k 5 k i N 5 0) u) (C : Cx X cX8_worn RX8 wsX8_worn 7) : ∀ (n : Nat) (v : Nat) (T : GS) (a : Int32) (x10 x11 : Option Value), v + n = 5 → nl x10 → FrM S T → wrV V it k 5 k i N 5 0 = foldN (fun v a => if wrs it k N i (vs V 5 k v) = true then a ||| nI 1 <<< (nI v &&& 31) else a) n v a → Zj X T [some (.ref (ad (xY X) 178)), some (.int (nI (k))), some (.int (nI (j))), some (.int (l)), some (.int (nI (i))), some (.int (nI (N))), some (.int (nI (0))), some (.int (x7)), some (.int (a)), some (.int (nI (v))), x10, x11] 92 [] := by
  intro n
  induction n with
  | zero =>
    intro v T a x10 x11 he hx hf hg
    have o1 := ho.1
    have o2 := ho.2.1
    have e0 : wrV V it k 5 k i N 5 0 = a := hg
    refine z_iload9 C dX8_worn_92 ?_
    refine z_iload6 C dX8_worn_94 ?_
    refine z_if_neF C 103 dX8_worn_96 (by decide) (by decide) ?_
    refine z_iconstN 4 C dX8_worn_99 ?_
    refine z_goto C 105 dX8_worn_100 (by decide) ?_
    refine z_icmp_gtN C 240 dX8_worn_105 (by decide) (by omega) (by omega) (fun c105 => ?_) (fun c105 => ?_)
    · refine z_iload8 C dX8_worn_240 ?_
      exact z_iretP C dX8_worn_242 hr rfl (by rw [← e0]; exact hpo T hf)
    · exact absurd c105 (by omega)
  | succ n ih =>
    intro v T a x10 x11 he hx hf hg
    have o1 := ho.1
    have o2 := ho.2.1
    have h0 := HW_low h ho hf
    have w1 : HW ((stI (mTr T) 179 (586 + (39 + k)) (nI v)).1 179) 586 (vs V 5 k v) := HW_stI (f := 5) (i := k) ho (by unfold inV; omega) (by simp [mo]) rfl (fun z => by omega) (HW_tr h0 ho)
    have w2 : Ok (vs V 5 k v) := Ok_vk ho (show v ≤ 4 by omega)
    have w3 : vs V 5 k v 0 1 = V 0 1 := vs_no (by omega)
    have w5 : FrM S (stI (mTr T) 179 (586 + (39 + k)) (nI v)) := hf.tr (mTr_fr.tr (FrM.of Fr.M (fun i hi => stI_ni (by omega))))
    simp only [foldN] at hg
    refine z_iload9 C dX8_worn_92 ?_
    refine z_iload6 C dX8_worn_94 ?_
    refine z_if_neF C 103 dX8_worn_96 (by decide) (by decide) ?_
    refine z_iconstN 4 C dX8_worn_99 ?_
    refine z_goto C 105 dX8_worn_100 (by decide) ?_
    refine z_icmp_gtN C 240 dX8_worn_105 (by decide) (by omega) (by omega) (fun c105 => ?_) (fun c105 => ?_)
    · exact absurd c105 (by omega)
    · refine z_aload0 C dX8_worn_108 ?_
      refine z_callVV C dX8_worn_109 c_X8_tries gX8_worn_X8_tries md_X8_tries rfl (by decide) (k_Model _) rfl rfl rfl (Nat.le_of_ble_eq_true rfl) ?_
      refine z_aload0 C dX8_worn_112 ?_
      refine z_get C dX8_worn_113 fl_X8_worn_7 (k_Model _) rfl ?_
      refine z_sipush (v := nI 586) C dX8_worn_116 (by decide) ?_
      refine z_iload6 C dX8_worn_119 ?_
      refine z_if_neF C 131 dX8_worn_121 (by decide) (by decide) ?_
      refine z_bipush (v := nI 39) C dX8_worn_124 (by decide) ?_
      refine z_iload1 C dX8_worn_126 ?_
      refine z_iaddN C dX8_worn_127 ?_
      refine z_goto C 143 dX8_worn_128 (by decide) ?_
      refine z_iaddN C dX8_worn_143 ?_
      refine z_iload9 C dX8_worn_144 ?_
      refine z_iast C dX8_worn_146 (k_i179 _) (by omega) ?_
      refine z_iconstN 1 C dX8_worn_147 ?_
      refine z_istore10 C dX8_worn_148 nl_i ?_
      refine z_iconstN 0 C dX8_worn_150 ?_
      refine z_istore11 C dX8_worn_151 nl_i ?_
      refine li_X8_worn0 (S := S) (it := it) (v := v) (a := a) hj (by omega) hi hit C N 0 _ _ (by omega) w1 w2 (by rw [w3]; exact hk) w5 (fun hw T2 e2 f2 => ?_) (fun hw T2 e2 f2 => ?_)
      · rw [Nat.add_zero] at hw
        rw [if_pos hw] at hg
        refine z_iload8 C dX8_worn_216 ?_
        refine z_iload10 C dX8_worn_218 ?_
        refine z_if_eqF C 230 dX8_worn_220 (by decide) (by decide) ?_
        refine z_iconstN 1 C dX8_worn_223 ?_
        refine z_iload9 C dX8_worn_224 ?_
        refine z_ishl C dX8_worn_226 ?_
        refine z_goto C 231 dX8_worn_227 (by decide) ?_
        refine z_ior C dX8_worn_231 ?_
        refine z_istore8 C dX8_worn_232 nl_i ?_
        refine z_iinc9 C dX8_worn_234 (inc1 _) nl_i ?_
        refine z_goto C 92 dX8_worn_237 (by decide) ?_
        exact ih (v + 1) _ _ _ _ (by omega) nl_i f2 hg
      · rw [Nat.add_zero] at hw
        rw [if_neg (by rw [hw]; decide)] at hg
        rw [show a = a ||| nI 0 from (lorz a).symm] at hg
        refine z_iload8 C dX8_worn_216 ?_
        refine z_iload10 C dX8_worn_218 ?_
        refine z_if_eqT C 230 dX8_worn_220 (by decide) (by decide) ?_
        refine z_iconstN 0 C dX8_worn_230 ?_
        refine z_ior C dX8_worn_231 ?_
        refine z_istore8 C dX8_worn_232 nl_i ?_
        refine z_iinc9 C dX8_worn_234 (inc1 _) nl_i ?_
        refine z_goto C 92 dX8_worn_237 (by decide) ?_
        exact ih (v + 1) _ _ _ _ (by omega) nl_i f2 hg

set_option maxHeartbeats 4000000 in
set_option maxRecDepth 100000 in
theorem li_X8_worn1 {X : CX} {S : GS} {it : Nat → Int64} {k j i N v : Nat} {l x7 a : Int32} (hj : j < 4) (h5 : k < 5) (hi : i + N ≤ 24) (hit : ∀ e, e < 24 → S.2 181 (24 * j + e) = it e) (C : Cx X cX8_worn RX8 wsX8_worn 7) : ∀ (n : Nat) (e : Nat) (T : GS) (U : VR), e + n = N → HW (T.1 179) 586 U → Ok U → k < U 0 1 → FrM S T → (wrs it k n (i + e) U = true → ∀ T' e', FrM S T' → Zj X T' [some (.ref (ad (xY X) 178)), some (.int (nI (k))), some (.int (nI (j))), some (.int (l)), some (.int (nI (i))), some (.int (nI (N))), some (.int (nI (1))), some (.int (x7)), some (.int (a)), some (.int (nI (v))), some (.int (nI (1))), some (.int e')] 216 []) → (wrs it k n (i + e) U = false → ∀ T' e', FrM S T' → Zj X T' [some (.ref (ad (xY X) 178)), some (.int (nI (k))), some (.int (nI (j))), some (.int (l)), some (.int (nI (i))), some (.int (nI (N))), some (.int (nI (1))), some (.int (x7)), some (.int (a)), some (.int (nI (v))), some (.int (nI (0))), some (.int e')] 216 []) → Zj X T [some (.ref (ad (xY X) 178)), some (.int (nI (k))), some (.int (nI (j))), some (.int (l)), some (.int (nI (i))), some (.int (nI (N))), some (.int (nI (1))), some (.int (x7)), some (.int (a)), some (.int (nI (v))), some (.int (nI (1))), some (.int (nI (e)))] 153 [] := by
  intro n
  induction n with
  | zero =>
    intro e T U he h ho hk hf k1 k0
    obtain rfl : e = N := by omega
    refine z_iload11 C dX8_worn_153 ?_
    refine z_iload5 C dX8_worn_155 ?_
    refine z_icmp_geN C 216 dX8_worn_157 (by decide) (by omega) (by omega) (fun c157 => ?_) (fun c157 => ?_)
    · exact k1 rfl T _ hf
    · exact absurd c157 (by omega)
  | succ n ih =>
    intro e T U he h ho hk hf k1 k0
    have w1 := HW_PS (ill := nI 0) h ho
    have w2 := Ok_PD (ill := nI 0) ho
    have wf : FrM S (mPs T 586 (nI 0) (U 0 1)) := hf.tr (FrM.of mPs_fr (fun i hi => mPs_far (HW_mOk h ho) ho.2.1 (by omega)))
    have hk2 : k < (vPD U (nI 0)) 0 1 := by rw [vPD_hd (by decide) (by decide)]; exact hk
    have w4 := (w1.2.2 k hk2).2.1
    have w5 : (mPs T 586 (nI 0) (U 0 1)).2 181 (24 * j + i + e) = it (i + e) := by rw [wf.2.2 181 (by decide), Nat.add_assoc]; exact hit _ (by omega)
    refine z_iload11 C dX8_worn_153 ?_
    refine z_iload5 C dX8_worn_155 ?_
    refine z_icmp_geN C 216 dX8_worn_157 (by decide) (by omega) (by omega) (fun c157 => ?_) (fun c157 => ?_)
    · exact absurd c157 (by omega)
    · refine z_iload10 C dX8_worn_160 ?_
      refine z_if_eqF C 216 dX8_worn_162 (by decide) (by decide) ?_
      refine z_aload0 C dX8_worn_165 ?_
      refine z_sipush (v := nI 586) C dX8_worn_166 (by decide) ?_
      refine z_iconstN 0 C dX8_worn_169 ?_
      refine z_callVV C dX8_worn_170 (c_X8_passes (by decide) ho.2.1 h.1.2.1 (HW_mOk h ho)) gX8_worn_X8_passes md_X8_passes rfl (by decide) (k_Model _) rfl rfl rfl (Nat.le_of_ble_eq_true rfl) ?_
      refine z_aload0 C dX8_worn_173 ?_
      refine z_get C dX8_worn_174 fl_X8_worn_7 (k_Model _) rfl ?_
      refine z_sipush (v := nI 609) C dX8_worn_177 (by decide) ?_
      refine z_iload1 C dX8_worn_180 ?_
      refine z_iaddN C dX8_worn_181 ?_
      refine z_iald C dX8_worn_182 (k_i179 _) (by omega) ?_
      refine z_top C w4 ?_
      refine z_i2l C dX8_worn_183 ?_
      refine z_aload0 C dX8_worn_184 ?_
      refine z_get C dX8_worn_185 fl_X8_worn_16 (k_Model _) rfl ?_
      refine z_bipush (v := nI 24) C dX8_worn_188 (by decide) ?_
      refine z_iload2 C dX8_worn_190 ?_
      refine z_imulN C dX8_worn_191 ?_
      refine z_iload4 C dX8_worn_192 ?_
      refine z_iaddN C dX8_worn_194 ?_
      refine z_iload11 C dX8_worn_195 ?_
      refine z_iaddN C dX8_worn_197 ?_
      refine z_lald C dX8_worn_198 (k_l181 _) (by omega) ?_
      refine z_topl C w5 ?_
      refine z_lcmp C dX8_worn_199 ?_
      refine z_if_ne C 207 dX8_worn_200 (by decide) (fun c200 => ?_) (fun c200 => ?_)
      · refine z_iconstN 0 C dX8_worn_207 ?_
        refine z_istore10 C dX8_worn_208 nl_i ?_
        refine z_iinc11 C dX8_worn_210 (inc1 _) nl_i ?_
        refine z_goto C 153 dX8_worn_213 (by decide) ?_
        refine z_iload11 C dX8_worn_153 ?_
        refine z_iload5 C dX8_worn_155 ?_
        refine z_icmp_geN C 216 dX8_worn_157 (by decide) (by omega) (by omega) (fun c157 => ?_) (fun c157 => ?_)
        · exact k0 (wrs_f (fun z => c200 ((cmp_eq _ _).mpr z.symm))) _ _ wf
        · refine z_iload10 C dX8_worn_160 ?_
          refine z_if_eqT C 216 dX8_worn_162 (by decide) (by decide) ?_
          exact k0 (wrs_f (fun z => c200 ((cmp_eq _ _).mpr z.symm))) _ _ wf
      · refine z_iconstN 1 C dX8_worn_203 ?_
        refine z_goto C 208 dX8_worn_204 (by decide) ?_
        refine z_istore10 C dX8_worn_208 nl_i ?_
        refine z_iinc11 C dX8_worn_210 (inc1 _) nl_i ?_
        refine z_goto C 153 dX8_worn_213 (by decide) ?_
        exact ih (e + 1) _ _ (by omega) w1 w2 hk2 wf (fun z => k1 ((wrs_t ((cmp_eq _ _).mp c200).symm).trans z)) (fun z => k0 ((wrs_t ((cmp_eq _ _).mp c200).symm).trans z))

set_option maxHeartbeats 4000000 in
set_option maxRecDepth 100000 in
theorem lo_X8_worn1 {X : CX} {S : GS} {V : VR} {it : Nat → Int64} {k j i N m : Nat} {l x7 : Int32} {post : Int32 → GS → Prop} (hj : j < 4) (hk : k < V 0 1) (hm : m < V 0 0) (hm7 : V 7 k = m + 1) (h : HW (S.1 179) 0 V) (ho : Ok V) (hi : i + N ≤ 24) (hit : ∀ e, e < 24 → S.2 181 (24 * j + e) = it e) (hr : RtP X .int post) (hpo : ∀ u, FrM S u → post (wrV V it k 2 m i N 9 1) u) (C : Cx X cX8_worn RX8 wsX8_worn 7) : ∀ (n : Nat) (v : Nat) (T : GS) (a : Int32) (x10 x11 : Option Value), v + n = 10 → 1 ≤ v → nl x10 → FrM S T → wrV V it k 2 m i N 9 1 = foldN (fun v a => if wrs it k N i (vs V 2 m v) = true then a ||| nI 1 <<< (nI v &&& 31) else a) n v a → Zj X T [some (.ref (ad (xY X) 178)), some (.int (nI (k))), some (.int (nI (j))), some (.int (l)), some (.int (nI (i))), some (.int (nI (N))), some (.int (nI (1))), some (.int (x7)), some (.int (a)), some (.int (nI (v))), x10, x11] 92 [] := by
  intro n
  induction n with
  | zero =>
    intro v T a x10 x11 he hv1 hx hf hg
    have o1 := ho.1
    have o2 := ho.2.1
    have e0 : wrV V it k 2 m i N 9 1 = a := hg
    refine z_iload9 C dX8_worn_92 ?_
    refine z_iload6 C dX8_worn_94 ?_
    refine z_if_neT C 103 dX8_worn_96 (by decide) (by decide) ?_
    refine z_bipush (v := nI 9) C dX8_worn_103 (by decide) ?_
    refine z_icmp_gtN C 240 dX8_worn_105 (by decide) (by omega) (by omega) (fun c105 => ?_) (fun c105 => ?_)
    · refine z_iload8 C dX8_worn_240 ?_
      exact z_iretP C dX8_worn_242 hr rfl (by rw [← e0]; exact hpo T hf)
    · exact absurd c105 (by omega)
  | succ n ih =>
    intro v T a x10 x11 he hv1 hx hf hg
    have o1 := ho.1
    have o2 := ho.2.1
    have h0 := HW_low h ho hf
    have w1 : HW ((stI (mTr T) 179 (586 + (33 + m)) (nI v)).1 179) 586 (vs V 2 m v) := HW_stI (f := 2) (i := m) ho (by unfold inV; omega) (by simp [mo]) rfl (fun z => by omega) (HW_tr h0 ho)
    have w2 : Ok (vs V 2 m v) := Ok_vh ho hv1 (show v ≤ 9 by omega)
    have w3 : vs V 2 m v 0 1 = V 0 1 := vs_no (by omega)
    have w5 : FrM S (stI (mTr T) 179 (586 + (33 + m)) (nI v)) := hf.tr (mTr_fr.tr (FrM.of Fr.M (fun i hi => stI_ni (by omega))))
    simp only [foldN] at hg
    have w6 : (mTr T).1 179 (28 + k) = nI m := by
      have q := (h0.2.2 k hk).2.2
      rw [hm7, sI_s, Nat.zero_add] at q
      rw [mTr_fr.2.1 _ (by omega)]
      exact q
    refine z_iload9 C dX8_worn_92 ?_
    refine z_iload6 C dX8_worn_94 ?_
    refine z_if_neT C 103 dX8_worn_96 (by decide) (by decide) ?_
    refine z_bipush (v := nI 9) C dX8_worn_103 (by decide) ?_
    refine z_icmp_gtN C 240 dX8_worn_105 (by decide) (by omega) (by omega) (fun c105 => ?_) (fun c105 => ?_)
    · exact absurd c105 (by omega)
    · refine z_aload0 C dX8_worn_108 ?_
      refine z_callVV C dX8_worn_109 c_X8_tries gX8_worn_X8_tries md_X8_tries rfl (by decide) (k_Model _) rfl rfl rfl (Nat.le_of_ble_eq_true rfl) ?_
      refine z_aload0 C dX8_worn_112 ?_
      refine z_get C dX8_worn_113 fl_X8_worn_7 (k_Model _) rfl ?_
      refine z_sipush (v := nI 586) C dX8_worn_116 (by decide) ?_
      refine z_iload6 C dX8_worn_119 ?_
      refine z_if_neT C 131 dX8_worn_121 (by decide) (by decide) ?_
      refine z_bipush (v := nI 33) C dX8_worn_131 (by decide) ?_
      refine z_aload0 C dX8_worn_133 ?_
      refine z_get C dX8_worn_134 fl_X8_worn_7 (k_Model _) rfl ?_
      refine z_bipush (v := nI 28) C dX8_worn_137 (by decide) ?_
      refine z_iload1 C dX8_worn_139 ?_
      refine z_iaddN C dX8_worn_140 ?_
      refine z_iald C dX8_worn_141 (k_i179 _) (by omega) ?_
      refine z_top C w6 ?_
      refine z_iaddN C dX8_worn_142 ?_
      refine z_iaddN C dX8_worn_143 ?_
      refine z_iload9 C dX8_worn_144 ?_
      refine z_iast C dX8_worn_146 (k_i179 _) (by omega) ?_
      refine z_iconstN 1 C dX8_worn_147 ?_
      refine z_istore10 C dX8_worn_148 nl_i ?_
      refine z_iconstN 0 C dX8_worn_150 ?_
      refine z_istore11 C dX8_worn_151 nl_i ?_
      refine li_X8_worn1 (S := S) (it := it) (v := v) (a := a) hj (by omega) hi hit C N 0 _ _ (by omega) w1 w2 (by rw [w3]; exact hk) w5 (fun hw T2 e2 f2 => ?_) (fun hw T2 e2 f2 => ?_)
      · rw [Nat.add_zero] at hw
        rw [if_pos hw] at hg
        refine z_iload8 C dX8_worn_216 ?_
        refine z_iload10 C dX8_worn_218 ?_
        refine z_if_eqF C 230 dX8_worn_220 (by decide) (by decide) ?_
        refine z_iconstN 1 C dX8_worn_223 ?_
        refine z_iload9 C dX8_worn_224 ?_
        refine z_ishl C dX8_worn_226 ?_
        refine z_goto C 231 dX8_worn_227 (by decide) ?_
        refine z_ior C dX8_worn_231 ?_
        refine z_istore8 C dX8_worn_232 nl_i ?_
        refine z_iinc9 C dX8_worn_234 (inc1 _) nl_i ?_
        refine z_goto C 92 dX8_worn_237 (by decide) ?_
        exact ih (v + 1) _ _ _ _ (by omega) (by omega) nl_i f2 hg
      · rw [Nat.add_zero] at hw
        rw [if_neg (by rw [hw]; decide)] at hg
        rw [show a = a ||| nI 0 from (lorz a).symm] at hg
        refine z_iload8 C dX8_worn_216 ?_
        refine z_iload10 C dX8_worn_218 ?_
        refine z_if_eqT C 230 dX8_worn_220 (by decide) (by decide) ?_
        refine z_iconstN 0 C dX8_worn_230 ?_
        refine z_ior C dX8_worn_231 ?_
        refine z_istore8 C dX8_worn_232 nl_i ?_
        refine z_iinc9 C dX8_worn_234 (inc1 _) nl_i ?_
        refine z_goto C 92 dX8_worn_237 (by decide) ?_
        exact ih (v + 1) _ _ _ _ (by omega) (by omega) nl_i f2 hg

theorem kl_X8_worn_223 : Cond.constantLong RX8 223 (8) ∈ wsX8_worn := by decide +kernel
set_option maxHeartbeats 4000000 in
set_option maxRecDepth 100000 in
theorem c_X8_worn {l : Launch} {Y : LY} {S : GS} {V : VR} {q : SQ} (h : HW (S.1 179) 0 V) (ho : Ok V) (hQ : QM S q) (hO : QOk q) {x s ln i n w : Int32} : CtP l yX8_worn wsX8_worn 7 Y [.ref (ad Y 178), .int x, .int s, .int ln, .int i, .int n, .int w] S (fun r u => r = aWorn V q x s ln i n w ∧ FrM S u) := by
  refine mkP (cc := cX8_worn) (maxL := 12) rfl rfl (Nat.le_of_ble_eq_true rfl) ?_
  intro X hl hY C hr
  subst hl
  subst hY
  have hM : S.1 179 0 = nI (V 0 0) := h.1.1
  have hK : S.1 179 1 = nI (V 0 1) := h.1.2.1
  have o1 := ho.1
  have o2 := ho.2.1
  show Zj X S [some (.ref (ad (xY X) 178)), some (.int x), some (.int s), some (.int ln), some (.int i), some (.int n), some (.int w), none, none, none, none, none] 0 []
  refine z_aload0 C dX8_worn_0 ?_
  refine z_iload1 C dX8_worn_1 ?_
  refine z_callVI C dX8_worn_2 (c_X8_isMonk2 ho.2.1 hK) gX8_worn_X8_isMonk md_X8_isMonk rfl (by decide) (k_Model _) rfl rfl rfl (Nat.le_of_ble_eq_true rfl) ?_
  refine z_if_eqB C 40 dX8_worn_5 (by decide) (fun c5 => ?_) (fun c5 => ?_)
  · refine z_iconst (v := (-1)) C dX8_worn_40 (by decide) ?_
    exact z_iretP C dX8_worn_41 hr rfl ⟨by rw [aWorn_n (by rintro ⟨h1, h2, h3, h4⟩; contradiction)], FrM.rf⟩
  · refine z_iload2 C dX8_worn_8 ?_
    refine z_iload3 C dX8_worn_9 ?_
    refine z_callSI C dX8_worn_10 c_X8_isLane gX8_worn_X8_isLane md_X8_isLane (by decide) rfl rfl (Nat.le_of_ble_eq_true rfl) ?_
    refine z_if_eqB C 40 dX8_worn_13 (by decide) (fun c13 => ?_) (fun c13 => ?_)
    · refine z_iconst (v := (-1)) C dX8_worn_40 (by decide) ?_
      exact z_iretP C dX8_worn_41 hr rfl ⟨by rw [aWorn_n (by rintro ⟨h1, h2, h3, h4⟩; contradiction)], FrM.rf⟩
    · refine z_iload5 C dX8_worn_16 ?_
      refine z_i2l C dX8_worn_18 ?_
      refine z_lconst (v := 1) C dX8_worn_19 rfl ?_
      refine z_topl (y := (nI 1).toInt64) C (by decide) ?_
      refine z_ldc2 (v := 8) C dX8_worn_20 kl_X8_worn_223 ?_
      refine z_topl (y := (nI 8).toInt64) C (by decide) ?_
      refine z_callSI C dX8_worn_23 c_X8_in gX8_worn_X8_in md_X8_in (by decide) rfl rfl (Nat.le_of_ble_eq_true rfl) ?_
      refine z_if_eqB C 40 dX8_worn_26 (by decide) (fun c26 => ?_) (fun c26 => ?_)
      · refine z_iconst (v := (-1)) C dX8_worn_40 (by decide) ?_
        exact z_iretP C dX8_worn_41 hr rfl ⟨by rw [aWorn_n (by rintro ⟨h1, h2, h3, h4⟩; contradiction)], FrM.rf⟩
      · refine z_iload6 C dX8_worn_29 ?_
        refine z_i2l C dX8_worn_31 ?_
        refine z_lconst (v := 0) C dX8_worn_32 rfl ?_
        refine z_topl (y := (nI 0).toInt64) C (by decide) ?_
        refine z_lconst (v := 1) C dX8_worn_33 rfl ?_
        refine z_topl (y := (nI 1).toInt64) C (by decide) ?_
        refine z_callSI C dX8_worn_34 c_X8_in gX8_worn_X8_in md_X8_in (by decide) rfl rfl (Nat.le_of_ble_eq_true rfl) ?_
        refine z_if_neB C 42 dX8_worn_37 (by decide) (fun c37 => ?_) (fun c37 => ?_)
        · obtain ⟨k, hk, rfl⟩ := inR_of (by omega) c5
          obtain ⟨j, -, hj3, rfl⟩ := inB_of (by decide) c13.1 (by decide)
          obtain ⟨n, hn1, hn, rfl⟩ := inB_of (by decide) c26 (by decide)
          have hj : j < 4 := by omega
          refine z_aload0 C dX8_worn_42 ?_
          refine z_iload2 C dX8_worn_43 ?_
          refine z_iload3 C dX8_worn_44 ?_
          refine z_iload4 C dX8_worn_45 ?_
          refine z_iload5 C dX8_worn_47 ?_
          refine z_callVI C dX8_worn_49 (c_X8_against hQ hO hj) gX8_worn_X8_against md_X8_against rfl (by decide) (k_Model _) rfl rfl rfl (Nat.le_of_ble_eq_true rfl) ?_
          refine z_istore7 C dX8_worn_52 nl_i ?_
          refine z_iload7 C dX8_worn_54 ?_
          refine z_if_ge C 62 dX8_worn_56 (by decide) (fun c56 => ?_) (fun c56 => ?_)
          · obtain ⟨-, -, i, rfl, hi⟩ := aLook_n (show n ≤ 24 by omega) hO hj c56
            obtain ⟨w0, -, hw1, rfl⟩ := inB_of (by decide) c37 (by decide)
            refine z_iload6 C dX8_worn_62 ?_
            refine z_iconstN 1 C dX8_worn_64 ?_
            refine z_icmp_neN C 85 dX8_worn_65 (by decide) (by omega) (by omega) (fun c65 => ?_) (fun c65 => ?_)
            · obtain rfl : w0 = 0 := by omega
              refine z_iconstN 0 C dX8_worn_85 ?_
              refine z_istore8 C dX8_worn_86 nl_i ?_
              refine z_iload6 C dX8_worn_88 ?_
              refine z_istore9 C dX8_worn_90 nl_i ?_
              exact lo_X8_worn0 hj hk h ho hi (hQ j hj).2.2 hr (fun u hu => ⟨by rw [aWorn_y hj hk o2 hn1 hn (by omega) c13.2 c37 c56, if_pos nI0], hu⟩) C 5 0 _ _ _ _ (by omega) nl_n FrM.rf rfl
            · refine z_aload0 C dX8_worn_68 ?_
              refine z_get C dX8_worn_69 fl_X8_worn_7 (k_Model _) rfl ?_
              refine z_bipush (v := nI 28) C dX8_worn_72 (by decide) ?_
              refine z_iload1 C dX8_worn_74 ?_
              refine z_iaddN C dX8_worn_75 ?_
              refine z_iald C dX8_worn_76 (k_i179 _) (by omega) ?_
              refine z_top C (show S.1 179 (28 + k) = sI (V 7 k) by have q := (h.2.2 k hk).2.2; rw [Nat.zero_add] at q; exact q) ?_
              refine z_bipush (v := (-4)) C dX8_worn_77 (by decide) ?_
              refine z_icmp_ne C 85 dX8_worn_79 (by decide) (fun c79 => ?_) (fun c79 => ?_)
              · obtain rfl : w0 = 1 := by omega
                have n7 : ¬ V 7 k = 0 := fun z => c79 (by rw [z]; rfl)
                have b7 := (ho.2.2.2 k hk).2.2
                refine z_iconstN 0 C dX8_worn_85 ?_
                refine z_istore8 C dX8_worn_86 nl_i ?_
                refine z_iload6 C dX8_worn_88 ?_
                refine z_istore9 C dX8_worn_90 nl_i ?_
                exact lo_X8_worn1 (m := V 7 k - 1) hj hk (by omega) (by omega) h ho hi (hQ j hj).2.2 hr (fun u hu => ⟨by rw [aWorn_y hj hk o2 hn1 hn (by omega) c13.2 c37 c56, if_neg (by decide), if_neg n7], hu⟩) C 9 1 _ _ _ _ (by omega) (by omega) nl_n FrM.rf rfl
              · refine z_bipush (v := (-2)) C dX8_worn_82 (by decide) ?_
                exact z_iretP C dX8_worn_84 hr rfl (by
    have z7 : V 7 k = 0 := by
      by_cases z : V 7 k = 0
      · exact z
      · exfalso
        unfold sI at c79
        rw [if_neg z] at c79
        have := (ho.2.2.2 k hk).2.2
        have q0 : 0 ≤ nI (V 7 k - 1) := nI_pos' (by omega)
        rw [c79] at q0
        exact absurd q0 (by decide)
    refine ⟨?_, FrM.rf⟩
    rw [aWorn_y hj hk o2 hn1 hn (by omega) c13.2 c37 c56, if_neg (by rw [c65]; decide), if_pos z7])
          · refine z_iload7 C dX8_worn_59 ?_
            exact z_iretP C dX8_worn_61 hr rfl ⟨by rw [aWorn_l hj c5 c26 c13.2 c37 c56], FrM.rf⟩
        · refine z_iconst (v := (-1)) C dX8_worn_40 (by decide) ?_
          exact z_iretP C dX8_worn_41 hr rfl ⟨by rw [aWorn_n (by rintro ⟨h1, h2, h3, h4⟩; contradiction)], FrM.rf⟩
