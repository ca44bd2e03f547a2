/-! THE WORLD THAT THE CONSTRUCTORS LEAVE is wl Y S0 -/
abbrev lwW (cA : Nat → ClassId) (h0 : Nat) (an ai at_ : Nat → Nat) (qk rk0 : Nat) (fk : Nat → Option Nat) (ak : Nat → Nat → Nat) (qi ri0 : Nat) (fi : Nat → Option Nat) (aI : Nat → Nat → Nat) (qt tl qs : Nat) (fs : Nat → Option Nat) (qp s1 s2 s3 s4 qr o1 o2 qq qw : Nat) (sh ti : Nat → Nat) (m0 w1 w2 w3 w4 w5 w6 w7 w8 w9 w10 w11 : Nat) : va_W := ([] ++ emW cA h0 an ai at_ qk rk0 fk ak qi ri0 fi aI qt tl qs fs qp s1 s2 s3 s4 qr o1 o2 qq qw sh ti) ++ moW cA m0 w1 w2 w3 w4 w5 w6 w7 w8 w9 w10 w11
def lwA (h0 : Nat) (an ai at_ : Nat → Nat) (qk rk0 : Nat) (fk : Nat → Option Nat) (ak : Nat → Nat → Nat) (qi ri0 : Nat) (fi : Nat → Option Nat) (aI : Nat → Nat → Nat) (qt tl qs : Nat) (fs : Nat → Option Nat) (qp s1 s2 s3 s4 qr o1 o2 qq qw : Nat) (sh ti : Nat → Nat) (m0 w1 w2 w3 w4 w5 w6 w7 w8 w9 w10 w11 : Nat) : List Nat := [h0, qs, an 0, an 1, an 2, an 3, an 4, an 5, an 6, an 7, qk, rk0, ak 0 0, ak 0 1, ak 0 2, ak 0 3, ak 0 4, ak 0 5, ak 0 6, ak 0 7, ak 1 0, ak 1 1, ak 1 2, ak 1 3, ak 1 4, ak 1 5, ak 1 6, ak 1 7, ak 2 0, ak 2 1, ak 2 2, ak 2 3, ak 2 4, ak 2 5, ak 2 6, ak 2 7, ak 3 0, ak 3 1, ak 3 2, ak 3 3, ak 3 4, ak 3 5, ak 3 6, ak 3 7, ak 4 0, ak 4 1, ak 4 2, ak 4 3, ak 4 4, ak 4 5, ak 4 6, ak 4 7, ak 5 0, ak 5 1, ak 5 2, ak 5 3, ak 5 4, ak 5 5, ak 5 6, ak 5 7, ak 6 0, ak 6 1, ak 6 2, ak 6 3, ak 6 4, ak 6 5, ak 6 6, ak 6 7, ak 7 0, ak 7 1, ak 7 2, ak 7 3, ak 7 4, ak 7 5, ak 7 6, ak 7 7, ai 0, ai 1, ai 2, ai 3, ai 4, ai 5, ai 6, ai 7, qi, ri0, aI 0 0, aI 0 1, aI 0 2, aI 0 3, aI 0 4, aI 0 5, aI 0 6, aI 0 7, aI 1 0, aI 1 1, aI 1 2, aI 1 3, aI 1 4, aI 1 5, aI 1 6, aI 1 7, aI 2 0, aI 2 1, aI 2 2, aI 2 3, aI 2 4, aI 2 5, aI 2 6, aI 2 7, aI 3 0, aI 3 1, aI 3 2, aI 3 3, aI 3 4, aI 3 5, aI 3 6, aI 3 7, aI 4 0, aI 4 1, aI 4 2, aI 4 3, aI 4 4, aI 4 5, aI 4 6, aI 4 7, aI 5 0, aI 5 1, aI 5 2, aI 5 3, aI 5 4, aI 5 5, aI 5 6, aI 5 7, aI 6 0, aI 6 1, aI 6 2, aI 6 3, aI 6 4, aI 6 5, aI 6 6, aI 6 7, aI 7 0, aI 7 1, aI 7 2, aI 7 3, aI 7 4, aI 7 5, aI 7 6, aI 7 7, qt, tl, at_ 0, at_ 1, at_ 2, at_ 3, at_ 4, at_ 5, at_ 6, at_ 7, qp, s1, s2, s3, s4, qr, o1, o2, qq, qw, sh 0, ti 0, sh 1, ti 1, sh 2, ti 2, sh 3, ti 3, m0, w1, w2, w3, w4, w5, w6, w7, w8, w9, w10, w11]
def lwp : List Nat := [0, 168, 165, 166, 167, 160, 161, 162, 163, 164, 169, 150, 151, 1, 170, 171, 172, 173, 174, 175, 176, 177, 10, 11, 84, 85, 2, 3, 4, 5, 6, 7, 8, 9, 76, 77, 78, 79, 80, 81, 82, 83, 152, 153, 154, 155, 156, 157, 158, 159, 12, 13, 14, 15, 16, 17, 18, 19, 20, 21, 22, 23, 24, 25, 26, 27, 28, 29, 30, 31, 32, 33, 34, 35, 36, 37, 38, 39, 40, 41, 42, 43, 44, 45, 46, 47, 48, 49, 50, 51, 52, 53, 54, 55, 56, 57, 58, 59, 60, 61, 62, 63, 64, 65, 66, 67, 68, 69, 70, 71, 72, 73, 74, 75, 86, 87, 88, 89, 90, 91, 92, 93, 94, 95, 96, 97, 98, 99, 100, 101, 102, 103, 104, 105, 106, 107, 108, 109, 110, 111, 112, 113, 114, 115, 116, 117, 118, 119, 120, 121, 122, 123, 124, 125, 126, 127, 128, 129, 130, 131, 132, 133, 134, 135, 136, 137, 138, 139, 140, 141, 142, 143, 144, 145, 146, 147, 148, 149, 178, 179, 180, 181, 182, 183, 184, 185, 186, 187, 188, 189]
def lwY (G : va_G) (cA : Nat → ClassId) (h0 : Nat) (an ai at_ : Nat → Nat) (qk rk0 : Nat) (fk : Nat → Option Nat) (ak : Nat → Nat → Nat) (qi ri0 : Nat) (fi : Nat → Option Nat) (aI : Nat → Nat → Nat) (qt tl qs : Nat) (fs : Nat → Option Nat) (qp s1 s2 s3 s4 qr o1 o2 qq qw : Nat) (sh ti : Nat → Nat) (m0 w1 w2 w3 w4 w5 w6 w7 w8 w9 w10 w11 : Nat) : LY := (G, fun o => (lwA h0 an ai at_ qk rk0 fk ak qi ri0 fi aI qt tl qs fs qp s1 s2 s3 s4 qr o1 o2 qq qw sh ti m0 w1 w2 w3 w4 w5 w6 w7 w8 w9 w10 w11).getD (lwp.getD o 0) 0, cA)
def S0 : GS := (fun o => if 26 ≤ o ∧ o < 178 ∧ (o - 26) % 8 = 0 then (fun i => if i = 4 then 1 else 0) else if o = 179 then wwF else if o = 182 then ssF else fun _ => 0, fun _ _ => 0)
set_option maxHeartbeats 4000000 in
set_option maxRecDepth 100000 in
theorem rkW_fst {cA : Nat → ClassId} {a : Nat → Nat} : (rkW cA a).map Prod.fst = [a 0, a 1, a 2, a 3, a 4, a 5, a 6, a 7] := rfl
set_option maxHeartbeats 4000000 in
set_option maxRecDepth 100000 in
theorem lwA_fst {cA : Nat → ClassId} {h0 : Nat} {an ai at_ : Nat → Nat} {qk rk0 : Nat} {fk : Nat → Option Nat} {ak : Nat → Nat → Nat} {qi ri0 : Nat} {fi : Nat → Option Nat} {aI : Nat → Nat → Nat} {qt tl qs : Nat} {fs : Nat → Option Nat} {qp s1 s2 s3 s4 qr o1 o2 qq qw : Nat} {sh ti : Nat → Nat} {m0 w1 w2 w3 w4 w5 w6 w7 w8 w9 w10 w11 : Nat} : (lwW cA h0 an ai at_ qk rk0 fk ak qi ri0 fi aI qt tl qs fs qp s1 s2 s3 s4 qr o1 o2 qq qw sh ti m0 w1 w2 w3 w4 w5 w6 w7 w8 w9 w10 w11).map Prod.fst = lwA h0 an ai at_ qk rk0 fk ak qi ri0 fi aI qt tl qs fs qp s1 s2 s3 s4 qr o1 o2 qq qw sh ti m0 w1 w2 w3 w4 w5 w6 w7 w8 w9 w10 w11 := by
  simp only [lwW, emW, knW, moW, lwA, List.map_append, List.map_cons, List.map_nil, rkW_fst, List.cons_append, List.nil_append]
theorem lwp_in : ∀ o, o < 190 → lwp.getD o 0 < 190 := by decide +kernel
theorem lwp_inj : ∀ i, i < 190 → ∀ j, j < 190 → lwp.getD i 0 = lwp.getD j 0 → i = j := by decide +kernel
theorem at_fst {ws : va_W} {AW : List Nat} (h : ws.map Prod.fst = AW) {k : Nat} (hk : k < AW.length) : ∃ p, ws[k]? = some p ∧ p.1 = AW.getD k 0 := by
  subst h
  have hl : k < ws.length := by simpa using hk
  exact ⟨ws[k], by simp [hl], by simp [hl]⟩
theorem pA {G : va_G} {A B : va_W} {H : Heap} (h : va_P G vwCl (A ++ B) H) : va_P G vwCl A H ∧ va_P G vwCl B H := ⟨fun k q hk => h k q (by rw [List.getElem?_append_left (List.getElem?_eq_some_iff.mp hk).1]; exact hk), fun k q hk => h (A.length + k) q (by rw [List.getElem?_append_right (by omega), Nat.add_sub_cancel_left]; exact hk)⟩
theorem pC {G : va_G} {x : Nat × va_E} {R : va_W} {H : Heap} (h : va_P G vwCl (x :: R) H) : va_at G vwCl x H ∧ va_P G vwCl R H := ⟨h 0 x rfl, fun k q hk => h (k + 1) q hk⟩
theorem eQ_at {G : va_G} {cA : Nat → ClassId} {q t n : Nat} {f g : Nat → Option Nat} {H : Heap} (h : va_at G vwCl (q, eQ cA t n f) H) (e : ∀ i, i < n → f i = g i) : va_at G vwCl (q, eQ cA t n g) H := by
  have h' : H[q]? = some (vp_cell (cA t) (n, .inr (.inr (.inr (.inr f))))) := h
  show H[q]? = some (vp_cell (cA t) (n, .inr (.inr (.inr (.inr g)))))
  rw [h', vp_cell_q, vp_cell_q]
  unfold arrV
  have : (fun j : Fin n => va_rf (f j.val)) = (fun j : Fin n => va_rf (g j.val)) := funext (fun j => by rw [e j.val j.isLt])
  rw [this]
theorem rk_cells {Y : LY} {H : Heap} {a : Nat → Nat} {j : Nat} (hj : j < 19) (ha : ∀ k, k < 8 → ad Y (26 + 8 * j + k) = a k) (hP : va_P Y.1 vwCl (rkW Y.2.2 a) H) : ∀ k, k < 8 → va_at Y.1 vwCl (ad Y (26 + 8 * j + k), cellF Y (26 + 8 * j + k) (S0.1 (26 + 8 * j + k)) (S0.2 (26 + 8 * j + k))) H := by
  have hR : isR (26 + 8 * j) := ⟨j, hj, rfl⟩
  have z : ∀ k, 0 < k → k < 8 → S0.1 (26 + 8 * j + k) = fun _ => 0 := by
    intro k h1 h2
    show (if 26 ≤ 26 + 8 * j + k ∧ 26 + 8 * j + k < 178 ∧ (26 + 8 * j + k - 26) % 8 = 0 then (fun i => if i = 4 then 1 else 0) else if 26 + 8 * j + k = 179 then wwF else if 26 + 8 * j + k = 182 then ssF else fun _ => 0) = _
    rw [if_neg (by omega), if_neg (by omega), if_neg (by omega)]
  intro k hk
  rcases (show k = 0 ∨ k = 1 ∨ k = 2 ∨ k = 3 ∨ k = 4 ∨ k = 5 ∨ k = 6 ∨ k = 7 by omega) with rfl | rfl | rfl | rfl | rfl | rfl | rfl | rfl
  · have e : S0.1 (26 + 8 * j + 0) = fun i => if i = 4 then 1 else 0 := by
      show (if 26 ≤ 26 + 8 * j + 0 ∧ 26 + 8 * j + 0 < 178 ∧ (26 + 8 * j + 0 - 26) % 8 = 0 then (fun i => if i = 4 then 1 else 0) else if 26 + 8 * j + 0 = 179 then wwF else if 26 + 8 * j + 0 = 182 then ssF else fun _ => 0) = _
      rw [if_pos (by omega)]
    rw [e, ha 0 (by decide), show 26 + 8 * j + 0 = 26 + 8 * j from rfl, (k_Rock Y hR).2]
    unfold fRock
    rw [ha 1 (by decide), ha 2 (by decide), ha 3 (by decide), ha 4 (by decide), ha 5 (by decide), ha 6 (by decide), ha 7 (by decide)]
    exact hP 0 _ rfl

  · rw [z 1 (by decide) (by decide), ha 1 (by decide), (k_Rk6 Y hR (by decide) (by decide)).2.2]
    exact hP 1 _ rfl
  · rw [z 2 (by decide) (by decide), ha 2 (by decide), (k_Rk6 Y hR (by decide) (by decide)).2.2]
    exact hP 2 _ rfl
  · rw [z 3 (by decide) (by decide), ha 3 (by decide), (k_Rk6 Y hR (by decide) (by decide)).2.2]
    exact hP 3 _ rfl
  · rw [z 4 (by decide) (by decide), ha 4 (by decide), (k_Rk6 Y hR (by decide) (by decide)).2.2]
    exact hP 4 _ rfl
  · rw [z 5 (by decide) (by decide), ha 5 (by decide), (k_Rk5 Y hR (by decide) (by decide)).2.2]
    exact hP 5 _ rfl
  · rw [z 6 (by decide) (by decide), ha 6 (by decide), (k_Rk5 Y hR (by decide) (by decide)).2.2]
    exact hP 6 _ rfl
  · rw [z 7 (by decide) (by decide), ha 7 (by decide), (k_Rk5 Y hR (by decide) (by decide)).2.2]
    exact hP 7 _ rfl
