set_option maxHeartbeats 40000000 in
set_option maxRecDepth 100000 in
theorem lw_cells {G : va_G} {cA : Nat → ClassId} {h0 : Nat} {an ai at_ : Nat → Nat} {qk rk0 : Nat} {fk : Nat → Option Nat} {ak : Nat → Nat → Nat} {qi ri0 : Nat} {fi : Nat → Option Nat} {aI : Nat → Nat → Nat} {qt tl qs : Nat} {fs : Nat → Option Nat} {qp s1 s2 s3 s4 qr o1 o2 qq qw : Nat} {sh ti : Nat → Nat} {m0 w1 w2 w3 w4 w5 w6 w7 w8 w9 w10 w11 : Nat} {H : Heap} (hfk : ∀ i, i < 8 → fk i = some (ak i 0)) (hfi : ∀ i, i < 8 → fi i = some (aI i 0)) (hfs : ∀ i, i < 4 → fs i = some (sh i)) (hP : va_P G vwCl (lwW cA h0 an ai at_ qk rk0 fk ak qi ri0 fi aI qt tl qs fs qp s1 s2 s3 s4 qr o1 o2 qq qw sh ti m0 w1 w2 w3 w4 w5 w6 w7 w8 w9 w10 w11) H) : ∀ o, o < 190 → va_at G vwCl (ad (lwY G cA h0 an ai at_ qk rk0 fk ak qi ri0 fi aI qt tl qs fs qp s1 s2 s3 s4 qr o1 o2 qq qw sh ti m0 w1 w2 w3 w4 w5 w6 w7 w8 w9 w10 w11) o, cellF (lwY G cA h0 an ai at_ qk rk0 fk ak qi ri0 fi aI qt tl qs fs qp s1 s2 s3 s4 qr o1 o2 qq qw sh ti m0 w1 w2 w3 w4 w5 w6 w7 w8 w9 w10 w11) o (S0.1 o) (S0.2 o)) H := by
  obtain ⟨hE, hM⟩ := pA hP
  have hE : va_P G vwCl (emW cA h0 an ai at_ qk rk0 fk ak qi ri0 fi aI qt tl qs fs qp s1 s2 s3 s4 qr o1 o2 qq qw sh ti) H := hE
  unfold emW at hE
  obtain ⟨e0, hE⟩ := pC hE
  obtain ⟨e13, hE⟩ := pC hE
  obtain ⟨hE, hX⟩ := pA hE
  obtain ⟨e20, hX⟩ := pC hX
  obtain ⟨e21, -⟩ := pC hX
  obtain ⟨hE, hX⟩ := pA hE
  obtain ⟨e18, hX⟩ := pC hX
  obtain ⟨e19, -⟩ := pC hX
  obtain ⟨hE, hX⟩ := pA hE
  obtain ⟨e16, hX⟩ := pC hX
  obtain ⟨e17, -⟩ := pC hX
  obtain ⟨hE, hX⟩ := pA hE
  obtain ⟨e14, hX⟩ := pC hX
  obtain ⟨e15, -⟩ := pC hX
  obtain ⟨hE, hX⟩ := pA hE
  obtain ⟨e10, -⟩ := pC hX
  obtain ⟨hE, hX⟩ := pA hE
  obtain ⟨e1, -⟩ := pC hX
  obtain ⟨hE, hX⟩ := pA hE
  obtain ⟨e2, hX⟩ := pC hX
  obtain ⟨e3, hX⟩ := pC hX
  obtain ⟨e4, -⟩ := pC hX
  obtain ⟨hE, hX⟩ := pA hE
  obtain ⟨e5, hX⟩ := pC hX
  obtain ⟨e6, hX⟩ := pC hX
  obtain ⟨e7, hX⟩ := pC hX
  obtain ⟨e8, hX⟩ := pC hX
  obtain ⟨e9, -⟩ := pC hX
  obtain ⟨hE, ht⟩ := pA hE
  obtain ⟨hE, hX⟩ := pA hE
  obtain ⟨e11, hX⟩ := pC hX
  obtain ⟨e12, -⟩ := pC hX
  obtain ⟨hE, hX⟩ := pA hE
  unfold knW at hX
  obtain ⟨e24, hX⟩ := pC hX
  obtain ⟨e25, hX⟩ := pC hX
  obtain ⟨hX, hi7⟩ := pA hX
  obtain ⟨hX, hi6⟩ := pA hX
  obtain ⟨hX, hi5⟩ := pA hX
  obtain ⟨hX, hi4⟩ := pA hX
  obtain ⟨hX, hi3⟩ := pA hX
  obtain ⟨hX, hi2⟩ := pA hX
  obtain ⟨hX, hi1⟩ := pA hX
  obtain ⟨hX, hi0⟩ := pA hX
  obtain ⟨hE, hIm⟩ := pA hE
  obtain ⟨hE, hX⟩ := pA hE
  unfold knW at hX
  obtain ⟨e22, hX⟩ := pC hX
  obtain ⟨e23, hX⟩ := pC hX
  obtain ⟨hX, hk7⟩ := pA hX
  obtain ⟨hX, hk6⟩ := pA hX
  obtain ⟨hX, hk5⟩ := pA hX
  obtain ⟨hX, hk4⟩ := pA hX
  obtain ⟨hX, hk3⟩ := pA hX
  obtain ⟨hX, hk2⟩ := pA hX
  obtain ⟨hX, hk1⟩ := pA hX
  obtain ⟨hX, hk0⟩ := pA hX
  obtain ⟨hE, hn⟩ := pA hE
  unfold moW at hM
  obtain ⟨e178, hM⟩ := pC hM
  obtain ⟨e179, hM⟩ := pC hM
  obtain ⟨e180, hM⟩ := pC hM
  obtain ⟨e181, hM⟩ := pC hM
  obtain ⟨e182, hM⟩ := pC hM
  obtain ⟨e183, hM⟩ := pC hM
  obtain ⟨e184, hM⟩ := pC hM
  obtain ⟨e185, hM⟩ := pC hM
  obtain ⟨e186, hM⟩ := pC hM
  obtain ⟨e187, hM⟩ := pC hM
  obtain ⟨e188, hM⟩ := pC hM
  obtain ⟨e189, -⟩ := pC hM
  intro o ho
  by_cases c1 : o < 26
  · rcases (show o = 0 ∨ o = 1 ∨ o = 2 ∨ o = 3 ∨ o = 4 ∨ o = 5 ∨ o = 6 ∨ o = 7 ∨ o = 8 ∨ o = 9 ∨ o = 10 ∨ o = 11 ∨ o = 12 ∨ o = 13 ∨ o = 14 ∨ o = 15 ∨ o = 16 ∨ o = 17 ∨ o = 18 ∨ o = 19 ∨ o = 20 ∨ o = 21 ∨ o = 22 ∨ o = 23 ∨ o = 24 ∨ o = 25 by omega) with rfl | rfl | rfl | rfl | rfl | rfl | rfl | rfl | rfl | rfl | rfl | rfl | rfl | rfl | rfl | rfl | rfl | rfl | rfl | rfl | rfl | rfl | rfl | rfl | rfl | rfl
    · exact e0
    · exact e1
    · exact e2
    · exact e3
    · exact e4
    · exact e5
    · exact e6
    · exact e7
    · exact e8
    · exact e9
    · exact e10
    · exact e11
    · exact e12
    · exact eQ_at e13 (fun i hi => by rw [hfs i hi]; rcases (show i = 0 ∨ i = 1 ∨ i = 2 ∨ i = 3 by omega) with rfl | rfl | rfl | rfl <;> rfl)
    · exact e14
    · exact e15
    · exact e16
    · exact e17
    · exact e18
    · exact e19
    · exact e20
    · exact e21
    · exact e22
    · exact eQ_at e23 (fun i hi => by rw [hfk i hi]; rcases (show i = 0 ∨ i = 1 ∨ i = 2 ∨ i = 3 ∨ i = 4 ∨ i = 5 ∨ i = 6 ∨ i = 7 by omega) with rfl | rfl | rfl | rfl | rfl | rfl | rfl | rfl <;> rfl)
    · exact e24
    · exact eQ_at e25 (fun i hi => by rw [hfi i hi]; rcases (show i = 0 ∨ i = 1 ∨ i = 2 ∨ i = 3 ∨ i = 4 ∨ i = 5 ∨ i = 6 ∨ i = 7 by omega) with rfl | rfl | rfl | rfl | rfl | rfl | rfl | rfl <;> rfl)
  · by_cases c2 : o < 178
    · obtain ⟨j, k, hj, hk, rfl⟩ : ∃ j k, j < 19 ∧ k < 8 ∧ o = 26 + 8 * j + k := ⟨(o - 26) / 8, (o - 26) % 8, by omega, by omega, by omega⟩
      rcases (show j = 0 ∨ j = 1 ∨ j = 2 ∨ j = 3 ∨ j = 4 ∨ j = 5 ∨ j = 6 ∨ j = 7 ∨ j = 8 ∨ j = 9 ∨ j = 10 ∨ j = 11 ∨ j = 12 ∨ j = 13 ∨ j = 14 ∨ j = 15 ∨ j = 16 ∨ j = 17 ∨ j = 18 by omega) with rfl | rfl | rfl | rfl | rfl | rfl | rfl | rfl | rfl | rfl | rfl | rfl | rfl | rfl | rfl | rfl | rfl | rfl | rfl
      · exact rk_cells (Y := (lwY G cA h0 an ai at_ qk rk0 fk ak qi ri0 fi aI qt tl qs fs qp s1 s2 s3 s4 qr o1 o2 qq qw sh ti m0 w1 w2 w3 w4 w5 w6 w7 w8 w9 w10 w11)) (j := 0) (by decide) (fun k hk => by rcases (show k = 0 ∨ k = 1 ∨ k = 2 ∨ k = 3 ∨ k = 4 ∨ k = 5 ∨ k = 6 ∨ k = 7 by omega) with rfl | rfl | rfl | rfl | rfl | rfl | rfl | rfl <;> rfl) hn k hk
      · exact rk_cells (Y := (lwY G cA h0 an ai at_ qk rk0 fk ak qi ri0 fi aI qt tl qs fs qp s1 s2 s3 s4 qr o1 o2 qq qw sh ti m0 w1 w2 w3 w4 w5 w6 w7 w8 w9 w10 w11)) (j := 1) (by decide) (fun k hk => by rcases (show k = 0 ∨ k = 1 ∨ k = 2 ∨ k = 3 ∨ k = 4 ∨ k = 5 ∨ k = 6 ∨ k = 7 by omega) with rfl | rfl | rfl | rfl | rfl | rfl | rfl | rfl <;> rfl) hIm k hk
      · exact rk_cells (Y := (lwY G cA h0 an ai at_ qk rk0 fk ak qi ri0 fi aI qt tl qs fs qp s1 s2 s3 s4 qr o1 o2 qq qw sh ti m0 w1 w2 w3 w4 w5 w6 w7 w8 w9 w10 w11)) (j := 2) (by decide) (fun k hk => by rcases (show k = 0 ∨ k = 1 ∨ k = 2 ∨ k = 3 ∨ k = 4 ∨ k = 5 ∨ k = 6 ∨ k = 7 by omega) with rfl | rfl | rfl | rfl | rfl | rfl | rfl | rfl <;> rfl) ht k hk
      · exact rk_cells (Y := (lwY G cA h0 an ai at_ qk rk0 fk ak qi ri0 fi aI qt tl qs fs qp s1 s2 s3 s4 qr o1 o2 qq qw sh ti m0 w1 w2 w3 w4 w5 w6 w7 w8 w9 w10 w11)) (j := 3) (by decide) (fun k hk => by rcases (show k = 0 ∨ k = 1 ∨ k = 2 ∨ k = 3 ∨ k = 4 ∨ k = 5 ∨ k = 6 ∨ k = 7 by omega) with rfl | rfl | rfl | rfl | rfl | rfl | rfl | rfl <;> rfl) hk0 k hk
      · exact rk_cells (Y := (lwY G cA h0 an ai at_ qk rk0 fk ak qi ri0 fi aI qt tl qs fs qp s1 s2 s3 s4 qr o1 o2 qq qw sh ti m0 w1 w2 w3 w4 w5 w6 w7 w8 w9 w10 w11)) (j := 4) (by decide) (fun k hk => by rcases (show k = 0 ∨ k = 1 ∨ k = 2 ∨ k = 3 ∨ k = 4 ∨ k = 5 ∨ k = 6 ∨ k = 7 by omega) with rfl | rfl | rfl | rfl | rfl | rfl | rfl | rfl <;> rfl) hk1 k hk
      · exact rk_cells (Y := (lwY G cA h0 an ai at_ qk rk0 fk ak qi ri0 fi aI qt tl qs fs qp s1 s2 s3 s4 qr o1 o2 qq qw sh ti m0 w1 w2 w3 w4 w5 w6 w7 w8 w9 w10 w11)) (j := 5) (by decide) (fun k hk => by rcases (show k = 0 ∨ k = 1 ∨ k = 2 ∨ k = 3 ∨ k = 4 ∨ k = 5 ∨ k = 6 ∨ k = 7 by omega) with rfl | rfl | rfl | rfl | rfl | rfl | rfl | rfl <;> rfl) hk2 k hk
      · exact rk_cells (Y := (lwY G cA h0 an ai at_ qk rk0 fk ak qi ri0 fi aI qt tl qs fs qp s1 s2 s3 s4 qr o1 o2 qq qw sh ti m0 w1 w2 w3 w4 w5 w6 w7 w8 w9 w10 w11)) (j := 6) (by decide) (fun k hk => by rcases (show k = 0 ∨ k = 1 ∨ k = 2 ∨ k = 3 ∨ k = 4 ∨ k = 5 ∨ k = 6 ∨ k = 7 by omega) with rfl | rfl | rfl | rfl | rfl | rfl | rfl | rfl <;> rfl) hk3 k hk
      · exact rk_cells (Y := (lwY G cA h0 an ai at_ qk rk0 fk ak qi ri0 fi aI qt tl qs fs qp s1 s2 s3 s4 qr o1 o2 qq qw sh ti m0 w1 w2 w3 w4 w5 w6 w7 w8 w9 w10 w11)) (j := 7) (by decide) (fun k hk => by rcases (show k = 0 ∨ k = 1 ∨ k = 2 ∨ k = 3 ∨ k = 4 ∨ k = 5 ∨ k = 6 ∨ k = 7 by omega) with rfl | rfl | rfl | rfl | rfl | rfl | rfl | rfl <;> rfl) hk4 k hk
      · exact rk_cells (Y := (lwY G cA h0 an ai at_ qk rk0 fk ak qi ri0 fi aI qt tl qs fs qp s1 s2 s3 s4 qr o1 o2 qq qw sh ti m0 w1 w2 w3 w4 w5 w6 w7 w8 w9 w10 w11)) (j := 8) (by decide) (fun k hk => by rcases (show k = 0 ∨ k = 1 ∨ k = 2 ∨ k = 3 ∨ k = 4 ∨ k = 5 ∨ k = 6 ∨ k = 7 by omega) with rfl | rfl | rfl | rfl | rfl | rfl | rfl | rfl <;> rfl) hk5 k hk
      · exact rk_cells (Y := (lwY G cA h0 an ai at_ qk rk0 fk ak qi ri0 fi aI qt tl qs fs qp s1 s2 s3 s4 qr o1 o2 qq qw sh ti m0 w1 w2 w3 w4 w5 w6 w7 w8 w9 w10 w11)) (j := 9) (by decide) (fun k hk => by rcases (show k = 0 ∨ k = 1 ∨ k = 2 ∨ k = 3 ∨ k = 4 ∨ k = 5 ∨ k = 6 ∨ k = 7 by omega) with rfl | rfl | rfl | rfl | rfl | rfl | rfl | rfl <;> rfl) hk6 k hk
      · exact rk_cells (Y := (lwY G cA h0 an ai at_ qk rk0 fk ak qi ri0 fi aI qt tl qs fs qp s1 s2 s3 s4 qr o1 o2 qq qw sh ti m0 w1 w2 w3 w4 w5 w6 w7 w8 w9 w10 w11)) (j := 10) (by decide) (fun k hk => by rcases (show k = 0 ∨ k = 1 ∨ k = 2 ∨ k = 3 ∨ k = 4 ∨ k = 5 ∨ k = 6 ∨ k = 7 by omega) with rfl | rfl | rfl | rfl | rfl | rfl | rfl | rfl <;> rfl) hk7 k hk
      · exact rk_cells (Y := (lwY G cA h0 an ai at_ qk rk0 fk ak qi ri0 fi aI qt tl qs fs qp s1 s2 s3 s4 qr o1 o2 qq qw sh ti m0 w1 w2 w3 w4 w5 w6 w7 w8 w9 w10 w11)) (j := 11) (by decide) (fun k hk => by rcases (show k = 0 ∨ k = 1 ∨ k = 2 ∨ k = 3 ∨ k = 4 ∨ k = 5 ∨ k = 6 ∨ k = 7 by omega) with rfl | rfl | rfl | rfl | rfl | rfl | rfl | rfl <;> rfl) hi0 k hk
      · exact rk_cells (Y := (lwY G cA h0 an ai at_ qk rk0 fk ak qi ri0 fi aI qt tl qs fs qp s1 s2 s3 s4 qr o1 o2 qq qw sh ti m0 w1 w2 w3 w4 w5 w6 w7 w8 w9 w10 w11)) (j := 12) (by decide) (fun k hk => by rcases (show k = 0 ∨ k = 1 ∨ k = 2 ∨ k = 3 ∨ k = 4 ∨ k = 5 ∨ k = 6 ∨ k = 7 by omega) with rfl | rfl | rfl | rfl | rfl | rfl | rfl | rfl <;> rfl) hi1 k hk
      · exact rk_cells (Y := (lwY G cA h0 an ai at_ qk rk0 fk ak qi ri0 fi aI qt tl qs fs qp s1 s2 s3 s4 qr o1 o2 qq qw sh ti m0 w1 w2 w3 w4 w5 w6 w7 w8 w9 w10 w11)) (j := 13) (by decide) (fun k hk => by rcases (show k = 0 ∨ k = 1 ∨ k = 2 ∨ k = 3 ∨ k = 4 ∨ k = 5 ∨ k = 6 ∨ k = 7 by omega) with rfl | rfl | rfl | rfl | rfl | rfl | rfl | rfl <;> rfl) hi2 k hk
      · exact rk_cells (Y := (lwY G cA h0 an ai at_ qk rk0 fk ak qi ri0 fi aI qt tl qs fs qp s1 s2 s3 s4 qr o1 o2 qq qw sh ti m0 w1 w2 w3 w4 w5 w6 w7 w8 w9 w10 w11)) (j := 14) (by decide) (fun k hk => by rcases (show k = 0 ∨ k = 1 ∨ k = 2 ∨ k = 3 ∨ k = 4 ∨ k = 5 ∨ k = 6 ∨ k = 7 by omega) with rfl | rfl | rfl | rfl | rfl | rfl | rfl | rfl <;> rfl) hi3 k hk
      · exact rk_cells (Y := (lwY G cA h0 an ai at_ qk rk0 fk ak qi ri0 fi aI qt tl qs fs qp s1 s2 s3 s4 qr o1 o2 qq qw sh ti m0 w1 w2 w3 w4 w5 w6 w7 w8 w9 w10 w11)) (j := 15) (by decide) (fun k hk => by rcases (show k = 0 ∨ k = 1 ∨ k = 2 ∨ k = 3 ∨ k = 4 ∨ k = 5 ∨ k = 6 ∨ k = 7 by omega) with rfl | rfl | rfl | rfl | rfl | rfl | rfl | rfl <;> rfl) hi4 k hk
      · exact rk_cells (Y := (lwY G cA h0 an ai at_ qk rk0 fk ak qi ri0 fi aI qt tl qs fs qp s1 s2 s3 s4 qr o1 o2 qq qw sh ti m0 w1 w2 w3 w4 w5 w6 w7 w8 w9 w10 w11)) (j := 16) (by decide) (fun k hk => by rcases (show k = 0 ∨ k = 1 ∨ k = 2 ∨ k = 3 ∨ k = 4 ∨ k = 5 ∨ k = 6 ∨ k = 7 by omega) with rfl | rfl | rfl | rfl | rfl | rfl | rfl | rfl <;> rfl) hi5 k hk
      · exact rk_cells (Y := (lwY G cA h0 an ai at_ qk rk0 fk ak qi ri0 fi aI qt tl qs fs qp s1 s2 s3 s4 qr o1 o2 qq qw sh ti m0 w1 w2 w3 w4 w5 w6 w7 w8 w9 w10 w11)) (j := 17) (by decide) (fun k hk => by rcases (show k = 0 ∨ k = 1 ∨ k = 2 ∨ k = 3 ∨ k = 4 ∨ k = 5 ∨ k = 6 ∨ k = 7 by omega) with rfl | rfl | rfl | rfl | rfl | rfl | rfl | rfl <;> rfl) hi6 k hk
      · exact rk_cells (Y := (lwY G cA h0 an ai at_ qk rk0 fk ak qi ri0 fi aI qt tl qs fs qp s1 s2 s3 s4 qr o1 o2 qq qw sh ti m0 w1 w2 w3 w4 w5 w6 w7 w8 w9 w10 w11)) (j := 18) (by decide) (fun k hk => by rcases (show k = 0 ∨ k = 1 ∨ k = 2 ∨ k = 3 ∨ k = 4 ∨ k = 5 ∨ k = 6 ∨ k = 7 by omega) with rfl | rfl | rfl | rfl | rfl | rfl | rfl | rfl <;> rfl) hi7 k hk
    · rcases (show o = 178 ∨ o = 179 ∨ o = 180 ∨ o = 181 ∨ o = 182 ∨ o = 183 ∨ o = 184 ∨ o = 185 ∨ o = 186 ∨ o = 187 ∨ o = 188 ∨ o = 189 by omega) with rfl | rfl | rfl | rfl | rfl | rfl | rfl | rfl | rfl | rfl | rfl | rfl
      · exact e178
      · exact e179
      · exact e180
      · exact e181
      · exact e182
      · exact e183
      · exact e184
      · exact e185
      · exact e186
      · exact e187
      · exact e188
      · exact e189
