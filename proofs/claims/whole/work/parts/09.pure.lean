/-! PURE ROWS: bytes in longs -/
/-- byte j of a word -/
def y_ (w : Int64) (j : Nat) : Nat := w.toBitVec.toNat / 2 ^ (8 * j) % 256
theorem y_lt (w : Int64) (j : Nat) : y_ w j < 256 := Nat.mod_lt _ (by decide)
theorem y_lN {n : Nat} (h : n < 2 ^ 64) (j : Nat) : y_ (lN n) j = n / 2 ^ (8 * j) % 256 := by rw [y_, wb_tn h]
theorem nI_bv (n : Nat) : (nI n).toBitVec.toNat = n % 2 ^ 32 := by
  show (BitVec.ofNat 32 n).toNat = _
  exact BitVec.toNat_ofNat n 32
theorem nI_and255 (m : Nat) : nI m &&& 255 = nI (m % 256) := by
  rw [pk_and (nI m) (m := 255) 8 (by decide), nI_bv]
  congr 1
  omega
/-- what at() computes -/
theorem y_at (w : Int64) {j : Nat} (hj : j < 2 ^ 31) : ((w.toUInt64 >>> ((8 * (nI j &&& 7)).toInt64.toUInt64 &&& Int64.toUInt64 63)).toInt64).toInt32 &&& 255 = nI (y_ w (j % 8)) := by
  have h1 : nI j &&& 7 = nI (j % 8) := pk_andN (by omega) 3 (by decide)
  have h2 : (8 : Int32) * nI (j % 8) = nI (8 * (j % 8)) := pk_mul 8 (j % 8)
  obtain ⟨n, hn, rfl⟩ := wb_of w
  rw [h1, h2, wb_shr hn (by omega), lN_i, nI_and255, y_lN hn]
theorem nat_byte {a c k i : Nat} (hc : c < 256) (hk : k < 8) (hi : i < 8) (ha : a < 2 ^ 64) :
    ((a &&& ((255 * 2 ^ (8 * k)) ^^^ (2 ^ 64 - 1))) ||| (c * 2 ^ (8 * k))) / 2 ^ (8 * i) % 256 = if i = k then c else a / 2 ^ (8 * i) % 256 := by
  apply Nat.eq_of_testBit_eq
  intro t
  rw [show (256 : Nat) = 2 ^ 8 from rfl, Nat.testBit_mod_two_pow, Nat.testBit_div_two_pow, Nat.testBit_or, Nat.testBit_and, Nat.testBit_xor, Nat.testBit_two_pow_sub_one, ← Nat.shiftLeft_eq, ← Nat.shiftLeft_eq, Nat.testBit_shiftLeft, Nat.testBit_shiftLeft]
  have h255 : ∀ q, Nat.testBit 255 q = decide (q < 8) := fun q => by
    rw [show (255 : Nat) = 2 ^ 8 - 1 from rfl, Nat.testBit_two_pow_sub_one]
  rw [h255]
  by_cases ht : t < 8
  · by_cases hik : i = k
    · subst hik
      have e1 : t + 8 * i - 8 * i = t := by omega
      have e2 : 8 * i ≤ t + 8 * i := by omega
      have e3 : t + 8 * i < 64 := by omega
      simp [ht, e1, e2, e3]
    · rw [if_neg hik, Nat.testBit_mod_two_pow, Nat.testBit_div_two_pow]
      have e3 : t + 8 * i < 64 := by omega
      by_cases hlt : 8 * k ≤ t + 8 * i
      · have e4 : ¬ t + 8 * i - 8 * k < 8 := by omega
        have e5 : c.testBit (t + 8 * i - 8 * k) = false := Nat.testBit_lt_two_pow (Nat.lt_of_lt_of_le hc (by
          rw [show (256 : Nat) = 2 ^ 8 from rfl]; exact Nat.pow_le_pow_right (by decide) (by omega)))
        simp [ht, e3, e4, e5]
      · simp [ht, e3, hlt]
  · have e6 : (if i = k then c else a / 2 ^ (8 * i) % 2 ^ 8).testBit t = false := by
      apply Nat.testBit_lt_two_pow
      refine Nat.lt_of_lt_of_le ?_ (Nat.pow_le_pow_right (n := 2) (by decide) (Nat.not_lt.mp ht))
      by_cases hik : i = k
      · rw [if_pos hik]; exact hc
      · rw [if_neg hik]; exact Nat.mod_lt _ (by decide)
    rw [e6]
    simp [ht]
/-- what put() lays -/
theorem y_put (w : Int64) (b : Int32) {j i : Nat} (hj : j < 2 ^ 31) (hi : i < 8) :
    y_ ((w &&& ((255 : Int64) <<< ((8 * (nI j &&& 7)).toInt64 &&& 63) ^^^ (-1))) ||| ((b &&& 255).toInt64 <<< ((8 * (nI j &&& 7)).toInt64 &&& 63))) i = if i = j % 8 then b.toBitVec.toNat % 256 else y_ w i := by
  have h1 : nI j &&& 7 = nI (j % 8) := pk_andN (by omega) 3 (by decide)
  have h2 : (8 : Int32) * nI (j % 8) = nI (8 * (j % 8)) := pk_mul 8 (j % 8)
  have hb : b &&& 255 = nI (b.toBitVec.toNat % 256) := pk_and b (m := 255) 8 (by decide)
  have hk : j % 8 < 8 := Nat.mod_lt _ (by decide)
  have hc : b.toBitVec.toNat % 256 < 256 := Nat.mod_lt _ (by decide)
  obtain ⟨n, hn, rfl⟩ := wb_of w
  have p1 : 2 ^ (8 * (j % 8)) ≤ 2 ^ 56 := Nat.pow_le_pow_right (by decide) (by omega)
  have q1 : 255 * 2 ^ (8 * (j % 8)) < 2 ^ 64 := by omega
  have q2 : b.toBitVec.toNat % 256 * 2 ^ (8 * (j % 8)) < 2 ^ 64 := Nat.lt_of_le_of_lt (Nat.mul_le_mul (Nat.le_of_lt_succ (show b.toBitVec.toNat % 256 < 255 + 1 from hc)) p1) (by decide)
  have m1 : ((-1 : Int64)) = lN (2 ^ 64 - 1) := by decide +kernel
  have q3 : 255 * 2 ^ (8 * (j % 8)) ^^^ (2 ^ 64 - 1) < 2 ^ 64 := Nat.xor_lt_two_pow q1 (by decide)
  rw [h1, h2, hb, show (255 : Int64) = lN 255 from rfl, wb_shl 255 (by omega), m1, lN_xor, nI_l (by omega), wb_shl _ (by omega), wb_and hn q3]
  have q4 : n &&& (255 * 2 ^ (8 * (j % 8)) ^^^ (2 ^ 64 - 1)) < 2 ^ 64 := Nat.lt_of_le_of_lt Nat.and_le_left hn
  rw [wb_or q4 q2, y_lN (Nat.or_lt_two_pow q4 q2), y_lN hn]
  exact nat_byte hc hk hi hn
