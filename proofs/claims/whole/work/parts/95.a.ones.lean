/-! Ones of a word -/
theorem n_and {a b : Nat} (ha : a < 2 ^ 32) (hb : b < 2 ^ 32) : nI a &&& nI b = nI (a &&& b) := by
  apply Int32.toBitVec_inj.mp
  show BitVec.ofNat 32 a &&& BitVec.ofNat 32 b = BitVec.ofNat 32 _
  apply BitVec.eq_of_toNat_eq
  rw [BitVec.toNat_and, BitVec.toNat_ofNat, BitVec.toNat_ofNat, BitVec.toNat_ofNat, Nat.mod_eq_of_lt ha, Nat.mod_eq_of_lt hb, Nat.mod_eq_of_lt (Nat.lt_of_le_of_lt Nat.and_le_left ha)]
theorem n_or {a b : Nat} (ha : a < 2 ^ 32) (hb : b < 2 ^ 32) : nI a ||| nI b = nI (a ||| b) := by
  apply Int32.toBitVec_inj.mp
  show BitVec.ofNat 32 a ||| BitVec.ofNat 32 b = BitVec.ofNat 32 _
  apply BitVec.eq_of_toNat_eq
  rw [BitVec.toNat_or, BitVec.toNat_ofNat, BitVec.toNat_ofNat, BitVec.toNat_ofNat, Nat.mod_eq_of_lt ha, Nat.mod_eq_of_lt hb, Nat.mod_eq_of_lt (Nat.or_lt_two_pow ha hb)]
theorem and2 (h l h2 l2 : Nat) (hl : l < 256) (hl2 : l2 < 256) : (256 * h + l) &&& (256 * h2 + l2) = 256 * (h &&& h2) + (l &&& l2) := by
  have e1 : ((256 * h + l) &&& (256 * h2 + l2)) / 2 ^ 8 = h &&& h2 := by
    rw [Nat.and_div_two_pow, show (256 * h + l) / 2 ^ 8 = h by omega, show (256 * h2 + l2) / 2 ^ 8 = h2 by omega]
  have e2 : ((256 * h + l) &&& (256 * h2 + l2)) % 2 ^ 8 = l &&& l2 := by
    rw [Nat.and_mod_two_pow, show (256 * h + l) % 2 ^ 8 = l by omega, show (256 * h2 + l2) % 2 ^ 8 = l2 by omega]
  omega
theorem and4 (a b c d m : Nat) (ha : a < 256) (hb : b < 256) (hc : c < 256) (hm : m < 256) : (256 * (256 * (256 * d + c) + b) + a) &&& (256 * (256 * (256 * m + m) + m) + m) = 256 * (256 * (256 * (d &&& m) + (c &&& m)) + (b &&& m)) + (a &&& m) := by
  rw [and2 _ _ _ _ ha hm, and2 _ _ _ _ hb hm, and2 _ _ _ _ hc hm]
def f1 (a : Nat) : Nat := a - (a / 2 &&& 85)
def f2 (a : Nat) : Nat := (a &&& 51) + (a / 4 &&& 51)
def f3 (a : Nat) : Nat := (a + a / 16) % 16
def bs (n : Nat) : Nat → Nat
  | 0 => 0
  | k + 1 => bs n k + n / 2 ^ k % 2
theorem bc_1 : ∀ a, a < 256 → (a / 2 &&& 85) ≤ a ∧ f1 a < 256 ∧ f2 (f1 a) ≤ 68 ∧ f2 (f1 a) % 16 ≤ 4 ∧ f3 (f2 (f1 a)) = bs a 8 ∧ bs a 8 ≤ 8 := by decide +kernel
theorem bc_2 : ∀ u, u < 128 → ∀ e, e < 2 → (u + 128 * e) &&& 85 = u &&& 85 := by decide +kernel
theorem bc_3 : ∀ u, u < 64 → ∀ e, e < 4 → (u + 64 * e) &&& 51 = u &&& 51 := by decide +kernel
theorem bc_4 (v : Nat) : v &&& 15 = v % 16 := Nat.and_two_pow_sub_one_eq_mod v 4
theorem bs_add (n : Nat) (k : Nat) : ∀ j, bs n (k + j) = bs n k + bs (n / 2 ^ k) j
  | 0 => rfl
  | j + 1 => by
    rw [← Nat.add_assoc, bs, bs_add n k j, bs, Nat.pow_add, Nat.div_div_eq_div_mul, Nat.add_assoc]
theorem bs_8 (n : Nat) : bs n 8 = bs (n % 256) 8 := by
  simp only [bs]
  omega
theorem bs_32 (n : Nat) : bs n 32 = bs (n % 256) 8 + (bs (n / 256 % 256) 8 + (bs (n / 65536 % 256) 8 + bs (n / 16777216 % 256) 8)) := by
  rw [bs_add n 8 24, bs_add (n / 2 ^ 8) 8 16, bs_add (n / 2 ^ 8 / 2 ^ 8) 8 8, bs_8 n, bs_8 (n / 2 ^ 8), bs_8 (n / 2 ^ 8 / 2 ^ 8), bs_8 (n / 2 ^ 8 / 2 ^ 8 / 2 ^ 8), show n / 2 ^ 8 / 2 ^ 8 / 2 ^ 8 = n / 16777216 by omega, show n / 2 ^ 8 / 2 ^ 8 = n / 65536 by omega, show n / 2 ^ 8 = n / 256 by omega]
theorem bc_w (a b c d : Nat) (ha : a < 256) (hb : b < 256) (hc : c < 256) (hd : d < 256) : bcF (nI (256 * (256 * (256 * d + c) + b) + a)) = nI (bs a 8 + (bs b 8 + (bs c 8 + bs d 8))) := by
  have A := bc_1 a ha
  have B := bc_1 b hb
  have C := bc_1 c hc
  have D := bc_1 d hd
  have e1 : bc1 (nI (256 * (256 * (256 * d + c) + b) + a)) = nI (256 * (256 * (256 * f1 d + f1 c) + f1 b) + f1 a) := by
    unfold bc1
    rw [pk_ushrN (by omega) 1 1 (by decide), show (1431655765 : Int32) = nI 1431655765 from rfl, n_and (by omega) (by omega), show (256 * (256 * (256 * d + c) + b) + a) / 2 ^ 1 = 256 * (256 * (256 * (d / 2 + 128 * 0) + (c / 2 + 128 * (d % 2))) + (b / 2 + 128 * (c % 2))) + (a / 2 + 128 * (b % 2)) by omega, show (1431655765 : Nat) = 256 * (256 * (256 * 85 + 85) + 85) + 85 by rfl, and4 _ _ _ _ _ (by omega) (by omega) (by omega) (by omega), bc_2 _ (by omega) _ (by omega), bc_2 _ (by omega) _ (by omega), bc_2 _ (by omega) _ (by omega), bc_2 _ (by omega) _ (by omega), pk_sub (by omega)]
    congr 1
    unfold f1
    omega
  rw [bcF, e1]
  generalize f1 a = a1 at A
  generalize f1 b = b1 at B
  generalize f1 c = c1 at C
  generalize f1 d = d1 at D
  have e2 : bc2 (nI (256 * (256 * (256 * d1 + c1) + b1) + a1)) = nI (256 * (256 * (256 * f2 d1 + f2 c1) + f2 b1) + f2 a1) := by
    unfold bc2
    rw [pk_ushrN (by omega) 2 2 (by decide), show (858993459 : Int32) = nI 858993459 from rfl, n_and (by omega) (by omega), n_and (by omega) (by omega), show (256 * (256 * (256 * d1 + c1) + b1) + a1) / 2 ^ 2 = 256 * (256 * (256 * (d1 / 4 + 64 * 0) + (c1 / 4 + 64 * (d1 % 4))) + (b1 / 4 + 64 * (c1 % 4))) + (a1 / 4 + 64 * (b1 % 4)) by omega, show (858993459 : Nat) = 256 * (256 * (256 * 51 + 51) + 51) + 51 by rfl, and4 _ _ _ _ _ (by omega) (by omega) (by omega) (by omega), and4 _ _ _ _ _ (by omega) (by omega) (by omega) (by omega), bc_3 _ (by omega) _ (by omega), bc_3 _ (by omega) _ (by omega), bc_3 _ (by omega) _ (by omega), bc_3 _ (by omega) _ (by omega), nI_add]
    congr 1
    unfold f2
    omega
  rw [e2]
  generalize f2 a1 = a2 at A
  generalize f2 b1 = b2 at B
  generalize f2 c1 = c2 at C
  generalize f2 d1 = d2 at D
  have e3 : bc3 (nI (256 * (256 * (256 * d2 + c2) + b2) + a2)) = nI (256 * (256 * (256 * f3 d2 + f3 c2) + f3 b2) + f3 a2) := by
    unfold bc3
    rw [pk_ushrN (by omega) 4 4 (by decide), nI_add, show (252645135 : Int32) = nI 252645135 from rfl, n_and (by omega) (by omega), show 256 * (256 * (256 * d2 + c2) + b2) + a2 + (256 * (256 * (256 * d2 + c2) + b2) + a2) / 2 ^ 4 = 256 * (256 * (256 * (d2 + d2 / 16) + (c2 + c2 / 16 + 16 * (d2 % 16))) + (b2 + b2 / 16 + 16 * (c2 % 16))) + (a2 + a2 / 16 + 16 * (b2 % 16)) by omega, show (252645135 : Nat) = 256 * (256 * (256 * 15 + 15) + 15) + 15 by rfl, and4 _ _ _ _ _ (by omega) (by omega) (by omega) (by omega), bc_4, bc_4, bc_4, bc_4]
    congr 1
    unfold f3
    omega
  rw [e3, A.2.2.2.2.1, B.2.2.2.2.1, C.2.2.2.2.1, D.2.2.2.2.1]
  have A8 := A.2.2.2.2.2
  have B8 := B.2.2.2.2.2
  have C8 := C.2.2.2.2.2
  have D8 := D.2.2.2.2.2
  generalize bs a 8 = p at A8
  generalize bs b 8 = r at B8
  generalize bs c 8 = s at C8
  generalize bs d 8 = t at D8
  unfold bc5 bc4
  clear A B C D e1 e2 e3
  rw [pk_ushrN (by omega) 8 8 (by decide), nI_add, show 256 * (256 * (256 * t + s) + r) + p + (256 * (256 * (256 * t + s) + r) + p) / 2 ^ 8 = 16777216 * t + 65536 * (s + t) + 256 * (r + s) + (p + r) by omega, pk_ushrN (by omega) 16 16 (by decide), nI_add, show 16777216 * t + 65536 * (s + t) + 256 * (r + s) + (p + r) + (16777216 * t + 65536 * (s + t) + 256 * (r + s) + (p + r)) / 2 ^ 16 = 64 * (262144 * t + 1024 * (s + t) + 4 * (r + s) + 4 * t) + (p + (r + (s + t))) by omega, pk_andN (by omega) 6 (by decide)]
  congr 1
  omega
theorem bc_n {n : Nat} (hn : n < 2 ^ 32) : bcF (nI n) = nI (bs n 32) := by
  rw [bs_32, ← bc_w _ _ _ _ (Nat.mod_lt _ (by omega)) (Nat.mod_lt _ (by omega)) (Nat.mod_lt _ (by omega)) (Nat.mod_lt _ (by omega))]
  congr 2
  omega
theorem bs_z {n k : Nat} (h : n < 2 ^ k) : ∀ j, bs n (k + j) = bs n k
  | 0 => rfl
  | j + 1 => by
    rw [← Nat.add_assoc, bs, bs_z h j, Nat.div_eq_of_lt (Nat.lt_of_lt_of_le h (Nat.pow_le_pow_right (by omega) (by omega)))]; rfl

