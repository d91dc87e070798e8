/-! counting bits -/
def zs (n : Nat) : Nat → Nat
  | 0 => 0
  | k + 1 => zs n k + n / 2 ^ k % 2
theorem zs_le (n : Nat) : ∀ k, zs n k ≤ k
  | 0 => Nat.le_refl 0
  | k + 1 => by
    have := zs_le n k
    unfold zs
    omega
theorem zs_8 {a b : Nat} (ha : a < 256) : zs (256 * b + a) 8 = zs a 8 := by
  simp only [zs, Nat.reducePow]
  omega
theorem zs_split {a b : Nat} (ha : a < 256) : ∀ k, zs (256 * b + a) (8 + k) = zs a 8 + zs b k
  | 0 => by rw [Nat.add_zero, zs_8 ha]; rfl
  | k + 1 => by
    have e : (256 * b + a) / 2 ^ (8 + k) = b / 2 ^ k := by
      rw [Nat.pow_add, ← Nat.div_div_eq_div_mul]
      congr 1
      omega
    have h := zs_split (b := b) ha k
    show zs (256 * b + a) (8 + k) + (256 * b + a) / 2 ^ (8 + k) % 2 = zs a 8 + (zs b k + b / 2 ^ k % 2)
    rw [h, e, Nat.add_assoc]
theorem zand8 {a b c d : Nat} (ha : a < 256) (hc : c < 256) : (256 * b + a) &&& (256 * d + c) = 256 * (b &&& d) + (a &&& c) := by
  have h1 : a &&& c < 2 ^ 8 := Nat.lt_of_le_of_lt Nat.and_le_left ha
  refine Nat.eq_of_testBit_eq fun j => ?_
  rw [Nat.testBit_and, show 256 = 2 ^ 8 from rfl, Nat.testBit_two_pow_mul_add _ ha, Nat.testBit_two_pow_mul_add _ hc, Nat.testBit_two_pow_mul_add _ h1]
  by_cases hj : j < 8
  · rw [if_pos hj, if_pos hj, if_pos hj, Nat.testBit_and]
  · rw [if_neg hj, if_neg hj, if_neg hj, Nat.testBit_and]
theorem zand32 {a b c d m : Nat} (ha : a < 256) (hb : b < 256) (hc : c < 256) (hd : d < 256) (hm : m < 256) : (256 * (256 * (256 * d + c) + b) + a) &&& (256 * (256 * (256 * m + m) + m) + m) = 256 * (256 * (256 * (d &&& m) + (c &&& m)) + (b &&& m)) + (a &&& m) := by
  rw [zand8 ha hm, zand8 hb hm, zand8 hc hm]
def zy (x : Nat) : Nat := x - ((x / 2) &&& 85)
def zz (x : Nat) : Nat := (zy x &&& 51) + ((zy x / 4) &&& 51)
theorem zp1 : ∀ x, x < 256 → ∀ b, b < 2 → (x / 2 + 128 * b) &&& 85 = (x / 2) &&& 85 := by decide +kernel
theorem zp2 : ∀ x, x < 256 → (x / 2) &&& 85 ≤ x := by decide +kernel
theorem zp3 : ∀ x, x < 256 → ∀ b, b < 4 → (x / 4 + 64 * b) &&& 51 = (x / 4) &&& 51 := by decide +kernel
theorem zp4 : ∀ x, x < 256 → zz x % 16 ≤ 4 ∧ zz x / 16 ≤ 4 ∧ zz x % 16 + zz x / 16 = zs x 8 := by decide +kernel
theorem zfold {a b c d : Nat} (ha : a ≤ 8) (hb : b ≤ 8) (hc : c ≤ 8) (hd : d ≤ 8) : (256 * (256 * (256 * d + c) + b) + a + (256 * (256 * (256 * d + c) + b) + a) / 256 + (256 * (256 * (256 * d + c) + b) + a + (256 * (256 * (256 * d + c) + b) + a) / 256) / 65536) % 64 = a + b + c + d := by
  rw [show (256 * (256 * (256 * d + c) + b) + a) / 256 = 256 * (256 * d + c) + b by omega, show (256 * (256 * (256 * d + c) + b) + a + (256 * (256 * d + c) + b)) / 65536 = 256 * d + (c + d) by omega]
  omega
def zpop (n : Nat) : Nat :=
  let y := n - ((n / 2) &&& 1431655765)
  let z := (y &&& 858993459) + ((y / 4) &&& 858993459)
  let w := (z + z / 16) &&& 252645135
  let v := w + w / 256
  (v + v / 65536) &&& 63
theorem zpop_bytes {a b c d : Nat} (ha : a < 256) (hb : b < 256) (hc : c < 256) (hd : d < 256) : zpop (256 * (256 * (256 * d + c) + b) + a) = zs a 8 + zs b 8 + zs c 8 + zs d 8 := by
  have h1 : (256 * (256 * (256 * d + c) + b) + a) / 2 &&& 1431655765 = 256 * (256 * (256 * ((d / 2) &&& 85) + ((c / 2) &&& 85)) + ((b / 2) &&& 85)) + ((a / 2) &&& 85) := by
    rw [show (256 * (256 * (256 * d + c) + b) + a) / 2 = 256 * (256 * (256 * (d / 2 + 128 * 0) + (c / 2 + 128 * (d % 2))) + (b / 2 + 128 * (c % 2))) + (a / 2 + 128 * (b % 2)) by omega, show 1431655765 = 256 * (256 * (256 * 85 + 85) + 85) + 85 from rfl, zand32 (by omega) (by omega) (by omega) (by omega) (by omega), zp1 a ha _ (by omega), zp1 b hb _ (by omega), zp1 c hc _ (by omega), zp1 d hd _ (by omega)]
  have l1 := zp2 a ha
  have l2 := zp2 b hb
  have l3 := zp2 c hc
  have l4 := zp2 d hd
  have h2 : 256 * (256 * (256 * d + c) + b) + a - ((256 * (256 * (256 * d + c) + b) + a) / 2 &&& 1431655765) = 256 * (256 * (256 * zy d + zy c) + zy b) + zy a := by
    rw [h1]
    unfold zy
    omega
  have y1 : zy a < 256 := by unfold zy; omega
  have y2 : zy b < 256 := by unfold zy; omega
  have y3 : zy c < 256 := by unfold zy; omega
  have y4 : zy d < 256 := by unfold zy; omega
  have h3 : (256 * (256 * (256 * zy d + zy c) + zy b) + zy a) &&& 858993459 = 256 * (256 * (256 * (zy d &&& 51) + (zy c &&& 51)) + (zy b &&& 51)) + (zy a &&& 51) := by
    rw [show 858993459 = 256 * (256 * (256 * 51 + 51) + 51) + 51 from rfl, zand32 y1 y2 y3 y4 (by omega)]
  have h4 : (256 * (256 * (256 * zy d + zy c) + zy b) + zy a) / 4 &&& 858993459 = 256 * (256 * (256 * ((zy d / 4) &&& 51) + ((zy c / 4) &&& 51)) + ((zy b / 4) &&& 51)) + ((zy a / 4) &&& 51) := by
    rw [show (256 * (256 * (256 * zy d + zy c) + zy b) + zy a) / 4 = 256 * (256 * (256 * (zy d / 4 + 64 * 0) + (zy c / 4 + 64 * (zy d % 4))) + (zy b / 4 + 64 * (zy c % 4))) + (zy a / 4 + 64 * (zy b % 4)) by omega, show 858993459 = 256 * (256 * (256 * 51 + 51) + 51) + 51 from rfl, zand32 (by omega) (by omega) (by omega) (by omega) (by omega), zp3 _ y1 _ (by omega), zp3 _ y2 _ (by omega), zp3 _ y3 _ (by omega), zp3 _ y4 _ (by omega)]
  have h5 : (256 * (256 * (256 * (zy d &&& 51) + (zy c &&& 51)) + (zy b &&& 51)) + (zy a &&& 51)) + (256 * (256 * (256 * ((zy d / 4) &&& 51) + ((zy c / 4) &&& 51)) + ((zy b / 4) &&& 51)) + ((zy a / 4) &&& 51)) = 256 * (256 * (256 * zz d + zz c) + zz b) + zz a := by
    unfold zz
    omega
  obtain ⟨a1, a2, a3⟩ := zp4 a ha
  obtain ⟨b1, b2, b3⟩ := zp4 b hb
  obtain ⟨c1, c2, c3⟩ := zp4 c hc
  obtain ⟨d1, d2, d3⟩ := zp4 d hd
  have m16 : ∀ v : Nat, v &&& 15 = v % 16 := fun v => Nat.and_two_pow_sub_one_eq_mod v 4
  have f16 : ∀ v c : Nat, v % 16 ≤ 4 → v / 16 ≤ 4 → (v + v / 16 + 16 * c) % 16 = v % 16 + v / 16 := fun v c h1 h2 => by omega
  have f160 : ∀ v : Nat, v % 16 ≤ 4 → v / 16 ≤ 4 → (v + v / 16) % 16 = v % 16 + v / 16 := fun v h1 h2 => by omega
  have h6 : (256 * (256 * (256 * zz d + zz c) + zz b) + zz a + (256 * (256 * (256 * zz d + zz c) + zz b) + zz a) / 16) &&& 252645135 = 256 * (256 * (256 * (zz d % 16 + zz d / 16) + (zz c % 16 + zz c / 16)) + (zz b % 16 + zz b / 16)) + (zz a % 16 + zz a / 16) := by
    rw [show 256 * (256 * (256 * zz d + zz c) + zz b) + zz a + (256 * (256 * (256 * zz d + zz c) + zz b) + zz a) / 16 = 256 * (256 * (256 * (zz d + zz d / 16) + (zz c + zz c / 16 + 16 * (zz d % 16))) + (zz b + zz b / 16 + 16 * (zz c % 16))) + (zz a + zz a / 16 + 16 * (zz b % 16)) by omega, show 252645135 = 256 * (256 * (256 * 15 + 15) + 15) + 15 from rfl, zand32 (by omega) (by omega) (by omega) (by omega) (by omega), m16, m16, m16, m16, f16 _ _ a1 a2, f16 _ _ b1 b2, f16 _ _ c1 c2, f160 _ d1 d2]
  have m64 : ∀ v : Nat, v &&& 63 = v % 64 := fun v => Nat.and_two_pow_sub_one_eq_mod v 6
  unfold zpop
  simp only [h2, h3, h4, h5, h6, m64]
  rw [a3, b3, c3, d3]
  exact zfold (zs_le a 8) (zs_le b 8) (zs_le c 8) (zs_le d 8)
theorem zpop_eq {n : Nat} (h : n < 2 ^ 32) : zpop n = zs n 32 := by
  have e : n = 256 * (256 * (256 * (n / 16777216) + n / 65536 % 256) + n / 256 % 256) + n % 256 := by omega
  have h1 := zpop_bytes (a := n % 256) (b := n / 256 % 256) (c := n / 65536 % 256) (d := n / 16777216) (by omega) (by omega) (by omega) (by omega)
  rw [← e] at h1
  rw [h1]
  have e2 := zs_split (a := n % 256) (b := 256 * (256 * (n / 16777216) + n / 65536 % 256) + n / 256 % 256) (by omega) 24
  rw [← e] at e2
  have e3 := zs_split (a := n / 256 % 256) (b := 256 * (n / 16777216) + n / 65536 % 256) (by omega) 16
  have e4 := zs_split (a := n / 65536 % 256) (b := n / 16777216) (by omega) 8
  rw [e2, e3, e4]
  omega
theorem zs_31 {n : Nat} (h : n < 2 ^ 31) : zs n 32 = zs n 31 := by
  rw [zs, Nat.div_eq_of_lt h]
  rfl
theorem zI_ushr {n k : Nat} {s : Int32} (hn : n < 2 ^ 32) (hs : ((s.toUInt32 &&& Int32.toUInt32 31).toBitVec % 32).toNat = k) : ((nI n).toUInt32 >>> (s.toUInt32 &&& Int32.toUInt32 31)).toInt32 = nI (n / 2 ^ k) := pk_ushrN hn s k hs
theorem J_bitCount {n : Nat} (h : n < 2 ^ 31) : fJ6_bitCount_0f7a4 (nI n) = some (nI (zs n 31)) := by
  rw [← zs_31 h, ← zpop_eq (by omega)]
  unfold fJ6_bitCount_0f7a4 zpop
  have g1 : (1431655765 : Int32) = nI 1431655765 := by decide
  have g2 : (858993459 : Int32) = nI 858993459 := by decide
  have g3 : (252645135 : Int32) = nI 252645135 := by decide
  have g4 : (63 : Int32) = nI 63 := by decide
  have u1 : ∀ m : Nat, m < 2 ^ 32 → ((nI m).toUInt32 >>> ((1 : Int32).toUInt32 &&& Int32.toUInt32 31)).toInt32 = nI (m / 2) := fun m hm => zI_ushr (k := 1) hm (by decide)
  have u2 : ∀ m : Nat, m < 2 ^ 32 → ((nI m).toUInt32 >>> ((2 : Int32).toUInt32 &&& Int32.toUInt32 31)).toInt32 = nI (m / 4) := fun m hm => zI_ushr (k := 2) hm (by decide)
  have u4 : ∀ m : Nat, m < 2 ^ 32 → ((nI m).toUInt32 >>> ((4 : Int32).toUInt32 &&& Int32.toUInt32 31)).toInt32 = nI (m / 16) := fun m hm => zI_ushr (k := 4) hm (by decide)
  have u8 : ∀ m : Nat, m < 2 ^ 32 → ((nI m).toUInt32 >>> ((8 : Int32).toUInt32 &&& Int32.toUInt32 31)).toInt32 = nI (m / 256) := fun m hm => zI_ushr (k := 8) hm (by decide)
  have u16 : ∀ m : Nat, m < 2 ^ 32 → ((nI m).toUInt32 >>> ((16 : Int32).toUInt32 &&& Int32.toUInt32 31)).toInt32 = nI (m / 65536) := fun m hm => zI_ushr (k := 16) hm (by decide)
  rw [g1, g2, g3, g4]
  rw [u1 n (by omega), zI_and]
  have l1 : n / 2 &&& 1431655765 ≤ n := Nat.le_trans Nat.and_le_left (by omega)
  rw [pk_sub l1]
  have hy : n - (n / 2 &&& 1431655765) < 2 ^ 32 := by omega
  generalize n - (n / 2 &&& 1431655765) = y at hy ⊢
  rw [u2 y hy, zI_and, zI_and, nI_add]
  have hz : (y &&& 858993459) + (y / 4 &&& 858993459) < 2 ^ 31 := by
    have h1 : y &&& 858993459 ≤ 858993459 := Nat.and_le_right
    have h2 : y / 4 &&& 858993459 ≤ 858993459 := Nat.and_le_right
    omega
  dsimp only
  generalize (y &&& 858993459) + (y / 4 &&& 858993459) = z at hz ⊢
  rw [u4 z (by omega), nI_add, zI_and]
  have hw : (z + z / 16) &&& 252645135 ≤ 252645135 := Nat.and_le_right
  generalize (z + z / 16) &&& 252645135 = w at hw ⊢
  rw [u8 w (by omega), nI_add, u16 (w + w / 256) (by omega), nI_add, zI_and]
theorem zI_shr31 : ∀ i, i < 32 → ((nI i &&& 31).toBitVec.smod 32).toNat = i := by decide +kernel
theorem M_ones {n : Nat} (h : n < 2 ^ 31) : fX6_ones (nI n) = some (nI (zs n 31)) := by
  unfold fX6_ones
  rw [show (0 : Int32) = nI 0 from gl_0]
  refine z_loop (fun k i (s' : Int32) => fX6_ones_b4 k (nI n) s' (nI i)) 31 (fun i s' => s' = nI (zs n i)) (fun o => o = some (nI (zs n 31))) ?_ ?_ 2000 0 (nI 0) (by omega) (by omega) rfl
  · rintro k i s' hi rfl
    refine ⟨_, rfl, ?_⟩
    have e : nI n >>> (nI i &&& 31) &&& 1 = nI (n / 2 ^ i % 2) := by
      rw [pk_shrN h _ i (zI_shr31 i (by omega)), gl_1, zI_and]
      exact congrArg nI (Nat.and_two_pow_sub_one_eq_mod _ 1)
    rw [fX6_ones_b4, e, nI_add]
    simp (disch := omega) only [gl_31, nI_leI, if_neg, gl_1, nI_add]
    rfl
  · rintro k s' rfl
    rw [fX6_ones_b4]
    simp (disch := omega) only [gl_31, nI_leI, if_pos]
