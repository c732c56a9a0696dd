/-! ASK: bits as a number, their count on both sides -/
/-! nx_and: out of the kit's BITS.to-paste -/
theorem nx_and (a b : Nat) : nI a &&& nI b = nI (a &&& b) := by
  apply Int32.toBitVec_inj.1
  show BitVec.ofNat 32 a &&& BitVec.ofNat 32 b = BitVec.ofNat 32 (a &&& b)
  apply BitVec.eq_of_getLsbD_eq
  intro i hi
  simp [hi]
theorem nx_or (a b : Nat) : nI a ||| nI b = nI (a ||| b) := by
  apply Int32.toBitVec_inj.1
  show BitVec.ofNat 32 a ||| BitVec.ofNat 32 b = BitVec.ofNat 32 (a ||| b)
  apply BitVec.eq_of_getLsbD_eq
  intro i hi
  simp [hi]
def zbN (P : Nat → Bool) (lo : Nat) : Nat → Nat
  | 0 => 0
  | k + 1 => if P (lo + k) = true then 2 ^ (lo + k) + zbN P lo k else zbN P lo k
theorem zbN_lt (P : Nat → Bool) (lo : Nat) : ∀ k, zbN P lo k < 2 ^ (lo + k)
  | 0 => Nat.two_pow_pos _
  | k + 1 => by
    have ih := zbN_lt P lo k
    rw [zbN, show lo + (k + 1) = lo + k + 1 by omega, Nat.pow_succ]
    split <;> omega
theorem z_pow20 : ∀ n, n ≤ 20 → (1 : Int32) <<< (nI n &&& 31) = nI (2 ^ n) := by decide +kernel
theorem zbt_N (P : Nat → Bool) : ∀ k, k ≤ 20 → zbt P 1 k = nI (zbN P 1 k)
  | 0, _ => rfl
  | k + 1, hk => by
    have ih := zbt_N P k (by omega)
    have hl := zbN_lt P 1 k
    rw [zbt, zbN, ih]
    by_cases c : P (1 + k) = true
    · rw [if_pos c, if_pos c, z_pow20 _ (by omega), nx_or, Nat.or_comm]
      have := Nat.two_pow_add_eq_or_of_lt hl 1
      rw [Nat.mul_one] at this
      rw [this]
    · rw [if_neg c, if_neg c]
theorem zbN_bit (P : Nat → Bool) : ∀ k v, 1 ≤ v → v < 1 + k → zbN P 1 k / 2 ^ v % 2 = if P v = true then 1 else 0
  | 0, v, h1, h2 => absurd h2 (by omega)
  | k + 1, v, h1, h2 => by
    have ih := zbN_bit P k v h1
    have hl := zbN_lt P 1 k
    rw [zbN]
    by_cases e : v = 1 + k
    · rw [e]
      by_cases c : P (1 + k) = true
      · rw [if_pos c, if_pos c, Nat.add_div_left _ (Nat.two_pow_pos _), Nat.div_eq_of_lt hl]
      · rw [if_neg c, if_neg c, Nat.div_eq_of_lt hl]
    · by_cases c : P (1 + k) = true
      · rw [if_pos c, zbit_add _ _ _ (by omega)]
        exact ih (by omega)
      · rw [if_neg c]
        exact ih (by omega)
/-- is the bit set, on both sides -/
theorem zbt_bit (P : Nat → Bool) {v : Nat} (h1 : 1 ≤ v) (h2 : v ≤ 20) : (zbt P 1 20 >>> (nI v &&& 31)) &&& (1 : Int32) = zbI (P v) := by
  have hl := zbN_lt P 1 20
  rw [zbt_N P 20 (by omega), zbit_j (by omega) (by omega), zbN_bit P 20 v h1 (by omega)]
  cases P v <;> rfl
/-! how many bits -/
def zcn : Nat → Nat → Nat
  | 0, _ => 0
  | k + 1, N => N % 2 + zcn k (N / 2)
theorem zcn_0 : ∀ k, zcn k 0 = 0
  | 0 => rfl
  | k + 1 => by rw [zcn]; show 0 % 2 + zcn k (0 / 2) = 0; rw [Nat.zero_div, zcn_0 k]
theorem zcn_le : ∀ k N, zcn k N ≤ k
  | 0, _ => Nat.le_refl 0
  | k + 1, N => by have := zcn_le k (N / 2); rw [zcn]; omega
theorem b_cntL : ∀ (k n N : Nat), N < 2 ^ k → k ≤ 30 → z_lp p_X6_bitsOf_b4 (k + 1) (nI n, nI N) = some (nI (n + zcn k N))
  | 0, n, N, h, _ => by
    have e : N = 0 := by omega
    subst e
    refine z_lp_en ?_
    unfold p_X6_bitsOf_b4
    try dsimp only
    rw [if_pos (show nI 0 ≤ (0 : Int32) by decide)]
    try rfl
  | k + 1, n, N, h, hk => by
    have hp : 2 ^ (k + 1) ≤ 2 ^ 30 := Nat.pow_le_pow_right (by decide) hk
    by_cases e : N = 0
    · subst e
      refine z_lp_en ?_
      unfold p_X6_bitsOf_b4
      try dsimp only
      rw [if_pos (show nI 0 ≤ (0 : Int32) by decide), zcn_0]
      try rfl
    · have st : p_X6_bitsOf_b4 (nI n, nI N) = some (.inr (nI (n + N % 2), nI (N / 2))) := by
        unfold p_X6_bitsOf_b4
        try dsimp only
        rw [if_neg (show ¬ nI N ≤ (0 : Int32) from nI_nle (by omega) (by omega)), pk_andN (by omega) 1 (by decide), pk_shrN (by omega) _ 1 (by decide), nI_add]
      rw [z_lp_st st, b_cntL k (n + N % 2) (N / 2) (by rw [Nat.pow_succ] at h; omega) (by omega), zcn, Nat.add_assoc]
theorem b_bitsOf {N : Nat} (h : N < 2 ^ 24) : p_X6_bitsOf (nI N) = some (nI (zcn 24 N)) := by
  unfold p_X6_bitsOf
  have := z_lp_mono 25 1000 _ (b_cntL 24 0 N h (by decide)) (by decide)
  rw [Nat.zero_add] at this
  have t' : z_lp p_X6_bitsOf_b4 1000 ((0 : Int32), nI N) = some (nI (zcn 24 N)) := this
  rw [t', zbs]
theorem msk {k m M a r : Nat} (ha : a < 2 ^ 8) (hk : k ≤ 8) (hm : m < 2 ^ (8 - k)) : ((2 ^ 8 * r + a) / 2 ^ k) &&& (2 ^ 8 * M + m) = 2 ^ 8 * ((r / 2 ^ k) &&& M) + ((a / 2 ^ k) &&& m) := by
  apply Nat.eq_of_testBit_eq
  intro j
  have hm8 : m < 2 ^ 8 := Nat.lt_of_lt_of_le hm (Nat.pow_le_pow_right (by decide) (by omega))
  have hand : ((a / 2 ^ k) &&& m) < 2 ^ 8 := Nat.lt_of_le_of_lt Nat.and_le_right hm8
  rw [Nat.testBit_and, Nat.testBit_div_two_pow, Nat.testBit_two_pow_mul_add _ ha, Nat.testBit_two_pow_mul_add _ hm8, Nat.testBit_two_pow_mul_add _ hand, Nat.testBit_and, Nat.testBit_and, Nat.testBit_div_two_pow, Nat.testBit_div_two_pow]
  by_cases c : j < 8
  · rw [if_pos c, if_pos c]
    by_cases c2 : j + k < 8
    · rw [if_pos c2]
    · have : m.testBit j = false := Nat.testBit_lt_two_pow (Nat.lt_of_lt_of_le hm (Nat.pow_le_pow_right (by decide) (by omega)))
      rw [this, Bool.and_false, Bool.and_false]
  · rw [if_neg c, if_neg c, if_neg (show ¬ j + k < 8 by omega), show j + k - 8 = j - 8 + k by omega]
theorem msk2 {k m a b c : Nat} (ha : a < 2 ^ 8) (hb : b < 2 ^ 8) (hk : k ≤ 8) (hm : m < 2 ^ (8 - k)) (M : Nat) : ((2 ^ 8 * (2 ^ 8 * c + b) + a) / 2 ^ k) &&& (2 ^ 8 * (2 ^ 8 * M + m) + m) = 2 ^ 8 * (2 ^ 8 * ((c / 2 ^ k) &&& M) + ((b / 2 ^ k) &&& m)) + ((a / 2 ^ k) &&& m) := by
  rw [msk ha hk hm, msk hb hk hm]
def sA (a : Nat) : Nat := a - ((a / 2 ^ 1) &&& 85)
def sB (a : Nat) : Nat := ((sA a / 2 ^ 0) &&& 51) + ((sA a / 2 ^ 2) &&& 51)
def sC (a : Nat) : Nat := (sB a + sB a / 16) % 16
theorem sA_ok : ∀ a, a < 256 → ((a / 2 ^ 1) &&& 85) ≤ a ∧ sA a < 256 := by decide +kernel
theorem sB_ok : ∀ a, a < 256 → sB a % 16 ≤ 4 ∧ sB a / 16 ≤ 4 ∧ sB a < 256 := by decide +kernel
theorem sC_ok : ∀ a, a < 256 → sC a = zcn 8 a := by decide +kernel
theorem sA_c : ∀ c, c < 32 → ((c / 2 ^ 1) &&& 21845) = ((c / 2 ^ 1) &&& 85) ∧ ((sA c / 2 ^ 0) &&& 13107) = ((sA c / 2 ^ 0) &&& 51) ∧ ((sA c / 2 ^ 2) &&& 13107) = ((sA c / 2 ^ 2) &&& 51) ∧ (((sB c + sB c / 16) / 2 ^ 0) &&& 3855) = sC c := by decide +kernel
theorem zcn_8 {k a r : Nat} (ha : a < 256) : zcn (k + 8) (256 * r + a) = zcn 8 a + zcn k r := by
  have e : (256 * r + a) / 2 / 2 / 2 / 2 / 2 / 2 / 2 / 2 = r := by omega
  show (256 * r + a) % 2 + ((256 * r + a) / 2 % 2 + ((256 * r + a) / 2 / 2 % 2 + ((256 * r + a) / 2 / 2 / 2 % 2 + ((256 * r + a) / 2 / 2 / 2 / 2 % 2 + ((256 * r + a) / 2 / 2 / 2 / 2 / 2 % 2 + ((256 * r + a) / 2 / 2 / 2 / 2 / 2 / 2 % 2 + ((256 * r + a) / 2 / 2 / 2 / 2 / 2 / 2 / 2 % 2 + zcn k ((256 * r + a) / 2 / 2 / 2 / 2 / 2 / 2 / 2 / 2)))))))) = (a % 2 + (a / 2 % 2 + (a / 2 / 2 % 2 + (a / 2 / 2 / 2 % 2 + (a / 2 / 2 / 2 / 2 % 2 + (a / 2 / 2 / 2 / 2 / 2 % 2 + (a / 2 / 2 / 2 / 2 / 2 / 2 % 2 + (a / 2 / 2 / 2 / 2 / 2 / 2 / 2 % 2 + 0)))))))) + zcn k r
  rw [e]
  omega
set_option maxHeartbeats 2000000 in
theorem a_bitCount {N : Nat} (h : N < 2 ^ 21) : p_J6_bitCount_0f7a4 (nI N) = some (nI (zcn 24 N)) := by
  obtain ⟨a, b, c, ha, hb, hc, rfl⟩ : ∃ a b c, a < 256 ∧ b < 256 ∧ c < 32 ∧ N = 2 ^ 8 * (2 ^ 8 * c + b) + a := ⟨N % 256, N / 256 % 256, N / 65536, by omega, by omega, by omega, by omega⟩
  obtain ⟨a1, a2⟩ := sA_ok a ha
  obtain ⟨b1, b2⟩ := sA_ok b hb
  obtain ⟨c1, c2⟩ := sA_ok c (by omega)
  obtain ⟨a3, a4, a5⟩ := sB_ok a ha
  obtain ⟨b3, b4, b5⟩ := sB_ok b hb
  obtain ⟨c3, c4, c5⟩ := sB_ok c (by omega)
  obtain ⟨d1, d2, d3, d4⟩ := sA_c c hc
  have m1 : ((2 ^ 8 * (2 ^ 8 * c + b) + a) / 2 ^ 1) &&& 1431655765 = 2 ^ 8 * (2 ^ 8 * ((c / 2 ^ 1) &&& 85) + ((b / 2 ^ 1) &&& 85)) + ((a / 2 ^ 1) &&& 85) := by
    have q := msk2 (k := 1) (m := 85) (c := c) ha hb (by decide) (by decide) 21845
    rw [d1] at q
    exact q
  have h1 : nI (2 ^ 8 * (2 ^ 8 * c + b) + a) - ((((nI (2 ^ 8 * (2 ^ 8 * c + b) + a)).toUInt32 >>> ((1 : Int32).toUInt32 &&& Int32.toUInt32 31)).toInt32) &&& (1431655765 : Int32)) = nI (2 ^ 8 * (2 ^ 8 * sA c + sA b) + sA a) := by
    rw [pk_ushrN (by omega) (1 : Int32) 1 (by decide), show (1431655765 : Int32) = nI 1431655765 from rfl, nx_and, m1, pk_sub (by omega)]
    refine congrArg nI ?_
    unfold sA
    omega
  have m2 : ((2 ^ 8 * (2 ^ 8 * sA c + sA b) + sA a) / 2 ^ 0) &&& 858993459 = 2 ^ 8 * (2 ^ 8 * ((sA c / 2 ^ 0) &&& 51) + ((sA b / 2 ^ 0) &&& 51)) + ((sA a / 2 ^ 0) &&& 51) := by
    have q := msk2 (k := 0) (m := 51) (c := sA c) a2 b2 (by decide) (by decide) 13107
    rw [d2] at q
    exact q
  have m3 : ((2 ^ 8 * (2 ^ 8 * sA c + sA b) + sA a) / 2 ^ 2) &&& 858993459 = 2 ^ 8 * (2 ^ 8 * ((sA c / 2 ^ 2) &&& 51) + ((sA b / 2 ^ 2) &&& 51)) + ((sA a / 2 ^ 2) &&& 51) := by
    have q := msk2 (k := 2) (m := 51) (c := sA c) a2 b2 (by decide) (by decide) 13107
    rw [d3] at q
    exact q
  have h2 : (nI (2 ^ 8 * (2 ^ 8 * sA c + sA b) + sA a) &&& (858993459 : Int32)) + ((((nI (2 ^ 8 * (2 ^ 8 * sA c + sA b) + sA a)).toUInt32 >>> ((2 : Int32).toUInt32 &&& Int32.toUInt32 31)).toInt32) &&& (858993459 : Int32)) = nI (2 ^ 8 * (2 ^ 8 * sB c + sB b) + sB a) := by
    rw [pk_ushrN (by omega) (2 : Int32) 2 (by decide), show (858993459 : Int32) = nI 858993459 from rfl, nx_and, nx_and, m3]
    simp only [Nat.pow_zero, Nat.div_one] at m2
    rw [m2, nI_add]
    refine congrArg nI ?_
    unfold sB
    simp only [Nat.pow_zero, Nat.div_one]
    omega
  have e3 : (2 ^ 8 * (2 ^ 8 * sB c + sB b) + sB a) + (2 ^ 8 * (2 ^ 8 * sB c + sB b) + sB a) / 2 ^ 4 = 2 ^ 8 * (2 ^ 8 * (sB c + sB c / 16) + (sB b + sB b / 16 + 16 * (sB c % 16))) + (sB a + sB a / 16 + 16 * (sB b % 16)) := by omega
  have m4 : (2 ^ 8 * (2 ^ 8 * (sB c + sB c / 16) + (sB b + sB b / 16 + 16 * (sB c % 16))) + (sB a + sB a / 16 + 16 * (sB b % 16))) &&& 252645135 = 2 ^ 8 * (2 ^ 8 * sC c + sC b) + sC a := by
    have q := msk2 (k := 0) (m := 15) (c := sB c + sB c / 16) (b := sB b + sB b / 16 + 16 * (sB c % 16)) (a := sB a + sB a / 16 + 16 * (sB b % 16)) (by omega) (by omega) (by decide) (by decide) 3855
    have e15 : ∀ x : Nat, x &&& 15 = x % 16 := fun x => Nat.and_two_pow_sub_one_eq_mod x 4
    simp only [Nat.pow_zero, Nat.div_one] at q d4
    rw [d4, e15, e15] at q
    refine Eq.trans q ?_
    unfold sC
    omega
  have h3 : (nI (2 ^ 8 * (2 ^ 8 * sB c + sB b) + sB a) + (((nI (2 ^ 8 * (2 ^ 8 * sB c + sB b) + sB a)).toUInt32 >>> ((4 : Int32).toUInt32 &&& Int32.toUInt32 31)).toInt32)) &&& (252645135 : Int32) = nI (2 ^ 8 * (2 ^ 8 * sC c + sC b) + sC a) := by
    rw [pk_ushrN (by omega) (4 : Int32) 4 (by decide), nI_add, e3, show (252645135 : Int32) = nI 252645135 from rfl, nx_and, m4]
  have k1 : sC a ≤ 8 := by rw [sC_ok a ha]; exact zcn_le 8 a
  have k2 : sC b ≤ 8 := by rw [sC_ok b hb]; exact zcn_le 8 b
  have k3 : sC c ≤ 8 := by rw [sC_ok c (by omega)]; exact zcn_le 8 c
  have h4 : nI (2 ^ 8 * (2 ^ 8 * sC c + sC b) + sC a) + (((nI (2 ^ 8 * (2 ^ 8 * sC c + sC b) + sC a)).toUInt32 >>> ((8 : Int32).toUInt32 &&& Int32.toUInt32 31)).toInt32) = nI (65536 * sC c + 256 * (sC b + sC c) + (sC a + sC b)) := by
    rw [pk_ushrN (by omega) (8 : Int32) 8 (by decide), nI_add]
    exact congrArg nI (by omega)
  have h5 : nI (65536 * sC c + 256 * (sC b + sC c) + (sC a + sC b)) + (((nI (65536 * sC c + 256 * (sC b + sC c) + (sC a + sC b))).toUInt32 >>> ((16 : Int32).toUInt32 &&& Int32.toUInt32 31)).toInt32) = nI (65536 * sC c + 256 * (sC b + sC c) + (sC a + sC b) + sC c) := by
    rw [pk_ushrN (by omega) (16 : Int32) 16 (by decide), nI_add]
    exact congrArg nI (by omega)
  unfold p_J6_bitCount_0f7a4
  rw [h1, h2, h3, h4, h5, pk_andN (by omega) 6 (by decide)]
  refine congrArg (fun z => some (nI z)) ?_
  have z1 : zcn 24 (2 ^ 8 * (2 ^ 8 * c + b) + a) = zcn 8 a + (zcn 8 b + zcn 8 c) := by
    have q1 := zcn_8 (k := 16) (r := 256 * c + b) ha
    have q2 := zcn_8 (k := 8) (r := c) hb
    rw [q2] at q1
    exact q1
  rw [z1, ← sC_ok a ha, ← sC_ok b hb, ← sC_ok c (by omega)]
  omega
