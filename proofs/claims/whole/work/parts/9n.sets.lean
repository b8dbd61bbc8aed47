/-! sets: what is added, what is left -/
theorem tb_add {c n : Nat} (h : c % 2 ^ (n + 1) = 0) (d : Nat) : (c + 2 ^ n).testBit d = (decide (n = d) || c.testBit d) := by
  obtain ⟨q, rfl⟩ : ∃ q, c = 2 ^ (n + 1) * q := ⟨c / 2 ^ (n + 1), by rw [Nat.mul_comm]; exact (Nat.div_mul_cancel (Nat.dvd_of_mod_eq_zero h)).symm⟩
  have hlt : 2 ^ n < 2 ^ (n + 1) := Nat.pow_lt_pow_right (by decide) (by omega)
  have h0 : (2 ^ (n + 1) * q).testBit d = if d < n + 1 then false else q.testBit (d - (n + 1)) := by
    have := Nat.testBit_two_pow_mul_add q (b := 0) (i := n + 1) (Nat.two_pow_pos _) d
    rw [Nat.add_zero, Nat.zero_testBit] at this
    exact this
  rw [Nat.testBit_two_pow_mul_add _ hlt, h0, Nat.testBit_two_pow]
  by_cases c1 : d < n + 1
  · rw [if_pos c1, if_pos c1, Bool.or_false]
  · rw [if_neg c1, if_neg c1, decide_eq_false (show ¬ n = d by omega), Bool.false_or]
theorem or_add {c n : Nat} (h : c % 2 ^ (n + 1) = 0) : c ||| 2 ^ n = c + 2 ^ n := by
  apply Nat.eq_of_testBit_eq
  intro i
  rw [Nat.testBit_or, tb_add h, Nat.testBit_two_pow, Bool.or_comm]
theorem mod_add {c n m : Nat} (h : c % 2 ^ (n + 1) = 0) (hm : m < n) : (c + 2 ^ n) % 2 ^ (m + 1) = 0 := by
  have h1 : 2 ^ (m + 1) ∣ 2 ^ n := Nat.pow_dvd_pow 2 (by omega)
  have h2 : 2 ^ (m + 1) ∣ 2 ^ (n + 1) := Nat.pow_dvd_pow 2 (by omega)
  exact Nat.mod_eq_zero_of_dvd (Nat.dvd_add (Nat.dvd_trans h2 (Nat.dvd_of_mod_eq_zero h)) h1)
theorem mod_lo {c n m : Nat} (h : c % 2 ^ n = 0) (hm : m ≤ n) : c % 2 ^ m = 0 := Nat.mod_eq_zero_of_dvd (Nat.dvd_trans (Nat.pow_dvd_pow 2 hm) (Nat.dvd_of_mod_eq_zero h))
theorem zbit_n {s d : Nat} : zbit (s : Int) (d : Int) ↔ s.testBit d = true := by
  unfold zbit
  rw [Int.toNat_natCast, Int.toNat_natCast]
theorem zbit_add {c n d : Nat} (h : c % 2 ^ (n + 1) = 0) : zbit ((c + 2 ^ n : Nat) : Int) (d : Int) ↔ (d = n ∨ zbit (c : Int) (d : Int)) := by
  rw [zbit_n, zbit_n, tb_add h, Bool.or_eq_true, decide_eq_true_iff]
  exact ⟨fun q => q.imp Eq.symm id, fun q => q.imp Eq.symm id⟩
theorem zbit_no {c n : Nat} (h : c % 2 ^ (n + 1) = 0) : ¬ zbit (c : Int) (n : Int) := by
  rw [zbit_n, Nat.testBit_eq_decide_div_mod_eq]
  obtain ⟨q, rfl⟩ : ∃ q, c = 2 ^ (n + 1) * q := ⟨c / 2 ^ (n + 1), by rw [Nat.mul_comm]; exact (Nat.div_mul_cancel (Nat.dvd_of_mod_eq_zero h)).symm⟩
  rw [Nat.pow_succ, Nat.mul_assoc, Nat.mul_div_cancel_left _ (Nat.two_pow_pos n)]
  simp
theorem onN_add {c n : Nat} (h : c % 2 ^ (n + 1) = 0) : ∀ k : Nat, onN ((c + 2 ^ n : Nat) : Int) k = onN (c : Int) k + (if n < k then 1 else 0)
  | 0 => by
    rw [onN, onN, if_neg (by omega)]
    rfl
  | k + 1 => by
    rw [onN, onN, onN_add h k]
    by_cases e : k = n
    · subst e
      rw [zbt ((zbit_add h).mpr (Or.inl rfl)), zbf (zbit_no h), if_neg (by omega), if_pos (by omega)]
    · have : zbp (zbit ((c + 2 ^ n : Nat) : Int) (k : Int)) = zbp (zbit (c : Int) (k : Int)) := by
        congr 1
        exact propext ((zbit_add h).trans ⟨fun q => q.resolve_left e, Or.inr⟩)
      rw [this]
      by_cases c1 : n < k
      · rw [if_pos c1, if_pos (by omega)]
        omega
      · rw [if_neg c1, if_neg (by omega)]
        omega
theorem smB_add {b : Int → Int} {c n : Nat} (h : c % 2 ^ (n + 1) = 0) : ∀ k : Nat, smB b ((c + 2 ^ n : Nat) : Int) k = smB b (c : Int) k + (if n < k then b n else 0)
  | 0 => by
    rw [smB, smB, if_neg (by omega)]
    rfl
  | k + 1 => by
    rw [smB, smB, smB_add h k]
    by_cases e : k = n
    · subst e
      rw [zit_t ((zbit_add h).mpr (Or.inl rfl)), zit_f (zbit_no h), if_neg (by omega), if_pos (by omega)]
    · have : zit (zbit ((c + 2 ^ n : Nat) : Int) (k : Int)) (b k) 0 = zit (zbit (c : Int) (k : Int)) (b k) 0 := by
        congr 1
        exact propext ((zbit_add h).trans ⟨fun q => q.resolve_left e, Or.inr⟩)
      rw [this]
      by_cases c1 : n < k
      · rw [if_pos c1, if_pos (by omega)]
        omega
      · rw [if_neg c1, if_neg (by omega)]
        omega
theorem smB_0 {b : Int → Int} : ∀ k : Nat, smB b 0 k = 0
  | 0 => rfl
  | k + 1 => by
    rw [smB, smB_0 k, zit_f (by unfold zbit; simp)]
    rfl
/-- nothing of a set lies outside another -/
theorem zsub_n {s m : Nat} (hs : s < 2147483648) (hm : m < 2147483648) : (zand (s : Int) (zxor (m : Int) (-1)) = 0) ↔ ∀ i : Nat, s.testBit i = true → m.testBit i = true := by
  have hv : ∃ v : Nat, zand (s : Int) (zxor (m : Int) (-1)) = (v : Int) ∧ ∀ i, v.testBit i = (s.testBit i && !(m.testBit i)) := by
    have hx : Int32.ofInt (zxor (m : Int) (-1)) = Int32.ofInt (m : Int) ^^^ Int32.ofInt (-1) := zz_of _
    have hn1 : (Int32.ofInt (-1)).toBitVec = BitVec.allOnes 32 := by decide +kernel
    refine ⟨(Int32.ofInt (zand (s : Int) (zxor (m : Int) (-1)))).toBitVec.toNat, ?_, fun i => ?_⟩
    · show ((Int32.ofInt (s : Int)) &&& Int32.ofInt (zxor (m : Int) (-1))).toBitVec.toInt = _
      rw [show Int32.ofInt (zand (s : Int) (zxor (m : Int) (-1))) = Int32.ofInt (s : Int) &&& Int32.ofInt (zxor (m : Int) (-1)) from zz_of _]
      refine BitVec.toInt_eq_toNat_of_lt ?_
      show 2 * ((Int32.ofInt (s : Int)).toBitVec &&& (Int32.ofInt (zxor (m : Int) (-1))).toBitVec).toNat < _
      rw [BitVec.toNat_and, zbn hs]
      have : s &&& (Int32.ofInt (zxor (m : Int) (-1))).toBitVec.toNat ≤ s := Nat.and_le_left
      omega
    · rw [show Int32.ofInt (zand (s : Int) (zxor (m : Int) (-1))) = Int32.ofInt (s : Int) &&& Int32.ofInt (zxor (m : Int) (-1)) from zz_of _, hx]
      show ((Int32.ofInt (s : Int)).toBitVec &&& ((Int32.ofInt (m : Int)).toBitVec ^^^ (Int32.ofInt (-1)).toBitVec)).toNat.testBit i = _
      rw [hn1, BitVec.toNat_and, Nat.testBit_and, BitVec.toNat_xor, Nat.testBit_xor, zbn hs, zbn hm, BitVec.toNat_allOnes, Nat.testBit_two_pow_sub_one]
      by_cases hi : i < 32
      · rw [decide_eq_true hi, Bool.xor_true]
      · have : s.testBit i = false := Nat.testBit_lt_two_pow (Nat.lt_of_lt_of_le (show s < 2 ^ 32 by omega) (Nat.pow_le_pow_right (by decide) (by omega)))
        rw [this, Bool.false_and, Bool.false_and]
  obtain ⟨v, e, hv⟩ := hv
  rw [e]
  constructor
  · intro h i hi
    have h0 : v = 0 := by omega
    have := hv i
    rw [h0, Nat.zero_testBit, hi] at this
    cases hq : m.testBit i with
    | true => rfl
    | false =>
      rw [hq] at this
      cases this
  · intro h
    have : v = 0 := by
      apply Nat.eq_of_testBit_eq
      intro i
      rw [hv i, Nat.zero_testBit]
      cases hq : s.testBit i with
      | false => rfl
      | true =>
        rw [h i hq]
        rfl
    rw [this]
    rfl

