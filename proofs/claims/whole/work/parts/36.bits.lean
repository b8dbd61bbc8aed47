/-! bits -/
theorem zbn {a : Nat} (h : a < 2147483648) : (Int32.ofInt (a : Int)).toBitVec.toNat = a := by
  show (BitVec.ofInt 32 (a : Int)).toNat = a
  rw [BitVec.toNat_ofInt]
  omega
theorem zbi {x : BitVec 32} {n : Nat} (h : x.toNat = n) (hn : n < 2147483648) : x.toInt = (n : Int) := by
  rw [BitVec.toInt_eq_toNat_of_lt (by omega), h]
theorem zand_n {a b : Nat} (ha : a < 2147483648) (hb : b < 2147483648) : zand a b = ((a &&& b : Nat) : Int) := by
  show ((Int32.ofInt (a : Int)).toBitVec &&& (Int32.ofInt (b : Int)).toBitVec).toInt = _
  refine zbi ?_ (Nat.lt_of_le_of_lt Nat.and_le_left ha)
  rw [BitVec.toNat_and, zbn ha, zbn hb]
theorem zor_n {a b : Nat} (ha : a < 2147483648) (hb : b < 2147483648) : zor a b = ((a ||| b : Nat) : Int) := by
  show ((Int32.ofInt (a : Int)).toBitVec ||| (Int32.ofInt (b : Int)).toBitVec).toInt = _
  refine zbi ?_ (Nat.or_lt_two_pow (n := 31) ha hb)
  rw [BitVec.toNat_or, zbn ha, zbn hb]
theorem zk31 : (List.range 32).all (fun k => (((Int32.ofInt (k : Int)) &&& 31).toBitVec.smod 32).toNat == k) = true := by decide +kernel
theorem zshr_n {a k : Nat} (ha : a < 2147483648) (hk : k < 32) : zshr a k = ((a >>> k : Nat) : Int) := by
  have h1 : (((Int32.ofInt (k : Int)) &&& 31).toBitVec.smod 32).toNat = k := by
    have := List.all_eq_true.mp zk31 k (List.mem_range.mpr hk)
    simpa using this
  show ((Int32.ofInt (a : Int)).toBitVec.sshiftRight (((Int32.ofInt (k : Int)) &&& 31).toBitVec.smod 32).toNat).toInt = _
  rw [h1, BitVec.toInt_sshiftRight, zbi (zbn ha) ha]
  rfl
theorem zshl_all : (List.range 31).all (fun k => zshl 1 (k : Int) == ((2 ^ k : Nat) : Int)) = true := by decide +kernel
theorem zshl_n {k : Nat} (hk : k < 31) : zshl 1 k = ((2 ^ k : Nat) : Int) := by
  have := List.all_eq_true.mp zshl_all k (List.mem_range.mpr hk)
  simpa using this
/-- a set holds a number -/
def zbit (s k : Int) : Prop := s.toNat.testBit k.toNat = true
theorem zbit_e {s k : Int} (h0 : 0 ≤ s) (h1 : s < 2147483648) (h2 : 0 ≤ k) (h3 : k < 31) : zand (zshr s k) 1 = zbp (zbit s k) := by
  obtain ⟨a, rfl⟩ := Int.eq_ofNat_of_zero_le h0
  obtain ⟨b, rfl⟩ := Int.eq_ofNat_of_zero_le h2
  have hb : b < 32 := by omega
  have ha : a < 2147483648 := by omega
  have hs : a >>> b < 2147483648 := by rw [Nat.shiftRight_eq_div_pow]; exact Nat.lt_of_le_of_lt (Nat.div_le_self _ _) ha
  rw [zshr_n ha hb, show (1 : Int) = ((1 : Nat) : Int) from rfl, zand_n hs (by decide)]
  unfold zbit
  rw [Int.toNat_natCast, Int.toNat_natCast, Nat.testBit, Nat.and_comm]
  have h9 : (1 &&& a >>> b) = (a >>> b) % 2 := by rw [Nat.and_comm, Nat.and_one_is_mod]
  rw [h9]
  rcases Nat.mod_two_eq_zero_or_one (a >>> b) with e | e
  · rw [e, zbf (by simp)]; rfl
  · rw [e, zbt (by simp)]; rfl

