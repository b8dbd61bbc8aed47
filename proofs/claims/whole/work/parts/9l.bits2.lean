/-! the bits' count -/
theorem and_b {x y m k : Nat} (hx : x < 256) (hm : m < 256) : (256 * y + x) &&& (256 * k + m) = 256 * (y &&& k) + (x &&& m) := by
  have ha : x &&& m < 2 ^ 8 := Nat.lt_of_le_of_lt Nat.and_le_left (by omega)
  apply Nat.eq_of_testBit_eq
  intro i
  rw [Nat.testBit_and, show 256 * y + x = 2 ^ 8 * y + x by omega, show 256 * k + m = 2 ^ 8 * k + m by omega, show 256 * (y &&& k) + (x &&& m) = 2 ^ 8 * (y &&& k) + (x &&& m) by omega, Nat.testBit_two_pow_mul_add _ (by omega), Nat.testBit_two_pow_mul_add _ (by omega), Nat.testBit_two_pow_mul_add _ ha]
  split
  · rw [Nat.testBit_and]
  · rw [Nat.testBit_and]
def pcN : Nat → Nat → Nat
  | 0, _ => 0
  | k + 1, s => s % 2 + pcN k (s / 2)
theorem pcN_add : ∀ (j k s : Nat), pcN (j + k) s = pcN j s + pcN k (s / 2 ^ j)
  | 0, k, s => by
    rw [Nat.zero_add, Nat.pow_zero, Nat.div_one, pcN, Nat.zero_add]
  | j + 1, k, s => by
    rw [show j + 1 + k = (j + k) + 1 by omega, pcN, pcN_add j k, pcN, Nat.div_div_eq_div_mul, show 2 * 2 ^ j = 2 ^ (j + 1) by rw [Nat.pow_succ, Nat.mul_comm]]
    omega
theorem pcN_mod : ∀ (j s t : Nat), pcN j (s + 2 ^ j * t) = pcN j s
  | 0, s, t => rfl
  | j + 1, s, t => by
    rw [pcN, pcN, show (s + 2 ^ (j + 1) * t) / 2 = s / 2 + 2 ^ j * t by rw [Nat.pow_succ, Nat.mul_right_comm]; omega, pcN_mod j, show (s + 2 ^ (j + 1) * t) % 2 = s % 2 by rw [Nat.pow_succ, Nat.mul_right_comm]; omega]
def f1N (a : Nat) : Nat := a - ((a / 2) &&& 85)
def f2N (a : Nat) : Nat := (a &&& 51) + ((a / 4) &&& 51)
theorem bc_all : (List.range 256).all (fun a => (((a / 2 + 128) &&& 85) == ((a / 2) &&& 85)) && Nat.ble ((a / 2) &&& 85) a && (((a / 4 + 64) &&& 51) == ((a / 4) &&& 51)) && (((a / 4 + 128) &&& 51) == ((a / 4) &&& 51)) && (((a / 4 + 192) &&& 51) == ((a / 4) &&& 51)) && Nat.ble (f2N (f1N a)) 68 && Nat.ble (f2N (f1N a) % 16) 4 && ((f2N (f1N a) + f2N (f1N a) / 16) % 16 == pcN 8 a) && Nat.ble (pcN 8 a) 8) = true := by decide +kernel
theorem bc_1 {a : Nat} (h : a < 256) : ((∀ r, r < 2 → (a / 2 + 128 * r) &&& 85 = (a / 2) &&& 85) ∧ (a / 2) &&& 85 ≤ a ∧ ∀ r, r < 4 → (a / 4 + 64 * r) &&& 51 = (a / 4) &&& 51) ∧ f2N (f1N a) ≤ 68 ∧ f2N (f1N a) % 16 ≤ 4 ∧ (f2N (f1N a) + f2N (f1N a) / 16) % 16 = pcN 8 a ∧ pcN 8 a ≤ 8 := by
  have := List.all_eq_true.mp bc_all a (List.mem_range.mpr h)
  simp only [Bool.and_eq_true, beq_iff_eq, Nat.ble_eq] at this
  obtain ⟨⟨⟨⟨⟨⟨⟨⟨q1, q2⟩, q3⟩, q4⟩, q5⟩, q6⟩, q7⟩, q8⟩, q9⟩ := this
  refine ⟨⟨fun r hr => ?_, q2, fun r hr => ?_⟩, q6, q7, q8, q9⟩
  · rcases (show r = 0 ∨ r = 1 by omega) with rfl | rfl
    · rfl
    · exact q1
  · rcases (show r = 0 ∨ r = 1 ∨ r = 2 ∨ r = 3 by omega) with rfl | rfl | rfl | rfl
    · rfl
    · exact q3
    · exact q4
    · exact q5
theorem and_lo {y k m : Nat} (hy : y < 256) (hm : m < 256) : y &&& (256 * k + m) = y &&& m := by
  have := and_b (x := y) (y := 0) (m := m) (k := k) hy hm
  rw [Nat.mul_zero, Nat.zero_add, Nat.zero_and, Nat.mul_zero, Nat.zero_add] at this
  exact this
theorem and_2 {x y m k : Nat} (hx : x < 256) (hy : y < 256) (hm : m < 256) : (256 * y + x) &&& (256 * (256 * k + m) + m) = 256 * (y &&& m) + (x &&& m) := by
  rw [and_b hx hm, and_lo hy hm]
theorem and_l {a m : Nat} : a &&& m ≤ m := Nat.and_le_right
def bcN (s : Nat) : Nat :=
  let a := s - ((s / 2) &&& 1431655765)
  let b := (a &&& 858993459) + ((a / 4) &&& 858993459)
  let c := (b + (b / 16)) &&& 252645135
  let d := c + (c / 256)
  let e := d + (d / 65536)
  e &&& 63
theorem bcN_p {s : Nat} (h : s < 65536) : bcN s = pcN 16 s := by
  obtain ⟨a, b, rfl, ha, hb⟩ : ∃ a b, s = 256 * b + a ∧ a < 256 ∧ b < 256 := ⟨s % 256, s / 256, by omega, by omega, by omega⟩
  obtain ⟨⟨a1, a2, -⟩, a4, a5, a6, a7⟩ := bc_1 ha
  obtain ⟨⟨b1, b2, -⟩, b4, b5, b6, b7⟩ := bc_1 hb
  have e1 : ((256 * b + a) / 2) &&& 1431655765 = 256 * ((b / 2) &&& 85) + ((a / 2) &&& 85) := by
    rw [show (256 * b + a) / 2 = 256 * (b / 2) + (a / 2 + 128 * (b % 2)) by omega, show 1431655765 = 256 * (256 * 21845 + 85) + 85 by decide, and_2 (by omega) (by omega) (by decide), a1 _ (by omega)]
  have e2 : 256 * b + a - (((256 * b + a) / 2) &&& 1431655765) = 256 * f1N b + f1N a := by
    rw [e1]
    unfold f1N
    omega
  have fa : f1N a < 256 := by unfold f1N; omega
  have fb : f1N b < 256 := by unfold f1N; omega
  obtain ⟨⟨-, -, c3⟩, -⟩ := bc_1 fa
  have e3 : ((256 * f1N b + f1N a) &&& 858993459) + (((256 * f1N b + f1N a) / 4) &&& 858993459) = 256 * f2N (f1N b) + f2N (f1N a) := by
    rw [show (256 * f1N b + f1N a) / 4 = 256 * (f1N b / 4) + (f1N a / 4 + 64 * (f1N b % 4)) by omega, show 858993459 = 256 * (256 * 13107 + 51) + 51 by decide, and_2 (by omega) (by omega) (by decide), and_2 (by omega) (by omega) (by decide), c3 _ (by omega)]
    unfold f2N
    omega
  generalize f2N (f1N a) = A at *
  generalize f2N (f1N b) = B at *
  have e4 : (256 * B + A + (256 * B + A) / 16) &&& 252645135 = 256 * pcN 8 b + pcN 8 a := by
    rw [show 256 * B + A + (256 * B + A) / 16 = 256 * (B + B / 16) + (A + A / 16 + 16 * (B % 16)) by omega, show 252645135 = 256 * (256 * 3855 + 15) + 15 by decide, and_2 (by omega) (by omega) (by decide), show (15 : Nat) = 2 ^ 4 - 1 by decide, Nat.and_two_pow_sub_one_eq_mod, Nat.and_two_pow_sub_one_eq_mod]
    omega
  have e5 : pcN 16 (256 * b + a) = pcN 8 a + pcN 8 b := by
    rw [show (16 : Nat) = 8 + 8 by decide, pcN_add, show 256 * b + a = a + 2 ^ 8 * b by omega, pcN_mod, show (a + 2 ^ 8 * b) / 2 ^ 8 = b by omega]
  unfold bcN
  simp only
  rw [e2, e3, e4, e5, show (63 : Nat) = 2 ^ 6 - 1 by decide, Nat.and_two_pow_sub_one_eq_mod]
  generalize pcN 8 a = x at *
  generalize pcN 8 b = y at *
  rw [show (256 * y + x) / 256 = y by omega, show (256 * y + x + y) / 65536 = 0 by omega, show (2 : Nat) ^ 6 = 64 by decide]
  omega
theorem zush_n {a k : Nat} (ha : a < 2147483648) (hk : k < 32) : zush a k = ((a >>> k : Nat) : Int) := by
  have h1 : ((Int32.ofInt (k : Int)).toUInt32 &&& Int32.toUInt32 31).toNat = k := by
    have : (List.range 32).all (fun k => ((Int32.ofInt (k : Int)).toUInt32 &&& Int32.toUInt32 31).toNat == k) = true := by decide +kernel
    have := List.all_eq_true.mp this k (List.mem_range.mpr hk)
    simpa using this
  have h2 : (Int32.ofInt (a : Int)).toUInt32.toNat = a := zbn ha
  show ((Int32.ofInt (a : Int)).toUInt32 >>> ((Int32.ofInt (k : Int)).toUInt32 &&& Int32.toUInt32 31)).toInt32.toBitVec.toInt = _
  refine zbi ?_ ?_
  · show ((Int32.ofInt (a : Int)).toUInt32 >>> ((Int32.ofInt (k : Int)).toUInt32 &&& Int32.toUInt32 31)).toNat = _
    rw [UInt32.toNat_shiftRight, h1, h2, Nat.mod_eq_of_lt hk]
  · rw [Nat.shiftRight_eq_div_pow]
    exact Nat.lt_of_le_of_lt (Nat.div_le_self _ _) ha
/-- how many of the first k numbers a set holds, so counted -/
theorem onN_p {s : Nat} : ∀ k : Nat, onN s k = (pcN k s : Int)
  | 0 => rfl
  | k + 1 => by
    rw [onN, onN_p k, pcN_add k 1 s]
    have e : pcN 1 (s / 2 ^ k) = s / 2 ^ k % 2 := by
      rw [pcN, pcN, Nat.add_zero]
    have hz : zbp (zbit (s : Int) (k : Int)) = ((s / 2 ^ k % 2 : Nat) : Int) := by
      unfold zbit
      rw [Int.toNat_natCast, Int.toNat_natCast, Nat.testBit_eq_decide_div_mod_eq]
      rcases Nat.mod_two_eq_zero_or_one (s / 2 ^ k) with q | q
      · rw [q, zbf (by simp)]; rfl
      · rw [q, zbt (by simp)]; rfl
    rw [hz, e]
    omega

