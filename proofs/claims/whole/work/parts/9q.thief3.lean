/-! thieves: the reference -/
/-- a set is looked at, if all its debts may be -/
noncomputable def stpS (ok may : Int → Prop) (amt pr : Int → Int) (len : Nat) (ow : Int) (B : Bt) (s : Nat) : Bt := @ite Bt (∀ i : Nat, s.testBit i = true → may i) (Classical.propDecidable _) (lfS ok B (ow + smB amt s len) (smB pr s len) s) B
noncomputable def frS (ok may : Int → Prop) (amt pr : Int → Int) (len : Nat) (ow : Int) (B : Bt) (c : Nat) : Nat → Bt
  | 0 => B
  | m + 1 => stpS ok may amt pr len ow (frS ok may amt pr len ow B c m) (c + m)
theorem frS_add {ok may : Int → Prop} {amt pr : Int → Int} {len : Nat} {ow : Int} {B : Bt} {c a : Nat} : ∀ b : Nat, frS ok may amt pr len ow B c (a + b) = frS ok may amt pr len ow (frS ok may amt pr len ow B c a) (c + a) b
  | 0 => rfl
  | b + 1 => by
    rw [← Nat.add_assoc, frS, frS_add b, frS, Nat.add_assoc]
theorem gS_fr {ok may : Int → Prop} {amt pr : Int → Int} {len : Nat} {ow : Int} : ∀ (n : Nat), n ≤ len → ∀ (c : Nat) (B : Bt), c % 2 ^ n = 0 → ((∀ i : Nat, c.testBit i = true → may i) → frS ok may amt pr len ow B c (2 ^ n) = gS ok may amt pr n B (ow + smB amt c len) (smB pr c len) c) ∧ (¬ (∀ i : Nat, c.testBit i = true → may i) → frS ok may amt pr len ow B c (2 ^ n) = B)
  | 0, _, c, B, _ => by
    refine ⟨fun h => ?_, fun h => ?_⟩
    · show stpS ok may amt pr len ow B (c + 0) = _
      rw [Nat.add_zero]
      exact if_pos h
    · show stpS ok may amt pr len ow B (c + 0) = _
      rw [Nat.add_zero]
      exact if_neg h
  | n + 1, hn, c, B, hc => by
    have h1 := gS_fr (ok := ok) (may := may) (amt := amt) (pr := pr) (len := len) (ow := ow) n (by omega) c B (mod_lo hc (by omega))
    have hp : 2 ^ (n + 1) = 2 ^ n + 2 ^ n := by rw [Nat.pow_succ]; omega
    have hsub : (∀ i : Nat, (c + 2 ^ n).testBit i = true → may i) ↔ (may n ∧ ∀ i : Nat, c.testBit i = true → may i) := by
      constructor
      · intro h
        refine ⟨h n ?_, fun i hi => h i ?_⟩
        · rw [tb_add hc, decide_eq_true rfl, Bool.true_or]
        · rw [tb_add hc, hi, Bool.or_true]
      · rintro ⟨h2, h3⟩ i hi
        rw [tb_add hc, Bool.or_eq_true, decide_eq_true_iff] at hi
        rcases hi with rfl | hi
        · exact h2
        · exact h3 i hi
    have ea : smB amt ((c + 2 ^ n : Nat) : Int) len = smB amt c len + amt n := by rw [smB_add hc, if_pos (by omega)]
    have ep : smB pr ((c + 2 ^ n : Nat) : Int) len = smB pr c len + pr n := by rw [smB_add hc, if_pos (by omega)]
    rw [hp, frS_add]
    have h2 := fun B => gS_fr (ok := ok) (may := may) (amt := amt) (pr := pr) (len := len) (ow := ow) n (by omega) (c + 2 ^ n) B (by rw [Nat.add_mod_right]; exact mod_lo hc (by omega))
    refine ⟨fun h => ?_, fun h => ?_⟩
    · rw [h1.1 h]
      by_cases hm : may n
      · rw [(h2 _).1 (hsub.mpr ⟨hm, h⟩), gS_y hm, ea, ep, ← Int.add_assoc]
        rfl
      · rw [(h2 _).2 (fun q => hm (hsub.mp q).1), gS_n hm]
    · rw [h1.2 h, (h2 _).2 (fun q => h (hsub.mp q).2)]
theorem bsN_tb {p : Int → Prop} : ∀ (n i : Nat), (bsN p n).testBit i = true ↔ (i < n ∧ p i)
  | 0, i => by
    rw [bsN, Nat.zero_testBit]
    simp
  | n + 1, i => by
    have hlt := bsN_lt (p := p) n
    by_cases c : p n
    · have e : bsN p (n + 1) = bsN p n + 2 ^ n := by
        rw [bsN, if_pos c]
      have e2 : bsN p n + 2 ^ n = 2 ^ n * 1 + bsN p n := by omega
      rw [e, e2, Nat.testBit_two_pow_mul_add _ hlt]
      by_cases hi : i < n
      · rw [if_pos hi, bsN_tb n i]
        exact ⟨fun q => ⟨by omega, q.2⟩, fun q => ⟨hi, q.2⟩⟩
      · rw [if_neg hi]
        by_cases ei : i = n
        · subst ei
          rw [Nat.sub_self]
          simp [c]
        · have : (1 : Nat).testBit (i - n) = false := Nat.testBit_lt_two_pow (Nat.lt_of_lt_of_le (show 1 < 2 ^ 1 by decide) (Nat.pow_le_pow_right (by decide) (by omega)))
          rw [this]
          exact ⟨fun q => absurd q (by decide), fun q => absurd q.1 (by omega)⟩
    · rw [bsN_n c, bsN_tb n i]
      constructor
      · rintro ⟨a, b⟩
        exact ⟨by omega, b⟩
      · rintro ⟨a, b⟩
        refine ⟨?_, b⟩
        rcases Nat.lt_or_ge i n with q | q
        · exact q
        · exact absurd (show p n by rw [show n = i by omega]; exact b) c

