/-! walks by the shape of the source: an expression's value and what it asks; with calls, by what follows -/
abbrev zEn : Type := List zV
/-- a method's type, bytes and places -/
abbrev zMi : Type := String × ByteArray × Nat
def zi (ρ : zEn) (i : Nat) : Int := match ρ[i]? with
  | some (.inl n) => n
  | _ => 0
def zl (ρ : zEn) (i : Nat) : Int := match ρ[i]? with
  | some (.inr (.inl n)) => n
  | _ => 0
def zr (ρ : zEn) (i : Nat) : Nat := match ρ[i]? with
  | some (.inr (.inr (.inl n))) => n
  | _ => 0
def zxs (ρ : zEn) (i : Nat) : Nat := match ρ[i]? with
  | some (.inr (.inr (.inr (n + 1)))) => n + 1
  | _ => 0
def zii (ρ : zEn) (i : Nat) : Prop := match ρ[i]? with
  | some (.inl _) => True
  | _ => False
def zll (ρ : zEn) (i : Nat) : Prop := match ρ[i]? with
  | some (.inr (.inl _)) => True
  | _ => False
def zrr (ρ : zEn) (i : Nat) : Prop := match ρ[i]? with
  | some (.inr (.inr (.inl _))) => True
  | _ => False
def zxx (ρ : zEn) (i : Nat) : Prop := match ρ[i]? with
  | some (.inr (.inr (.inr (_ + 1)))) => True
  | _ => False
theorem zii_of {ρ : zEn} {i : Nat} (h : zii ρ i) : ρ[i]? = some (vi (zi ρ i)) := by
  unfold zii zi at *
  cases hx : ρ[i]? with
  | none => rw [hx] at h; cases h
  | some v => rcases v with n | n | n | n <;> (rw [hx] at h; try cases h; try rfl)
theorem zll_of {ρ : zEn} {i : Nat} (h : zll ρ i) : ρ[i]? = some (vl (zl ρ i)) := by
  unfold zll zl at *
  cases hx : ρ[i]? with
  | none => rw [hx] at h; cases h
  | some v => rcases v with n | n | n | n <;> (rw [hx] at h; try cases h; try rfl)
theorem zrr_of {ρ : zEn} {i : Nat} (h : zrr ρ i) : ρ[i]? = some (vr (zr ρ i)) := by
  unfold zrr zr at *
  cases hx : ρ[i]? with
  | none => rw [hx] at h; cases h
  | some v => rcases v with n | n | n | n <;> (rw [hx] at h; try cases h; try rfl)
theorem zxx_of {ρ : zEn} {i : Nat} (h : zxx ρ i) : ρ[i]? = some (vx (zxs ρ i)) ∧ zref (vx (zxs ρ i)) = true := by
  unfold zxx zxs at *
  cases hx : ρ[i]? with
  | none => rw [hx] at h; cases h
  | some v =>
    rcases v with n | n | n | n
    · rw [hx] at h; cases h
    · rw [hx] at h; cases h
    · rw [hx] at h; cases h
    · cases n with
      | zero => rw [hx] at h; cases h
      | succ n => exact ⟨rfl, rfl⟩
abbrev zGo (M : zMi) (Γ : zCx) (ad : Nat → Nat) (pc : Nat) (ρ : zEn) (st : List zV) (μ : zMem) : Prop := zG Γ M.2.2 0 0 zT0 ad pc ρ st μ
abbrev zXo (M : zMi) (Γ : zCx) (d : Nat) : Prop := zX Γ M.1 M.2.1 M.2.2 d
/-- an int; a long; a cell; a text: value, what it asks -/
def RE (M : zMi) (d b pc pc' : Nat) (v : zEn → zMem → Int) (o : zEn → zMem → Prop) : Prop := ∀ (Γ : zCx) (ad : Nat → Nat) (ρ : zEn) (st : List zV) (μ : zMem), zXo M Γ d → zcs st ≤ b → o ρ μ → zGo M Γ ad pc' ρ (vi (v ρ μ) :: st) μ → zGo M Γ ad pc ρ st μ
def RL (M : zMi) (d b pc pc' : Nat) (v : zEn → zMem → Int) (o : zEn → zMem → Prop) : Prop := ∀ (Γ : zCx) (ad : Nat → Nat) (ρ : zEn) (st : List zV) (μ : zMem), zXo M Γ d → zcs st ≤ b → o ρ μ → zGo M Γ ad pc' ρ (vl (v ρ μ) :: st) μ → zGo M Γ ad pc ρ st μ
def RR (M : zMi) (d b pc pc' : Nat) (v : zEn → zMem → Nat) (o : zEn → zMem → Prop) : Prop := ∀ (Γ : zCx) (ad : Nat → Nat) (ρ : zEn) (st : List zV) (μ : zMem), zXo M Γ d → zcs st ≤ b → o ρ μ → zGo M Γ ad pc' ρ (vr (v ρ μ) :: st) μ → zGo M Γ ad pc ρ st μ
def RS (M : zMi) (d b pc pc' : Nat) (v : zEn → zMem → Nat) (o : zEn → zMem → Prop) : Prop := ∀ (Γ : zCx) (ad : Nat → Nat) (ρ : zEn) (st : List zV) (μ : zMem), zXo M Γ d → zcs st ≤ b → o ρ μ → zGo M Γ ad pc' ρ (vx (v ρ μ) :: st) μ → zGo M Γ ad pc ρ st μ
/-- arguments -/
def RA (M : zMi) (d b b' pc pc' : Nat) (v : zEn → zMem → List zV) (o : zEn → zMem → Prop) : Prop := ∀ (Γ : zCx) (ad : Nat → Nat) (ρ : zEn) (st : List zV) (μ : zMem), zXo M Γ d → zcs st ≤ b → o ρ μ → (zcs ((v ρ μ).reverse ++ st) ≤ b' → zGo M Γ ad pc' ρ ((v ρ μ).reverse ++ st) μ) → zGo M Γ ad pc ρ st μ
/-- a condition: where it goes if it is so, if it isn't -/
def RC (M : zMi) (d b pc tt ff : Nat) (v : zEn → zMem → Bool) (o : zEn → zMem → Prop) : Prop := ∀ (Γ : zCx) (ad : Nat → Nat) (ρ : zEn) (st : List zV) (μ : zMem), zXo M Γ d → zcs st ≤ b → o ρ μ → (v ρ μ = true → zGo M Γ ad tt ρ st μ) → (v ρ μ = false → zGo M Γ ad ff ρ st μ) → zGo M Γ ad pc ρ st μ
/-- the same with calls that change the memory -/
def XE (M : zMi) (d b pc pc' : Nat) (x : (Int → zMem → Prop) → zEn → zMem → Prop) : Prop := ∀ (Γ : zCx) (ad : Nat → Nat) (ρ : zEn) (st : List zV) (μ : zMem) (K : Int → zMem → Prop), zXo M Γ d → zcs st ≤ b → x K ρ μ → (∀ n μ', K n μ' → zGo M Γ ad pc' ρ (vi n :: st) μ') → zGo M Γ ad pc ρ st μ
def XL (M : zMi) (d b pc pc' : Nat) (x : (Int → zMem → Prop) → zEn → zMem → Prop) : Prop := ∀ (Γ : zCx) (ad : Nat → Nat) (ρ : zEn) (st : List zV) (μ : zMem) (K : Int → zMem → Prop), zXo M Γ d → zcs st ≤ b → x K ρ μ → (∀ n μ', K n μ' → zGo M Γ ad pc' ρ (vl n :: st) μ') → zGo M Γ ad pc ρ st μ
def XA (M : zMi) (d b b' pc pc' : Nat) (x : (List zV → zMem → Prop) → zEn → zMem → Prop) : Prop := ∀ (Γ : zCx) (ad : Nat → Nat) (ρ : zEn) (st : List zV) (μ : zMem) (K : List zV → zMem → Prop), zXo M Γ d → zcs st ≤ b → x K ρ μ → (∀ vs μ', K vs μ' → zcs (vs.reverse ++ st) ≤ b' → zGo M Γ ad pc' ρ (vs.reverse ++ st) μ') → zGo M Γ ad pc ρ st μ
def XC (M : zMi) (d b pc tt ff : Nat) (x : (Bool → zMem → Prop) → zEn → zMem → Prop) : Prop := ∀ (Γ : zCx) (ad : Nat → Nat) (ρ : zEn) (st : List zV) (μ : zMem) (K : Bool → zMem → Prop), zXo M Γ d → zcs st ≤ b → x K ρ μ → (∀ μ', K true μ' → zGo M Γ ad tt ρ st μ') → (∀ μ', K false μ' → zGo M Γ ad ff ρ st μ') → zGo M Γ ad pc ρ st μ
/-- a void call's effect -/
def XV (M : zMi) (d b pc pc' : Nat) (x : (zMem → Prop) → zEn → zMem → Prop) : Prop := ∀ (Γ : zCx) (ad : Nat → Nat) (ρ : zEn) (st : List zV) (μ : zMem) (K : zMem → Prop), zXo M Γ d → zcs st ≤ b → x K ρ μ → (∀ μ', K μ' → zGo M Γ ad pc' ρ st μ') → zGo M Γ ad pc ρ st μ
abbrev zKo : Type := zEn → zMem → Prop
abbrev zRo : Type := Option zV → zMem → Prop
/-- a statement: what follows it, a break, a continue, a return -/
def SS (M : zMi) (ret : Option FieldType) (d pc pn pb pk : Nat) (x : zKo → zKo → zKo → zRo → zKo) : Prop := ∀ (Γ : zCx) (ad : Nat → Nat) (ρ : zEn) (μ : zMem) (N B C : zKo) (Rp : zRo), zXo M Γ d → zRt Γ ret 0 0 zT0 ad zT0 Rp → x N B C Rp ρ μ → (∀ ρ' μ', N ρ' μ' → zGo M Γ ad pn ρ' [] μ') → (∀ ρ' μ', B ρ' μ' → zGo M Γ ad pb ρ' [] μ') → (∀ ρ' μ', C ρ' μ' → zGo M Γ ad pk ρ' [] μ') → zGo M Γ ad pc ρ [] μ
theorem zIb {n : Int} (h : (decide (-2147483648 ≤ n) && decide (n ≤ 2147483647)) = true) : zI n := by simp only [Bool.and_eq_true, decide_eq_true_eq] at h; exact h
theorem zLb {n : Int} (h : (decide (-9223372036854775808 ≤ n) && decide (n ≤ 9223372036854775807)) = true) : zL n := by simp only [Bool.and_eq_true, decide_eq_true_eq] at h; exact h
theorem zcs_c {v : zV} {st : List zV} {b : Nat} (h : zcs st ≤ b) : zcs (v :: st) ≤ b + zcat v := by
  unfold zcs at *
  rw [List.map_cons, List.sum_cons]; omega
section RU
variable {M : zMi} {d b b' b'' pc p1 p2 p3 pc' tt ff mm tgt i k ci kd ix : Nat} {ret : Option FieldType} {n off : Int} {v v1 v2 v3 : zEn → zMem → Int} {o o1 o2 o3 : zEn → zMem → Prop} {r r1 : zEn → zMem → Nat} {c c1 c2 c3 : zEn → zMem → Bool}
  {x x1 x2 : (Int → zMem → Prop) → zEn → zMem → Prop} {xc xc1 xc2 : (Bool → zMem → Prop) → zEn → zMem → Prop} {xa : (List zV → zMem → Prop) → zEn → zMem → Prop}
theorem rI (dec : decode M.2.1 pc = .ok (.iconst n, 1)) (h : (decide (-2147483648 ≤ n) && decide (n ≤ 2147483647)) = true) : RE M d b pc (pc + 1) (fun _ _ => n) (fun _ _ => True) := fun Γ ad ρ st μ X _ _ k => zi_const X dec (zIb h) k
theorem zbip : ∀ n : Int, -128 ≤ n → n ≤ 127 → (Int8.ofInt n).toInt32 = Int32.ofInt n := fun n h1 h2 => by
  apply Int32.toInt.inj
  rw [Int8.toInt_toInt32, Int8.toInt_ofInt_of_le h1 (by omega), Int32.toInt_ofInt_of_le (by omega) (by omega)]
theorem zsip : ∀ n : Int, -32768 ≤ n → n ≤ 32767 → (Int16.ofInt n).toInt32 = Int32.ofInt n := fun n h1 h2 => by
  apply Int32.toInt.inj
  rw [Int16.toInt_toInt32, Int16.toInt_ofInt_of_le h1 (by omega), Int32.toInt_ofInt_of_le (by omega) (by omega)]
theorem rB (dec : decode M.2.1 pc = .ok (.bipush n, 2)) (h : (decide (-128 ≤ n) && decide (n ≤ 127)) = true) : RE M d b pc (pc + 2) (fun _ _ => n) (fun _ _ => True) := fun Γ ad ρ st μ X _ _ k => by
  simp only [Bool.and_eq_true, decide_eq_true_eq] at h
  exact zi_bipush X dec (zbip n h.1 h.2) ⟨by omega, by omega⟩ k
theorem rSi (dec : decode M.2.1 pc = .ok (.sipush n, 3)) (h : (decide (-32768 ≤ n) && decide (n ≤ 32767)) = true) : RE M d b pc (pc + 3) (fun _ _ => n) (fun _ _ => True) := fun Γ ad ρ st μ X _ _ k => by
  simp only [Bool.and_eq_true, decide_eq_true_eq] at h
  exact zi_sipush X dec (zsip n h.1 h.2) ⟨by omega, by omega⟩ k
theorem rLd (hc : Cond.constant M.1 ix (Int32.ofInt n) ∈ zTb) (dec : decode M.2.1 pc = .ok (.ldc ix, 2)) (h : (decide (-2147483648 ≤ n) && decide (n ≤ 2147483647)) = true) : RE M d b pc (pc + 2) (fun _ _ => n) (fun _ _ => True) := fun Γ ad ρ st μ X _ _ k => zi_ldc X dec hc (zIb h) k
theorem rLw (hc : Cond.constant M.1 ix (Int32.ofInt n) ∈ zTb) (dec : decode M.2.1 pc = .ok (.ldc_w ix, 3)) (h : (decide (-2147483648 ≤ n) && decide (n ≤ 2147483647)) = true) : RE M d b pc (pc + 3) (fun _ _ => n) (fun _ _ => True) := fun Γ ad ρ st μ X _ _ k => zi_ldcw X dec hc (zIb h) k
theorem rL2 (hc : Cond.constantLong M.1 ix (Int64.ofInt n) ∈ zTb) (dec : decode M.2.1 pc = .ok (.ldc2_w ix, 3)) (h : (decide (-9223372036854775808 ≤ n) && decide (n ≤ 9223372036854775807)) = true) : RL M d b pc (pc + 3) (fun _ _ => n) (fun _ _ => True) := fun Γ ad ρ st μ X _ _ k => zi_ldc2 X dec hc (zLb h) k
theorem rLc0 (dec : decode M.2.1 pc = .ok (.lconst 0, 1)) : RL M d b pc (pc + 1) (fun _ _ => 0) (fun _ _ => True) := fun Γ ad ρ st μ X _ _ k => zi_lconst X dec rfl zL0 k
theorem rLc1 (dec : decode M.2.1 pc = .ok (.lconst 1, 1)) : RL M d b pc (pc + 1) (fun _ _ => 1) (fun _ _ => True) := fun Γ ad ρ st μ X _ _ k => zi_lconst X dec rfl (show zL 1 from ⟨by decide, by decide⟩) k
theorem rTx (hi : i < 11) (hx : zSix.getD i 0 = ix) (ho : M.1 = "DebtDoors$Reader") (dec : decode M.2.1 pc = .ok (.ldc ix, 2)) : RS M d b pc (pc + 2) (fun _ _ => 2 + i) (fun _ _ => True) := fun Γ ad ρ st μ X _ _ k => zi_ldcS X hi hx ho dec k
theorem rIl (dec : decode M.2.1 pc = .ok (.iload i, 2)) : RE M d b pc (pc + 2) (fun ρ _ => zi ρ i) (fun ρ _ => zii ρ i) := fun Γ ad ρ st μ X _ o k => zi_load X dec (zii_of o) k
theorem rIn {q : Fin 4} (i : Nat) (dec : decode M.2.1 pc = .ok (.iload_n q, 1)) (hq : (q : Nat) = i) : RE M d b pc (pc + 1) (fun ρ _ => zi ρ i) (fun ρ _ => zii ρ i) := fun Γ ad ρ st μ X _ o k => zi_loadn X dec hq (zii_of o) k
theorem rLl (dec : decode M.2.1 pc = .ok (.lload i, 2)) : RL M d b pc (pc + 2) (fun ρ _ => zl ρ i) (fun ρ _ => zll ρ i) := fun Γ ad ρ st μ X _ o k => zi_lload X dec (zll_of o) k
theorem rLn {q : Fin 4} (i : Nat) (dec : decode M.2.1 pc = .ok (.lload_n q, 1)) (hq : (q : Nat) = i) : RL M d b pc (pc + 1) (fun ρ _ => zl ρ i) (fun ρ _ => zll ρ i) := fun Γ ad ρ st μ X _ o k => zi_lloadn X dec hq (zll_of o) k
theorem rAl (dec : decode M.2.1 pc = .ok (.aload i, 2)) : RR M d b pc (pc + 2) (fun ρ _ => zr ρ i) (fun ρ _ => zrr ρ i) := fun Γ ad ρ st μ X _ o k => zi_aload X dec (zrr_of o) rfl k
theorem rAn {q : Fin 4} (i : Nat) (dec : decode M.2.1 pc = .ok (.aload_n q, 1)) (hq : (q : Nat) = i) : RR M d b pc (pc + 1) (fun ρ _ => zr ρ i) (fun ρ _ => zrr ρ i) := fun Γ ad ρ st μ X _ o k => zi_aloadn X dec hq (zrr_of o) rfl k
theorem rXn {q : Fin 4} (i : Nat) (dec : decode M.2.1 pc = .ok (.aload_n q, 1)) (hq : (q : Nat) = i) : RS M d b pc (pc + 1) (fun ρ _ => zxs ρ i) (fun ρ _ => zxx ρ i) := fun Γ ad ρ st μ X _ o k => zi_aloadn X dec hq (zxx_of o).1 (zxx_of o).2 k
/-- an instruction on two ints -/
def zOp2 (ins : Instr) (f : Int → Int → Int) (g : Int → Int → Prop) : Prop := ∀ (M : zMi) (d : Nat) (Γ : zCx) (ad : Nat → Nat) (pc : Nat) (ρ : zEn) (st : List zV) (μ : zMem) (a b : Int), zXo M Γ d → decode M.2.1 pc = .ok (ins, 1) → g a b → zGo M Γ ad (pc + 1) ρ (vi (f a b) :: st) μ → zGo M Γ ad pc ρ (vi b :: vi a :: st) μ
theorem o_add : zOp2 .iadd (fun a b => a + b) (fun a b => zI (a + b)) := fun _ _ _ _ _ _ _ _ _ _ X dec g k => zi_iadd X dec g k
theorem o_sub : zOp2 .isub (fun a b => a - b) (fun a b => zI (a - b)) := fun _ _ _ _ _ _ _ _ _ _ X dec g k => zi_isub X dec g k
theorem o_mul : zOp2 .imul (fun a b => a * b) (fun a b => zI (a * b)) := fun _ _ _ _ _ _ _ _ _ _ X dec g k => zi_imul X dec g k
theorem o_div : zOp2 .idiv (fun a b => a.tdiv b) (fun a b => b ≠ 0 ∧ zI (a.tdiv b)) := fun _ _ _ _ _ _ _ _ _ _ X dec g k => zi_idiv X dec g.1 g.2 k
theorem o_rem : zOp2 .irem (fun a b => a.tmod b) (fun _ b => b ≠ 0) := fun _ _ _ _ _ _ _ _ _ _ X dec g k => zi_irem X dec g k
theorem o_and : zOp2 .iand (fun a b => zand a b) (fun _ _ => True) := fun _ _ _ _ _ _ _ _ _ _ X dec _ k => zi_iand X dec k
theorem o_or : zOp2 .ior (fun a b => zor a b) (fun _ _ => True) := fun _ _ _ _ _ _ _ _ _ _ X dec _ k => zi_ior X dec k
theorem o_xor : zOp2 .ixor (fun a b => zxor a b) (fun _ _ => True) := fun _ _ _ _ _ _ _ _ _ _ X dec _ k => zi_ixor X dec k
theorem o_shl : zOp2 .ishl (fun a b => zshl a b) (fun _ _ => True) := fun _ _ _ _ _ _ _ _ _ _ X dec _ k => zi_ishl X dec k
theorem o_shr : zOp2 .ishr (fun a b => zshr a b) (fun _ _ => True) := fun _ _ _ _ _ _ _ _ _ _ X dec _ k => zi_ishr X dec k
theorem o_ush : zOp2 .iushr (fun a b => zush a b) (fun _ _ => True) := fun _ _ _ _ _ _ _ _ _ _ X dec _ k => zi_iushr X dec k
theorem r2 {ins : Instr} {f : Int → Int → Int} {g : Int → Int → Prop} (h : zOp2 ins f g) (h1 : RE M d b pc p1 v1 o1) (h2 : RE M d (b + 1) p1 p2 v2 o2) (dec : decode M.2.1 p2 = .ok (ins, 1)) : RE M d b pc (p2 + 1) (fun ρ μ => f (v1 ρ μ) (v2 ρ μ)) (fun ρ μ => o1 ρ μ ∧ o2 ρ μ ∧ g (v1 ρ μ) (v2 ρ μ)) :=
  fun Γ ad ρ st μ X hb o k => h1 Γ ad ρ st μ X hb o.1 (h2 Γ ad ρ _ μ X (zcs_c hb) o.2.1 (h M d Γ ad p2 ρ st μ _ _ X dec o.2.2 k))
theorem xx2 {ins : Instr} {f : Int → Int → Int} {g : Int → Int → Prop} (h : zOp2 ins f g) (h1 : XE M d b pc p1 x1) (h2 : XE M d (b + 1) p1 p2 x2) (dec : decode M.2.1 p2 = .ok (ins, 1)) : XE M d b pc (p2 + 1) (fun K ρ μ => x1 (fun a μ1 => x2 (fun e μ2 => g a e ∧ K (f a e) μ2) ρ μ1) ρ μ) :=
  fun Γ ad ρ st μ K X hb hx kk => h1 Γ ad ρ st μ _ X hb hx (fun a μ1 h3 => h2 Γ ad ρ _ μ1 _ X (zcs_c hb) h3 (fun e μ2 h4 => h M d Γ ad p2 ρ st μ2 _ _ X dec h4.1 (kk _ _ h4.2)))
theorem rNg (h1 : RE M d b pc p1 v1 o1) (dec : decode M.2.1 p1 = .ok (.ineg, 1)) : RE M d b pc (p1 + 1) (fun ρ μ => -v1 ρ μ) (fun ρ μ => o1 ρ μ ∧ zI (-v1 ρ μ)) := fun Γ ad ρ st μ X hb o k => h1 Γ ad ρ st μ X hb o.1 (zi_ineg X dec o.2 k)
theorem rIb (h1 : RE M d b pc p1 v1 o1) (dec : decode M.2.1 p1 = .ok (.i2b, 1)) : RE M d b pc (p1 + 1) (fun ρ μ => zi2b (v1 ρ μ)) o1 := fun Γ ad ρ st μ X hb o k => h1 Γ ad ρ st μ X hb o (zi_i2b X dec k)
theorem rI2L (h1 : RE M d b pc p1 v1 o1) (dec : decode M.2.1 p1 = .ok (.i2l, 1)) : RL M d b pc (p1 + 1) v1 o1 := fun Γ ad ρ st μ X hb o k => h1 Γ ad ρ st μ X hb o (zi_i2l X dec k)
theorem rL2I (h1 : RL M d b pc p1 v1 o1) (dec : decode M.2.1 p1 = .ok (.l2i, 1)) : RE M d b pc (p1 + 1) v1 (fun ρ μ => o1 ρ μ ∧ zI (v1 ρ μ)) := fun Γ ad ρ st μ X hb o k => h1 Γ ad ρ st μ X hb o.1 (zi_l2i X dec o.2 k)
def zOpL (ins : Instr) (f : Int → Int → Int) (g : Int → Int → Prop) : Prop := ∀ (M : zMi) (d : Nat) (Γ : zCx) (ad : Nat → Nat) (pc : Nat) (ρ : zEn) (st : List zV) (μ : zMem) (a b : Int), zXo M Γ d → decode M.2.1 pc = .ok (ins, 1) → g a b → zGo M Γ ad (pc + 1) ρ (vl (f a b) :: st) μ → zGo M Γ ad pc ρ (vl b :: vl a :: st) μ
theorem o_ladd : zOpL .ladd (fun a b => a + b) (fun a b => zL (a + b)) := fun _ _ _ _ _ _ _ _ _ _ X dec g k => zi_ladd X dec g k
theorem o_lsub : zOpL .lsub (fun a b => a - b) (fun a b => zL (a - b)) := fun _ _ _ _ _ _ _ _ _ _ X dec g k => zi_lsub X dec g k
theorem o_lmul : zOpL .lmul (fun a b => a * b) (fun a b => zL (a * b)) := fun _ _ _ _ _ _ _ _ _ _ X dec g k => zi_lmul X dec g k
theorem o_ldiv : zOpL .ldiv (fun a b => a.tdiv b) (fun a b => b ≠ 0 ∧ zL (a.tdiv b)) := fun _ _ _ _ _ _ _ _ _ _ X dec g k => zi_ldiv X dec g.1 g.2 k
theorem o_lrem : zOpL .lrem (fun a b => a.tmod b) (fun a b => b ≠ 0 ∧ zL (a.tmod b)) := fun _ _ _ _ _ _ _ _ _ _ X dec g k => zi_lrem X dec g.1 g.2 k
theorem rl2 {ins : Instr} {f : Int → Int → Int} {g : Int → Int → Prop} (h : zOpL ins f g) (h1 : RL M d b pc p1 v1 o1) (h2 : RL M d (b + 2) p1 p2 v2 o2) (dec : decode M.2.1 p2 = .ok (ins, 1)) : RL M d b pc (p2 + 1) (fun ρ μ => f (v1 ρ μ) (v2 ρ μ)) (fun ρ μ => o1 ρ μ ∧ o2 ρ μ ∧ g (v1 ρ μ) (v2 ρ μ)) :=
  fun Γ ad ρ st μ X hb o k => h1 Γ ad ρ st μ X hb o.1 (h2 Γ ad ρ _ μ X (zcs_c hb) o.2.1 (h M d Γ ad p2 ρ st μ _ _ X dec o.2.2 k))
theorem rCmp (h1 : RL M d b pc p1 v1 o1) (h2 : RL M d (b + 2) p1 p2 v2 o2) (dec : decode M.2.1 p2 = .ok (.lcmp, 1)) : RE M d b pc (p2 + 1) (fun ρ μ => zcmp (v1 ρ μ) (v2 ρ μ)) (fun ρ μ => o1 ρ μ ∧ o2 ρ μ) :=
  fun Γ ad ρ st μ X hb o k => h1 Γ ad ρ st μ X hb o.1 (h2 Γ ad ρ _ μ X (zcs_c hb) o.2 (zi_lcmp X dec k))
/-- pure ones are ones with calls -/
theorem xE (h : RE M d b pc pc' v o) : XE M d b pc pc' (fun K ρ μ => o ρ μ ∧ K (v ρ μ) μ) := fun Γ ad ρ st μ K X hb hx kk => h Γ ad ρ st μ X hb hx.1 (kk _ _ hx.2)
theorem xLp (h : RL M d b pc pc' v o) : XL M d b pc pc' (fun K ρ μ => o ρ μ ∧ K (v ρ μ) μ) := fun Γ ad ρ st μ K X hb hx kk => h Γ ad ρ st μ X hb hx.1 (kk _ _ hx.2)
theorem xC (h : RC M d b pc tt ff c o) : XC M d b pc tt ff (fun K ρ μ => o ρ μ ∧ K (c ρ μ) μ) := fun Γ ad ρ st μ K X hb hx kt kf => h Γ ad ρ st μ X hb hx.1 (fun e => kt μ (by rw [← e]; exact hx.2)) (fun e => kf μ (by rw [← e]; exact hx.2))
theorem xA {vs : zEn → zMem → List zV} (h : RA M d b b' pc pc' vs o) : XA M d b b' pc pc' (fun K ρ μ => o ρ μ ∧ K (vs ρ μ) μ) := fun Γ ad ρ st μ K X hb hx kk => h Γ ad ρ st μ X hb hx.1 (kk _ _ hx.2)
/-- fields and rows -/
theorem rF (j : Int) (hl : zFl M.1 ix ci k) (hk : zNk ci k = some kd) (h1 : RR M d b pc p1 r o1) (dec : decode M.2.1 p1 = .ok (.getfield ix, 3)) (hj : (k : Int) = j) : RE M d b pc (p1 + 3) (fun ρ μ => μ (r ρ μ) j) (fun ρ μ => o1 ρ μ ∧ zO ci (r ρ μ) = true) := fun Γ ad ρ st μ X hb o kk => h1 Γ ad ρ st μ X hb o.1 (by
  obtain ⟨q, e1, e2, -⟩ := id hl
  obtain ⟨fs, e3, e4⟩ := zO_num o.2 hk ⟨q, e1, e2⟩
  subst hj
  exact zi_getI X hl dec e3 e4 kk)
theorem rFr (hl : zFl M.1 ix ci k) (hk : zNk ci k = none) (h1 : RR M d b pc p1 r o1) (dec : decode M.2.1 p1 = .ok (.getfield ix, 3)) : RR M d b pc (p1 + 3) (fun ρ μ => zptr (r ρ μ) k) (fun ρ μ => o1 ρ μ ∧ zO ci (r ρ μ) = true) := fun Γ ad ρ st μ X hb o kk => h1 Γ ad ρ st μ X hb o.1 (by
  obtain ⟨q, e1, e2, -⟩ := id hl
  obtain ⟨fs, e3, e4⟩ := zO_ref o.2 hk ⟨q, e1, e2⟩
  exact zi_getR X hl dec e3 e4 kk)
theorem rIa (h1 : RR M d b pc p1 r o1) (h2 : RE M d (b + 1) p1 p2 v2 o2) (dec : decode M.2.1 p2 = .ok (.iaload, 1)) : RE M d b pc (p2 + 1) (fun ρ μ => μ (r ρ μ) (v2 ρ μ)) (fun ρ μ => o1 ρ μ ∧ o2 ρ μ ∧ zkd (r ρ μ) = 0 ∧ 0 ≤ v2 ρ μ ∧ v2 ρ μ < zln (r ρ μ)) := fun Γ ad ρ st μ X hb o kk => h1 Γ ad ρ st μ X hb o.1 (h2 Γ ad ρ _ μ X (zcs_c hb) o.2.1 (by
  obtain ⟨n, rs, e1, e2⟩ := zkd_of o.2.2.1 (by decide)
  exact zi_iald X dec e1 o.2.2.2.1 (by rw [e2]; exact o.2.2.2.2) kk))
theorem rBa (h1 : RR M d b pc p1 r o1) (h2 : RE M d (b + 1) p1 p2 v2 o2) (dec : decode M.2.1 p2 = .ok (.baload, 1)) : RE M d b pc (p2 + 1) (fun ρ μ => μ (r ρ μ) (v2 ρ μ)) (fun ρ μ => o1 ρ μ ∧ o2 ρ μ ∧ zkd (r ρ μ) = 1 ∧ 0 ≤ v2 ρ μ ∧ v2 ρ μ < zln (r ρ μ)) := fun Γ ad ρ st μ X hb o kk => h1 Γ ad ρ st μ X hb o.1 (h2 Γ ad ρ _ μ X (zcs_c hb) o.2.1 (by
  obtain ⟨n, rs, e1, e2⟩ := zkd_of o.2.2.1 (by decide)
  exact zi_bald X dec e1 o.2.2.2.1 (by rw [e2]; exact o.2.2.2.2) kk))
theorem rZa (h1 : RR M d b pc p1 r o1) (h2 : RE M d (b + 1) p1 p2 v2 o2) (dec : decode M.2.1 p2 = .ok (.baload, 1)) : RE M d b pc (p2 + 1) (fun ρ μ => μ (r ρ μ) (v2 ρ μ)) (fun ρ μ => o1 ρ μ ∧ o2 ρ μ ∧ zkd (r ρ μ) = 2 ∧ 0 ≤ v2 ρ μ ∧ v2 ρ μ < zln (r ρ μ)) := fun Γ ad ρ st μ X hb o kk => h1 Γ ad ρ st μ X hb o.1 (h2 Γ ad ρ _ μ X (zcs_c hb) o.2.1 (by
  obtain ⟨n, rs, e1, e2⟩ := zkd_of o.2.2.1 (by decide)
  exact zi_zald X dec e1 o.2.2.2.1 (by rw [e2]; exact o.2.2.2.2) kk))
theorem rLa (h1 : RR M d b pc p1 r o1) (h2 : RE M d (b + 1) p1 p2 v2 o2) (dec : decode M.2.1 p2 = .ok (.laload, 1)) : RL M d b pc (p2 + 1) (fun ρ μ => μ (r ρ μ) (v2 ρ μ)) (fun ρ μ => o1 ρ μ ∧ o2 ρ μ ∧ zkd (r ρ μ) = 3 ∧ 0 ≤ v2 ρ μ ∧ v2 ρ μ < zln (r ρ μ)) := fun Γ ad ρ st μ X hb o kk => h1 Γ ad ρ st μ X hb o.1 (h2 Γ ad ρ _ μ X (zcs_c hb) o.2.1 (by
  obtain ⟨n, rs, e1, e2⟩ := zkd_of o.2.2.1 (by decide)
  exact zi_lald X dec e1 o.2.2.2.1 (by rw [e2]; exact o.2.2.2.2) kk))
theorem rAa (h1 : RR M d b pc p1 r o1) (h2 : RE M d (b + 1) p1 p2 v2 o2) (dec : decode M.2.1 p2 = .ok (.aaload, 1)) : RR M d b pc (p2 + 1) (fun ρ μ => zpa (r ρ μ) (v2 ρ μ)) (fun ρ μ => o1 ρ μ ∧ o2 ρ μ ∧ (4 ≤ zkd (r ρ μ) ∧ zkd (r ρ μ) < 7) ∧ 0 ≤ v2 ρ μ ∧ v2 ρ μ < zln (r ρ μ)) := fun Γ ad ρ st μ X hb o kk => h1 Γ ad ρ st μ X hb o.1 (h2 Γ ad ρ _ μ X (zcs_c hb) o.2.1 (by
  obtain ⟨n, rs, e1, e2, e3⟩ := zpa_of rfl o.2.2.1.1 o.2.2.1.2 o.2.2.2.1 o.2.2.2.2
  exact zi_aald X dec e1 o.2.2.1.1 o.2.2.1.2 o.2.2.2.1 (by rw [e2]; exact o.2.2.2.2) e3 kk))
theorem rLen (h1 : RR M d b pc p1 r o1) (dec : decode M.2.1 p1 = .ok (.arraylength, 1)) : RE M d b pc (p1 + 1) (fun ρ μ => zln (r ρ μ)) (fun ρ μ => o1 ρ μ ∧ zkd (r ρ μ) < 7) := fun Γ ad ρ st μ X hb o kk => h1 Γ ad ρ st μ X hb o.1 (by
  obtain ⟨n, rs, e1, e2⟩ := zkd_of rfl o.2
  have kk2 : zGo M Γ ad (p1 + 1) ρ (vi (n : Int) :: st) μ := by rw [e2]; exact kk
  exact zi_alen X dec e1 o.2 (by rw [e2]; exact (zln_I _).2) kk2)
end RU
