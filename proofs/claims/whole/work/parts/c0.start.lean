/-! the law's start: what the tables and the statement say -/
def lwF : List Cond := flatC (Jvm.Cond.and given_1 narrow_1)
def lwTm (i : Nat) : Term := Term.string "DebtDoors$Reader" (zSix.getD i 0)
def lwVl (i : Nat) : Term := Term.field (lwTm i) "java/lang/String" "value" "[B"
theorem lwA0 : ∀ i, i < 11 → zSlen.getD i 0 < 2 ^ 31 := by decide +kernel
theorem lwA1 : ∀ i, i < 11 → Cond.exactly (lwTm i) "java/lang/String" ∈ lwF := by decide +kernel
theorem lwA2 : ∀ i, i < 11 → Cond.eq (.field (lwTm i) "java/lang/String" "coder" "B") (.int 0) ∈ lwF := by decide +kernel
theorem lwA3 : ∀ i, i < 11 → Cond.arrayOf (lwVl i) .byte ∈ lwF := by decide +kernel
theorem lwA4 : ∀ i, i < 11 → Cond.eq (.length (lwVl i)) (.int (Int32.ofNat (zTxs.getD i []).length)) ∈ lwF := by decide +kernel
theorem lwA5 : ∀ i, i < 11 → ∀ j, j < (zTxs.getD i []).length → Cond.eq (.elem (lwVl i) (.int (Int32.ofNat j))) (.int (Int32.ofNat ((zTxs.getD i []).getD j 0))) ∈ lwF := by decide +kernel
theorem lwA6 : ∀ i, i < 11 → ∀ j, j < 11 → i ≠ j → (Cond.not (Cond.eq (lwTm i) (lwTm j)) ∈ lwF ∨ Cond.not (Cond.eq (lwTm j) (lwTm i)) ∈ lwF) := by decide +kernel
theorem lwA7 : ∀ i, i < 11 → Cond.stringRef "DebtDoors$Reader" (zSix.getD i 0) (zSt.getD i "") ∈ lw_tbl := by decide +kernel
theorem lw_str {args : Array Value} {s : State} (h : (Jvm.Cond.and given_1 narrow_1).before args s = true) {A : Nat → Prop} (hA : ∀ a : Nat, a < s.heap.size → ¬ A a) : ∃ adK adV : Nat → Nat, vk_S 11 zSlen zSby adK adV A s s.heap ∧ ∀ i : Nat, i < 11 → (lwTm i).eval args s none [] s = some (.ref (adK i)) := by
  have hs := flat_of_before _ h
  exact vk_Sof (tm := lwTm) lwA0 (fun i hi => hs _ (lwA1 i hi)) (fun i hi => hs _ (lwA2 i hi)) (fun i hi => hs _ (lwA3 i hi)) (fun i hi => by rw [zTx_l]; exact hs _ (lwA4 i hi)) (fun i hi j hj => by rw [zTx_b]; exact hs _ (lwA5 i hi j (by rw [← zTx_l]; exact hj))) (fun i j hi hj hn => by
    rcases lwA6 i hi j hj hn with q | q
    · exact Or.inl (hs _ q)
    · exact Or.inr (hs _ q)) hA
theorem lwI : ∀ ci, ci < 13 → ∃ r, zCl[ci]? = some r ∧ Cond.instantiable r.1 r.2.2 ∈ zTb := by
  intro ci h
  match ci, h with
  | 0, _ => exact ⟨_, rfl, by decide +kernel⟩
  | 1, _ => exact ⟨_, rfl, by decide +kernel⟩
  | 2, _ => exact ⟨_, rfl, by decide +kernel⟩
  | 3, _ => exact ⟨_, rfl, by decide +kernel⟩
  | 4, _ => exact ⟨_, rfl, by decide +kernel⟩
  | 5, _ => exact ⟨_, rfl, by decide +kernel⟩
  | 6, _ => exact ⟨_, rfl, by decide +kernel⟩
  | 7, _ => exact ⟨_, rfl, by decide +kernel⟩
  | 8, _ => exact ⟨_, rfl, by decide +kernel⟩
  | 9, _ => exact ⟨_, rfl, by decide +kernel⟩
  | 10, _ => exact ⟨_, rfl, by decide +kernel⟩
  | 11, _ => exact ⟨_, rfl, by decide +kernel⟩
  | 12, _ => exact ⟨_, rfl, by decide +kernel⟩
  | n + 13, h => omega
theorem lw_cl {args : Array Value} {s : State} (hts : ∀ w ∈ zTb, w.before args s = true) (c0 : ClassId) : ∃ D : va_G, ∀ (c : Nat) (q : vw_C), zCl[c]? = some q → u_Kn s q.1 q.2.1 q.2.2 (D.1 c) (D.2 c) := by
  have h0 : ∀ ci : Nat, ∃ p : ClassId × (Nat → Nat), ∀ r : vw_C, zCl[ci]? = some r → u_Kn s r.1 r.2.1 r.2.2 p.1 p.2 := by
    intro ci
    cases hc : zCl[ci]? with
    | none => exact ⟨(c0, fun _ => 0), fun r h => by cases h⟩
    | some r =>
      have hi : ci < 13 := (List.getElem?_eq_some_iff.mp hc).1
      obtain ⟨r', e1, e2⟩ := lwI ci hi
      rw [hc] at e1
      cases e1
      obtain ⟨cC, iS, h⟩ := u_known (ws := zTb) hts (zClOk ci r hc).1 (hts _ e2)
      exact ⟨(cC, iS), fun q hq => by cases hq; exact h⟩
  obtain ⟨f, hf⟩ := Classical.axiomOfChoice h0
  exact ⟨(fun c => (f c).1, fun c => (f c).2), fun c q hq => hf c q hq⟩
theorem lw_ty {args : Array Value} {s : State} (hts : ∀ w ∈ lw_tbl, w.before args s = true) : ∃ aT : Nat → ClassId, ∀ (k : Nat) (q : ClassId × FieldType), (zTys aT)[k]? = some q → ArrOfT s q.1 q.2 ∧ va_RA s q.1 q.2 := by
  obtain ⟨a0, k0, m0, x0, y0, z0⟩ := Cond.arrayClass_spec (hts (.arrayClass .int) (by decide +kernel))
  obtain ⟨a1, k1, m1, x1, y1, z1⟩ := Cond.arrayClass_spec (hts (.arrayClass .byte) (by decide +kernel))
  obtain ⟨a2, k2, m2, x2, y2, z2⟩ := Cond.arrayClass_spec (hts (.arrayClass .boolean) (by decide +kernel))
  obtain ⟨a3, k3, m3, x3, y3, z3⟩ := Cond.arrayClass_spec (hts (.arrayClass .long) (by decide +kernel))
  obtain ⟨m4, a4, k4, -, -, y4, z4, x4⟩ := Stand.arrayOver_specB (hts (.arrayOver (.array .int)) (by decide +kernel))
  obtain ⟨m5, a5, k5, u5, -, y5, z5, x5⟩ := Cond.arrayOver_spec (hts (.arrayOver (.object "DebtDoors$Town")) (by decide +kernel))
  obtain ⟨m6, a6, k6, u6, -, y6, z6, x6⟩ := Cond.arrayOver_spec (hts (.arrayOver (.object "DebtDoors$Ledger")) (by decide +kernel))
  refine ⟨fun t => match t with | 0 => a0 | 1 => a1 | 2 => a2 | 3 => a3 | 4 => a4 | 5 => a5 | _ => a6, fun k q hq => ?_⟩
  match k, hq with
  | 0, hq => cases hq; exact ⟨fun n z => ⟨(fun k h => by cases h), k0, y0, m0, z0⟩, x0⟩
  | 1, hq => cases hq; exact ⟨fun n z => ⟨(fun k h => by cases h), k1, y1, m1, z1⟩, x1⟩
  | 2, hq => cases hq; exact ⟨fun n z => ⟨(fun k h => by cases h), k2, y2, m2, z2⟩, x2⟩
  | 3, hq => cases hq; exact ⟨fun n z => ⟨(fun k h => by cases h), k3, y3, m3, z3⟩, x3⟩
  | 4, hq => cases hq; exact ⟨fun n z => ⟨(fun k h => by cases h), k4, y4, m4, z4⟩, x4⟩
  | 5, hq => cases hq; exact ⟨fun n z => ⟨(fun k h => by cases h), k5, y5, m5, z5⟩, k5, m5, y5, z5, u5, x5⟩
  | 6, hq => cases hq; exact ⟨fun n z => ⟨(fun k h => by cases h), k6, y6, m6, z6⟩, k6, m6, y6, z6, u6, x6⟩
  | n + 7, hq => simp [zTys] at hq
theorem lw_zs {args : Array Value} {s : State} (h : (Jvm.Cond.and given_1 narrow_1).before args s = true) (hts : ∀ w ∈ lw_tbl, w.before args s = true) {A : Nat → Prop} (hA : ∀ a : Nat, a < s.heap.size → ¬ A a) : va_Z "java/lang/String" "COMPACT_STRINGS" "Z" (.int 1) A s s.heap ∧ ∃ v, va_Z "jdk/internal/util/Preconditions" "SIOOBE_FORMATTER" "Ljava/util/function/BiFunction;" v A s s.heap ∧ (v = .null ∨ ∃ a, v = .ref a) := by
  have hs := flat_of_before _ h
  refine ⟨va_Zof (hts _ (by decide +kernel)) (hts _ (by decide +kernel)) (va_eqt (hs (.eq (.static "java/lang/String" "COMPACT_STRINGS" "Z") (.int 1)) (by decide +kernel))) hA, ?_⟩
  rcases va_Zqof (C := "jdk/internal/util/Preconditions") (n := "SIOOBE_FORMATTER") (d := "Ljava/util/function/BiFunction;") (hts _ (by decide +kernel)) (hts _ (by decide +kernel)) (hs _ (by decide +kernel)) hA with q | ⟨t, q⟩
  · exact ⟨_, q, Or.inl rfl⟩
  · exact ⟨_, q, Or.inr ⟨t, rfl⟩⟩

