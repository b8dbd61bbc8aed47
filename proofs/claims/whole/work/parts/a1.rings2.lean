/-! rings: the class's walk -/
noncomputable def scW (g : Nat → Option (List Nat)) : Nat → Nat → Option (List Nat)
  | 0, _ => none
  | c + 1, p => match g p with
    | some r => some r
    | none => scW g c (p + 1)
noncomputable def wk (E : Nat → Nat → Prop) (p0 : Nat) : Nat → Nat → Nat → Option (List Nat)
  | 0, last, left => @ite (Option (List Nat)) (left = 0 ∧ E last p0) (Classical.propDecidable _) (some []) none
  | f + 1, last, left => @ite (Option (List Nat)) (left = 0) (Classical.propDecidable _) (@ite (Option (List Nat)) (E last p0) (Classical.propDecidable _) (some []) none) (scW (fun p => @ite (Option (List Nat)) (left.testBit p = true ∧ E last p) (Classical.propDecidable _) ((wk E p0 f p (left - 2 ^ p)).map (fun r => p :: r)) none) 7 0)
theorem scW_p {g : Nat → Option (List Nat)} : ∀ (c p : Nat), (scW g c p = none → ∀ i, p ≤ i → i < p + c → g i = none) ∧ (∀ r, scW g c p = some r → ∃ i, p ≤ i ∧ i < p + c ∧ g i = some r ∧ ∀ j, p ≤ j → j < i → g j = none)
  | 0, p => ⟨fun _ i a b => by omega, fun r h => by unfold scW at h; cases h⟩
  | c + 1, p => by
    have ih := scW_p (g := g) c (p + 1)
    unfold scW
    rcases e : g p with _ | r0
    · refine ⟨fun h i a b => ?_, fun r h => ?_⟩
      · by_cases q : i = p
        · rw [q]
          exact e
        · exact ih.1 h i (by omega) (by omega)
      · obtain ⟨i, i1, i2, i3, i4⟩ := ih.2 r h
        refine ⟨i, by omega, by omega, i3, fun j a b => ?_⟩
        by_cases q : j = p
        · rw [q]
          exact e
        · exact i4 j (by omega) b
    · refine ⟨fun h => (by cases h), fun r h => ?_⟩
      cases h
      exact ⟨p, Nat.le_refl _, by omega, e, fun j a b => by omega⟩
theorem wk_p {E : Nat → Nat → Prop} {p0 : Nat} : ∀ (f last left : Nat), left < 128 → pcN 8 left ≤ f → (wk E p0 f last left = none → ∀ l, ¬ XR E p0 last left l) ∧ (∀ r, wk E p0 f last left = some r → XR E p0 last left r ∧ ∀ l, XR E p0 last left l → lx r l)
  | 0, last, left, hl, hp => by
    have h0 : left = 0 := by
      have := (pc_all (n := 0) (by decide))
      have h : (List.range 128).all (fun c => (pcN 8 c != 0) || c == 0) = true := by decide +kernel
      have := List.all_eq_true.mp h left (List.mem_range.mpr hl)
      rw [show pcN 8 left = 0 by omega] at this
      simpa using this
    subst h0
    unfold wk
    by_cases c : E last p0
    · rw [if_pos ⟨rfl, c⟩]
      refine ⟨fun h => (by cases h), fun r h => ?_⟩
      cases h
      exact ⟨⟨rfl, c⟩, fun l _ => trivial⟩
    · rw [if_neg (fun q => c q.2)]
      refine ⟨fun _ l hx => ?_, fun r h => (by cases h)⟩
      cases l with
      | nil => exact c hx.2
      | cons a l =>
        have := hx.1.1
        rw [Nat.zero_testBit] at this
        cases this
  | f + 1, last, left, hl, hp => by
    unfold wk
    by_cases c0 : left = 0
    · rw [if_pos c0]
      subst c0
      have hnil : ∀ l, XR E p0 last 0 l → E last p0 := by
        intro l hx
        cases l with
        | nil => exact hx.2
        | cons a l =>
          have := hx.1.1
          rw [Nat.zero_testBit] at this
          cases this
      by_cases c : E last p0
      · rw [if_pos c]
        refine ⟨fun h => (by cases h), fun r h => ?_⟩
        cases h
        exact ⟨⟨rfl, c⟩, fun l _ => trivial⟩
      · rw [if_neg c]
        exact ⟨fun _ l hx => c (hnil l hx), fun r h => (by cases h)⟩
    · rw [if_neg c0]
      have hs := scW_p (g := fun p => @ite (Option (List Nat)) (left.testBit p = true ∧ E last p) (Classical.propDecidable _) ((wk E p0 f p (left - 2 ^ p)).map (fun r => p :: r)) none) 7 0
      have hbit : ∀ p, left.testBit p = true → p < 7 ∧ left - 2 ^ p < 128 ∧ pcN 8 (left - 2 ^ p) ≤ f := by
        intro p hb
        have hp7 : p < 7 := by
          rcases Nat.lt_or_ge p 7 with z | z
          · exact z
          · rw [Nat.testBit_lt_two_pow (Nat.lt_of_lt_of_le (show left < 2 ^ 7 by exact hl) (Nat.pow_le_pow_right (by decide) z))] at hb
            cases hb
        obtain ⟨s1, s2⟩ := sub_tb (c := left) (p := p) (by omega) (by omega) hb
        have hnb : (left - 2 ^ p).testBit p = false := by rw [s2]; simp
        have hlt : left - 2 ^ p < 128 := Nat.lt_of_le_of_lt (Nat.sub_le _ _) hl
        have b8 := (bit8 (c := left - 2 ^ p) (i := p) (by omega) (by omega) hnb).2.1
        rw [Nat.sub_add_cancel s1] at b8
        exact ⟨hp7, hlt, by omega⟩
      refine ⟨fun h l hx => ?_, fun r h => ?_⟩
      · cases l with
        | nil => exact c0 hx.1
        | cons p l =>
          obtain ⟨q1, q2, q3⟩ := hbit p hx.1.1
          have := hs.1 h p (Nat.zero_le _) (by omega)
          rw [if_pos hx.1, Option.map_eq_none_iff] at this
          exact (wk_p f p (left - 2 ^ p) q2 q3).1 this l hx.2
      · obtain ⟨p, i1, i2, i3, i4⟩ := hs.2 r h
        by_cases cc : left.testBit p = true ∧ E last p
        · rw [if_pos cc, Option.map_eq_some_iff] at i3
          obtain ⟨r0, r1, rfl⟩ := i3
          obtain ⟨q1, q2, q3⟩ := hbit p cc.1
          obtain ⟨w1, w2⟩ := (wk_p f p (left - 2 ^ p) q2 q3).2 r0 r1
          refine ⟨⟨cc, w1⟩, fun l hx => ?_⟩
          cases l with
          | nil => exact absurd hx.1 c0
          | cons a l =>
            rcases Nat.lt_trichotomy p a with z | z | z
            · exact Or.inl z
            · subst z
              exact Or.inr ⟨rfl, w2 l hx.2⟩
            · exfalso
              obtain ⟨q4, q5, q6⟩ := hbit a hx.1.1
              have := i4 a (Nat.zero_le _) z
              rw [if_pos hx.1, Option.map_eq_none_iff] at this
              exact (wk_p f a (left - 2 ^ a) q5 q6).1 this l hx.2
        · rw [if_neg cc] at i3
          cases i3
/-- who owes whom, in bits -/
def owC (E : Nat → Nat → Prop) (μ : zMem) : Prop := ∀ a : Nat, a < 7 → ∃ m : Nat, μ 347 (a : Int) = (m : Int) ∧ m < 128 ∧ ∀ b, m.testBit b = true ↔ E a b
theorem zand_tb {a b : Nat} (ha : a < 128) (hb : b < 128) (p : Nat) : zand (a : Int) (b : Int) = ((a &&& b : Nat) : Int) ∧ a &&& b < 128 ∧ ((a &&& b).testBit p = true ↔ (a.testBit p = true ∧ b.testBit p = true)) := by
  have : a &&& b ≤ a := Nat.and_le_left
  exact ⟨zand_n (by omega) (by omega), by omega, by rw [Nat.testBit_and, Bool.and_eq_true]⟩
theorem scW_s {g : Nat → Option (List Nat)} {p : Nat} (h : p < 7) : (∀ r, g p = some r → scW g (7 - p) p = some r) ∧ (g p = none → scW g (7 - p) p = scW g (7 - (p + 1)) (p + 1)) := by
  rw [show 7 - p = (7 - (p + 1)) + 1 by omega, scW]
  refine ⟨fun r e => ?_, fun e => ?_⟩
  · rw [e]
  · rw [e]
theorem scW_n {g : Nat → Option (List Nat)} : ∀ (c p : Nat), (∀ i, p ≤ i → g i = none) → scW g c p = none
  | 0, _, _ => rfl
  | c + 1, p, h => by
    rw [scW, h p (Nat.le_refl _)]
    exact scW_n c (p + 1) (fun i hi => h i (by omega))
noncomputable def wkG (E : Nat → Nat → Prop) (p0 f last left : Nat) : Nat → Option (List Nat) := fun p => @ite (Option (List Nat)) (left.testBit p = true ∧ E last p) (Classical.propDecidable _) ((wk E p0 f p (left - 2 ^ p)).map (fun r => p :: r)) none
theorem wk_s {E : Nat → Nat → Prop} {p0 f last left : Nat} (h : left ≠ 0) : wk E p0 (f + 1) last left = scW (wkG E p0 f last left) 7 0 := by
  rw [wk, if_neg h]
  rfl
theorem wk_e {E : Nat → Nat → Prop} {p0 f last left : Nat} (h : left = 0 ∨ f = 0) : (left = 0 ∧ E last p0 → wk E p0 f last left = some []) ∧ (¬ (left = 0 ∧ E last p0) → wk E p0 f last left = none) := by
  cases f with
  | zero =>
    unfold wk
    exact ⟨fun q => if_pos q, fun q => if_neg q⟩
  | succ f =>
    have h0 : left = 0 := h.resolve_right (by omega)
    unfold wk
    rw [if_pos h0]
    exact ⟨fun q => if_pos q.2, fun q => if_neg (fun z => q ⟨h0, z⟩)⟩
theorem nk_0_0 : zNk 0 0 = none := rfl
theorem nk_0_3 : zNk 0 3 = none := rfl
def y_Cl_walk : zMt := (⟨"DebtDoors$Clearing", "walk", "(II)Z"⟩, prog_2_method_4_code, 5, some .boolean)
theorem m_Cl_walk : Cond.instanceMethod y_Cl_walk.1 ∈ zTb ∧ Cond.selects y_Cl_walk.1.cls y_Cl_walk.1 y_Cl_walk.1 ∈ zTb ∧ Cond.initialized y_Cl_walk.1.cls ∈ zTb ∧ Cond.code y_Cl_walk.1 y_Cl_walk.2.1 y_Cl_walk.2.2.1 y_Cl_walk.2.2.2 ∈ zTb ∧ (y_Cl_walk.1.cls ≠ "java/lang/invoke/MethodHandle" ∧ y_Cl_walk.1.cls ≠ "java/lang/invoke/VarHandle" ∧ (parseMethodDescriptor y_Cl_walk.1.desc).map (fun d => d.parameters.length) = some 2) ∧ y_Cl_walk.2.2.1 ≤ 20 :=
  ⟨(zTb_in 1056 (by decide +kernel) (by decide +kernel)), (List.mem_filter.mpr ⟨List.mem_append_left _ (by decide +kernel), by decide +kernel⟩), (zTb_in 149 (by decide +kernel) (by decide +kernel)), (zTb_in 1057 (by decide +kernel) (by decide +kernel)), by decide +kernel, by decide +kernel⟩
theorem lv_Cl_61 : zLv "DebtDoors$Clearing" 61 y_Cl_walk 2 0 := ⟨⟨(zTb_in 1054 (by decide +kernel) (by decide +kernel)), m_Cl_walk.1, m_Cl_walk.2.1, m_Cl_walk.2.2⟩, _, rfl, rfl⟩
theorem d_Cl_walk_0 : decode prog_2_method_4_code 0 = .ok (.aload_n 0, 1) := by decide +kernel
theorem d_Cl_walk_1 : decode prog_2_method_4_code 1 = .ok (.getfield 9, 3) := by decide +kernel
theorem d_Cl_walk_4 : decode prog_2_method_4_code 4 = .ok (.aload_n 0, 1) := by decide +kernel
theorem d_Cl_walk_5 : decode prog_2_method_4_code 5 = .ok (.getfield 21, 3) := by decide +kernel
theorem d_Cl_walk_8 : decode prog_2_method_4_code 8 = .ok (.iload_n 2, 1) := by decide +kernel
theorem d_Cl_walk_9 : decode prog_2_method_4_code 9 = .ok (.iconst 1, 1) := by decide +kernel
theorem d_Cl_walk_10 : decode prog_2_method_4_code 10 = .ok (.isub, 1) := by decide +kernel
theorem d_Cl_walk_11 : decode prog_2_method_4_code 11 = .ok (.iaload, 1) := by decide +kernel
theorem d_Cl_walk_12 : decode prog_2_method_4_code 12 = .ok (.iaload, 1) := by decide +kernel
theorem d_Cl_walk_13 : decode prog_2_method_4_code 13 = .ok (.istore_n 3, 1) := by decide +kernel
theorem d_Cl_walk_14 : decode prog_2_method_4_code 14 = .ok (.iload_n 1, 1) := by decide +kernel
theorem d_Cl_walk_15 : decode prog_2_method_4_code 15 = .ok (.ifCond .eq 9, 3) := by decide +kernel
theorem d_Cl_walk_18 : decode prog_2_method_4_code 18 = .ok (.iload_n 2, 1) := by decide +kernel
theorem d_Cl_walk_19 : decode prog_2_method_4_code 19 = .ok (.bipush 7, 2) := by decide +kernel
theorem d_Cl_walk_21 : decode prog_2_method_4_code 21 = .ok (.if_icmp .lt 26, 3) := by decide +kernel
theorem d_Cl_walk_24 : decode prog_2_method_4_code 24 = .ok (.iload_n 1, 1) := by decide +kernel
theorem d_Cl_walk_25 : decode prog_2_method_4_code 25 = .ok (.ifCond .ne 20, 3) := by decide +kernel
theorem d_Cl_walk_28 : decode prog_2_method_4_code 28 = .ok (.iload_n 3, 1) := by decide +kernel
theorem d_Cl_walk_29 : decode prog_2_method_4_code 29 = .ok (.aload_n 0, 1) := by decide +kernel
theorem d_Cl_walk_30 : decode prog_2_method_4_code 30 = .ok (.getfield 21, 3) := by decide +kernel
theorem d_Cl_walk_33 : decode prog_2_method_4_code 33 = .ok (.iconst 0, 1) := by decide +kernel
theorem d_Cl_walk_34 : decode prog_2_method_4_code 34 = .ok (.iaload, 1) := by decide +kernel
theorem d_Cl_walk_35 : decode prog_2_method_4_code 35 = .ok (.ishr, 1) := by decide +kernel
theorem d_Cl_walk_36 : decode prog_2_method_4_code 36 = .ok (.iconst 1, 1) := by decide +kernel
theorem d_Cl_walk_37 : decode prog_2_method_4_code 37 = .ok (.iand, 1) := by decide +kernel
theorem d_Cl_walk_38 : decode prog_2_method_4_code 38 = .ok (.ifCond .eq 7, 3) := by decide +kernel
theorem d_Cl_walk_41 : decode prog_2_method_4_code 41 = .ok (.iconst 1, 1) := by decide +kernel
theorem d_Cl_walk_42 : decode prog_2_method_4_code 42 = .ok (.goto 4, 3) := by decide +kernel
theorem d_Cl_walk_45 : decode prog_2_method_4_code 45 = .ok (.iconst 0, 1) := by decide +kernel
theorem d_Cl_walk_46 : decode prog_2_method_4_code 46 = .ok (.ireturn, 1) := by decide +kernel
theorem d_Cl_walk_47 : decode prog_2_method_4_code 47 = .ok (.iconst 0, 1) := by decide +kernel
theorem d_Cl_walk_48 : decode prog_2_method_4_code 48 = .ok (.istore 4, 2) := by decide +kernel
theorem d_Cl_walk_50 : decode prog_2_method_4_code 50 = .ok (.iload 4, 2) := by decide +kernel
theorem d_Cl_walk_52 : decode prog_2_method_4_code 52 = .ok (.bipush 7, 2) := by decide +kernel
theorem d_Cl_walk_54 : decode prog_2_method_4_code 54 = .ok (.if_icmp .ge 59, 3) := by decide +kernel
theorem d_Cl_walk_57 : decode prog_2_method_4_code 57 = .ok (.iload_n 1, 1) := by decide +kernel
theorem d_Cl_walk_58 : decode prog_2_method_4_code 58 = .ok (.iload_n 3, 1) := by decide +kernel
theorem d_Cl_walk_59 : decode prog_2_method_4_code 59 = .ok (.iand, 1) := by decide +kernel
theorem d_Cl_walk_60 : decode prog_2_method_4_code 60 = .ok (.iload 4, 2) := by decide +kernel
theorem d_Cl_walk_62 : decode prog_2_method_4_code 62 = .ok (.ishr, 1) := by decide +kernel
theorem d_Cl_walk_63 : decode prog_2_method_4_code 63 = .ok (.ifCond .ne 5, 3) := by decide +kernel
theorem d_Cl_walk_66 : decode prog_2_method_4_code 66 = .ok (.iconst 0, 1) := by decide +kernel
theorem d_Cl_walk_67 : decode prog_2_method_4_code 67 = .ok (.ireturn, 1) := by decide +kernel
theorem d_Cl_walk_68 : decode prog_2_method_4_code 68 = .ok (.iload_n 1, 1) := by decide +kernel
theorem d_Cl_walk_69 : decode prog_2_method_4_code 69 = .ok (.iload_n 3, 1) := by decide +kernel
theorem d_Cl_walk_70 : decode prog_2_method_4_code 70 = .ok (.iand, 1) := by decide +kernel
theorem d_Cl_walk_71 : decode prog_2_method_4_code 71 = .ok (.iload 4, 2) := by decide +kernel
theorem d_Cl_walk_73 : decode prog_2_method_4_code 73 = .ok (.ishr, 1) := by decide +kernel
theorem d_Cl_walk_74 : decode prog_2_method_4_code 74 = .ok (.iconst 1, 1) := by decide +kernel
theorem d_Cl_walk_75 : decode prog_2_method_4_code 75 = .ok (.iand, 1) := by decide +kernel
theorem d_Cl_walk_76 : decode prog_2_method_4_code 76 = .ok (.ifCond .eq 31, 3) := by decide +kernel
theorem d_Cl_walk_79 : decode prog_2_method_4_code 79 = .ok (.aload_n 0, 1) := by decide +kernel
theorem d_Cl_walk_80 : decode prog_2_method_4_code 80 = .ok (.getfield 21, 3) := by decide +kernel
theorem d_Cl_walk_83 : decode prog_2_method_4_code 83 = .ok (.iload_n 2, 1) := by decide +kernel
theorem d_Cl_walk_84 : decode prog_2_method_4_code 84 = .ok (.iload 4, 2) := by decide +kernel
theorem d_Cl_walk_86 : decode prog_2_method_4_code 86 = .ok (.iastore, 1) := by decide +kernel
theorem d_Cl_walk_87 : decode prog_2_method_4_code 87 = .ok (.aload_n 0, 1) := by decide +kernel
theorem d_Cl_walk_88 : decode prog_2_method_4_code 88 = .ok (.iload_n 1, 1) := by decide +kernel
theorem d_Cl_walk_89 : decode prog_2_method_4_code 89 = .ok (.iconst 1, 1) := by decide +kernel
theorem d_Cl_walk_90 : decode prog_2_method_4_code 90 = .ok (.iload 4, 2) := by decide +kernel
theorem d_Cl_walk_92 : decode prog_2_method_4_code 92 = .ok (.ishl, 1) := by decide +kernel
theorem d_Cl_walk_93 : decode prog_2_method_4_code 93 = .ok (.iconst (-1), 1) := by decide +kernel
theorem d_Cl_walk_94 : decode prog_2_method_4_code 94 = .ok (.ixor, 1) := by decide +kernel
theorem d_Cl_walk_95 : decode prog_2_method_4_code 95 = .ok (.iand, 1) := by decide +kernel
theorem d_Cl_walk_96 : decode prog_2_method_4_code 96 = .ok (.iload_n 2, 1) := by decide +kernel
theorem d_Cl_walk_97 : decode prog_2_method_4_code 97 = .ok (.iconst 1, 1) := by decide +kernel
theorem d_Cl_walk_98 : decode prog_2_method_4_code 98 = .ok (.iadd, 1) := by decide +kernel
theorem d_Cl_walk_99 : decode prog_2_method_4_code 99 = .ok (.invokevirtual 61, 3) := by decide +kernel
theorem d_Cl_walk_102 : decode prog_2_method_4_code 102 = .ok (.ifCond .eq 5, 3) := by decide +kernel
theorem d_Cl_walk_105 : decode prog_2_method_4_code 105 = .ok (.iconst 1, 1) := by decide +kernel
theorem d_Cl_walk_106 : decode prog_2_method_4_code 106 = .ok (.ireturn, 1) := by decide +kernel
theorem d_Cl_walk_107 : decode prog_2_method_4_code 107 = .ok (.iinc 4 1, 3) := by decide +kernel
theorem d_Cl_walk_110 : decode prog_2_method_4_code 110 = .ok (.goto (-60), 3) := by decide +kernel
theorem d_Cl_walk_113 : decode prog_2_method_4_code 113 = .ok (.iconst 0, 1) := by decide +kernel
theorem d_Cl_walk_114 : decode prog_2_method_4_code 114 = .ok (.ireturn, 1) := by decide +kernel
def w_Cl_walk {d : Nat} (hd : 1 ≤ d) := (show SS ("DebtDoors$Clearing", prog_2_method_4_code, 5) (some .boolean) d 0 0 0 0 _ from (sS (p1 := 14) (sIn 3 (xE (rIa (rFr fl_Cl_9 nk_0_0 (rAn 0 d_Cl_walk_0 rfl) d_Cl_walk_1) (rIa (rFr fl_Cl_21 nk_0_3 (rAn 0 d_Cl_walk_4 rfl) d_Cl_walk_5) (r2 o_sub (rIn 2 d_Cl_walk_8 rfl) (rI d_Cl_walk_9 rfl) d_Cl_walk_10) d_Cl_walk_11) d_Cl_walk_12)) d_Cl_walk_13 rfl (by decide)) (sS (p1 := 47) (sIf (pn := 47) (tt := 24) (xC (rOr (mm := 18) (rJ1 (tgt := 24) k_eq (rIn 1 d_Cl_walk_14 rfl) d_Cl_walk_15 (by decide)) (rNot (rJ2 (tgt := 47) j_lt (rIn 2 d_Cl_walk_18 rfl) (rB d_Cl_walk_19 rfl) d_Cl_walk_21 (by decide))))) (sRz (xE (rTb (rAnd (mm := 28) (rNot (rJ1 (tgt := 45) k_ne (rIn 1 d_Cl_walk_24 rfl) d_Cl_walk_25 (by decide))) (rNot (rJ1 (tgt := 45) k_eq (r2 o_and (r2 o_shr (rIn 3 d_Cl_walk_28 rfl) (rIa (rFr fl_Cl_21 nk_0_3 (rAn 0 d_Cl_walk_29 rfl) d_Cl_walk_30) (rI d_Cl_walk_33 rfl) d_Cl_walk_34) d_Cl_walk_35) (rI d_Cl_walk_36 rfl) d_Cl_walk_37) d_Cl_walk_38 (by decide)))) (rGoE (p2 := 46) (rI d_Cl_walk_41 rfl) d_Cl_walk_42 (by decide)) (rI d_Cl_walk_45 rfl))) d_Cl_walk_46 rfl)) (sS (p1 := 113) (sS (p1 := 50) (sI (xE (rI d_Cl_walk_47 rfl)) d_Cl_walk_48 (by decide)) (sLp (ps := 107) (tt := 57) (pn := 113) (p1 := 0) (p2 := 0) (xC (rNot (rJ2 (tgt := 113) j_ge (rIl d_Cl_walk_50) (rB d_Cl_walk_52 rfl) d_Cl_walk_54 (by decide)))) (sS (p1 := 68) (sIf (pn := 68) (tt := 66) (xC (rNot (rJ1 (tgt := 68) k_ne (r2 o_shr (r2 o_and (rIn 1 d_Cl_walk_57 rfl) (rIn 3 d_Cl_walk_58 rfl) d_Cl_walk_59) (rIl d_Cl_walk_60) d_Cl_walk_62) d_Cl_walk_63 (by decide)))) (sRz (xE (rI d_Cl_walk_66 rfl)) d_Cl_walk_67 rfl)) (sIf (pn := 107) (tt := 79) (xC (rNot (rJ1 (tgt := 107) k_eq (r2 o_and (r2 o_shr (r2 o_and (rIn 1 d_Cl_walk_68 rfl) (rIn 3 d_Cl_walk_69 rfl) d_Cl_walk_70) (rIl d_Cl_walk_71) d_Cl_walk_73) (rI d_Cl_walk_74 rfl) d_Cl_walk_75) d_Cl_walk_76 (by decide)))) (sS (p1 := 87) (sAs (rFr fl_Cl_21 nk_0_3 (rAn 0 d_Cl_walk_79 rfl) d_Cl_walk_80) (rIn 2 d_Cl_walk_83 rfl) (xE (rIl d_Cl_walk_84)) d_Cl_walk_86) (sIf (pn := 107) (tt := 105) (xNot (xJ1 (tgt := 107) k_eq (xV lv_Cl_61 (xA (rAi (rAi (rAr rA0 (rAn 0 d_Cl_walk_87 rfl)) (r2 o_and (rIn 1 d_Cl_walk_88 rfl) (r2 o_xor (r2 o_shl (rI d_Cl_walk_89 rfl) (rIl d_Cl_walk_90) d_Cl_walk_92) (rI d_Cl_walk_93 rfl) d_Cl_walk_94) d_Cl_walk_95)) (r2 o_add (rIn 2 d_Cl_walk_96 rfl) (rI d_Cl_walk_97 rfl) d_Cl_walk_98))) (by decide) d_Cl_walk_99) d_Cl_walk_102 (by decide))) (sRz (xE (rI d_Cl_walk_105 rfl)) d_Cl_walk_106 rfl))))) (sGo (pn := 50) (sInc d_Cl_walk_107 (by decide)) d_Cl_walk_110 (by decide)))) (sRz (xE (rI d_Cl_walk_113 rfl)) d_Cl_walk_114 rfl)))))
theorem q_Cl_walk {E : Nat → Nat → Prop} : ∀ (f : Nat), ∀ {d : Nat} (hd : 3 + f ≤ d) {μ : zMem} {p0 last left place : Nat}, owC E μ → place + f = 7 → 1 ≤ place → left < 128 → p0 < 7 → last < 7 → μ 350 0 = (p0 : Int) → μ 350 ((place : Int) - 1) = (last : Int) → zSp d 0 0 y_Cl_walk zT0 [vr 346, vi left, vi place] μ zT0 (fun q μ' => zfc [350] μ μ' ∧ (∀ i : Int, i < place → μ' 350 i = μ 350 i) ∧ (wk E p0 f last left = none → q = some (vi 0)) ∧ (∀ r, wk E p0 f last left = some r → q = some (vi 1) ∧ ∀ i : Nat, i < r.length → μ' 350 ((place : Int) + i) = ((r.getD i 0 : Nat) : Int)))
  | 0, d, hd, μ, p0, last, left, place, hE, h1, h2, h3, h4, h5, h6, h7 => by
    refine zSp.ss [vr 346, vi left, vi place, vx 0, vx 0] rfl (w_Cl_walk (Nat.le_trans (by decide) hd)) rfl rfl ?_
    (try simp only [zit_e, Bool.and_eq_true, Bool.or_eq_true, Bool.not_eq_true', Bool.and_eq_false_iff, Bool.or_eq_false_iff, Bool.not_eq_false', zbe, zdt, zdf, zb2_p, zbp_0, zbp_1, zbp_inj, zbp_01, Bool.true_eq_false, Bool.false_eq_true, true_and, and_true, Decidable.not_not, Classical.not_not, implies_true, List.nil_append, List.cons_append, List.append_assoc, Option.some.injEq, Sum.inl.injEq, zSw_c, zSw_n]); (try simp only [zit_e, Bool.and_eq_true, Bool.or_eq_true, Bool.not_eq_true', Bool.and_eq_false_iff, Bool.or_eq_false_iff, Bool.not_eq_false', zbe, zdt, zdf, zb2_p, zbp_0, zbp_1, zbp_inj, zbp_01, Bool.true_eq_false, Bool.false_eq_true, true_and, and_true, Decidable.not_not, Classical.not_not, implies_true, List.nil_append, List.cons_append, List.append_assoc, Option.some.injEq, Sum.inl.injEq, zSw_c, zSw_n, zc_346]); (try simp only [zi_cs, zi_c0, zii_cs, zii_c0, zl_cs, zl_c0, zll_cs, zll_c0, zr_cs, zr_c0, zrr_cs, zrr_c0, zxs_cs, zxs_c0, zxx_cs, zxx_c0, zfree_c0, zfree_c1, zfree_cs, zfree_cz, zlong_i, zlong_r, zlong_x, zset_0, zset_s, true_and, and_true, Option.some.injEq, Sum.inl.injEq, Sum.inr.injEq, zb2_p, zbp_0, zbp_1, zbp_inj, zbp_01, Nat.zero_add, Nat.reduceAdd, implies_true, List.nil_append, List.cons_append, List.append_assoc, Int.not_lt, Int.not_le, Decidable.not_not, Int.zero_add, Int.reduceLE, Int.reduceLT, Int.reduceEq, Int.reduceNe, Int.reduceAdd, Int.reduceSub, Int.reduceMul, Int.reduceNeg, Int.reduceToNat, Nat.reduceMul, Nat.reduceLT, Nat.reduceEqDiff, and_self, ite_true, ite_false, zx1, zx2, zRecv, List.length_cons, List.length_nil, ne_eq, not_true_eq_false, not_false_eq_true, true_or, or_true, or_false, false_or, and_false, false_and, zf01, zf10, reduceCtorEq, zSw_c, zSw_n, zm_r, zit_T, zit_F, false_implies, true_implies, zc_346])
    have hw := wk_e (E := E) (p0 := p0) (f := 0) (last := last) (left := left)
    obtain ⟨m, m1, m2, m3⟩ := hE last h5
    rw [h7, h6, m1, zbit_e (by omega) (by omega) (by omega) (by omega)]
    have hcl : (¬ zbp (zbit (m : Int) (p0 : Int)) = 0) ↔ E last p0 := by
      rw [zbp_0, zbit_n, m3]
      exact Classical.not_not
    have hl0 : ((left : Int) = 0 ∧ ¬ zbp (zbit (m : Int) (p0 : Int)) = 0) ↔ (left = 0 ∧ E last p0) := by
      rw [hcl]
      exact ⟨fun q => ⟨by omega, q.2⟩, fun q => ⟨by omega, q.2⟩⟩
    rw [hl0]
    refine ⟨⟨⟨zI_s (by omega) (by omega), by omega, by omega⟩, by omega, by omega⟩, ?_⟩
    refine zif (fun c => ?_) (fun c => absurd (Or.inr (by omega)) c)
    refine ⟨(Classical.em _).symm, zfc.rf, fun q z => ?_, fun r q => ?_⟩
    · rw [(hw (Or.inr rfl)).1 z] at q
      cases q
    · by_cases z : left = 0 ∧ E last p0
      · rw [(hw (Or.inr rfl)).1 z] at q
        cases q
        exact ⟨z, fun i hi => absurd hi (Nat.not_lt_zero i)⟩
      · rw [(hw (Or.inr rfl)).2 z] at q
        cases q
  | f + 1, d, hd, μ, p0, last, left, place, hE, h1, h2, h3, h4, h5, h6, h7 => by
    refine zSp.ss [vr 346, vi left, vi place, vx 0, vx 0] rfl (w_Cl_walk (Nat.le_trans (by omega) hd)) rfl rfl ?_
    (try simp only [zit_e, Bool.and_eq_true, Bool.or_eq_true, Bool.not_eq_true', Bool.and_eq_false_iff, Bool.or_eq_false_iff, Bool.not_eq_false', zbe, zdt, zdf, zb2_p, zbp_0, zbp_1, zbp_inj, zbp_01, Bool.true_eq_false, Bool.false_eq_true, true_and, and_true, Decidable.not_not, Classical.not_not, implies_true, List.nil_append, List.cons_append, List.append_assoc, Option.some.injEq, Sum.inl.injEq, zSw_c, zSw_n]); (try simp only [zit_e, Bool.and_eq_true, Bool.or_eq_true, Bool.not_eq_true', Bool.and_eq_false_iff, Bool.or_eq_false_iff, Bool.not_eq_false', zbe, zdt, zdf, zb2_p, zbp_0, zbp_1, zbp_inj, zbp_01, Bool.true_eq_false, Bool.false_eq_true, true_and, and_true, Decidable.not_not, Classical.not_not, implies_true, List.nil_append, List.cons_append, List.append_assoc, Option.some.injEq, Sum.inl.injEq, zSw_c, zSw_n, zc_346]); (try simp only [zi_cs, zi_c0, zii_cs, zii_c0, zl_cs, zl_c0, zll_cs, zll_c0, zr_cs, zr_c0, zrr_cs, zrr_c0, zxs_cs, zxs_c0, zxx_cs, zxx_c0, zfree_c0, zfree_c1, zfree_cs, zfree_cz, zlong_i, zlong_r, zlong_x, zset_0, zset_s, true_and, and_true, Option.some.injEq, Sum.inl.injEq, Sum.inr.injEq, zb2_p, zbp_0, zbp_1, zbp_inj, zbp_01, Nat.zero_add, Nat.reduceAdd, implies_true, List.nil_append, List.cons_append, List.append_assoc, Int.not_lt, Int.not_le, Decidable.not_not, Int.zero_add, Int.reduceLE, Int.reduceLT, Int.reduceEq, Int.reduceNe, Int.reduceAdd, Int.reduceSub, Int.reduceMul, Int.reduceNeg, Int.reduceToNat, Nat.reduceMul, Nat.reduceLT, Nat.reduceEqDiff, and_self, ite_true, ite_false, zx1, zx2, zRecv, List.length_cons, List.length_nil, ne_eq, not_true_eq_false, not_false_eq_true, true_or, or_true, or_false, false_or, and_false, false_and, zf01, zf10, reduceCtorEq, zSw_c, zSw_n, zm_r, zit_T, zit_F, false_implies, true_implies, zc_346])
    have hw := wk_e (E := E) (p0 := p0) (f := f + 1) (last := last) (left := left)
    obtain ⟨m, m1, m2, m3⟩ := hE last h5
    rw [h7, h6, m1, zbit_e (by omega) (by omega) (by omega) (by omega)]
    have hcl : (¬ zbp (zbit (m : Int) (p0 : Int)) = 0) ↔ E last p0 := by
      rw [zbp_0, zbit_n, m3]
      exact Classical.not_not
    have hl0 : ((left : Int) = 0 ∧ ¬ zbp (zbit (m : Int) (p0 : Int)) = 0) ↔ (left = 0 ∧ E last p0) := by
      rw [hcl]
      exact ⟨fun q => ⟨by omega, q.2⟩, fun q => ⟨by omega, q.2⟩⟩
    rw [hl0]
    refine ⟨⟨⟨zI_s (by omega) (by omega), by omega, by omega⟩, by omega, by omega⟩, ?_⟩
    refine zif (fun c => ?_) (fun c => ?_)
    · refine ⟨(Classical.em _).symm, zfc.rf, fun q z => ?_, fun r q => ?_⟩
      · rw [(hw (Or.inl (by omega))).1 z] at q
        cases q
      · by_cases z : left = 0 ∧ E last p0
        · rw [(hw (Or.inl (by omega))).1 z] at q
          cases q
          exact ⟨z, fun i hi => absurd hi (Nat.not_lt_zero i)⟩
        · rw [(hw (Or.inl (by omega))).2 z] at q
          cases q
    · have hl : left ≠ 0 := fun q => c (Or.inl (by omega))
      rw [wk_s hl]
      have hg : ∀ i, wkG E p0 f last left i = @ite (Option (List Nat)) (left.testBit i = true ∧ E last i) (Classical.propDecidable _) ((wk E p0 f i (left - 2 ^ i)).map (fun r => i :: r)) none := fun i => rfl
      generalize wkG E p0 f last left = g at *
      have hand := fun p => zand_tb (a := left) (b := m) h3 m2 p
      refine zLoop.up 7 (fun p ρ μ1 => ρ = [vr 346, vi left, vi place, vi m, vi p] ∧ zfc [350] μ μ1 ∧ (∀ i : Int, i < place → μ1 350 i = μ 350 i) ∧ scW g 7 0 = scW g (7 - p) p) ⟨rfl, zfc.rf, fun _ _ => rfl, rfl⟩ ?_
      rintro p ρ μ1 hp ⟨rfl, hF, hpre, hsc⟩
      (try simp only [zit_e, Bool.and_eq_true, Bool.or_eq_true, Bool.not_eq_true', Bool.and_eq_false_iff, Bool.or_eq_false_iff, Bool.not_eq_false', zbe, zdt, zdf, zb2_p, zbp_0, zbp_1, zbp_inj, zbp_01, Bool.true_eq_false, Bool.false_eq_true, true_and, and_true, Decidable.not_not, Classical.not_not, implies_true, List.nil_append, List.cons_append, List.append_assoc, Option.some.injEq, Sum.inl.injEq, zSw_c, zSw_n]); (try simp only [zit_e, Bool.and_eq_true, Bool.or_eq_true, Bool.not_eq_true', Bool.and_eq_false_iff, Bool.or_eq_false_iff, Bool.not_eq_false', zbe, zdt, zdf, zb2_p, zbp_0, zbp_1, zbp_inj, zbp_01, Bool.true_eq_false, Bool.false_eq_true, true_and, and_true, Decidable.not_not, Classical.not_not, implies_true, List.nil_append, List.cons_append, List.append_assoc, Option.some.injEq, Sum.inl.injEq, zSw_c, zSw_n, zc_346]); (try simp only [zi_cs, zi_c0, zii_cs, zii_c0, zl_cs, zl_c0, zll_cs, zll_c0, zr_cs, zr_c0, zrr_cs, zrr_c0, zxs_cs, zxs_c0, zxx_cs, zxx_c0, zfree_c0, zfree_c1, zfree_cs, zfree_cz, zlong_i, zlong_r, zlong_x, zset_0, zset_s, true_and, and_true, Option.some.injEq, Sum.inl.injEq, Sum.inr.injEq, zb2_p, zbp_0, zbp_1, zbp_inj, zbp_01, Nat.zero_add, Nat.reduceAdd, implies_true, List.nil_append, List.cons_append, List.append_assoc, Int.not_lt, Int.not_le, Decidable.not_not, Int.zero_add, Int.reduceLE, Int.reduceLT, Int.reduceEq, Int.reduceNe, Int.reduceAdd, Int.reduceSub, Int.reduceMul, Int.reduceNeg, Int.reduceToNat, Nat.reduceMul, Nat.reduceLT, Nat.reduceEqDiff, and_self, ite_true, ite_false, zx1, zx2, zRecv, List.length_cons, List.length_nil, ne_eq, not_true_eq_false, not_false_eq_true, true_or, or_true, or_false, false_or, and_false, false_and, zf01, zf10, reduceCtorEq, zSw_c, zSw_n, zm_r, zit_T, zit_F, false_implies, true_implies, zc_346])
      refine zif (fun c1 => ?_) (fun c1 => ?_)
      · rw [(hand p).1]
        have hsh : zshr ((left &&& m : Nat) : Int) (p : Int) = (((left &&& m) >>> p : Nat) : Int) := zshr_n (by have := (hand p).2.1; omega) (by omega)
        rw [hsh]
        refine zif (fun c2 => ?_) (fun c2 => ?_)
        · have hno : scW g 7 0 = none := by
            rw [hsc]
            refine scW_n _ _ (fun i hi => ?_)
            rw [hg i, if_neg]
            rintro ⟨q1, q2⟩
            have q3 := ((hand i).2.2).mpr ⟨q1, (m3 i).mpr q2⟩
            have q4 : (left &&& m) >>> p = 0 := by omega
            have q5 : ((left &&& m) >>> p).testBit (i - p) = (left &&& m).testBit i := by rw [Nat.testBit_shiftRight, show p + (i - p) = i by omega]
            rw [q4, Nat.zero_testBit, q3] at q5
            cases q5
          exact ⟨hF, hpre, fun r q => by rw [hno] at q; cases q⟩
        · have hb1 : zand (((left &&& m) >>> p : Nat) : Int) 1 = zbp (zbit ((left &&& m : Nat) : Int) (p : Int)) := by
            rw [← hsh]
            have := (hand p).2.1
            exact zbit_e (by omega) (by omega) (by omega) (by omega)
          have hb2 : zbit ((left &&& m : Nat) : Int) (p : Int) ↔ (left.testBit p = true ∧ E last p) := by
            rw [zbit_n, (hand p).2.2, m3]
          rw [hb1]
          have hst := scW_s (g := g) (p := p) (by omega)
          refine zif (fun c3 => ?_) (fun c3 => ?_)
          all_goals rw [zbp_0, hb2] at c3
          · have c3 := Classical.not_not.mp c3
            have hsub := sub_tb (c := left) (p := p) (by omega) (by omega) c3.1
            have hgp := hg p
            rw [if_pos c3] at hgp
            have hzl : zand (left : Int) (zxor (zshl 1 (p : Int)) (-1)) = ((left - 2 ^ p : Nat) : Int) := by
              rw [zandn (by omega) (by omega) (by omega) (by omega) (zbit_n.mpr c3.1), Int.toNat_natCast]
              omega
            have hlt : left - 2 ^ p < 128 := Nat.lt_of_le_of_lt (Nat.sub_le _ _) h3
            have hE1 : owC E (zm μ1 350 (place : Int) (p : Int)) := fun a ha => by
              rw [zm_off _ (by decide), hF 347 (by decide)]
              exact hE a ha
            have hind := q_Cl_walk (E := E) f (d := 3 + f) (Nat.le_refl _) (μ := zm μ1 350 (place : Int) (p : Int)) (p0 := p0) (last := p) (left := left - 2 ^ p) (place := place + 1) hE1 (by omega) (by omega) hlt h4 (by omega) (by rw [zm_o (by omega), hpre 0 (by omega)]; exact h6) (by rw [show ((place + 1 : Nat) : Int) - 1 = (place : Int) by omega, zm_s])
            rw [hzl]
            refine ⟨by omega, by omega, zI_s (by omega) (by omega), ?_⟩
            refine zCw.use hind (by omega) (fun q μ2 e => ?_)
            obtain ⟨f1, f2, f3, f4⟩ := e
            have hF2 : zfc [350] μ μ2 := ((hF.zm (by decide)).tr f1).mo (by simp)
            have hpre2 : ∀ i : Int, i < place → μ2 350 i = μ 350 i := fun i hi => by
              rw [f2 i (by omega), zm_o (by omega)]
              exact hpre i hi
            rcases hwk : wk E p0 f p (left - 2 ^ p) with _ | r0
            · have := f3 hwk
              subst this
              rw [hwk] at hgp
              refine ⟨_, rfl, ?_⟩
              rw [if_neg (fun q => q rfl)]
              exact ⟨zI_s (by omega) (by omega), 7 - (p + 1), by omega, p + 1, rfl, by omega, rfl, hF2, hpre2, hsc.trans (hst.2 hgp)⟩
            · obtain ⟨rfl, f5⟩ := f4 r0 hwk
              rw [hwk] at hgp
              have hgp : g p = some (p :: r0) := hgp
              have hfin := hsc.trans (hst.1 _ hgp)
              refine ⟨_, rfl, ?_⟩
              rw [if_pos (by decide)]
              refine ⟨hF2, hpre2, fun q => (by rw [hfin] at q; cases q), fun r q => ?_⟩
              rw [hfin] at q
              cases q
              intro i hi
              cases i with
              | zero =>
                rw [Int.natCast_zero, Int.add_zero, f2 _ (by omega), zm_s]
                rfl
              | succ i =>
                rw [List.length_cons] at hi
                have := f5 i (by omega)
                rw [show (place : Int) + ((i + 1 : Nat) : Int) = ((place + 1 : Nat) : Int) + i by omega, this]
                rfl
          · have hgp := hg p
            rw [if_neg (fun q => c3 (fun z => z q))] at hgp
            exact ⟨zI_s (by omega) (by omega), 7 - (p + 1), by omega, p + 1, rfl, by omega, rfl, hF, hpre, hsc.trans (hst.2 hgp)⟩
      · have ep : p = 7 := by omega
        subst ep
        have hno : scW g 7 0 = none := hsc
        exact ⟨hF, hpre, fun r q => by rw [hno] at q; cases q⟩

