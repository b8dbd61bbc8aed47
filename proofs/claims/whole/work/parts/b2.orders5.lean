/-! orders: the reference goes along a clause -/
def FG (μ μ' : zMem) : Prop := zfc [355, 368, 383] μ μ' ∧ ∀ j : Int, j ≠ 20 → j ≠ 21 → j ≠ 22 → j ≠ 23 → j ≠ 51 → j ≠ 52 → j ≠ 53 → j ≠ 54 → μ' 355 j = μ 355 j
theorem FG.rf {μ : zMem} : FG μ μ := ⟨zfc.rf, fun _ _ _ _ _ _ _ _ _ => rfl⟩
theorem FG.tr {a b c : zMem} (h1 : FG a b) (h2 : FG b c) : FG a c := ⟨(h1.1.tr h2.1).mo (by simp), fun j p1 p2 p3 p4 p5 p6 p7 p8 => (h2.2 j p1 p2 p3 p4 p5 p6 p7 p8).trans (h1.2 j p1 p2 p3 p4 p5 p6 p7 p8)⟩
theorem FE.fg {a b : zMem} (h : FE a b) : FG a b := ⟨h.1.mo (by simp), fun j p1 _ p3 _ _ _ _ _ => h.2 j p1 p3⟩
theorem p3S_q {Q : zTk} (hQ : okK Q) {t l w t1 l1 a2 a3 : Nat} {m1 m2 m3 : Mn} {cd : List Int} (e : p3S Q.1 Q.2.1 t l w = (t1, some (l1, (a2, a3), (m1, m2, m3), cd))) (hl : l ≤ 50) (ht : t ≤ Q.2.2.2) : (l1 ≤ 50 ∧ t1 ≤ Q.2.2.2 ∧ t ≤ t1) ∧ ∃ (g L w1 : Nat → Nat) (M : Nat → Mn), (g 0 = t ∧ g 3 = t1) ∧ (M 0 = m1 ∧ M 1 = m2 ∧ M 2 = m3) ∧ ∀ j : Nat, j < 3 → (L j ≤ 50 ∧ g j + (if 0 < j then 1 else 0) ≤ Q.2.2.2) ∧ ∃ (l' : Nat) (c' : List Int), lvS true Q.1 Q.2.1 8 (g j + (if 0 < j then 1 else 0)) (L j) (w1 j) = (g (j + 1), some (l', M j, c')) := by
  unfold p3S at e
  rcases f1 : lvS true Q.1 Q.2.1 8 t l w with ⟨u1, _ | ⟨k1, n1, d1⟩⟩
  · rw [f1] at e
    cases e
  rw [f1] at e
  simp only at e
  have p1 := (PG_S (o := true) (v := Q.2.1) hQ.2.1 8 t l w hl ht).2 _ _ _ _ f1
  split at e
  next c1 =>
    have h1 := zNlt (c := Q.1) hQ.2.1 (show Q.1 u1 ≠ 0 by rw [c1]; decide)
    rcases f2 : lvS true Q.1 Q.2.1 8 (u1 + 1) k1 (w + d1.length) with ⟨u2, _ | ⟨k2, n2, d2⟩⟩
    · rw [f2] at e
      cases e
    rw [f2] at e
    simp only at e
    have p2 := (PG_S (o := true) (v := Q.2.1) hQ.2.1 8 (u1 + 1) k1 (w + d1.length) p1.2.2.2.1 h1).2 _ _ _ _ f2
    split at e
    next c2 =>
      have h2 := zNlt (c := Q.1) hQ.2.1 (show Q.1 u2 ≠ 0 by rw [c2]; decide)
      rcases f3 : lvS true Q.1 Q.2.1 8 (u2 + 1) k2 (w + d1.length + d2.length) with ⟨u3, _ | ⟨k3, n3, d3⟩⟩
      · rw [f3] at e
        cases e
      rw [f3] at e
      have p3 := (PG_S (o := true) (v := Q.2.1) hQ.2.1 8 (u2 + 1) k2 (w + d1.length + d2.length) p2.2.2.2.1 h2).2 _ _ _ _ f3
      cases e
      refine ⟨by omega, fun j => if j = 0 then t else if j = 1 then u1 else if j = 2 then u2 else t1, fun j => if j = 0 then l else if j = 1 then k1 else k2, fun j => if j = 0 then w else if j = 1 then w + d1.length else w + d1.length + d2.length, fun j => if j = 0 then m1 else if j = 1 then m2 else m3, ⟨rfl, rfl⟩, ⟨rfl, rfl, rfl⟩, fun j hj => ?_⟩
      rcases j with _ | _ | _ | j
      · exact ⟨⟨hl, ht⟩, _, _, f1⟩
      · exact ⟨⟨p1.2.2.2.1, h1⟩, _, _, f2⟩
      · exact ⟨⟨p2.2.2.2.1, h2⟩, _, _, f3⟩
      · omega
    next => cases e
  next => cases e
theorem EvO_f {μ : zMem} {Z : Zt} {F : Option (List Cls)} {A : Lg} {w w' : Int → Int} {dn ls : Int} (h : MTx μ Z F A w) (h0 : μ 368 0 = A.2.2 ∧ μ 368 1 = (A.2.1.length : Int) ∧ μ 368 2 = dn ∧ μ 368 3 = ls) : EvO (fillO Z A dn ls w') (μ 357) (μ 368) (dbM μ) := by
  obtain ⟨n1, n2, n3, n4, n5, n6, n7⟩ := h.n
  obtain ⟨hp, -⟩ := h.p
  have fo : ∀ i : Int, 0 ≤ i → i < 60 → fillO Z A dn ls w' i = ordW Z A dn ls i := fun i a b => by
    unfold fillO
    rw [zit_t ⟨a, b⟩]
  refine ⟨fun i a b => ?_, n1, fun p a b => ?_, fun p q a b c e => ?_⟩
  · rw [fo i a (by omega)]
    unfold ordW
    by_cases c0 : i = 0
    · rw [zit_t c0, c0]
      exact h0.1
    by_cases c1 : i = 1
    · rw [zit_f c0, zit_t c1, c1]
      exact h0.2.1
    by_cases c2 : i = 2
    · rw [zit_f c0, zit_f c1, zit_t c2, c2]
      exact h0.2.2.1
    have c3 : i = 3 := by omega
    rw [zit_f c0, zit_f c1, zit_f c2, zit_t c3, c3]
    exact h0.2.2.2
  · rw [fo _ (by omega) (by omega)]
    unfold ordW
    rw [zit_f (show ¬ 4 + p = 0 by omega), zit_f (show ¬ 4 + p = 1 by omega), zit_f (show ¬ 4 + p = 2 by omega), zit_f (show ¬ 4 + p = 3 by omega), zit_t (show 4 + p < 11 by omega), show 4 + p - 4 = p by omega, ← hp p a (by omega), n2]
    unfold zit
    repeat' split
    all_goals first | rfl | omega
  · rw [fo _ (by omega) (by omega)]
    unfold ordW
    rw [zit_f (show ¬ 11 + 7 * p + q = 0 by omega), zit_f (show ¬ 11 + 7 * p + q = 1 by omega), zit_f (show ¬ 11 + 7 * p + q = 2 by omega), zit_f (show ¬ 11 + 7 * p + q = 3 by omega), zit_f (show ¬ 11 + 7 * p + q < 11 by omega), show (11 + 7 * p + q - 11) / 7 = p by omega, show (11 + 7 * p + q - 11) % 7 = q by omega, n3]
def GaR (cl : Cls) (W : Int → Int) (live : Int) (t1 : Nat) (μ μ' : zMem) : Prop := FG μ μ' ∧ μ' 355 52 - 24 = cl.1 ∧ μ' 355 51 = cl.2.1 ∧ μ' 355 20 = 2400 + (t1 : Int) + 1 ∧ (live = 1 → (¬ μ' 355 54 = 0 ↔ hlT cl.2.2.2.2.2.2 W = true) ∧ (¬ cl.1 = 2 → (¬ μ' 355 53 = 0 ↔ ¬ orB cl W) ∧ ∀ i : Nat, i < 3 → μ' 383 i = orG cl W i) ∧ (cl.1 = 2 → ¬ μ' 355 53 = 0))
theorem Ev_g {Q : zTk} {b : Int} {W : Int → Int} {μ μ' : zMem} (h : Ev Q true b W μ) (h7 : μ' 357 = μ 357) (h8 : μ' 368 = μ 368) (h21 : μ' 355 21 = μ 355 21) (h23 : μ' 355 23 = μ 355 23) : Ev Q true b W μ' := by
  obtain ⟨⟨a1, a2, a3⟩, a4, a5, a6, a7⟩ := h
  refine ⟨⟨by rw [h21]; exact a1, by rw [h23]; exact a2, a3⟩, fun u hu => by rw [h7]; exact a4 u hu, fun q => (by cases q), fun q => ?_, a7⟩
  have := a6 q
  unfold dbM fM at this ⊢
  rw [h7, h8]
  exact this
theorem fl_M_471 : zFl "DebtDoorsModel" 471 12 48 := ⟨_, rfl, by decide, (zTb_in 1374 (by decide +kernel) (by decide +kernel)), rfl⟩
theorem nk_12_48 : zNk 12 48 = some 0 := rfl
theorem fl_M_474 : zFl "DebtDoorsModel" 474 12 49 := ⟨_, rfl, by decide, (zTb_in 1375 (by decide +kernel) (by decide +kernel)), rfl⟩
theorem nk_12_49 : zNk 12 49 = some 0 := rfl
theorem fl_M_477 : zFl "DebtDoorsModel" 477 12 50 := ⟨_, rfl, by decide, (zTb_in 1376 (by decide +kernel) (by decide +kernel)), rfl⟩
theorem nk_12_50 : zNk 12 50 = some 0 := rfl
theorem fl_M_483 : zFl "DebtDoorsModel" 483 12 52 := ⟨_, rfl, by decide, (zTb_in 1378 (by decide +kernel) (by decide +kernel)), rfl⟩
theorem fp_12_52 : zFp 12 52 0 := ⟨_, rfl, rfl, rfl, by decide⟩
theorem nk_12_52 : zNk 12 52 = some 0 := rfl
theorem fl_M_486 : zFl "DebtDoorsModel" 486 12 53 := ⟨_, rfl, by decide, (zTb_in 1379 (by decide +kernel) (by decide +kernel)), rfl⟩
theorem fp_12_53 : zFp 12 53 1 := ⟨_, rfl, rfl, rfl, by decide⟩
theorem nk_12_53 : zNk 12 53 = some 1 := rfl
theorem nk_12_55 : zNk 12 55 = none := rfl
theorem fl_M_489 : zFl "DebtDoorsModel" 489 12 51 := ⟨_, rfl, by decide, (zTb_in 1377 (by decide +kernel) (by decide +kernel)), rfl⟩
theorem fp_12_51 : zFp 12 51 0 := ⟨_, rfl, rfl, rfl, by decide⟩
theorem nk_12_51 : zNk 12 51 = some 0 := rfl
theorem fl_M_492 : zFl "DebtDoorsModel" 492 12 54 := ⟨_, rfl, by decide, (zTb_in 1380 (by decide +kernel) (by decide +kernel)), rfl⟩
theorem fp_12_54 : zFp 12 54 1 := ⟨_, rfl, rfl, rfl, by decide⟩
theorem nk_12_54 : zNk 12 54 = some 1 := rfl
def y_M_goesAlong : zMt := (⟨"DebtDoorsModel", "goesAlong", "(IZ)V"⟩, prog_14_method_137_code, 5, none)
theorem d_M_goesAlong_0 : decode prog_14_method_137_code 0 = .ok (.aload_n 0, 1) := by decide +kernel
theorem d_M_goesAlong_1 : decode prog_14_method_137_code 1 = .ok (.iconst 1, 1) := by decide +kernel
theorem d_M_goesAlong_2 : decode prog_14_method_137_code 2 = .ok (.putfield 310, 3) := by decide +kernel
theorem d_M_goesAlong_5 : decode prog_14_method_137_code 5 = .ok (.aload_n 0, 1) := by decide +kernel
theorem d_M_goesAlong_6 : decode prog_14_method_137_code 6 = .ok (.iload_n 1, 1) := by decide +kernel
theorem d_M_goesAlong_7 : decode prog_14_method_137_code 7 = .ok (.putfield 277, 3) := by decide +kernel
theorem d_M_goesAlong_10 : decode prog_14_method_137_code 10 = .ok (.aload_n 0, 1) := by decide +kernel
theorem d_M_goesAlong_11 : decode prog_14_method_137_code 11 = .ok (.getfield 62, 3) := by decide +kernel
theorem d_M_goesAlong_14 : decode prog_14_method_137_code 14 = .ok (.iconst 0, 1) := by decide +kernel
theorem d_M_goesAlong_15 : decode prog_14_method_137_code 15 = .ok (.aload_n 0, 1) := by decide +kernel
theorem d_M_goesAlong_16 : decode prog_14_method_137_code 16 = .ok (.getfield 24, 3) := by decide +kernel
theorem d_M_goesAlong_19 : decode prog_14_method_137_code 19 = .ok (.bipush 72, 2) := by decide +kernel
theorem d_M_goesAlong_21 : decode prog_14_method_137_code 21 = .ok (.iaload, 1) := by decide +kernel
theorem d_M_goesAlong_22 : decode prog_14_method_137_code 22 = .ok (.iastore, 1) := by decide +kernel
theorem d_M_goesAlong_23 : decode prog_14_method_137_code 23 = .ok (.aload_n 0, 1) := by decide +kernel
theorem d_M_goesAlong_24 : decode prog_14_method_137_code 24 = .ok (.getfield 62, 3) := by decide +kernel
theorem d_M_goesAlong_27 : decode prog_14_method_137_code 27 = .ok (.iconst 1, 1) := by decide +kernel
theorem d_M_goesAlong_28 : decode prog_14_method_137_code 28 = .ok (.aload_n 0, 1) := by decide +kernel
theorem d_M_goesAlong_29 : decode prog_14_method_137_code 29 = .ok (.invokevirtual 137, 3) := by decide +kernel
theorem d_M_goesAlong_32 : decode prog_14_method_137_code 32 = .ok (.iastore, 1) := by decide +kernel
theorem d_M_goesAlong_33 : decode prog_14_method_137_code 33 = .ok (.aload_n 0, 1) := by decide +kernel
theorem d_M_goesAlong_34 : decode prog_14_method_137_code 34 = .ok (.getfield 62, 3) := by decide +kernel
theorem d_M_goesAlong_37 : decode prog_14_method_137_code 37 = .ok (.iconst 2, 1) := by decide +kernel
theorem d_M_goesAlong_38 : decode prog_14_method_137_code 38 = .ok (.aload_n 0, 1) := by decide +kernel
theorem d_M_goesAlong_39 : decode prog_14_method_137_code 39 = .ok (.getfield 471, 3) := by decide +kernel
theorem d_M_goesAlong_42 : decode prog_14_method_137_code 42 = .ok (.iastore, 1) := by decide +kernel
theorem d_M_goesAlong_43 : decode prog_14_method_137_code 43 = .ok (.aload_n 0, 1) := by decide +kernel
theorem d_M_goesAlong_44 : decode prog_14_method_137_code 44 = .ok (.getfield 62, 3) := by decide +kernel
theorem d_M_goesAlong_47 : decode prog_14_method_137_code 47 = .ok (.iconst 3, 1) := by decide +kernel
theorem d_M_goesAlong_48 : decode prog_14_method_137_code 48 = .ok (.aload_n 0, 1) := by decide +kernel
theorem d_M_goesAlong_49 : decode prog_14_method_137_code 49 = .ok (.getfield 474, 3) := by decide +kernel
theorem d_M_goesAlong_52 : decode prog_14_method_137_code 52 = .ok (.iastore, 1) := by decide +kernel
theorem d_M_goesAlong_53 : decode prog_14_method_137_code 53 = .ok (.aload_n 0, 1) := by decide +kernel
theorem d_M_goesAlong_54 : decode prog_14_method_137_code 54 = .ok (.aload_n 0, 1) := by decide +kernel
theorem d_M_goesAlong_55 : decode prog_14_method_137_code 55 = .ok (.getfield 477, 3) := by decide +kernel
theorem d_M_goesAlong_58 : decode prog_14_method_137_code 58 = .ok (.putfield 280, 3) := by decide +kernel
theorem d_M_goesAlong_61 : decode prog_14_method_137_code 61 = .ok (.aload_n 0, 1) := by decide +kernel
theorem d_M_goesAlong_62 : decode prog_14_method_137_code 62 = .ok (.aload_n 0, 1) := by decide +kernel
theorem d_M_goesAlong_63 : decode prog_14_method_137_code 63 = .ok (.aload_n 0, 1) := by decide +kernel
theorem d_M_goesAlong_64 : decode prog_14_method_137_code 64 = .ok (.getfield 280, 3) := by decide +kernel
theorem d_M_goesAlong_67 : decode prog_14_method_137_code 67 = .ok (.invokevirtual 283, 3) := by decide +kernel
theorem d_M_goesAlong_70 : decode prog_14_method_137_code 70 = .ok (.putfield 483, 3) := by decide +kernel
theorem d_M_goesAlong_73 : decode prog_14_method_137_code 73 = .ok (.aload_n 0, 1) := by decide +kernel
theorem d_M_goesAlong_74 : decode prog_14_method_137_code 74 = .ok (.dup, 1) := by decide +kernel
theorem d_M_goesAlong_75 : decode prog_14_method_137_code 75 = .ok (.getfield 280, 3) := by decide +kernel
theorem d_M_goesAlong_78 : decode prog_14_method_137_code 78 = .ok (.iconst 1, 1) := by decide +kernel
theorem d_M_goesAlong_79 : decode prog_14_method_137_code 79 = .ok (.iadd, 1) := by decide +kernel
theorem d_M_goesAlong_80 : decode prog_14_method_137_code 80 = .ok (.putfield 280, 3) := by decide +kernel
theorem d_M_goesAlong_83 : decode prog_14_method_137_code 83 = .ok (.aload_n 0, 1) := by decide +kernel
theorem d_M_goesAlong_84 : decode prog_14_method_137_code 84 = .ok (.iconst 1, 1) := by decide +kernel
theorem d_M_goesAlong_85 : decode prog_14_method_137_code 85 = .ok (.putfield 486, 3) := by decide +kernel
theorem d_M_goesAlong_88 : decode prog_14_method_137_code 88 = .ok (.aload_n 0, 1) := by decide +kernel
theorem d_M_goesAlong_89 : decode prog_14_method_137_code 89 = .ok (.getfield 483, 3) := by decide +kernel
theorem d_M_goesAlong_92 : decode prog_14_method_137_code 92 = .ok (.bipush 26, 2) := by decide +kernel
theorem d_M_goesAlong_94 : decode prog_14_method_137_code 94 = .ok (.if_icmp .ne 7, 3) := by decide +kernel
theorem d_M_goesAlong_97 : decode prog_14_method_137_code 97 = .ok (.iconst 0, 1) := by decide +kernel
theorem d_M_goesAlong_98 : decode prog_14_method_137_code 98 = .ok (.goto 4, 3) := by decide +kernel
theorem d_M_goesAlong_101 : decode prog_14_method_137_code 101 = .ok (.iconst 3, 1) := by decide +kernel
theorem d_M_goesAlong_102 : decode prog_14_method_137_code 102 = .ok (.istore_n 3, 1) := by decide +kernel
theorem d_M_goesAlong_103 : decode prog_14_method_137_code 103 = .ok (.iconst 0, 1) := by decide +kernel
theorem d_M_goesAlong_104 : decode prog_14_method_137_code 104 = .ok (.istore 4, 2) := by decide +kernel
theorem d_M_goesAlong_106 : decode prog_14_method_137_code 106 = .ok (.iload 4, 2) := by decide +kernel
theorem d_M_goesAlong_108 : decode prog_14_method_137_code 108 = .ok (.iload_n 3, 1) := by decide +kernel
theorem d_M_goesAlong_109 : decode prog_14_method_137_code 109 = .ok (.if_icmp .ge 64, 3) := by decide +kernel
theorem d_M_goesAlong_112 : decode prog_14_method_137_code 112 = .ok (.iload 4, 2) := by decide +kernel
theorem d_M_goesAlong_114 : decode prog_14_method_137_code 114 = .ok (.ifCond .le 13, 3) := by decide +kernel
theorem d_M_goesAlong_117 : decode prog_14_method_137_code 117 = .ok (.aload_n 0, 1) := by decide +kernel
theorem d_M_goesAlong_118 : decode prog_14_method_137_code 118 = .ok (.dup, 1) := by decide +kernel
theorem d_M_goesAlong_119 : decode prog_14_method_137_code 119 = .ok (.getfield 280, 3) := by decide +kernel
theorem d_M_goesAlong_122 : decode prog_14_method_137_code 122 = .ok (.iconst 1, 1) := by decide +kernel
theorem d_M_goesAlong_123 : decode prog_14_method_137_code 123 = .ok (.iadd, 1) := by decide +kernel
theorem d_M_goesAlong_124 : decode prog_14_method_137_code 124 = .ok (.putfield 280, 3) := by decide +kernel
theorem d_M_goesAlong_127 : decode prog_14_method_137_code 127 = .ok (.aload_n 0, 1) := by decide +kernel
theorem d_M_goesAlong_128 : decode prog_14_method_137_code 128 = .ok (.iconst 0, 1) := by decide +kernel
theorem d_M_goesAlong_129 : decode prog_14_method_137_code 129 = .ok (.putfield 290, 3) := by decide +kernel
theorem d_M_goesAlong_132 : decode prog_14_method_137_code 132 = .ok (.aload_n 0, 1) := by decide +kernel
theorem d_M_goesAlong_133 : decode prog_14_method_137_code 133 = .ok (.getfield 110, 3) := by decide +kernel
theorem d_M_goesAlong_136 : decode prog_14_method_137_code 136 = .ok (.iload 4, 2) := by decide +kernel
theorem d_M_goesAlong_138 : decode prog_14_method_137_code 138 = .ok (.aload_n 0, 1) := by decide +kernel
theorem d_M_goesAlong_139 : decode prog_14_method_137_code 139 = .ok (.iload_n 2, 1) := by decide +kernel
theorem d_M_goesAlong_140 : decode prog_14_method_137_code 140 = .ok (.invokevirtual 307, 3) := by decide +kernel
theorem d_M_goesAlong_143 : decode prog_14_method_137_code 143 = .ok (.lastore, 1) := by decide +kernel
theorem d_M_goesAlong_144 : decode prog_14_method_137_code 144 = .ok (.aload_n 0, 1) := by decide +kernel
theorem d_M_goesAlong_145 : decode prog_14_method_137_code 145 = .ok (.aload_n 0, 1) := by decide +kernel
theorem d_M_goesAlong_146 : decode prog_14_method_137_code 146 = .ok (.getfield 486, 3) := by decide +kernel
theorem d_M_goesAlong_149 : decode prog_14_method_137_code 149 = .ok (.ifCond .eq 14, 3) := by decide +kernel
theorem d_M_goesAlong_152 : decode prog_14_method_137_code 152 = .ok (.aload_n 0, 1) := by decide +kernel
theorem d_M_goesAlong_153 : decode prog_14_method_137_code 153 = .ok (.getfield 290, 3) := by decide +kernel
theorem d_M_goesAlong_156 : decode prog_14_method_137_code 156 = .ok (.ifCond .ne 7, 3) := by decide +kernel
theorem d_M_goesAlong_159 : decode prog_14_method_137_code 159 = .ok (.iconst 1, 1) := by decide +kernel
theorem d_M_goesAlong_160 : decode prog_14_method_137_code 160 = .ok (.goto 4, 3) := by decide +kernel
theorem d_M_goesAlong_163 : decode prog_14_method_137_code 163 = .ok (.iconst 0, 1) := by decide +kernel
theorem d_M_goesAlong_164 : decode prog_14_method_137_code 164 = .ok (.putfield 486, 3) := by decide +kernel
theorem d_M_goesAlong_167 : decode prog_14_method_137_code 167 = .ok (.iinc 4 1, 3) := by decide +kernel
theorem d_M_goesAlong_170 : decode prog_14_method_137_code 170 = .ok (.goto (-64), 3) := by decide +kernel
theorem d_M_goesAlong_173 : decode prog_14_method_137_code 173 = .ok (.aload_n 0, 1) := by decide +kernel
theorem d_M_goesAlong_174 : decode prog_14_method_137_code 174 = .ok (.iconst 1, 1) := by decide +kernel
theorem d_M_goesAlong_175 : decode prog_14_method_137_code 175 = .ok (.putfield 489, 3) := by decide +kernel
theorem d_M_goesAlong_178 : decode prog_14_method_137_code 178 = .ok (.aload_n 0, 1) := by decide +kernel
theorem d_M_goesAlong_179 : decode prog_14_method_137_code 179 = .ok (.bipush 29, 2) := by decide +kernel
theorem d_M_goesAlong_181 : decode prog_14_method_137_code 181 = .ok (.invokevirtual 304, 3) := by decide +kernel
theorem d_M_goesAlong_184 : decode prog_14_method_137_code 184 = .ok (.ifCond .eq 30, 3) := by decide +kernel
theorem d_M_goesAlong_187 : decode prog_14_method_137_code 187 = .ok (.aload_n 0, 1) := by decide +kernel
theorem d_M_goesAlong_188 : decode prog_14_method_137_code 188 = .ok (.aload_n 0, 1) := by decide +kernel
theorem d_M_goesAlong_189 : decode prog_14_method_137_code 189 = .ok (.getfield 24, 3) := by decide +kernel
theorem d_M_goesAlong_192 : decode prog_14_method_137_code 192 = .ok (.sipush 2964, 3) := by decide +kernel
theorem d_M_goesAlong_195 : decode prog_14_method_137_code 195 = .ok (.aload_n 0, 1) := by decide +kernel
theorem d_M_goesAlong_196 : decode prog_14_method_137_code 196 = .ok (.getfield 280, 3) := by decide +kernel
theorem d_M_goesAlong_199 : decode prog_14_method_137_code 199 = .ok (.iadd, 1) := by decide +kernel
theorem d_M_goesAlong_200 : decode prog_14_method_137_code 200 = .ok (.iaload, 1) := by decide +kernel
theorem d_M_goesAlong_201 : decode prog_14_method_137_code 201 = .ok (.putfield 489, 3) := by decide +kernel
theorem d_M_goesAlong_204 : decode prog_14_method_137_code 204 = .ok (.aload_n 0, 1) := by decide +kernel
theorem d_M_goesAlong_205 : decode prog_14_method_137_code 205 = .ok (.dup, 1) := by decide +kernel
theorem d_M_goesAlong_206 : decode prog_14_method_137_code 206 = .ok (.getfield 280, 3) := by decide +kernel
theorem d_M_goesAlong_209 : decode prog_14_method_137_code 209 = .ok (.iconst 1, 1) := by decide +kernel
theorem d_M_goesAlong_210 : decode prog_14_method_137_code 210 = .ok (.iadd, 1) := by decide +kernel
theorem d_M_goesAlong_211 : decode prog_14_method_137_code 211 = .ok (.putfield 280, 3) := by decide +kernel
theorem d_M_goesAlong_214 : decode prog_14_method_137_code 214 = .ok (.aload_n 0, 1) := by decide +kernel
theorem d_M_goesAlong_215 : decode prog_14_method_137_code 215 = .ok (.iconst 0, 1) := by decide +kernel
theorem d_M_goesAlong_216 : decode prog_14_method_137_code 216 = .ok (.putfield 290, 3) := by decide +kernel
theorem d_M_goesAlong_219 : decode prog_14_method_137_code 219 = .ok (.aload_n 0, 1) := by decide +kernel
theorem d_M_goesAlong_220 : decode prog_14_method_137_code 220 = .ok (.aload_n 0, 1) := by decide +kernel
theorem d_M_goesAlong_221 : decode prog_14_method_137_code 221 = .ok (.iconst 5, 1) := by decide +kernel
theorem d_M_goesAlong_222 : decode prog_14_method_137_code 222 = .ok (.invokevirtual 304, 3) := by decide +kernel
theorem d_M_goesAlong_225 : decode prog_14_method_137_code 225 = .ok (.ifCond .eq 11, 3) := by decide +kernel
theorem d_M_goesAlong_228 : decode prog_14_method_137_code 228 = .ok (.aload_n 0, 1) := by decide +kernel
theorem d_M_goesAlong_229 : decode prog_14_method_137_code 229 = .ok (.iload_n 2, 1) := by decide +kernel
theorem d_M_goesAlong_230 : decode prog_14_method_137_code 230 = .ok (.invokevirtual 325, 3) := by decide +kernel
theorem d_M_goesAlong_233 : decode prog_14_method_137_code 233 = .ok (.ifCond .eq 7, 3) := by decide +kernel
theorem d_M_goesAlong_236 : decode prog_14_method_137_code 236 = .ok (.iconst 1, 1) := by decide +kernel
theorem d_M_goesAlong_237 : decode prog_14_method_137_code 237 = .ok (.goto 4, 3) := by decide +kernel
theorem d_M_goesAlong_240 : decode prog_14_method_137_code 240 = .ok (.iconst 0, 1) := by decide +kernel
theorem d_M_goesAlong_241 : decode prog_14_method_137_code 241 = .ok (.putfield 492, 3) := by decide +kernel
theorem d_M_goesAlong_244 : decode prog_14_method_137_code 244 = .ok (.aload_n 0, 1) := by decide +kernel
theorem d_M_goesAlong_245 : decode prog_14_method_137_code 245 = .ok (.aload_n 0, 1) := by decide +kernel
theorem d_M_goesAlong_246 : decode prog_14_method_137_code 246 = .ok (.getfield 492, 3) := by decide +kernel
theorem d_M_goesAlong_249 : decode prog_14_method_137_code 249 = .ok (.ifCond .eq 14, 3) := by decide +kernel
theorem d_M_goesAlong_252 : decode prog_14_method_137_code 252 = .ok (.aload_n 0, 1) := by decide +kernel
theorem d_M_goesAlong_253 : decode prog_14_method_137_code 253 = .ok (.getfield 290, 3) := by decide +kernel
theorem d_M_goesAlong_256 : decode prog_14_method_137_code 256 = .ok (.ifCond .ne 7, 3) := by decide +kernel
theorem d_M_goesAlong_259 : decode prog_14_method_137_code 259 = .ok (.iconst 1, 1) := by decide +kernel
theorem d_M_goesAlong_260 : decode prog_14_method_137_code 260 = .ok (.goto 4, 3) := by decide +kernel
theorem d_M_goesAlong_263 : decode prog_14_method_137_code 263 = .ok (.iconst 0, 1) := by decide +kernel
theorem d_M_goesAlong_264 : decode prog_14_method_137_code 264 = .ok (.putfield 492, 3) := by decide +kernel
theorem d_M_goesAlong_267 : decode prog_14_method_137_code 267 = .ok (.aload_n 0, 1) := by decide +kernel
theorem d_M_goesAlong_268 : decode prog_14_method_137_code 268 = .ok (.dup, 1) := by decide +kernel
theorem d_M_goesAlong_269 : decode prog_14_method_137_code 269 = .ok (.getfield 280, 3) := by decide +kernel
theorem d_M_goesAlong_272 : decode prog_14_method_137_code 272 = .ok (.iconst 1, 1) := by decide +kernel
theorem d_M_goesAlong_273 : decode prog_14_method_137_code 273 = .ok (.iadd, 1) := by decide +kernel
theorem d_M_goesAlong_274 : decode prog_14_method_137_code 274 = .ok (.putfield 280, 3) := by decide +kernel
theorem d_M_goesAlong_277 : decode prog_14_method_137_code 277 = .ok (.return_, 1) := by decide +kernel
def w_M_goesAlong {d : Nat} (hd : 2 ≤ d) := (show SS ("DebtDoorsModel", prog_14_method_137_code, 5) (none) d 0 0 0 0 _ from (sS (p1 := 5) (sP 23 fl_M_310 fp_12_23 nk_12_23 (rAn 0 d_M_goesAlong_0 rfl) (xE (rI d_M_goesAlong_1 rfl)) d_M_goesAlong_2 rfl) (sS (p1 := 10) (sP 21 fl_M_277 fp_12_21 nk_12_21 (rAn 0 d_M_goesAlong_5 rfl) (xE (rIn 1 d_M_goesAlong_6 rfl)) d_M_goesAlong_7 rfl) (sS (p1 := 23) (sAs (rFr fl_M_62 nk_12_25 (rAn 0 d_M_goesAlong_10 rfl) d_M_goesAlong_11) (rI d_M_goesAlong_14 rfl) (xE (rIa (rFr fl_M_24 nk_12_2 (rAn 0 d_M_goesAlong_15 rfl) d_M_goesAlong_16) (rB d_M_goesAlong_19 rfl) d_M_goesAlong_21)) d_M_goesAlong_22) (sS (p1 := 33) (sAs (rFr fl_M_62 nk_12_25 (rAn 0 d_M_goesAlong_23 rfl) d_M_goesAlong_24) (rI d_M_goesAlong_27 rfl) (xE (rV p_M_debts (Nat.le_trans (Nat.le_of_ble_eq_true rfl) hd) lv_M_137 (rAr rA0 (rAn 0 d_M_goesAlong_28 rfl)) (by decide) d_M_goesAlong_29)) d_M_goesAlong_32) (sS (p1 := 43) (sAs (rFr fl_M_62 nk_12_25 (rAn 0 d_M_goesAlong_33 rfl) d_M_goesAlong_34) (rI d_M_goesAlong_37 rfl) (xE (rF 48 fl_M_471 nk_12_48 (rAn 0 d_M_goesAlong_38 rfl) d_M_goesAlong_39 rfl)) d_M_goesAlong_42) (sS (p1 := 53) (sAs (rFr fl_M_62 nk_12_25 (rAn 0 d_M_goesAlong_43 rfl) d_M_goesAlong_44) (rI d_M_goesAlong_47 rfl) (xE (rF 49 fl_M_474 nk_12_49 (rAn 0 d_M_goesAlong_48 rfl) d_M_goesAlong_49 rfl)) d_M_goesAlong_52) (sS (p1 := 61) (sP 20 fl_M_280 fp_12_20 nk_12_20 (rAn 0 d_M_goesAlong_53 rfl) (xE (rF 50 fl_M_477 nk_12_50 (rAn 0 d_M_goesAlong_54 rfl) d_M_goesAlong_55 rfl)) d_M_goesAlong_58 rfl) (sS (p1 := 73) (sP 52 fl_M_483 fp_12_52 nk_12_52 (rAn 0 d_M_goesAlong_61 rfl) (xE (rV p_M_codeAt (Nat.le_trans (Nat.le_of_ble_eq_true rfl) hd) lv_M_283 (rAi (rAr rA0 (rAn 0 d_M_goesAlong_62 rfl)) (rF 20 fl_M_280 nk_12_20 (rAn 0 d_M_goesAlong_63 rfl) d_M_goesAlong_64 rfl)) (by decide) d_M_goesAlong_67)) d_M_goesAlong_70 rfl) (sS (p1 := 83) (sPo 20 o_add fl_M_280 fp_12_20 nk_12_20 (rAn 0 d_M_goesAlong_73 rfl) d_M_goesAlong_74 d_M_goesAlong_75 (rI d_M_goesAlong_78 rfl) d_M_goesAlong_79 d_M_goesAlong_80 rfl) (sS (p1 := 88) (sP 53 fl_M_486 fp_12_53 nk_12_53 (rAn 0 d_M_goesAlong_83 rfl) (xE (rI d_M_goesAlong_84 rfl)) d_M_goesAlong_85 rfl) (sS (p1 := 103) (sIn 3 (xE (rT2 (rNot (rJ2 (tgt := 101) j_ne (rF 52 fl_M_483 nk_12_52 (rAn 0 d_M_goesAlong_88 rfl) d_M_goesAlong_89 rfl) (rB d_M_goesAlong_92 rfl) d_M_goesAlong_94 (by decide))) (rGoE (p2 := 102) (rI d_M_goesAlong_97 rfl) d_M_goesAlong_98 (by decide)) (rI d_M_goesAlong_101 rfl))) d_M_goesAlong_102 rfl (by decide)) (sS (p1 := 173) (sS (p1 := 106) (sI (xE (rI d_M_goesAlong_103 rfl)) d_M_goesAlong_104 (by decide)) (sLp (ps := 167) (tt := 112) (pn := 173) (p1 := 0) (p2 := 0) (xC (rNot (rJ2 (tgt := 173) j_ge (rIl d_M_goesAlong_106) (rIn 3 d_M_goesAlong_108 rfl) d_M_goesAlong_109 (by decide)))) (sS (p1 := 127) (sIf (pn := 127) (tt := 117) (xC (rNot (rJ1 (tgt := 127) k_le (rIl d_M_goesAlong_112) d_M_goesAlong_114 (by decide)))) (sPo 20 o_add fl_M_280 fp_12_20 nk_12_20 (rAn 0 d_M_goesAlong_117 rfl) d_M_goesAlong_118 d_M_goesAlong_119 (rI d_M_goesAlong_122 rfl) d_M_goesAlong_123 d_M_goesAlong_124 rfl)) (sS (p1 := 132) (sP 22 fl_M_290 fp_12_22 nk_12_22 (rAn 0 d_M_goesAlong_127 rfl) (xE (rI d_M_goesAlong_128 rfl)) d_M_goesAlong_129 rfl) (sS (p1 := 144) (sLs (rFr fl_M_110 nk_12_55 (rAn 0 d_M_goesAlong_132 rfl) d_M_goesAlong_133) (rIl d_M_goesAlong_136) (xVL lv_M_307 (xA (rAi (rAr rA0 (rAn 0 d_M_goesAlong_138 rfl)) (rIn 2 d_M_goesAlong_139 rfl))) (by decide) d_M_goesAlong_140) d_M_goesAlong_143) (sP 53 fl_M_486 fp_12_53 nk_12_53 (rAn 0 d_M_goesAlong_144 rfl) (xE (rTb (rAnd (mm := 152) (rNot (rJ1 (tgt := 163) k_eq (rF 53 fl_M_486 nk_12_53 (rAn 0 d_M_goesAlong_145 rfl) d_M_goesAlong_146 rfl) d_M_goesAlong_149 (by decide))) (rNot (rJ1 (tgt := 163) k_ne (rF 22 fl_M_290 nk_12_22 (rAn 0 d_M_goesAlong_152 rfl) d_M_goesAlong_153 rfl) d_M_goesAlong_156 (by decide)))) (rGoE (p2 := 164) (rI d_M_goesAlong_159 rfl) d_M_goesAlong_160 (by decide)) (rI d_M_goesAlong_163 rfl))) d_M_goesAlong_164 rfl)))) (sGo (pn := 106) (sInc d_M_goesAlong_167 (by decide)) d_M_goesAlong_170 (by decide)))) (sS (p1 := 178) (sP 51 fl_M_489 fp_12_51 nk_12_51 (rAn 0 d_M_goesAlong_173 rfl) (xE (rI d_M_goesAlong_174 rfl)) d_M_goesAlong_175 rfl) (sS (p1 := 214) (sIf (pn := 214) (tt := 187) (xNot (xJ1 (tgt := 214) k_eq (xV lv_M_304 (xA (rAi (rAr rA0 (rAn 0 d_M_goesAlong_178 rfl)) (rB d_M_goesAlong_179 rfl))) (by decide) d_M_goesAlong_181) d_M_goesAlong_184 (by decide))) (sS (p1 := 204) (sP 51 fl_M_489 fp_12_51 nk_12_51 (rAn 0 d_M_goesAlong_187 rfl) (xE (rIa (rFr fl_M_24 nk_12_2 (rAn 0 d_M_goesAlong_188 rfl) d_M_goesAlong_189) (r2 o_add (rSi d_M_goesAlong_192 rfl) (rF 20 fl_M_280 nk_12_20 (rAn 0 d_M_goesAlong_195 rfl) d_M_goesAlong_196 rfl) d_M_goesAlong_199) d_M_goesAlong_200)) d_M_goesAlong_201 rfl) (sPo 20 o_add fl_M_280 fp_12_20 nk_12_20 (rAn 0 d_M_goesAlong_204 rfl) d_M_goesAlong_205 d_M_goesAlong_206 (rI d_M_goesAlong_209 rfl) d_M_goesAlong_210 d_M_goesAlong_211 rfl))) (sS (p1 := 219) (sP 22 fl_M_290 fp_12_22 nk_12_22 (rAn 0 d_M_goesAlong_214 rfl) (xE (rI d_M_goesAlong_215 rfl)) d_M_goesAlong_216 rfl) (sS (p1 := 244) (sP 54 fl_M_492 fp_12_54 nk_12_54 (rAn 0 d_M_goesAlong_219 rfl) (xTb (xOr (mm := 228) (xNot (xNot (xJ1 (tgt := 236) k_eq (xV lv_M_304 (xA (rAi (rAr rA0 (rAn 0 d_M_goesAlong_220 rfl)) (rI d_M_goesAlong_221 rfl))) (by decide) d_M_goesAlong_222) d_M_goesAlong_225 (by decide)))) (xNot (xJ1 (tgt := 240) k_eq (xV lv_M_325 (xA (rAi (rAr rA0 (rAn 0 d_M_goesAlong_228 rfl)) (rIn 2 d_M_goesAlong_229 rfl))) (by decide) d_M_goesAlong_230) d_M_goesAlong_233 (by decide)))) (rGoE (p2 := 241) (rI d_M_goesAlong_236 rfl) d_M_goesAlong_237 (by decide)) (rI d_M_goesAlong_240 rfl)) d_M_goesAlong_241 rfl) (sS (p1 := 267) (sP 54 fl_M_492 fp_12_54 nk_12_54 (rAn 0 d_M_goesAlong_244 rfl) (xE (rTb (rAnd (mm := 252) (rNot (rJ1 (tgt := 263) k_eq (rF 54 fl_M_492 nk_12_54 (rAn 0 d_M_goesAlong_245 rfl) d_M_goesAlong_246 rfl) d_M_goesAlong_249 (by decide))) (rNot (rJ1 (tgt := 263) k_ne (rF 22 fl_M_290 nk_12_22 (rAn 0 d_M_goesAlong_252 rfl) d_M_goesAlong_253 rfl) d_M_goesAlong_256 (by decide)))) (rGoE (p2 := 264) (rI d_M_goesAlong_259 rfl) d_M_goesAlong_260 (by decide)) (rI d_M_goesAlong_263 rfl))) d_M_goesAlong_264 rfl) (sS (p1 := 277) (sPo 20 o_add fl_M_280 fp_12_20 nk_12_20 (rAn 0 d_M_goesAlong_267 rfl) d_M_goesAlong_268 d_M_goesAlong_269 (rI d_M_goesAlong_272 rfl) d_M_goesAlong_273 d_M_goesAlong_274 rfl) (sRv d_M_goesAlong_277 rfl))))))))))))))))))))
theorem q_M_goesAlong {d : Nat} (hd : 46 ≤ d) {μ : zMem} {Z : Zt} {F : Option (List Cls)} {A : Lg} {w W : Int → Int} {Q : zTk} {t l w0 t1 l1 : Nat} {cl : Cls} {cd : List Int} {live : Int} (hM : MTx μ Z F A w) (hQ : okK Q) (hL : LwM (μ 357) 6 Q) (hg : μ 355 50 = 2400 + (t : Int)) (hp : pOrdC Q.1 Q.2.1 t l w0 = (t1, some (l1, cl, cd))) (hl : l ≤ 50) (hlv : live = 0 ∨ live = 1) (hW : fillO Z A (μ 355 48) (μ 355 49) w = W) (hb : bW W) : zSp d 0 0 y_M_goesAlong zT0 [vr 355, vi (2400 + (Q.2.2.2 : Int)), vi live] μ zT0 (fun r μ' => r = none ∧ GaR cl W live t1 μ μ') := by
  refine zSp.ss [vr 355, vi (2400 + (Q.2.2.2 : Int)), vi live, vx 0, vx 0] rfl (w_M_goesAlong (Nat.le_trans (by decide) hd)) rfl rfl ?_
  (try simp only [zit_e, Bool.and_eq_true, Bool.or_eq_true, Bool.not_eq_true', Bool.and_eq_false_iff, Bool.or_eq_false_iff, Bool.not_eq_false', zbe, zdt, zdf, zb2_p, zbp_0, zbp_1, zbp_inj, zbp_01, Bool.true_eq_false, Bool.false_eq_true, true_and, and_true, Decidable.not_not, Classical.not_not, implies_true, List.nil_append, List.cons_append, List.append_assoc, Option.some.injEq, Sum.inl.injEq, zSw_c, zSw_n]); (try simp only [zit_e, Bool.and_eq_true, Bool.or_eq_true, Bool.not_eq_true', Bool.and_eq_false_iff, Bool.or_eq_false_iff, Bool.not_eq_false', zbe, zdt, zdf, zb2_p, zbp_0, zbp_1, zbp_inj, zbp_01, Bool.true_eq_false, Bool.false_eq_true, true_and, and_true, Decidable.not_not, Classical.not_not, implies_true, List.nil_append, List.cons_append, List.append_assoc, Option.some.injEq, Sum.inl.injEq, zSw_c, zSw_n, zc_355, f_M_debts, g_M_debts, f_M_codeAt, g_M_codeAt]); (try simp only [zi_cs, zi_c0, zii_cs, zii_c0, zl_cs, zl_c0, zll_cs, zll_c0, zr_cs, zr_c0, zrr_cs, zrr_c0, zxs_cs, zxs_c0, zxx_cs, zxx_c0, zfree_c0, zfree_c1, zfree_cs, zfree_cz, zlong_i, zlong_r, zlong_x, zset_0, zset_s, true_and, and_true, Option.some.injEq, Sum.inl.injEq, Sum.inr.injEq, zb2_p, zbp_0, zbp_1, zbp_inj, zbp_01, Nat.zero_add, Nat.reduceAdd, implies_true, List.nil_append, List.cons_append, List.append_assoc, Int.not_lt, Int.not_le, Decidable.not_not, Int.zero_add, Int.reduceLE, Int.reduceLT, Int.reduceEq, Int.reduceNe, Int.reduceAdd, Int.reduceSub, Int.reduceMul, Int.reduceNeg, Int.reduceToNat, Nat.reduceMul, Nat.reduceLT, Nat.reduceEqDiff, and_self, ite_true, ite_false, zx1, zx2, zRecv, List.length_cons, List.length_nil, ne_eq, not_true_eq_false, not_false_eq_true, true_or, or_true, or_false, false_or, and_false, false_and, zf01, zf10, reduceCtorEq, zSw_c, zSw_n, zm_r, zit_T, zit_F, false_implies, true_implies, zc_355, f_M_debts, g_M_debts, f_M_codeAt, g_M_codeAt])
  have hN := hQ.1
  unfold pOrdC at hp
  split at hp
  rotate_left
  · cases hp
  next hk =>
  have htn : t < Q.2.2.2 := zNlt (c := Q.1) hQ.2.1 (show Q.1 t ≠ 0 by omega)
  have hcode : (if μ 355 50 < 2400 + (Q.2.2.2 : Int) then μ 357 (164 + μ 355 50) else 0) = Q.1 t := by
    rw [hg, if_pos (by omega), ← (hL.2 t htn).1, show 164 + (2400 + (t : Int)) = 164 + (400 * 6 + (t : Int)) by omega]
  rcases e1 : p3O Q.1 Q.2.1 t l w0 with ⟨t2, _ | ⟨l2, ⟨a2, a3⟩, ⟨m1, m2, m3⟩, c2⟩⟩
  · rw [e1] at hp
    cases hp
  rw [e1] at hp
  simp only at hp
  rcases e2 : pTm Q.1 Q.2.1 t2 with ⟨t3, _ | kk⟩
  · rw [e2] at hp
    cases hp
  rw [e2] at hp
  simp only at hp
  rcases e3 : pMT true Q.1 Q.2.1 t3 l2 (w0 + c2.length) with ⟨t4, _ | ⟨l4, m4, c4⟩⟩
  · rw [e3] at hp
    cases hp
  rw [e3] at hp
  cases hp
  obtain ⟨nn, hnn⟩ : ∃ nn : Nat, nn = if Q.1 t = 26 then 0 else 3 := ⟨_, rfl⟩
  have hq : (l2 ≤ 50 ∧ t2 ≤ Q.2.2.2) ∧ ∃ (g L w1 : Nat → Nat) (M : Nat → Mn), (g 0 = t + 1 ∧ g nn = t2) ∧ (¬ Q.1 t = 26 → M 0 = m1 ∧ M 1 = m2 ∧ M 2 = m3) ∧ ∀ j : Nat, j < nn → (L j ≤ 50 ∧ g j + (if 0 < j then 1 else 0) ≤ Q.2.2.2) ∧ ∃ (l' : Nat) (c' : List Int), lvS true Q.1 Q.2.1 8 (g j + (if 0 < j then 1 else 0)) (L j) (w1 j) = (g (j + 1), some (l', M j, c')) := by
    unfold p3O at e1
    by_cases c26 : Q.1 t = 26
    · rw [if_pos c26] at e1 hnn
      cases e1
      subst hnn
      exact ⟨⟨hl, htn⟩, fun _ => t + 1, fun _ => 0, fun _ => 0, fun _ => fun _ => some 0, ⟨rfl, rfl⟩, fun q => absurd c26 q, fun j hj => absurd hj (Nat.not_lt_zero j)⟩
    · rw [if_neg c26] at e1 hnn
      subst hnn
      obtain ⟨x1, g, L, w1, M, x2, x3, x4⟩ := p3S_q hQ e1 hl htn
      exact ⟨⟨x1.1, x1.2.1⟩, g, L, w1, M, x2, fun _ => x3, x4⟩
  obtain ⟨hq0, g, L, w1, M, ⟨hg0, hgn⟩, hMm, hS⟩ := hq
  rw [hcode]
  have hz3 : zit (Q.1 t = 26) 0 3 = (nn : Int) := by
    rw [hnn]
    unfold zit
    split <;> rfl
  rw [hz3]
  refine ⟨by omega, by ((try simp only [zI_e]); (first | done | omega | skip)), ?_⟩
  have hn3 : nn ≤ 3 := by
    rw [hnn]
    split <;> omega
  refine zLoop.up nn (fun j ρ μ1 => ρ = [vr 355, vi (2400 + (Q.2.2.2 : Int)), vi live, vi (nn : Int), vi j] ∧ FG μ μ1 ∧ Ev Q true 2400 W μ1 ∧ μ1 355 20 = 2400 + (g j : Int) ∧ μ1 355 52 = Q.1 t ∧ (live = 1 → (¬ μ1 355 53 = 0 ↔ ∀ i : Nat, i < j → M i W ≠ none) ∧ ∀ i : Nat, i < j → μ1 383 i = (M i W).getD 0)) ⟨rfl, ?_, ?_, ?_, ?_, fun _ => ⟨?_, fun i hi => absurd hi (Nat.not_lt_zero i)⟩⟩ ?_
  · refine ⟨((((((((((zfc.rf (cs := [355, 368, 383])).zm (by decide)).zm (by decide)).zm (by decide)).zm (by decide)).zm (by decide)).zm (by decide)).zm (by decide)).zm (by decide)).zm (by decide)).zm (by decide), fun j p1 p2 p3 p4 p5 p6 p7 p8 => ?_⟩
    simp only [zm_r, zit_T, zit_F, Nat.reduceEqDiff, false_and, and_false, true_and, p1, p2, p3, p4, p5, p6, p7, p8]
  · generalize hX : zm (zm (zm (zm (zm (zm (zm (zm (zm (zm μ 355 23 1) 355 21 (2400 + (Q.2.2.2 : Int))) 368 0 (μ 357 72)) 368 1 (μ 357 71)) 368 2 (μ 355 48)) 368 3 (μ 355 49)) 355 20 (μ 355 50)) 355 52 (Q.1 t)) 355 20 (μ 355 50 + 1)) 355 53 1 = X
    have x7 : X 357 = μ 357 := by
      rw [← hX]
      funext i
      simp only [zm_r, zit_T, zit_F, Nat.reduceEqDiff, false_and]
    have x0 : X 368 0 = μ 357 72 ∧ X 368 1 = μ 357 71 ∧ X 368 2 = μ 355 48 ∧ X 368 3 = μ 355 49 := by
      rw [← hX]
      simp only [zm_r, zit_T, zit_F, Nat.reduceEqDiff, false_and, true_and, Int.reduceEq, and_self]
    have x5 : X 355 21 = 2400 + (Q.2.2.2 : Int) ∧ X 355 23 = 1 := by
      rw [← hX]
      simp only [zm_r, zit_T, zit_F, Nat.reduceEqDiff, false_and, true_and, Int.reduceEq, and_self]
    obtain ⟨n1, n2, n3, n4, n5, n6, n7⟩ := hM.n
    rw [n4, n6] at x0
    have hMX := hM.k x7
    have := EvO_f (w' := w) hMX x0
    rw [hW] at this
    refine ⟨⟨x5.1, x5.2, by decide, by decide⟩, fun u hu => ?_, fun q => (by cases q), fun _ => ⟨hMX.d.2.2.2.1, this⟩, hb⟩
    have h6 := hL.2 u hu
    rw [x7, show (2400 : Int) + (u : Int) = 400 * 6 + (u : Int) by omega]
    exact h6
  · simp only [zm_r, zit_T, zit_F, Nat.reduceEqDiff, false_and, true_and, Int.reduceEq, and_self]
    rw [hg0, hg]
    omega
  · simp only [zm_r, zit_T, zit_F, Nat.reduceEqDiff, false_and, true_and, Int.reduceEq, and_self]
  · simp only [zm_r, zit_T, zit_F, Nat.reduceEqDiff, false_and, true_and, Int.reduceEq, and_self]
    exact ⟨fun _ i hi => absurd hi (Nat.not_lt_zero i), fun _ => by decide⟩
  rintro j ρ μ1 hj ⟨rfl, hF, hE, h20, h52, hS1⟩
  (try simp only [zit_e, Bool.and_eq_true, Bool.or_eq_true, Bool.not_eq_true', Bool.and_eq_false_iff, Bool.or_eq_false_iff, Bool.not_eq_false', zbe, zdt, zdf, zb2_p, zbp_0, zbp_1, zbp_inj, zbp_01, Bool.true_eq_false, Bool.false_eq_true, true_and, and_true, Decidable.not_not, Classical.not_not, implies_true, List.nil_append, List.cons_append, List.append_assoc, Option.some.injEq, Sum.inl.injEq, zSw_c, zSw_n]); (try simp only [zit_e, Bool.and_eq_true, Bool.or_eq_true, Bool.not_eq_true', Bool.and_eq_false_iff, Bool.or_eq_false_iff, Bool.not_eq_false', zbe, zdt, zdf, zb2_p, zbp_0, zbp_1, zbp_inj, zbp_01, Bool.true_eq_false, Bool.false_eq_true, true_and, and_true, Decidable.not_not, Classical.not_not, implies_true, List.nil_append, List.cons_append, List.append_assoc, Option.some.injEq, Sum.inl.injEq, zSw_c, zSw_n, zc_355]); (try simp only [zi_cs, zi_c0, zii_cs, zii_c0, zl_cs, zl_c0, zll_cs, zll_c0, zr_cs, zr_c0, zrr_cs, zrr_c0, zxs_cs, zxs_c0, zxx_cs, zxx_c0, zfree_c0, zfree_c1, zfree_cs, zfree_cz, zlong_i, zlong_r, zlong_x, zset_0, zset_s, true_and, and_true, Option.some.injEq, Sum.inl.injEq, Sum.inr.injEq, zb2_p, zbp_0, zbp_1, zbp_inj, zbp_01, Nat.zero_add, Nat.reduceAdd, implies_true, List.nil_append, List.cons_append, List.append_assoc, Int.not_lt, Int.not_le, Decidable.not_not, Int.zero_add, Int.reduceLE, Int.reduceLT, Int.reduceEq, Int.reduceNe, Int.reduceAdd, Int.reduceSub, Int.reduceMul, Int.reduceNeg, Int.reduceToNat, Nat.reduceMul, Nat.reduceLT, Nat.reduceEqDiff, and_self, ite_true, ite_false, zx1, zx2, zRecv, List.length_cons, List.length_nil, ne_eq, not_true_eq_false, not_false_eq_true, true_or, or_true, or_false, false_or, and_false, false_and, zf01, zf10, reduceCtorEq, zSw_c, zSw_n, zm_r, zit_T, zit_F, false_implies, true_implies, zc_355])
  refine zif (fun c => ?_) (fun c => ?_)
  · have hjn : j < nn := by omega
    obtain ⟨⟨hLj, hgj⟩, l', c', hs⟩ := hS j hjn
    have body : ∀ {X : zMem}, FE μ1 X → X 355 20 = 2400 + ((g j + (if 0 < j then 1 else 0) : Nat) : Int) → X 355 22 = 0 → zCw d y_M_sumOf [vr 355, vi live] X (fun q μ2 => ∃ n, q = some (vl n) ∧ (¬ (¬ μ2 355 53 = 0 ∧ μ2 355 22 = 0) ∨ ¬ μ2 355 53 = 0 ∧ μ2 355 22 = 0) ∧ zI ((j : Int) + 1) ∧ ∃ m', m' < nn - j ∧ ∃ j', m' = nn - j' ∧ j' ≤ nn ∧ [vr 355, vi (2400 + (Q.2.2.2 : Int)), vi live, vi (nn : Int), vi ((j : Int) + 1)] = [vr 355, vi (2400 + (Q.2.2.2 : Int)), vi live, vi (nn : Int), vi (j' : Int)] ∧ FG μ (zm (zm μ2 383 (j : Int) n) 355 53 (zbp (¬ μ2 355 53 = 0 ∧ μ2 355 22 = 0))) ∧ Ev Q true 2400 W (zm (zm μ2 383 (j : Int) n) 355 53 (zbp (¬ μ2 355 53 = 0 ∧ μ2 355 22 = 0))) ∧ μ2 355 20 = 2400 + (g j' : Int) ∧ μ2 355 52 = Q.1 t ∧ (live = 1 → (¬ μ2 355 53 = 0 ∧ μ2 355 22 = 0 ↔ ∀ i : Nat, i < j' → ¬ M i W = none) ∧ ∀ i : Nat, i < j' → zit ((i : Int) = (j : Int)) n (μ2 383 (i : Int)) = (M i W).getD 0)) := by
      intro X hX x20 x22
      refine es_w (by omega) hQ hlv (Or.inl rfl) (Ev_c hE hX) x20 x22 hLj hgj hs (fun μ2 a1 a2 a3 a4 => ?_)
      have hE2 := Ev_c hE (hX.tr a3)
      have f2 := hX.tr a3
      refine ⟨_, rfl, Classical.em _ |>.symm, by ((try simp only [zI_e]); (first | done | omega | skip)), _, (show nn - (j + 1) < nn - j by omega), j + 1, rfl, by omega, rfl, ?_, ?_, a1, (f2.2 52 (by decide) (by decide)).trans h52, fun h1 => ?_⟩
      · refine (hF.tr f2.fg).tr ⟨((zfc.rf (cs := [355, 368, 383])).zm (by decide)).zm (by decide), fun i p1 p2 p3 p4 p5 p6 p7 p8 => ?_⟩
        rw [zm_o (Or.inr p7), zm_off 355 (by decide)]
      · refine Ev_g hE2 ?_ ?_ ?_ ?_
        · rw [zm_off 357 (by decide), zm_off 357 (by decide)]
        · rw [zm_off 368 (by decide), zm_off 368 (by decide)]
        · rw [zm_o (by decide), zm_off 355 (by decide)]
        · rw [zm_o (by decide), zm_off 355 (by decide)]
      · obtain ⟨s1, s2⟩ := hS1 h1
        have k53 : μ2 355 53 = μ1 355 53 := f2.2 53 (by decide) (by decide)
        have k83 : μ2 383 = μ1 383 := f2.1 383 (by decide)
        have hnone : μ2 355 22 = 0 ↔ ¬ M j W = none := by
          rw [a2, h1]
          rcases M j W with _ | y
          · rw [(evV_n ⟨rfl, rfl⟩ rfl).2]
            exact ⟨fun q => absurd q (by decide), fun q => absurd rfl q⟩
          · rw [(evV_s ⟨rfl, rfl⟩ rfl).2]
            exact ⟨fun _ q => (by cases q), fun _ => rfl⟩
        refine ⟨?_, fun i hi => ?_⟩
        · rw [k53, hnone]
          constructor
          · rintro ⟨q1, q2⟩ i hi
            by_cases e : i = j
            · rw [e]
              exact q2
            · exact s1.mp q1 i (by omega)
          · exact fun q => ⟨s1.mpr (fun i hi => q i (by omega)), q j (by omega)⟩
        · by_cases e : i = j
          · rw [zit_t (by omega), e, h1]
            unfold evV
            rw [if_pos ⟨rfl, rfl⟩]
          · rw [zit_f (by omega), k83]
            exact s2 i (by omega)
    refine zif (fun c0 => ⟨by rw [h20]; ((try simp only [zI_e]); (first | done | omega | skip)), by omega, by omega, body (((FE_zm (Or.inl rfl))).tr (FE_zm (Or.inr rfl))) ?_ zm_s⟩) (fun c0 => ⟨by omega, by omega, body (FE_zm (Or.inr rfl)) ?_ zm_s⟩)
    · rw [zm_o (by decide), zm_s, h20, if_pos (by omega)]
      omega
    · rw [zm_o (by decide), h20, if_neg (by omega)]
      rfl
  · have hjn : j = nn := by omega
    subst hjn
    rw [hgn] at h20
    have hcp := pMT_G hQ e3 hq0.1 (show t3 ≤ Q.2.2.2 by
      unfold pTm at e2
      split at e2
      · split at e2
        · next q1 q2 =>
          have := zNlt (c := Q.1) hQ.2.1 (show Q.1 (t2 + 1) ≠ 0 by rw [q2.1]; decide)
          cases e2
          omega
        · cases e2
      · cases e2
        exact hq0.2)
    generalize hcl : ((Q.1 t - 24, kk, (w0, a2, a3, w0 + c2.length, w0 + c2.length + c4.length), m1, m2, m3, m4) : Cls) = cl
    have fin : ∀ {X : zMem}, FG μ X → Ev Q true 2400 W X → X 355 20 = 2400 + (t3 : Int) → X 355 22 = 0 → X 355 51 = kk → X 355 52 = Q.1 t → X 355 53 = μ1 355 53 → X 383 = μ1 383 → zCw d y_M_passes0 [vr 355, vi 5] X (fun q μ2 => ∃ n, q = some (vi n) ∧ if n = 0 then (¬ μ2 355 22 = 0 ∨ μ2 355 22 = 0) ∧ zI (μ2 355 20 + 1) ∧ GaR cl W live t1 μ (zm (zm (zm μ2 355 54 (zbp True)) 355 54 (zbp (μ2 355 22 = 0))) 355 20 (μ2 355 20 + 1)) else zCw d y_M_testOf [vr 355, vi live] μ2 (fun q μ2 => ∃ n, q = some (vi n) ∧ (n = 0 ∨ ¬ n = 0) ∧ (¬ (¬ n = 0 ∧ μ2 355 22 = 0) ∨ ¬ n = 0 ∧ μ2 355 22 = 0) ∧ zI (μ2 355 20 + 1) ∧ GaR cl W live t1 μ (zm (zm (zm μ2 355 54 (zbp (¬ n = 0))) 355 54 (zbp (¬ n = 0 ∧ μ2 355 22 = 0))) 355 20 (μ2 355 20 + 1)))) := by
      intro X xF xE x20 x22 x51 x52 x53 x83
      have gr : ∀ {Y : zMem} {a : Int} {b : Prop}, FE X Y → Y 355 20 = 2400 + (t1 : Int) → (live = 1 → (b ↔ hlT m4 W = true)) → GaR cl W live t1 μ (zm (zm (zm Y 355 54 a) 355 54 (zbp b)) 355 20 (Y 355 20 + 1)) := by
        intro Y a b hY y20 hb4
        refine ⟨(xF.tr hY.fg).tr ⟨(((zfc.rf (cs := [355, 368, 383])).zm (by decide)).zm (by decide)).zm (by decide), fun i p1 p2 p3 p4 p5 p6 p7 p8 => by rw [zm_o (Or.inr p1), zm_o (Or.inr p8), zm_o (Or.inr p8)]⟩, ?_, ?_, ?_, fun h1 => ⟨?_, fun h2 => ⟨?_, fun i hi => ?_⟩, fun h2 => ?_⟩⟩
        · rw [zm_o (by decide), zm_o (by decide), zm_o (by decide), hY.2 52 (by decide) (by decide), x52, ← hcl]
        · rw [zm_o (by decide), zm_o (by decide), zm_o (by decide), hY.2 51 (by decide) (by decide), x51, ← hcl]
        · rw [zm_s, y20]
        · rw [zm_o (by decide), zm_s, zbp_0, Classical.not_not, hb4 h1, ← hcl]
        · rw [zm_o (by decide), zm_o (by decide), zm_o (by decide), hY.2 53 (by decide) (by decide), x53, (hS1 h1).1]
          rw [← hcl] at h2 ⊢
          have h26 : ¬ Q.1 t = 26 := fun q => h2 (by show Q.1 t - 24 = 2; omega)
          rw [if_neg h26] at hnn
          obtain ⟨q1, q2, q3⟩ := hMm h26
          rw [← q1, ← q2, ← q3]
          unfold orB orV
          simp only [if_true, Nat.one_ne_zero, if_false, Nat.reduceEqDiff, not_or]
          constructor
          · intro z
            exact ⟨z 0 (by omega), z 1 (by omega), z 2 (by omega)⟩
          · rintro ⟨z0, z1, z2⟩ i hi
            rcases i with _ | _ | _ | i
            · exact z0
            · exact z1
            · exact z2
            · omega
        · rw [zm_off 383 (by decide), zm_off 383 (by decide), zm_off 383 (by decide), hY.1 383 (by decide), x83]
          rw [← hcl] at h2 ⊢
          have h26 : ¬ Q.1 t = 26 := fun q => h2 (by show Q.1 t - 24 = 2; omega)
          rw [if_neg h26] at hnn
          obtain ⟨q1, q2, q3⟩ := hMm h26
          rw [← q1, ← q2, ← q3, (hS1 h1).2 i (by omega)]
          unfold orG orV
          rcases i with _ | _ | _ | i
          · rfl
          · rfl
          · rfl
          · omega
        · rw [zm_o (by decide), zm_o (by decide), zm_o (by decide), hY.2 53 (by decide) (by decide), x53, (hS1 h1).1]
          rw [← hcl] at h2
          have h26 : Q.1 t = 26 := by
            have h2 : Q.1 t - 24 = 2 := h2
            omega
          rw [if_pos h26] at hnn
          exact fun i hi => absurd hi (by omega)
      refine pt_w (by omega) hQ hlv xE x20 x22 hq0.1 (by omega) e3 (fun q1 q2 => ?_) (fun m x μ4 q1 q2 q3 q4 q5 q6 q7 => ?_)
      · refine ⟨(Classical.em _).symm, by rw [x20]; ((try simp only [zI_e]); (first | done | omega | skip)), gr FE.rf (by rw [x20, q2]) (fun _ => ?_)⟩
        rw [q1]
        exact ⟨fun _ => rfl, fun _ => x22⟩
      · refine ⟨Classical.em _, (Classical.em _).symm, by rw [q4]; ((try simp only [zI_e]); (first | done | omega | skip)), gr q6 q4 (fun h1 => ?_)⟩
        rw [q1, hl_s (q3 h1), q5, h1]
    refine ep_w (by omega) hQ (Ev_g hE (zm_off 357 (by decide)) (zm_off 368 (by decide)) (zm_o (by decide)) (zm_o (by decide))) ((zm_o (by decide)).trans h20) hq0.2 (by decide) (fun c29 htn2 μ2 b1 b2 b3 b4 => ⟨_, rfl, ?_⟩) (fun c29 => ⟨_, rfl, ?_⟩)
    · rw [if_pos (by decide)]
      unfold pTm at e2
      rw [if_pos c29] at e2
      split at e2
      next q2 =>
        have htt := zNlt (c := Q.1) hQ.2.1 (show Q.1 (t2 + 1) ≠ 0 by rw [q2.1]; decide)
        cases e2
        have hv := (b1.2.1 _ htt).2
        rw [b2, hv]
        refine ⟨by ((try simp only [zI_e]); (first | done | omega | skip)), by ((try simp only [zI_e]); (first | done | omega | skip)), ?_⟩
        refine fin ((hF.tr ⟨(zfc.rf (cs := [355, 368, 383])).zm (by decide), fun i p1 p2 p3 p4 p5 p6 p7 p8 => zm_o (Or.inr p5)⟩).tr (b4.fg.tr ⟨(((zfc.rf (cs := [355, 368, 383])).zm (by decide)).zm (by decide)).zm (by decide), fun i p1 p2 p3 p4 p5 p6 p7 p8 => by rw [zm_o (Or.inr p3), zm_o (Or.inr p1), zm_o (Or.inr p5)]⟩)) (Ev_g b1 ?_ ?_ ?_ ?_) ?_ zm_s ?_ ?_ ?_ ?_
        · rw [zm_off 357 (by decide), zm_off 357 (by decide), zm_off 357 (by decide)]
        · rw [zm_off 368 (by decide), zm_off 368 (by decide), zm_off 368 (by decide)]
        · rw [zm_o (by decide), zm_o (by decide), zm_o (by decide)]
        · rw [zm_o (by decide), zm_o (by decide), zm_o (by decide)]
        · rw [zm_o (by decide), zm_s]
          omega
        · rw [zm_o (by decide), zm_o (by decide), zm_s]
        · rw [zm_o (by decide), zm_o (by decide), zm_o (by decide), b4.2 52 (by decide) (by decide), zm_o (by decide)]
          exact h52
        · rw [zm_o (by decide), zm_o (by decide), zm_o (by decide), b4.2 53 (by decide) (by decide), zm_o (by decide)]
        · rw [zm_off 383 (by decide), zm_off 383 (by decide), zm_off 383 (by decide), b4.1 383 (by decide), zm_off 383 (by decide)]
      next => cases e2
    · rw [if_neg (by decide)]
      unfold pTm at e2
      rw [if_neg c29] at e2
      cases e2
      refine fin (hF.tr ⟨((zfc.rf (cs := [355, 368, 383])).zm (by decide)).zm (by decide), fun i p1 p2 p3 p4 p5 p6 p7 p8 => by rw [zm_o (Or.inr p3), zm_o (Or.inr p5)]⟩) (Ev_g hE ?_ ?_ ?_ ?_) ?_ zm_s ?_ ?_ ?_ ?_
      · rw [zm_off 357 (by decide), zm_off 357 (by decide)]
      · rw [zm_off 368 (by decide), zm_off 368 (by decide)]
      · rw [zm_o (by decide), zm_o (by decide)]
      · rw [zm_o (by decide), zm_o (by decide)]
      · rw [zm_o (by decide), zm_o (by decide)]
        exact h20
      · rw [zm_o (by decide), zm_s]
      · rw [zm_o (by decide), zm_o (by decide)]
        exact h52
      · rw [zm_o (by decide), zm_o (by decide)]
      · rw [zm_off 383 (by decide), zm_off 383 (by decide)]

