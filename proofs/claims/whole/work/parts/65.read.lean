/-! the reader reads a text -/
def pcO (o : Bool) (c v : Nat → Int) : Nat → Nat → Nat → PcR := if o = true then pOrdC c v else pLawC c v
theorem pMT_PG {B : Int → Int} {n t l w t1 l1 : Nat} {o : Bool} {mt : Option Mn} {cd : List Int} (e : pMT o (cT B n) (vT B n) t l w = (t1, some (l1, mt, cd))) (hl : l ≤ 50) (ht : t ≤ n) : l1 ≤ 50 ∧ t1 ≤ n ∧ t ≤ t1 ∧ l ≤ l1 ∧ cd.length + NT (cT B n) t + 2 * l ≤ 2 * l1 + NT (cT B n) t1 := by
  have hN : ∀ u, n ≤ u → cT B n u = 0 := fun u hu => cT_N u hu
  unfold pMT at e
  split at e
  · next q =>
    have hlt := zNlt (c := cT B n) hN (show cT B n t ≠ 0 by rw [q]; decide)
    have hm := NT_mono (c := cT B n) (t := t) 1
    rcases e1 : lvT o (cT B n) (vT B n) 8 (t + 1) l w with ⟨t2, _ | ⟨l2, m2, c2⟩⟩
    · rw [e1] at e
      cases e
    rw [e1] at e
    have g := (PG_T (o := o) (v := vT B n) hN 8 (t + 1) l w hl hlt).2 _ _ _ _ e1
    cases e
    omega
  · cases e
    simp only [List.length_nil]
    omega
theorem pcO_PG {B : Int → Int} {n t l w t1 l1 : Nat} {o : Bool} {cl : Cls} {cd : List Int} (e : pcO o (cT B n) (vT B n) t l w = (t1, some (l1, cl, cd))) (hl : l ≤ 50) (ht : t ≤ n) : l1 ≤ 50 ∧ t1 ≤ n ∧ t < t1 ∧ l ≤ l1 ∧ cd.length + NT (cT B n) t + 2 * l ≤ 2 * l1 + NT (cT B n) t1 := by
  have hN : ∀ u, n ≤ u → cT B n u = 0 := fun u hu => cT_N u hu
  have hm := NT_mono (c := cT B n) (t := t) 1
  unfold pcO at e
  cases o with
  | true =>
    rw [if_pos rfl] at e
    unfold pOrdC at e
    split at e
    next q =>
      have hlt := zNlt (c := cT B n) hN (show cT B n t ≠ 0 by omega)
      rcases e1 : p3O (cT B n) (vT B n) t l w with ⟨t2, _ | ⟨l2, ⟨a2, a3⟩, ⟨m1, m2, m3⟩, c2⟩⟩
      · rw [e1] at e
        cases e
      rw [e1] at e
      simp only at e
      have g1 : l2 ≤ 50 ∧ t2 ≤ n ∧ t < t2 ∧ l ≤ l2 ∧ c2.length + NT (cT B n) t + 2 * l ≤ 2 * l2 + NT (cT B n) t2 := by
        unfold p3O at e1
        split at e1
        · cases e1
          simp only [List.length_nil]
          omega
        · have := p3S_PG e1 hl hlt
          omega
      rcases e2 : pTm (cT B n) (vT B n) t2 with ⟨t3, _ | k⟩
      · rw [e2] at e
        cases e
      rw [e2] at e
      simp only at e
      have ht2 : t2 ≤ t3 ∧ t3 ≤ n := by
        unfold pTm at e2
        split at e2
        · split at e2
          · next q50 =>
            cases e2
            have := zNlt (c := cT B n) hN (show cT B n (t2 + 1) ≠ 0 by rw [q50.1]; decide)
            omega
          · cases e2
        · cases e2
          omega
      have hm3 := NT_le (c := cT B n) ht2.1
      rcases e3 : pMT true (cT B n) (vT B n) t3 l2 (w + c2.length) with ⟨t4, _ | ⟨l4, m4, c4⟩⟩
      · rw [e3] at e
        cases e
      rw [e3] at e
      have g3 := pMT_PG e3 g1.1 ht2.2
      cases e
      rw [List.length_append]
      omega
    next => cases e
  | false =>
    rw [if_neg (by decide)] at e
    unfold pLawC at e
    split at e
    next q =>
      have hlt := zNlt (c := cT B n) hN (show cT B n t ≠ 0 by omega)
      rcases e1 : pLw (cT B n) (vT B n) t l w with ⟨t2, _ | ⟨l2, m2, c2⟩⟩
      · rw [e1] at e
        cases e
      rw [e1] at e
      simp only at e
      have g1 : l2 ≤ 50 ∧ t2 ≤ n ∧ t < t2 ∧ l ≤ l2 ∧ c2.length + NT (cT B n) t + 2 * l ≤ 2 * l2 + NT (cT B n) t2 := by
        unfold pLw at e1
        split at e1
        · cases e1
          simp only [List.length_nil]
          omega
        · have := (PG_S (o := false) (v := vT B n) hN 8 (t + 1) l w hl hlt).2 _ _ _ _ e1
          omega
      rcases e3 : pMT false (cT B n) (vT B n) t2 l2 (w + c2.length) with ⟨t4, _ | ⟨l4, m4, c4⟩⟩
      · rw [e3] at e
        cases e
      rw [e3] at e
      have g3 := pMT_PG e3 g1.1 g1.2.1
      cases e
      rw [List.length_append]
      omega
    next => cases e
def lCat (cs : List Cls) (cc : List Int) (R : Nat × Option (List Cls × List Int)) : Nat × Option (List Cls × List Int) := match R with
  | (t, none) => (t, none)
  | (t, some (a, b)) => (t, some (cs ++ a, cc ++ b))
theorem lCat_cat {cs cs2 : List Cls} {cc c2 : List Int} {R : Nat × Option (List Cls × List Int)} : lCat cs cc (lCat cs2 c2 R) = lCat (cs ++ cs2) (cc ++ c2) R := by
  rcases R with ⟨t, _ | ⟨a, b⟩⟩
  · rfl
  · show (t, some (cs ++ (cs2 ++ a), cc ++ (c2 ++ b))) = (t, some (cs ++ cs2 ++ a, cc ++ c2 ++ b))
    rw [List.append_assoc, List.append_assoc]
theorem pCls_n {c : Nat → Int} {fin : Nat → Bool} {pc : Nat → Nat → Nat → PcR} {f t l w t1 : Nat} (h : pc t l w = (t1, none)) : pCls c fin pc (f + 1) t l w = (t1, none) := by
  rw [pCls, h]
theorem pCls_s {c : Nat → Int} {fin : Nat → Bool} {pc : Nat → Nat → Nat → PcR} {f t l w t1 l1 : Nat} {cl : Cls} {c1 : List Int} (h : pc t l w = (t1, some (l1, cl, c1))) (h2 : c t1 = 159) : pCls c fin pc (f + 1) t l w = lCat [cl] c1 (pCls c fin pc f (t1 + 1) l1 (w + c1.length)) := by
  rw [pCls, h]
  simp only
  rw [if_pos h2]
  rfl
theorem pCls_e {c : Nat → Int} {fin : Nat → Bool} {pc : Nat → Nat → Nat → PcR} {f t l w t1 l1 : Nat} {cl : Cls} {c1 : List Int} (h : pc t l w = (t1, some (l1, cl, c1))) (h2 : ¬ c t1 = 159) : pCls c fin pc (f + 1) t l w = if fin t1 = true then (t1, some ([cl], c1)) else (t1, none) := by
  rw [pCls, h]
  simp only
  rw [if_neg h2]
theorem Hd_c {o : Bool} {p p' : Int → Int} {k : Int} {cl : Cls} (h : Hd o p k cl) (hc : ∀ i : Int, hd_in k i → p' i = p i) : Hd o p' k cl := by
  obtain ⟨a1, a2, a3, a4, a5, a6⟩ := h
  unfold hd_in at hc
  refine ⟨by rw [hc _ (by omega)]; exact a1, fun q => by rw [hc _ (by omega)]; exact a2 q, fun q => ⟨by rw [hc _ (by omega)]; exact (a3 q).1, by rw [hc _ (by omega)]; exact (a3 q).2⟩, fun q q2 => by rw [hc _ (by omega)]; exact a4 q q2, by rw [hc _ (by omega)]; exact a5, by rw [hc _ (by omega)]; exact a6⟩
theorem PSt_323 {B : Int → Int} {n : Nat} {o : Bool} {t l w : Nat} {μ : zMem} {i v : Int} (h : PSt B n o t l w μ) : PSt B n o t l w (zm μ 323 i v) := by
  refine ⟨RD_c h.1 (zm_off 322 (by decide)) (fun j hj => ?_), ?_, ?_, ?_⟩
  · rw [zm_off 321 (by decide)]
  · rw [zm_off 321 (by decide)]
    exact h.2.1
  · rw [zm_off 321 (by decide)]
    exact h.2.2.1
  · rw [zm_off 321 (by decide)]
    exact h.2.2.2
theorem fp_6_4 : zFp 6 4 1 := ⟨_, rfl, rfl, rfl, by decide⟩
theorem m_Re_orderClause : Cond.instanceMethod y_Re_orderClause.1 ∈ zTb ∧ Cond.selects y_Re_orderClause.1.cls y_Re_orderClause.1 y_Re_orderClause.1 ∈ zTb ∧ Cond.initialized y_Re_orderClause.1.cls ∈ zTb ∧ Cond.code y_Re_orderClause.1 y_Re_orderClause.2.1 y_Re_orderClause.2.2.1 y_Re_orderClause.2.2.2 ∈ zTb ∧ (y_Re_orderClause.1.cls ≠ "java/lang/invoke/MethodHandle" ∧ y_Re_orderClause.1.cls ≠ "java/lang/invoke/VarHandle" ∧ (parseMethodDescriptor y_Re_orderClause.1.desc).map (fun d => d.parameters.length) = some 1) ∧ y_Re_orderClause.2.2.1 ≤ 20 :=
  ⟨(zTb_in 753 (by decide +kernel) (by decide +kernel)), (List.mem_filter.mpr ⟨List.mem_append_left _ (by decide +kernel), by decide +kernel⟩), (zTb_in 143 (by decide +kernel) (by decide +kernel)), (zTb_in 754 (by decide +kernel) (by decide +kernel)), by decide +kernel, by decide +kernel⟩
theorem lv_Re_41 : zLv "DebtDoors$Reader" 41 y_Re_orderClause 1 6 := ⟨⟨(zTb_in 751 (by decide +kernel) (by decide +kernel)), m_Re_orderClause.1, m_Re_orderClause.2.1, m_Re_orderClause.2.2⟩, _, rfl, rfl⟩
theorem m_Re_lawClause : Cond.instanceMethod y_Re_lawClause.1 ∈ zTb ∧ Cond.selects y_Re_lawClause.1.cls y_Re_lawClause.1 y_Re_lawClause.1 ∈ zTb ∧ Cond.initialized y_Re_lawClause.1.cls ∈ zTb ∧ Cond.code y_Re_lawClause.1 y_Re_lawClause.2.1 y_Re_lawClause.2.2.1 y_Re_lawClause.2.2.2 ∈ zTb ∧ (y_Re_lawClause.1.cls ≠ "java/lang/invoke/MethodHandle" ∧ y_Re_lawClause.1.cls ≠ "java/lang/invoke/VarHandle" ∧ (parseMethodDescriptor y_Re_lawClause.1.desc).map (fun d => d.parameters.length) = some 1) ∧ y_Re_lawClause.2.2.1 ≤ 20 :=
  ⟨(zTb_in 897 (by decide +kernel) (by decide +kernel)), (List.mem_filter.mpr ⟨List.mem_append_left _ (by decide +kernel), by decide +kernel⟩), (zTb_in 143 (by decide +kernel) (by decide +kernel)), (zTb_in 898 (by decide +kernel) (by decide +kernel)), by decide +kernel, by decide +kernel⟩
theorem lv_Re_45 : zLv "DebtDoors$Reader" 45 y_Re_lawClause 1 6 := ⟨⟨(zTb_in 895 (by decide +kernel) (by decide +kernel)), m_Re_lawClause.1, m_Re_lawClause.2.1, m_Re_lawClause.2.2⟩, _, rfl, rfl⟩
def y_Re_read : zMt := (⟨"DebtDoors$Reader", "read", "(Z)Z"⟩, prog_8_method_3_code, 3, some .boolean)
theorem d_Re_read_0 : decode prog_8_method_3_code 0 = .ok (.aload_n 0, 1) := by decide +kernel
theorem d_Re_read_1 : decode prog_8_method_3_code 1 = .ok (.iload_n 1, 1) := by decide +kernel
theorem d_Re_read_2 : decode prog_8_method_3_code 2 = .ok (.putfield 25, 3) := by decide +kernel
theorem d_Re_read_5 : decode prog_8_method_3_code 5 = .ok (.aload_n 0, 1) := by decide +kernel
theorem d_Re_read_6 : decode prog_8_method_3_code 6 = .ok (.iconst (-1), 1) := by decide +kernel
theorem d_Re_read_7 : decode prog_8_method_3_code 7 = .ok (.putfield 18, 3) := by decide +kernel
theorem d_Re_read_10 : decode prog_8_method_3_code 10 = .ok (.aload_n 0, 1) := by decide +kernel
theorem d_Re_read_11 : decode prog_8_method_3_code 11 = .ok (.bipush 85, 2) := by decide +kernel
theorem d_Re_read_13 : decode prog_8_method_3_code 13 = .ok (.putfield 29, 3) := by decide +kernel
theorem d_Re_read_16 : decode prog_8_method_3_code 16 = .ok (.aload_n 0, 1) := by decide +kernel
theorem d_Re_read_17 : decode prog_8_method_3_code 17 = .ok (.iconst 0, 1) := by decide +kernel
theorem d_Re_read_18 : decode prog_8_method_3_code 18 = .ok (.putfield 32, 3) := by decide +kernel
theorem d_Re_read_21 : decode prog_8_method_3_code 21 = .ok (.aload_n 0, 1) := by decide +kernel
theorem d_Re_read_22 : decode prog_8_method_3_code 22 = .ok (.iconst 0, 1) := by decide +kernel
theorem d_Re_read_23 : decode prog_8_method_3_code 23 = .ok (.putfield 35, 3) := by decide +kernel
theorem d_Re_read_26 : decode prog_8_method_3_code 26 = .ok (.aload_n 0, 1) := by decide +kernel
theorem d_Re_read_27 : decode prog_8_method_3_code 27 = .ok (.invokevirtual 38, 3) := by decide +kernel
theorem d_Re_read_30 : decode prog_8_method_3_code 30 = .ok (.iconst 0, 1) := by decide +kernel
theorem d_Re_read_31 : decode prog_8_method_3_code 31 = .ok (.istore_n 2, 1) := by decide +kernel
theorem d_Re_read_32 : decode prog_8_method_3_code 32 = .ok (.iload_n 2, 1) := by decide +kernel
theorem d_Re_read_33 : decode prog_8_method_3_code 33 = .ok (.bipush 12, 2) := by decide +kernel
theorem d_Re_read_35 : decode prog_8_method_3_code 35 = .ok (.if_icmp .ge 79, 3) := by decide +kernel
theorem d_Re_read_38 : decode prog_8_method_3_code 38 = .ok (.aload_n 0, 1) := by decide +kernel
theorem d_Re_read_39 : decode prog_8_method_3_code 39 = .ok (.getfield 25, 3) := by decide +kernel
theorem d_Re_read_42 : decode prog_8_method_3_code 42 = .ok (.ifCond .eq 14, 3) := by decide +kernel
theorem d_Re_read_45 : decode prog_8_method_3_code 45 = .ok (.aload_n 0, 1) := by decide +kernel
theorem d_Re_read_46 : decode prog_8_method_3_code 46 = .ok (.iload_n 2, 1) := by decide +kernel
theorem d_Re_read_47 : decode prog_8_method_3_code 47 = .ok (.invokevirtual 41, 3) := by decide +kernel
theorem d_Re_read_50 : decode prog_8_method_3_code 50 = .ok (.ifCond .eq 14, 3) := by decide +kernel
theorem d_Re_read_53 : decode prog_8_method_3_code 53 = .ok (.goto 13, 3) := by decide +kernel
theorem d_Re_read_56 : decode prog_8_method_3_code 56 = .ok (.aload_n 0, 1) := by decide +kernel
theorem d_Re_read_57 : decode prog_8_method_3_code 57 = .ok (.iload_n 2, 1) := by decide +kernel
theorem d_Re_read_58 : decode prog_8_method_3_code 58 = .ok (.invokevirtual 45, 3) := by decide +kernel
theorem d_Re_read_61 : decode prog_8_method_3_code 61 = .ok (.ifCond .ne 5, 3) := by decide +kernel
theorem d_Re_read_64 : decode prog_8_method_3_code 64 = .ok (.iconst 0, 1) := by decide +kernel
theorem d_Re_read_65 : decode prog_8_method_3_code 65 = .ok (.ireturn, 1) := by decide +kernel
theorem d_Re_read_66 : decode prog_8_method_3_code 66 = .ok (.aload_n 0, 1) := by decide +kernel
theorem d_Re_read_67 : decode prog_8_method_3_code 67 = .ok (.getfield 15, 3) := by decide +kernel
theorem d_Re_read_70 : decode prog_8_method_3_code 70 = .ok (.iconst 0, 1) := by decide +kernel
theorem d_Re_read_71 : decode prog_8_method_3_code 71 = .ok (.iload_n 2, 1) := by decide +kernel
theorem d_Re_read_72 : decode prog_8_method_3_code 72 = .ok (.iconst 1, 1) := by decide +kernel
theorem d_Re_read_73 : decode prog_8_method_3_code 73 = .ok (.iadd, 1) := by decide +kernel
theorem d_Re_read_74 : decode prog_8_method_3_code 74 = .ok (.iastore, 1) := by decide +kernel
theorem d_Re_read_75 : decode prog_8_method_3_code 75 = .ok (.aload_n 0, 1) := by decide +kernel
theorem d_Re_read_76 : decode prog_8_method_3_code 76 = .ok (.bipush 59, 2) := by decide +kernel
theorem d_Re_read_78 : decode prog_8_method_3_code 78 = .ok (.invokevirtual 48, 3) := by decide +kernel
theorem d_Re_read_81 : decode prog_8_method_3_code 81 = .ok (.ifCond .ne 23, 3) := by decide +kernel
theorem d_Re_read_84 : decode prog_8_method_3_code 84 = .ok (.aload_n 0, 1) := by decide +kernel
theorem d_Re_read_85 : decode prog_8_method_3_code 85 = .ok (.getfield 51, 3) := by decide +kernel
theorem d_Re_read_88 : decode prog_8_method_3_code 88 = .ok (.ifCond .eq 10, 3) := by decide +kernel
theorem d_Re_read_91 : decode prog_8_method_3_code 91 = .ok (.aload_n 0, 1) := by decide +kernel
theorem d_Re_read_92 : decode prog_8_method_3_code 92 = .ok (.invokevirtual 54, 3) := by decide +kernel
theorem d_Re_read_95 : decode prog_8_method_3_code 95 = .ok (.ifCond .eq 7, 3) := by decide +kernel
theorem d_Re_read_98 : decode prog_8_method_3_code 98 = .ok (.iconst 1, 1) := by decide +kernel
theorem d_Re_read_99 : decode prog_8_method_3_code 99 = .ok (.goto 4, 3) := by decide +kernel
theorem d_Re_read_102 : decode prog_8_method_3_code 102 = .ok (.iconst 0, 1) := by decide +kernel
theorem d_Re_read_103 : decode prog_8_method_3_code 103 = .ok (.ireturn, 1) := by decide +kernel
theorem d_Re_read_104 : decode prog_8_method_3_code 104 = .ok (.aload_n 0, 1) := by decide +kernel
theorem d_Re_read_105 : decode prog_8_method_3_code 105 = .ok (.invokevirtual 38, 3) := by decide +kernel
theorem d_Re_read_108 : decode prog_8_method_3_code 108 = .ok (.iinc 2 1, 3) := by decide +kernel
theorem d_Re_read_111 : decode prog_8_method_3_code 111 = .ok (.goto (-79), 3) := by decide +kernel
theorem d_Re_read_114 : decode prog_8_method_3_code 114 = .ok (.aload_n 0, 1) := by decide +kernel
theorem d_Re_read_115 : decode prog_8_method_3_code 115 = .ok (.invokevirtual 54, 3) := by decide +kernel
theorem d_Re_read_118 : decode prog_8_method_3_code 118 = .ok (.ireturn, 1) := by decide +kernel
def w_Re_read {d : Nat} (hd : 2 ≤ d) := (show SS ("DebtDoors$Reader", prog_8_method_3_code, 3) (some .boolean) d 0 0 0 0 _ from (sS (p1 := 5) (sP 4 fl_Re_25 fp_6_4 nk_6_4 (rAn 0 d_Re_read_0 rfl) (xE (rIn 1 d_Re_read_1 rfl)) d_Re_read_2 rfl) (sS (p1 := 10) (sP 3 fl_Re_18 fp_6_3 nk_6_3 (rAn 0 d_Re_read_5 rfl) (xE (rI d_Re_read_6 rfl)) d_Re_read_7 rfl) (sS (p1 := 16) (sP 5 fl_Re_29 fp_6_5 nk_6_5 (rAn 0 d_Re_read_10 rfl) (xE (rB d_Re_read_11 rfl)) d_Re_read_13 rfl) (sS (p1 := 21) (sP 6 fl_Re_32 fp_6_6 nk_6_6 (rAn 0 d_Re_read_16 rfl) (xE (rI d_Re_read_17 rfl)) d_Re_read_18 rfl) (sS (p1 := 26) (sP 9 fl_Re_35 fp_6_9 nk_6_9 (rAn 0 d_Re_read_21 rfl) (xE (rI d_Re_read_22 rfl)) d_Re_read_23 rfl) (sS (p1 := 30) (sV (xVv lv_Re_38 (xA (rAr rA0 (rAn 0 d_Re_read_26 rfl))) (by decide) d_Re_read_27)) (sS (p1 := 114) (sS (p1 := 32) (sIn 2 (xE (rI d_Re_read_30 rfl)) d_Re_read_31 rfl (by decide)) (sLp (ps := 108) (tt := 38) (pn := 114) (p1 := 0) (p2 := 0) (xC (rNot (rJ2 (tgt := 114) j_ge (rIn 2 d_Re_read_32 rfl) (rB d_Re_read_33 rfl) d_Re_read_35 (by decide)))) (sS (p1 := 66) (sIf (pn := 66) (tt := 64) (xNot (xTc (mm := 45) (p1 := 56) (xC (rNot (rJ1 (tgt := 56) k_eq (rF 4 fl_Re_25 nk_6_4 (rAn 0 d_Re_read_38 rfl) d_Re_read_39 rfl) d_Re_read_42 (by decide)))) (xGt (p2 := 66) (xNot (xJ1 (tgt := 64) k_eq (xV lv_Re_41 (xA (rAi (rAr rA0 (rAn 0 d_Re_read_45 rfl)) (rIn 2 d_Re_read_46 rfl))) (by decide) d_Re_read_47) d_Re_read_50 (by decide))) d_Re_read_53 (by decide)) (xJ1 (tgt := 66) k_ne (xV lv_Re_45 (xA (rAi (rAr rA0 (rAn 0 d_Re_read_56 rfl)) (rIn 2 d_Re_read_57 rfl))) (by decide) d_Re_read_58) d_Re_read_61 (by decide)))) (sRz (xE (rI d_Re_read_64 rfl)) d_Re_read_65 rfl)) (sS (p1 := 75) (sAs (rFr fl_Re_15 nk_6_1 (rAn 0 d_Re_read_66 rfl) d_Re_read_67) (rI d_Re_read_70 rfl) (xE (r2 o_add (rIn 2 d_Re_read_71 rfl) (rI d_Re_read_72 rfl) d_Re_read_73)) d_Re_read_74) (sS (p1 := 104) (sIf (pn := 104) (tt := 84) (xC (rNot (rJ1 (tgt := 104) k_ne (rV p_Re_isSign (Nat.le_trans (Nat.le_of_ble_eq_true rfl) hd) lv_Re_48 (rAi (rAr rA0 (rAn 0 d_Re_read_75 rfl)) (rB d_Re_read_76 rfl)) (by decide) d_Re_read_78) d_Re_read_81 (by decide)))) (sRz (xTb (xOr (mm := 91) (xC (rJ1 (tgt := 98) k_eq (rF 7 fl_Re_51 nk_6_7 (rAn 0 d_Re_read_84 rfl) d_Re_read_85 rfl) d_Re_read_88 (by decide))) (xNot (xJ1 (tgt := 102) k_eq (xV lv_Re_54 (xA (rAr rA0 (rAn 0 d_Re_read_91 rfl))) (by decide) d_Re_read_92) d_Re_read_95 (by decide)))) (rGoE (p2 := 103) (rI d_Re_read_98 rfl) d_Re_read_99 (by decide)) (rI d_Re_read_102 rfl)) d_Re_read_103 rfl)) (sV (xVv lv_Re_38 (xA (rAr rA0 (rAn 0 d_Re_read_104 rfl))) (by decide) d_Re_read_105))))) (sGo (pn := 32) (sInc d_Re_read_108 (by decide)) d_Re_read_111 (by decide)))) (sRz (xV lv_Re_54 (xA (rAr rA0 (rAn 0 d_Re_read_114 rfl))) (by decide) d_Re_read_115) d_Re_read_118 rfl)))))))))
def GR (o : Bool) (μ : zMem) (_ : Nat) (a : List Cls × List Int) (μ' : zMem) : Prop := μ' 321 3 = -1 ∧ μ' 323 0 = ((a.1.length : Nat) : Int) ∧ (∀ (j : Nat) (cl : Cls), a.1[j]? = some cl → Hd o (μ' 323) j cl) ∧ Seg (μ' 323) 85 a.2 ∧ a.1.length ≤ 12 ∧ zfc [321, 323] μ μ' ∧ μ' 321 2 = μ 321 2
def BR (B : Int → Int) (n : Nat) (μ : zMem) (t : Nat) (μ' : zMem) : Prop := μ' 321 3 = (ps B n t : Int) ∧ zfc [321, 323] μ μ' ∧ μ' 321 2 = μ 321 2
theorem q_Re_read {d : Nat} (hd : 50 ≤ d) {μ : zMem} {B : Int → Int} {n : Nat} {o : Bool} {x : Int} (hx : x = if o = true then 1 else 0) (hB : okB B n) (h1 : μ 322 = B) (h2 : μ 321 2 = (n : Int)) : zSp d 0 0 y_Re_read zT0 [vr 321, vi x] μ zT0 (RQ (pCls (cT B n) (fun t => decide (n ≤ ps B n t)) (pcO o (cT B n) (vT B n)) 12 0 0 85) (BR B n μ) (GR o μ)) := by
  have hB1 := hB.1
  refine zSp.ss [vr 321, vi x, vx 0] rfl (w_Re_read (Nat.le_trans (by decide) hd)) rfl rfl ?_
  (try simp only [zit_e, Bool.and_eq_true, Bool.or_eq_true, Bool.not_eq_true', Bool.and_eq_false_iff, Bool.or_eq_false_iff, Bool.not_eq_false', zbe, zdt, zdf, zb2_p, zbp_0, zbp_1, zbp_inj, zbp_01, Bool.true_eq_false, Bool.false_eq_true, true_and, and_true, Decidable.not_not, Classical.not_not, implies_true, List.nil_append, List.cons_append, List.append_assoc, Option.some.injEq, Sum.inl.injEq, zSw_c, zSw_n]); (try simp only [zit_e, Bool.and_eq_true, Bool.or_eq_true, Bool.not_eq_true', Bool.and_eq_false_iff, Bool.or_eq_false_iff, Bool.not_eq_false', zbe, zdt, zdf, zb2_p, zbp_0, zbp_1, zbp_inj, zbp_01, Bool.true_eq_false, Bool.false_eq_true, true_and, and_true, Decidable.not_not, Classical.not_not, implies_true, List.nil_append, List.cons_append, List.append_assoc, Option.some.injEq, Sum.inl.injEq, zSw_c, zSw_n, zc_321, f_Re_isSign, g_Re_isSign]); (try simp only [zi_cs, zi_c0, zii_cs, zii_c0, zl_cs, zl_c0, zll_cs, zll_c0, zr_cs, zr_c0, zrr_cs, zrr_c0, zxs_cs, zxs_c0, zxx_cs, zxx_c0, zfree_c0, zfree_c1, zfree_cs, zfree_cz, zlong_i, zlong_r, zlong_x, zset_0, zset_s, true_and, and_true, Option.some.injEq, Sum.inl.injEq, Sum.inr.injEq, zb2_p, zbp_0, zbp_1, zbp_inj, zbp_01, Nat.zero_add, Nat.reduceAdd, implies_true, List.nil_append, List.cons_append, List.append_assoc, Int.not_lt, Int.not_le, Decidable.not_not, Int.zero_add, Int.reduceLE, Int.reduceLT, Int.reduceEq, Int.reduceNe, Int.reduceAdd, Int.reduceSub, Int.reduceMul, Int.reduceNeg, Int.reduceToNat, Nat.reduceMul, Nat.reduceLT, Nat.reduceEqDiff, and_self, ite_true, ite_false, zx1, zx2, zRecv, List.length_cons, List.length_nil, ne_eq, not_true_eq_false, not_false_eq_true, true_or, or_true, or_false, false_or, and_false, false_and, zf01, zf10, reduceCtorEq, zSw_c, zSw_n, zm_r, zit_T, zit_F, false_implies, true_implies, zc_321, f_Re_isSign, g_Re_isSign])
  refine ⟨by rw [hx]; cases o <;> simp, ?_⟩
  refine zCw.use (q_Re_next0 (d := 4) (k := 0) (by decide) hB (by rw [zm_off 322 (by decide), zm_off 322 (by decide), zm_off 322 (by decide), zm_off 322 (by decide), zm_off 322 (by decide)]; exact h1) (by simp only [zi_cs, zi_c0, zii_cs, zii_c0, zl_cs, zl_c0, zll_cs, zll_c0, zr_cs, zr_c0, zrr_cs, zrr_c0, zxs_cs, zxs_c0, zxx_cs, zxx_c0, zfree_c0, zfree_c1, zfree_cs, zfree_cz, zlong_i, zlong_r, zlong_x, zset_0, zset_s, true_and, and_true, Option.some.injEq, Sum.inl.injEq, Sum.inr.injEq, zb2_p, zbp_0, zbp_1, zbp_inj, zbp_01, Nat.zero_add, Nat.reduceAdd, implies_true, List.nil_append, List.cons_append, List.append_assoc, Int.not_lt, Int.not_le, Decidable.not_not, Int.zero_add, Int.reduceLE, Int.reduceLT, Int.reduceEq, Int.reduceNe, Int.reduceAdd, Int.reduceSub, Int.reduceMul, Int.reduceNeg, Int.reduceToNat, Nat.reduceMul, Nat.reduceLT, Nat.reduceEqDiff, and_self, ite_true, ite_false, zx1, zx2, zRecv, List.length_cons, List.length_nil, ne_eq, not_true_eq_false, not_false_eq_true, true_or, or_true, or_false, false_or, and_false, false_and, zf01, zf10, reduceCtorEq, zSw_c, zSw_n, zm_r, zit_T, zit_F, false_implies, true_implies]; exact h2) zm_s (Nat.zero_le _)) (by omega) (fun r μ0 e => ?_)
  obtain ⟨rfl, e1, e2, e3⟩ := e
  refine ⟨rfl, ?_⟩
  have hP0 : PSt B n o 0 0 85 μ0 := by
    refine ⟨e1, ?_, ?_, ?_, ?_⟩
    · rw [e2 6 (by decide)]
      simp only [zi_cs, zi_c0, zii_cs, zii_c0, zl_cs, zl_c0, zll_cs, zll_c0, zr_cs, zr_c0, zrr_cs, zrr_c0, zxs_cs, zxs_c0, zxx_cs, zxx_c0, zfree_c0, zfree_c1, zfree_cs, zfree_cz, zlong_i, zlong_r, zlong_x, zset_0, zset_s, true_and, and_true, Option.some.injEq, Sum.inl.injEq, Sum.inr.injEq, zb2_p, zbp_0, zbp_1, zbp_inj, zbp_01, Nat.zero_add, Nat.reduceAdd, implies_true, List.nil_append, List.cons_append, List.append_assoc, Int.not_lt, Int.not_le, Decidable.not_not, Int.zero_add, Int.reduceLE, Int.reduceLT, Int.reduceEq, Int.reduceNe, Int.reduceAdd, Int.reduceSub, Int.reduceMul, Int.reduceNeg, Int.reduceToNat, Nat.reduceMul, Nat.reduceLT, Nat.reduceEqDiff, and_self, ite_true, ite_false, zx1, zx2, zRecv, List.length_cons, List.length_nil, ne_eq, not_true_eq_false, not_false_eq_true, true_or, or_true, or_false, false_or, and_false, false_and, zf01, zf10, reduceCtorEq, zSw_c, zSw_n, zm_r, zit_T, zit_F, false_implies, true_implies]
      rfl
    · rw [e2 5 (by decide)]
      simp only [zi_cs, zi_c0, zii_cs, zii_c0, zl_cs, zl_c0, zll_cs, zll_c0, zr_cs, zr_c0, zrr_cs, zrr_c0, zxs_cs, zxs_c0, zxx_cs, zxx_c0, zfree_c0, zfree_c1, zfree_cs, zfree_cz, zlong_i, zlong_r, zlong_x, zset_0, zset_s, true_and, and_true, Option.some.injEq, Sum.inl.injEq, Sum.inr.injEq, zb2_p, zbp_0, zbp_1, zbp_inj, zbp_01, Nat.zero_add, Nat.reduceAdd, implies_true, List.nil_append, List.cons_append, List.append_assoc, Int.not_lt, Int.not_le, Decidable.not_not, Int.zero_add, Int.reduceLE, Int.reduceLT, Int.reduceEq, Int.reduceNe, Int.reduceAdd, Int.reduceSub, Int.reduceMul, Int.reduceNeg, Int.reduceToNat, Nat.reduceMul, Nat.reduceLT, Nat.reduceEqDiff, and_self, ite_true, ite_false, zx1, zx2, zRecv, List.length_cons, List.length_nil, ne_eq, not_true_eq_false, not_false_eq_true, true_or, or_true, or_false, false_or, and_false, false_and, zf01, zf10, reduceCtorEq, zSw_c, zSw_n, zm_r, zit_T, zit_F, false_implies, true_implies]
      rfl
    · rw [e2 4 (by decide)]
      simp only [zi_cs, zi_c0, zii_cs, zii_c0, zl_cs, zl_c0, zll_cs, zll_c0, zr_cs, zr_c0, zrr_cs, zrr_c0, zxs_cs, zxs_c0, zxx_cs, zxx_c0, zfree_c0, zfree_c1, zfree_cs, zfree_cz, zlong_i, zlong_r, zlong_x, zset_0, zset_s, true_and, and_true, Option.some.injEq, Sum.inl.injEq, Sum.inr.injEq, zb2_p, zbp_0, zbp_1, zbp_inj, zbp_01, Nat.zero_add, Nat.reduceAdd, implies_true, List.nil_append, List.cons_append, List.append_assoc, Int.not_lt, Int.not_le, Decidable.not_not, Int.zero_add, Int.reduceLE, Int.reduceLT, Int.reduceEq, Int.reduceNe, Int.reduceAdd, Int.reduceSub, Int.reduceMul, Int.reduceNeg, Int.reduceToNat, Nat.reduceMul, Nat.reduceLT, Nat.reduceEqDiff, and_self, ite_true, ite_false, zx1, zx2, zRecv, List.length_cons, List.length_nil, ne_eq, not_true_eq_false, not_false_eq_true, true_or, or_true, or_false, false_or, and_false, false_and, zf01, zf10, reduceCtorEq, zSw_c, zSw_n, zm_r, zit_T, zit_F, false_implies, true_implies]
      exact hx
    · rw [e2 3 (by decide)]
      simp only [zi_cs, zi_c0, zii_cs, zii_c0, zl_cs, zl_c0, zll_cs, zll_c0, zr_cs, zr_c0, zrr_cs, zrr_c0, zxs_cs, zxs_c0, zxx_cs, zxx_c0, zfree_c0, zfree_c1, zfree_cs, zfree_cz, zlong_i, zlong_r, zlong_x, zset_0, zset_s, true_and, and_true, Option.some.injEq, Sum.inl.injEq, Sum.inr.injEq, zb2_p, zbp_0, zbp_1, zbp_inj, zbp_01, Nat.zero_add, Nat.reduceAdd, implies_true, List.nil_append, List.cons_append, List.append_assoc, Int.not_lt, Int.not_le, Decidable.not_not, Int.zero_add, Int.reduceLE, Int.reduceLT, Int.reduceEq, Int.reduceNe, Int.reduceAdd, Int.reduceSub, Int.reduceMul, Int.reduceNeg, Int.reduceToNat, Nat.reduceMul, Nat.reduceLT, Nat.reduceEqDiff, and_self, ite_true, ite_false, zx1, zx2, zRecv, List.length_cons, List.length_nil, ne_eq, not_true_eq_false, not_false_eq_true, true_or, or_true, or_false, false_or, and_false, false_and, zf01, zf10, reduceCtorEq, zSw_c, zSw_n, zm_r, zit_T, zit_F, false_implies, true_implies]
  have hF0 : zfc [321, 323] μ μ0 := ((((((zfc.rf (cs := [321, 323])).zm (by decide)).zm (by decide)).zm (by decide)).zm (by decide)).zm (by decide)).tr e3 |>.mo (by simp)
  clear e1 e2 e3
  generalize hR : pCls (cT B n) (fun t => decide (n ≤ ps B n t)) (pcO o (cT B n) (vT B n)) 12 0 0 85 = R
  refine zLoop.up 12 (fun j ρ μ1 => ∃ (t1 l1 : Nat) (cs : List Cls) (cc : List Int), ρ = [vr 321, vi x, vi j] ∧ PSt B n o t1 l1 (85 + cc.length) μ1 ∧ Seg (μ1 323) 85 cc ∧ cs.length = j ∧ (∀ (q : Nat) (cl : Cls), cs[q]? = some cl → Hd o (μ1 323) q cl) ∧ (l1 ≤ 50 ∧ t1 ≤ n ∧ cc.length ≤ 2 * l1 + NT (cT B n) t1) ∧ zfc [321, 323] μ μ1 ∧ R = lCat cs cc (pCls (cT B n) (fun t => decide (n ≤ ps B n t)) (pcO o (cT B n) (vT B n)) (12 - j) t1 l1 (85 + cc.length))) ⟨0, 0, [], [], rfl, hP0, Seg_nil, rfl, fun q cl h => by simp at h, ⟨Nat.zero_le _, Nat.zero_le _, Nat.zero_le _⟩, hF0, ?_⟩ ?_
  · rw [← hR]
    show _ = lCat [] [] (pCls (cT B n) (fun t => decide (n ≤ ps B n t)) (pcO o (cT B n) (vT B n)) 12 0 0 85)
    rcases pCls (cT B n) (fun t => decide (n ≤ ps B n t)) (pcO o (cT B n) (vT B n)) 12 0 0 85 with ⟨t, _ | ⟨a, b⟩⟩ <;> rfl
  clear hR hP0 hF0
  rintro j ρ μ1 hj ⟨t1, l1, cs, cc, rfl, hP, hS, hcl, hH, hbd, hF, hR⟩
  (try simp only [zit_e, Bool.and_eq_true, Bool.or_eq_true, Bool.not_eq_true', Bool.and_eq_false_iff, Bool.or_eq_false_iff, Bool.not_eq_false', zbe, zdt, zdf, zb2_p, zbp_0, zbp_1, zbp_inj, zbp_01, Bool.true_eq_false, Bool.false_eq_true, true_and, and_true, Decidable.not_not, Classical.not_not, implies_true, List.nil_append, List.cons_append, List.append_assoc, Option.some.injEq, Sum.inl.injEq, zSw_c, zSw_n]); (try simp only [zit_e, Bool.and_eq_true, Bool.or_eq_true, Bool.not_eq_true', Bool.and_eq_false_iff, Bool.or_eq_false_iff, Bool.not_eq_false', zbe, zdt, zdf, zb2_p, zbp_0, zbp_1, zbp_inj, zbp_01, Bool.true_eq_false, Bool.false_eq_true, true_and, and_true, Decidable.not_not, Classical.not_not, implies_true, List.nil_append, List.cons_append, List.append_assoc, Option.some.injEq, Sum.inl.injEq, zSw_c, zSw_n, zc_321, f_Re_isSign, g_Re_isSign]); (try simp only [zi_cs, zi_c0, zii_cs, zii_c0, zl_cs, zl_c0, zll_cs, zll_c0, zr_cs, zr_c0, zrr_cs, zrr_c0, zxs_cs, zxs_c0, zxx_cs, zxx_c0, zfree_c0, zfree_c1, zfree_cs, zfree_cz, zlong_i, zlong_r, zlong_x, zset_0, zset_s, true_and, and_true, Option.some.injEq, Sum.inl.injEq, Sum.inr.injEq, zb2_p, zbp_0, zbp_1, zbp_inj, zbp_01, Nat.zero_add, Nat.reduceAdd, implies_true, List.nil_append, List.cons_append, List.append_assoc, Int.not_lt, Int.not_le, Decidable.not_not, Int.zero_add, Int.reduceLE, Int.reduceLT, Int.reduceEq, Int.reduceNe, Int.reduceAdd, Int.reduceSub, Int.reduceMul, Int.reduceNeg, Int.reduceToNat, Nat.reduceMul, Nat.reduceLT, Nat.reduceEqDiff, and_self, ite_true, ite_false, zx1, zx2, zRecv, List.length_cons, List.length_nil, ne_eq, not_true_eq_false, not_false_eq_true, true_or, or_true, or_false, false_or, and_false, false_and, zf01, zf10, reduceCtorEq, zSw_c, zSw_n, zm_r, zit_T, zit_F, false_implies, true_implies, zc_321, f_Re_isSign, g_Re_isSign])
  have cont : ∀ (r : Option zV) (μ2 : zMem), j < 12 → RQ (pcO o (cT B n) (vT B n) t1 l1 (85 + cc.length)) (FB B n μ1) (GC B n o (85 + cc.length) j μ1) r μ2 → ∃ n_1, r = some (vi n_1) ∧ if n_1 = 0 then RQ R (BR B n μ) (GR o μ) (some (vi 0)) μ2 else zI ((j : Int) + 1) ∧ (μ2 321 7 = 3 → 0 ≤ μ2 321 8 ∧ μ2 321 8 < 400) ∧ if ¬ (μ2 321 7 = 3 ∧ μ2 322 (μ2 321 8) = 59) then (if μ2 321 7 = 0 then RQ R (BR B n μ) (GR o μ) (some (vi (zbp True))) (zm μ2 323 0 ((j : Int) + 1)) else zCw d y_Re_fail [vr 321] (zm μ2 323 0 ((j : Int) + 1)) (fun q μ2 => ∃ n_2, q = some (vi n_2) ∧ (n_2 = 0 ∨ ¬ n_2 = 0) ∧ RQ R (BR B n μ) (GR o μ) (some (vi (zbp ¬ n_2 = 0))) μ2)) else zCw d y_Re_next [vr 321] (zm μ2 323 0 ((j : Int) + 1)) (fun q μ2 => q = none ∧ zI ((j : Int) + 1) ∧ ∃ m', m' < 12 - j ∧ ∃ j', m' = 12 - j' ∧ j' ≤ 12 ∧ ∃ t1 l1 cs cc, [vr 321, vi x, vi ((j : Int) + 1)] = [vr 321, vi x, vi (j' : Int)] ∧ PSt B n o t1 l1 (85 + cc.length) μ2 ∧ Seg (μ2 323) 85 cc ∧ cs.length = j' ∧ (∀ (q : Nat) (cl : Cls), cs[q]? = some cl → Hd o (μ2 323) q cl) ∧ (l1 ≤ 50 ∧ t1 ≤ n ∧ cc.length ≤ 2 * l1 + NT (cT B n) t1) ∧ zfc [321, 323] μ μ2 ∧ R = lCat cs cc (pCls (cT B n) (fun t => decide (n ≤ ps B n t)) (pcO o (cT B n) (vT B n)) (12 - j') t1 l1 (85 + cc.length))) := by
    intro r μ2 hj12 e
    have hn2 : μ1 321 2 = μ 321 2 := by rw [hP.1.1.2, h2]
    rcases hp : pcO o (cT B n) (vT B n) t1 l1 (85 + cc.length) with ⟨t2, _ | ⟨l2, cl, c2⟩⟩
    · obtain ⟨rfl, e1, e2⟩ := e.1 _ hp
      rw [show 12 - j = (12 - (j + 1)) + 1 by omega, pCls_n hp] at hR
      refine ⟨0, rfl, ?_⟩
      rw [if_pos rfl]
      exact RQ_n hR rfl ⟨e1, (hF.tr e2.1).mo (by simp), by rw [e2.2.1, hn2]⟩
    obtain ⟨rfl, e1, e2, e3, e4, e5⟩ := e.2 _ _ hp
    dsimp only at e1 e2 e3 e4
    have hg := pcO_PG hp hbd.1 hbd.2.1
    have hq8 : μ2 321 7 = 3 → 0 ≤ μ2 321 8 ∧ μ2 321 8 < 400 := fun q => by
      have := (RD_num hB e1.1).2.2
      have := RD_p e1.1
      omega
    have s59 := RD_sign (s := 59) e1.1 (by decide) (by decide) (by decide)
    have hnum := RD_num hB e1.1
    refine ⟨1, rfl, ?_⟩
    rw [if_neg (by decide)]
    refine ⟨zI_s (by omega) (by omega), hq8, ?_⟩
    have P3 := PSt_323 (i := 0) (v := (j : Int) + 1) e1
    have z0 : zm μ2 323 0 ((j : Int) + 1) 323 0 = ((cs ++ [cl]).length : Nat) := by
      rw [zm_s, List.length_append, hcl]
      rfl
    have zn : ∀ i : Int, i ≠ 0 → zm μ2 323 0 ((j : Int) + 1) 323 i = μ2 323 i := fun i hi => zm_j hi
    have zF : zfc [321, 323] μ (zm μ2 323 0 ((j : Int) + 1)) := ((hF.tr e5.1).mo (b := [321, 323]) (by simp)).zm (by decide)
    have z2 : zm μ2 323 0 ((j : Int) + 1) 321 2 = μ 321 2 := by rw [zm_off 321 (by decide), e5.2.1, hn2]
    generalize zm μ2 323 0 ((j : Int) + 1) = μ3 at *
    have S3 : Seg (μ3 323) 85 (cc ++ c2) := by
      rw [Seg_app]
      exact ⟨Seg_d hS (fun i h0 hi => by rw [zn i (by omega), e4 i (by omega) (by unfold hd_in; omega)]), Seg_d e2 (fun i h0 hi => by rw [zn i (by omega)])⟩
    have H3 : ∀ (q : Nat) (cl2 : Cls), (cs ++ [cl])[q]? = some cl2 → Hd o (μ3 323) q cl2 := fun q cl2 h => by
      by_cases hq : q < cs.length
      · rw [List.getElem?_append_left hq] at h
        refine Hd_c (hH q cl2 h) (fun i hi => ?_)
        unfold hd_in at hi
        rw [zn i (by omega), e4 i (by omega) (by unfold hd_in; omega)]
      · rw [List.getElem?_append_right (by omega)] at h
        have hq2 : q - cs.length = 0 := by
          have := (List.getElem?_eq_some_iff.mp h).1
          simp at this
          omega
        rw [hq2] at h
        cases h
        rw [show q = j by omega]
        refine Hd_c e3 (fun i hi => ?_)
        unfold hd_in at hi
        rw [zn i (by omega)]
    have L3 : 85 + cc.length + c2.length = 85 + (cc ++ c2).length := by
      rw [List.length_append, Nat.add_assoc]
    rw [L3] at P3
    refine zif (fun c5 => ?_) (fun c5 => ?_)
    · rw [s59] at c5
      rw [show 12 - j = (12 - (j + 1)) + 1 by omega, pCls_e hp (by omega)] at hR
      refine zif (fun c6 => ?_) (fun c6 => ?_)
      · rw [if_pos (decide_eq_true (hnum.2.2.mp c6))] at hR
        exact RQ_s hR zbp_T ⟨P3.2.2.2.2, z0, H3, S3, by rw [List.length_append, hcl]; simp; omega, zF, z2⟩
      · rw [if_neg (fun q => c6 (hnum.2.2.mpr (of_decide_eq_true q)))] at hR
        exact fl_w (by omega) P3 (fun μ4 a1 a2 => ⟨0, rfl, by simp, RQ_n hR (zbf (by decide)) ⟨a1, (zF.tr a2.1).mo (by simp), by rw [a2.2.1, z2]⟩⟩)
    · rw [Classical.not_not, s59] at c5
      have c9 : cT B n t2 = 159 := by omega
      have htn : t2 < n := zNlt (c := cT B n) (fun u hu => cT_N u hu) (by rw [c9]; decide)
      have hmo := NT_mono (c := cT B n) (t := t2) 1
      rw [show 12 - j = (12 - (j + 1)) + 1 by omega, pCls_s hp c9, lCat_cat] at hR
      refine nx_w (by omega) hB P3 (fun μ4 a1 a2 a3 => ⟨rfl, zI_s (by omega) (by omega), _, (show 12 - (j + 1) < 12 - j by omega), j + 1, rfl, by omega, t2 + 1, l2, cs ++ [cl], cc ++ c2, rfl, a1, by rw [a3]; exact S3, by rw [List.length_append, hcl]; rfl, fun q cl2 h => by rw [a3]; exact H3 q cl2 h, ⟨hg.1, htn, by rw [List.length_append]; omega⟩, (zF.tr a2.1).mo (by simp), ?_⟩)
      rw [hR, L3]
  refine zif (fun c => ?_) (fun c => ?_)
  · rw [hP.2.2.2.1]
    have h85 : 85 ≤ 85 + cc.length ∧ 85 + cc.length ≤ 85 + 2 * l1 + NT (cT B n) t1 := by omega
    have hj12 : j < 12 := by omega
    unfold pcO at cont
    cases o with
    | true =>
      rw [if_pos (by decide)]
      exact zCw.use (q_Re_orderClause (d := 47) (Nat.le_refl _) hB (by omega) hP hbd.1 hbd.2.1 h85) (by omega) (fun r μ2 e => cont r μ2 hj12 e)
    | false =>
      rw [if_neg (by decide)]
      exact zCw.use (q_Re_lawClause (d := 47) (Nat.le_refl _) hB (by omega) hP hbd.1 hbd.2.1 h85) (by omega) (fun r μ2 e => cont r μ2 hj12 e)
  · rw [show 12 - j = 0 by omega] at hR
    exact fl_w (by omega) hP (fun μ4 a1 a2 => ⟨0, rfl, Or.inl rfl, RQ_n hR rfl ⟨a1, (hF.tr a2.1).mo (by simp), by rw [a2.2.1, hP.1.1.2, h2]⟩⟩)

