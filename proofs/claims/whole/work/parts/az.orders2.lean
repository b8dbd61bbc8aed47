/-! orders: the class -/
theorem pOrdC_k {c v : Nat → Int} {t l w t1 l1 : Nat} {cl : Cls} {cd : List Int} (e : pOrdC c v t l w = (t1, some (l1, cl, cd))) : (0 ≤ cl.1 ∧ cl.1 ≤ 2) ∧ 1 ≤ cl.2.1 ∧ cl.2.1 ≤ 20 := by
  unfold pOrdC at e
  split at e
  next h =>
    rcases e1 : p3O c v t l w with ⟨t2, _ | ⟨l2, ⟨a2, a3⟩, ⟨m1, m2, m3⟩, c2⟩⟩
    · rw [e1] at e
      cases e
    rw [e1] at e
    simp only at e
    rcases e2 : pTm c v t2 with ⟨t3, _ | k⟩
    · rw [e2] at e
      cases e
    rw [e2] at e
    simp only at e
    rcases e3 : pMT true c v t3 l2 (w + c2.length) with ⟨t4, _ | ⟨l4, m4, c4⟩⟩
    · rw [e3] at e
      cases e
    rw [e3] at e
    cases e
    refine ⟨by show 0 ≤ c t - 24 ∧ c t - 24 ≤ 2; omega, ?_⟩
    show 1 ≤ k ∧ k ≤ 20
    unfold pTm at e2
    repeat' split at e2
    · cases e2
      next q => exact q.2
    · cases e2
    · cases e2
      decide
  next => cases e
theorem pOrdC_C {c v : Nat → Int} (hv : ∀ t, 0 ≤ v t) {t l w t1 l1 : Nat} {cl : Cls} {cd : List Int} (e : pOrdC c v t l w = (t1, some (l1, cl, cd))) {κ : Int → Int} (hs : Seg κ w cd) (hw : w + cd.length ≤ 385) : ClC true κ cl ∧ (0 ≤ cl.1 ∧ cl.1 ≤ 2) ∧ 1 ≤ cl.2.1 ∧ cl.2.1 ≤ 20 := by
  refine ⟨⟨pOrdC_run hv e hs (by omega), ?_⟩, ?_⟩
  · unfold pOrdC at e
    split at e
    next h =>
      rcases e1 : p3O c v t l w with ⟨t2, _ | ⟨l2, ⟨a2, a3⟩, ⟨m1, m2, m3⟩, c2⟩⟩
      · rw [e1] at e
        cases e
      rw [e1] at e
      simp only at e
      rcases e2 : pTm c v t2 with ⟨t3, _ | k⟩
      · rw [e2] at e
        cases e
      rw [e2] at e
      simp only at e
      rcases e3 : pMT true c v t3 l2 (w + c2.length) with ⟨t4, _ | ⟨l4, m4, c4⟩⟩
      · rw [e3] at e
        cases e
      rw [e3] at e
      cases e
      rw [List.length_append] at hw
      have p2 := PC_MT hv e3 (by omega)
      have p1 : (w ≤ a2 ∧ a2 ≤ a3 ∧ a3 ≤ w + c2.length) ∧ ∀ x, x ∈ c2 → 0 ≤ x ∧ x ≤ 1000000 := by
        unfold p3O at e1
        split at e1
        · cases e1
          exact ⟨by simp, fun x hx => by simp at hx⟩
        · unfold p3S at e1
          rcases f1 : lvS true c v 8 (t + 1) l w with ⟨u1, _ | ⟨k1, n1, d1⟩⟩
          · rw [f1] at e1
            cases e1
          rw [f1] at e1
          simp only at e1
          split at e1
          · rcases f2 : lvS true c v 8 (u1 + 1) k1 (w + d1.length) with ⟨u2, _ | ⟨k2, n2, d2⟩⟩
            · rw [f2] at e1
              cases e1
            rw [f2] at e1
            simp only at e1
            split at e1
            · rcases f3 : lvS true c v 8 (u2 + 1) k2 (w + d1.length + d2.length) with ⟨u3, _ | ⟨k3, n3, d3⟩⟩
              · rw [f3] at e1
                cases e1
              rw [f3] at e1
              cases e1
              rw [List.length_append, List.length_append] at hw ⊢
              refine ⟨by omega, fun x hx => ?_⟩
              rw [List.mem_append, List.mem_append] at hx
              rcases hx with (hx | hx) | hx
              · exact PC_S hv 8 _ _ _ _ _ _ _ f1 (by omega) x hx
              · exact PC_S hv 8 _ _ _ _ _ _ _ f2 (by omega) x hx
              · exact PC_S hv 8 _ _ _ _ _ _ _ f3 (by omega) x hx
            · cases e1
          · cases e1
      refine ⟨⟨?_, fun _ => ⟨?_, ?_⟩, ?_, ?_, ?_⟩, fun i h0 h1 => ?_, fun q => (by cases q)⟩
      · exact p1.1.1
      · exact p1.1.2.1
      · exact p1.1.2.2
      · show a2 ≤ w + c2.length
        omega
      · show w + c2.length ≤ w + c2.length + c4.length
        omega
      · show w + c2.length + c4.length ≤ 385
        omega
      · refine Seg_in hs (fun x hx => ?_) i h0 ?_
        · rw [List.mem_append] at hx
          rcases hx with hx | hx
          · exact p1.2 x hx
          · exact p2 x hx
        · rw [List.length_append]
          have h1 : i < ((w + c2.length + c4.length : Nat) : Int) := h1
          omega
    next => cases e
  · exact pOrdC_k e
theorem fl_D_232 : zFl "DebtDoors" 232 11 18 := ⟨_, rfl, by decide, (zTb_in 552 (by decide +kernel) (by decide +kernel)), rfl⟩
theorem nk_11_18 : zNk 11 18 = some 0 := rfl
theorem nk_11_19 : zNk 11 19 = some 0 := rfl
def y_D_fillOrderWords : zMt := (⟨"DebtDoors", "fillOrderWords", "([I)V"⟩, prog_1_method_21_code, 4, none)
theorem d_D_fillOrderWords_0 : decode prog_1_method_21_code 0 = .ok (.aload_n 0, 1) := by decide +kernel
theorem d_D_fillOrderWords_1 : decode prog_1_method_21_code 1 = .ok (.getfield 12, 3) := by decide +kernel
theorem d_D_fillOrderWords_4 : decode prog_1_method_21_code 4 = .ok (.getfield 115, 3) := by decide +kernel
theorem d_D_fillOrderWords_7 : decode prog_1_method_21_code 7 = .ok (.astore_n 2, 1) := by decide +kernel
theorem d_D_fillOrderWords_8 : decode prog_1_method_21_code 8 = .ok (.aload_n 1, 1) := by decide +kernel
theorem d_D_fillOrderWords_9 : decode prog_1_method_21_code 9 = .ok (.iconst 0, 1) := by decide +kernel
theorem d_D_fillOrderWords_10 : decode prog_1_method_21_code 10 = .ok (.aload_n 2, 1) := by decide +kernel
theorem d_D_fillOrderWords_11 : decode prog_1_method_21_code 11 = .ok (.getfield 179, 3) := by decide +kernel
theorem d_D_fillOrderWords_14 : decode prog_1_method_21_code 14 = .ok (.iastore, 1) := by decide +kernel
theorem d_D_fillOrderWords_15 : decode prog_1_method_21_code 15 = .ok (.aload_n 1, 1) := by decide +kernel
theorem d_D_fillOrderWords_16 : decode prog_1_method_21_code 16 = .ok (.iconst 1, 1) := by decide +kernel
theorem d_D_fillOrderWords_17 : decode prog_1_method_21_code 17 = .ok (.aload_n 2, 1) := by decide +kernel
theorem d_D_fillOrderWords_18 : decode prog_1_method_21_code 18 = .ok (.getfield 153, 3) := by decide +kernel
theorem d_D_fillOrderWords_21 : decode prog_1_method_21_code 21 = .ok (.iastore, 1) := by decide +kernel
theorem d_D_fillOrderWords_22 : decode prog_1_method_21_code 22 = .ok (.aload_n 1, 1) := by decide +kernel
theorem d_D_fillOrderWords_23 : decode prog_1_method_21_code 23 = .ok (.iconst 2, 1) := by decide +kernel
theorem d_D_fillOrderWords_24 : decode prog_1_method_21_code 24 = .ok (.aload_n 0, 1) := by decide +kernel
theorem d_D_fillOrderWords_25 : decode prog_1_method_21_code 25 = .ok (.getfield 232, 3) := by decide +kernel
theorem d_D_fillOrderWords_28 : decode prog_1_method_21_code 28 = .ok (.iastore, 1) := by decide +kernel
theorem d_D_fillOrderWords_29 : decode prog_1_method_21_code 29 = .ok (.aload_n 1, 1) := by decide +kernel
theorem d_D_fillOrderWords_30 : decode prog_1_method_21_code 30 = .ok (.iconst 3, 1) := by decide +kernel
theorem d_D_fillOrderWords_31 : decode prog_1_method_21_code 31 = .ok (.aload_n 0, 1) := by decide +kernel
theorem d_D_fillOrderWords_32 : decode prog_1_method_21_code 32 = .ok (.getfield 101, 3) := by decide +kernel
theorem d_D_fillOrderWords_35 : decode prog_1_method_21_code 35 = .ok (.iastore, 1) := by decide +kernel
theorem d_D_fillOrderWords_36 : decode prog_1_method_21_code 36 = .ok (.iconst 0, 1) := by decide +kernel
theorem d_D_fillOrderWords_37 : decode prog_1_method_21_code 37 = .ok (.istore_n 3, 1) := by decide +kernel
theorem d_D_fillOrderWords_38 : decode prog_1_method_21_code 38 = .ok (.iload_n 3, 1) := by decide +kernel
theorem d_D_fillOrderWords_39 : decode prog_1_method_21_code 39 = .ok (.bipush 7, 2) := by decide +kernel
theorem d_D_fillOrderWords_41 : decode prog_1_method_21_code 41 = .ok (.if_icmp .ge 35, 3) := by decide +kernel
theorem d_D_fillOrderWords_44 : decode prog_1_method_21_code 44 = .ok (.aload_n 1, 1) := by decide +kernel
theorem d_D_fillOrderWords_45 : decode prog_1_method_21_code 45 = .ok (.iconst 4, 1) := by decide +kernel
theorem d_D_fillOrderWords_46 : decode prog_1_method_21_code 46 = .ok (.iload_n 3, 1) := by decide +kernel
theorem d_D_fillOrderWords_47 : decode prog_1_method_21_code 47 = .ok (.iadd, 1) := by decide +kernel
theorem d_D_fillOrderWords_48 : decode prog_1_method_21_code 48 = .ok (.iload_n 3, 1) := by decide +kernel
theorem d_D_fillOrderWords_49 : decode prog_1_method_21_code 49 = .ok (.aload_n 0, 1) := by decide +kernel
theorem d_D_fillOrderWords_50 : decode prog_1_method_21_code 50 = .ok (.getfield 12, 3) := by decide +kernel
theorem d_D_fillOrderWords_53 : decode prog_1_method_21_code 53 = .ok (.getfield 112, 3) := by decide +kernel
theorem d_D_fillOrderWords_56 : decode prog_1_method_21_code 56 = .ok (.if_icmp .ge 12, 3) := by decide +kernel
theorem d_D_fillOrderWords_59 : decode prog_1_method_21_code 59 = .ok (.aload_n 2, 1) := by decide +kernel
theorem d_D_fillOrderWords_60 : decode prog_1_method_21_code 60 = .ok (.getfield 118, 3) := by decide +kernel
theorem d_D_fillOrderWords_63 : decode prog_1_method_21_code 63 = .ok (.iload_n 3, 1) := by decide +kernel
theorem d_D_fillOrderWords_64 : decode prog_1_method_21_code 64 = .ok (.iaload, 1) := by decide +kernel
theorem d_D_fillOrderWords_65 : decode prog_1_method_21_code 65 = .ok (.goto 4, 3) := by decide +kernel
theorem d_D_fillOrderWords_68 : decode prog_1_method_21_code 68 = .ok (.iconst (-1), 1) := by decide +kernel
theorem d_D_fillOrderWords_69 : decode prog_1_method_21_code 69 = .ok (.iastore, 1) := by decide +kernel
theorem d_D_fillOrderWords_70 : decode prog_1_method_21_code 70 = .ok (.iinc 3 1, 3) := by decide +kernel
theorem d_D_fillOrderWords_73 : decode prog_1_method_21_code 73 = .ok (.goto (-35), 3) := by decide +kernel
theorem d_D_fillOrderWords_76 : decode prog_1_method_21_code 76 = .ok (.bipush 11, 2) := by decide +kernel
theorem d_D_fillOrderWords_78 : decode prog_1_method_21_code 78 = .ok (.istore_n 3, 1) := by decide +kernel
theorem d_D_fillOrderWords_79 : decode prog_1_method_21_code 79 = .ok (.iload_n 3, 1) := by decide +kernel
theorem d_D_fillOrderWords_80 : decode prog_1_method_21_code 80 = .ok (.bipush 60, 2) := by decide +kernel
theorem d_D_fillOrderWords_82 : decode prog_1_method_21_code 82 = .ok (.if_icmp .ge 13, 3) := by decide +kernel
theorem d_D_fillOrderWords_85 : decode prog_1_method_21_code 85 = .ok (.aload_n 1, 1) := by decide +kernel
theorem d_D_fillOrderWords_86 : decode prog_1_method_21_code 86 = .ok (.iload_n 3, 1) := by decide +kernel
theorem d_D_fillOrderWords_87 : decode prog_1_method_21_code 87 = .ok (.iconst 0, 1) := by decide +kernel
theorem d_D_fillOrderWords_88 : decode prog_1_method_21_code 88 = .ok (.iastore, 1) := by decide +kernel
theorem d_D_fillOrderWords_89 : decode prog_1_method_21_code 89 = .ok (.iinc 3 1, 3) := by decide +kernel
theorem d_D_fillOrderWords_92 : decode prog_1_method_21_code 92 = .ok (.goto (-13), 3) := by decide +kernel
theorem d_D_fillOrderWords_95 : decode prog_1_method_21_code 95 = .ok (.iconst 0, 1) := by decide +kernel
theorem d_D_fillOrderWords_96 : decode prog_1_method_21_code 96 = .ok (.istore_n 3, 1) := by decide +kernel
theorem d_D_fillOrderWords_97 : decode prog_1_method_21_code 97 = .ok (.iload_n 3, 1) := by decide +kernel
theorem d_D_fillOrderWords_98 : decode prog_1_method_21_code 98 = .ok (.aload_n 2, 1) := by decide +kernel
theorem d_D_fillOrderWords_99 : decode prog_1_method_21_code 99 = .ok (.getfield 153, 3) := by decide +kernel
theorem d_D_fillOrderWords_102 : decode prog_1_method_21_code 102 = .ok (.if_icmp .ge 39, 3) := by decide +kernel
theorem d_D_fillOrderWords_105 : decode prog_1_method_21_code 105 = .ok (.aload_n 1, 1) := by decide +kernel
theorem d_D_fillOrderWords_106 : decode prog_1_method_21_code 106 = .ok (.bipush 11, 2) := by decide +kernel
theorem d_D_fillOrderWords_108 : decode prog_1_method_21_code 108 = .ok (.aload_n 2, 1) := by decide +kernel
theorem d_D_fillOrderWords_109 : decode prog_1_method_21_code 109 = .ok (.getfield 157, 3) := by decide +kernel
theorem d_D_fillOrderWords_112 : decode prog_1_method_21_code 112 = .ok (.iload_n 3, 1) := by decide +kernel
theorem d_D_fillOrderWords_113 : decode prog_1_method_21_code 113 = .ok (.iaload, 1) := by decide +kernel
theorem d_D_fillOrderWords_114 : decode prog_1_method_21_code 114 = .ok (.bipush 7, 2) := by decide +kernel
theorem d_D_fillOrderWords_116 : decode prog_1_method_21_code 116 = .ok (.imul, 1) := by decide +kernel
theorem d_D_fillOrderWords_117 : decode prog_1_method_21_code 117 = .ok (.iadd, 1) := by decide +kernel
theorem d_D_fillOrderWords_118 : decode prog_1_method_21_code 118 = .ok (.aload_n 2, 1) := by decide +kernel
theorem d_D_fillOrderWords_119 : decode prog_1_method_21_code 119 = .ok (.getfield 160, 3) := by decide +kernel
theorem d_D_fillOrderWords_122 : decode prog_1_method_21_code 122 = .ok (.iload_n 3, 1) := by decide +kernel
theorem d_D_fillOrderWords_123 : decode prog_1_method_21_code 123 = .ok (.iaload, 1) := by decide +kernel
theorem d_D_fillOrderWords_124 : decode prog_1_method_21_code 124 = .ok (.iadd, 1) := by decide +kernel
theorem d_D_fillOrderWords_125 : decode prog_1_method_21_code 125 = .ok (.dup2, 1) := by decide +kernel
theorem d_D_fillOrderWords_126 : decode prog_1_method_21_code 126 = .ok (.iaload, 1) := by decide +kernel
theorem d_D_fillOrderWords_127 : decode prog_1_method_21_code 127 = .ok (.aload_n 2, 1) := by decide +kernel
theorem d_D_fillOrderWords_128 : decode prog_1_method_21_code 128 = .ok (.getfield 163, 3) := by decide +kernel
theorem d_D_fillOrderWords_131 : decode prog_1_method_21_code 131 = .ok (.iload_n 3, 1) := by decide +kernel
theorem d_D_fillOrderWords_132 : decode prog_1_method_21_code 132 = .ok (.iaload, 1) := by decide +kernel
theorem d_D_fillOrderWords_133 : decode prog_1_method_21_code 133 = .ok (.iadd, 1) := by decide +kernel
theorem d_D_fillOrderWords_134 : decode prog_1_method_21_code 134 = .ok (.iastore, 1) := by decide +kernel
theorem d_D_fillOrderWords_135 : decode prog_1_method_21_code 135 = .ok (.iinc 3 1, 3) := by decide +kernel
theorem d_D_fillOrderWords_138 : decode prog_1_method_21_code 138 = .ok (.goto (-41), 3) := by decide +kernel
theorem d_D_fillOrderWords_141 : decode prog_1_method_21_code 141 = .ok (.return_, 1) := by decide +kernel
def w_D_fillOrderWords {d : Nat} (hd : 1 ≤ d) := (show SS ("DebtDoors", prog_1_method_21_code, 4) (none) d 0 0 0 0 _ from (sS (p1 := 8) (sRn 2 (rFr fl_D_115 nk_9_0 (rFr fl_D_12 nk_11_0 (rAn 0 d_D_fillOrderWords_0 rfl) d_D_fillOrderWords_1) d_D_fillOrderWords_4) d_D_fillOrderWords_7 rfl (by decide)) (sS (p1 := 15) (sAs (rAn 1 d_D_fillOrderWords_8 rfl) (rI d_D_fillOrderWords_9 rfl) (xE (rF 6 fl_D_179 nk_1_6 (rAn 2 d_D_fillOrderWords_10 rfl) d_D_fillOrderWords_11 rfl)) d_D_fillOrderWords_14) (sS (p1 := 22) (sAs (rAn 1 d_D_fillOrderWords_15 rfl) (rI d_D_fillOrderWords_16 rfl) (xE (rF 5 fl_D_153 nk_1_5 (rAn 2 d_D_fillOrderWords_17 rfl) d_D_fillOrderWords_18 rfl)) d_D_fillOrderWords_21) (sS (p1 := 29) (sAs (rAn 1 d_D_fillOrderWords_22 rfl) (rI d_D_fillOrderWords_23 rfl) (xE (rF 18 fl_D_232 nk_11_18 (rAn 0 d_D_fillOrderWords_24 rfl) d_D_fillOrderWords_25 rfl)) d_D_fillOrderWords_28) (sS (p1 := 36) (sAs (rAn 1 d_D_fillOrderWords_29 rfl) (rI d_D_fillOrderWords_30 rfl) (xE (rF 19 fl_D_101 nk_11_19 (rAn 0 d_D_fillOrderWords_31 rfl) d_D_fillOrderWords_32 rfl)) d_D_fillOrderWords_35) (sS (p1 := 76) (sS (p1 := 38) (sIn 3 (xE (rI d_D_fillOrderWords_36 rfl)) d_D_fillOrderWords_37 rfl (by decide)) (sLp (ps := 70) (tt := 44) (pn := 76) (p1 := 0) (p2 := 0) (xC (rNot (rJ2 (tgt := 76) j_ge (rIn 3 d_D_fillOrderWords_38 rfl) (rB d_D_fillOrderWords_39 rfl) d_D_fillOrderWords_41 (by decide)))) (sAs (rAn 1 d_D_fillOrderWords_44 rfl) (r2 o_add (rI d_D_fillOrderWords_45 rfl) (rIn 3 d_D_fillOrderWords_46 rfl) d_D_fillOrderWords_47) (xE (rT2 (rNot (rJ2 (tgt := 68) j_ge (rIn 3 d_D_fillOrderWords_48 rfl) (rF 6 fl_D_112 nk_9_6 (rFr fl_D_12 nk_11_0 (rAn 0 d_D_fillOrderWords_49 rfl) d_D_fillOrderWords_50) d_D_fillOrderWords_53 rfl) d_D_fillOrderWords_56 (by decide))) (rGoE (p2 := 69) (rIa (rFr fl_D_118 nk_1_0 (rAn 2 d_D_fillOrderWords_59 rfl) d_D_fillOrderWords_60) (rIn 3 d_D_fillOrderWords_63 rfl) d_D_fillOrderWords_64) d_D_fillOrderWords_65 (by decide)) (rI d_D_fillOrderWords_68 rfl))) d_D_fillOrderWords_69) (sGo (pn := 38) (sInc d_D_fillOrderWords_70 (by decide)) d_D_fillOrderWords_73 (by decide)))) (sS (p1 := 95) (sS (p1 := 79) (sIn 3 (xE (rB d_D_fillOrderWords_76 rfl)) d_D_fillOrderWords_78 rfl (by decide)) (sLp (ps := 89) (tt := 85) (pn := 95) (p1 := 0) (p2 := 0) (xC (rNot (rJ2 (tgt := 95) j_ge (rIn 3 d_D_fillOrderWords_79 rfl) (rB d_D_fillOrderWords_80 rfl) d_D_fillOrderWords_82 (by decide)))) (sAs (rAn 1 d_D_fillOrderWords_85 rfl) (rIn 3 d_D_fillOrderWords_86 rfl) (xE (rI d_D_fillOrderWords_87 rfl)) d_D_fillOrderWords_88) (sGo (pn := 79) (sInc d_D_fillOrderWords_89 (by decide)) d_D_fillOrderWords_92 (by decide)))) (sS (p1 := 141) (sS (p1 := 97) (sIn 3 (xE (rI d_D_fillOrderWords_95 rfl)) d_D_fillOrderWords_96 rfl (by decide)) (sLp (ps := 135) (tt := 105) (pn := 141) (p1 := 0) (p2 := 0) (xC (rNot (rJ2 (tgt := 141) j_ge (rIn 3 d_D_fillOrderWords_97 rfl) (rF 5 fl_D_153 nk_1_5 (rAn 2 d_D_fillOrderWords_98 rfl) d_D_fillOrderWords_99 rfl) d_D_fillOrderWords_102 (by decide)))) (sAo o_add (rAn 1 d_D_fillOrderWords_105 rfl) (r2 o_add (r2 o_add (rB d_D_fillOrderWords_106 rfl) (r2 o_mul (rIa (rFr fl_D_157 nk_1_1 (rAn 2 d_D_fillOrderWords_108 rfl) d_D_fillOrderWords_109) (rIn 3 d_D_fillOrderWords_112 rfl) d_D_fillOrderWords_113) (rB d_D_fillOrderWords_114 rfl) d_D_fillOrderWords_116) d_D_fillOrderWords_117) (rIa (rFr fl_D_160 nk_1_2 (rAn 2 d_D_fillOrderWords_118 rfl) d_D_fillOrderWords_119) (rIn 3 d_D_fillOrderWords_122 rfl) d_D_fillOrderWords_123) d_D_fillOrderWords_124) d_D_fillOrderWords_125 d_D_fillOrderWords_126 (rIa (rFr fl_D_163 nk_1_3 (rAn 2 d_D_fillOrderWords_127 rfl) d_D_fillOrderWords_128) (rIn 3 d_D_fillOrderWords_131 rfl) d_D_fillOrderWords_132) d_D_fillOrderWords_133 d_D_fillOrderWords_134) (sGo (pn := 97) (sInc d_D_fillOrderWords_135 (by decide)) d_D_fillOrderWords_138 (by decide)))) (sRv d_D_fillOrderWords_141 rfl))))))))))
theorem fl_D_243 : zFl "DebtDoors" 243 7 0 := ⟨_, rfl, by decide, (zTb_in 388 (by decide +kernel) (by decide +kernel)), rfl⟩
theorem ls_D_235 : zLs "DebtDoors" 235 y_D_column 3 := Or.inl ⟨(zTb_in 922 (by decide +kernel) (by decide +kernel)), m_D_column⟩
theorem lv_D_256 : zLv "DebtDoors" 256 y_Ma_value 3 3 := ⟨⟨(zTb_in 931 (by decide +kernel) (by decide +kernel)), m_Ma_value.1, m_Ma_value.2.1, m_Ma_value.2.2⟩, _, rfl, rfl⟩
theorem fl_D_259 : zFl "DebtDoors" 259 3 2 := ⟨_, rfl, by decide, (zTb_in 379 (by decide +kernel) (by decide +kernel)), rfl⟩
def y_D_runSums : zMt := (⟨"DebtDoors", "runSums", "([III)I"⟩, prog_1_method_20_code, 11, some .int)
theorem d_D_runSums_0 : decode prog_1_method_20_code 0 = .ok (.aload_n 0, 1) := by decide +kernel
theorem d_D_runSums_1 : decode prog_1_method_20_code 1 = .ok (.getfield 51, 3) := by decide +kernel
theorem d_D_runSums_4 : decode prog_1_method_20_code 4 = .ok (.getfield 243, 3) := by decide +kernel
theorem d_D_runSums_7 : decode prog_1_method_20_code 7 = .ok (.astore 4, 2) := by decide +kernel
theorem d_D_runSums_9 : decode prog_1_method_20_code 9 = .ok (.aload_n 1, 1) := by decide +kernel
theorem d_D_runSums_10 : decode prog_1_method_20_code 10 = .ok (.iload_n 2, 1) := by decide +kernel
theorem d_D_runSums_11 : decode prog_1_method_20_code 11 = .ok (.iconst 3, 1) := by decide +kernel
theorem d_D_runSums_12 : decode prog_1_method_20_code 12 = .ok (.invokestatic 235, 3) := by decide +kernel
theorem d_D_runSums_15 : decode prog_1_method_20_code 15 = .ok (.istore 5, 2) := by decide +kernel
theorem d_D_runSums_17 : decode prog_1_method_20_code 17 = .ok (.aload_n 1, 1) := by decide +kernel
theorem d_D_runSums_18 : decode prog_1_method_20_code 18 = .ok (.iload_n 2, 1) := by decide +kernel
theorem d_D_runSums_19 : decode prog_1_method_20_code 19 = .ok (.iconst 4, 1) := by decide +kernel
theorem d_D_runSums_20 : decode prog_1_method_20_code 20 = .ok (.invokestatic 235, 3) := by decide +kernel
theorem d_D_runSums_23 : decode prog_1_method_20_code 23 = .ok (.istore 6, 2) := by decide +kernel
theorem d_D_runSums_25 : decode prog_1_method_20_code 25 = .ok (.aload 4, 2) := by decide +kernel
theorem d_D_runSums_27 : decode prog_1_method_20_code 27 = .ok (.aload_n 1, 1) := by decide +kernel
theorem d_D_runSums_28 : decode prog_1_method_20_code 28 = .ok (.aload_n 1, 1) := by decide +kernel
theorem d_D_runSums_29 : decode prog_1_method_20_code 29 = .ok (.iload_n 2, 1) := by decide +kernel
theorem d_D_runSums_30 : decode prog_1_method_20_code 30 = .ok (.iconst 2, 1) := by decide +kernel
theorem d_D_runSums_31 : decode prog_1_method_20_code 31 = .ok (.invokestatic 235, 3) := by decide +kernel
theorem d_D_runSums_34 : decode prog_1_method_20_code 34 = .ok (.iload 5, 2) := by decide +kernel
theorem d_D_runSums_36 : decode prog_1_method_20_code 36 = .ok (.invokevirtual 256, 3) := by decide +kernel
theorem d_D_runSums_39 : decode prog_1_method_20_code 39 = .ok (.istore 7, 2) := by decide +kernel
theorem d_D_runSums_41 : decode prog_1_method_20_code 41 = .ok (.aload 4, 2) := by decide +kernel
theorem d_D_runSums_43 : decode prog_1_method_20_code 43 = .ok (.getfield 259, 3) := by decide +kernel
theorem d_D_runSums_46 : decode prog_1_method_20_code 46 = .ok (.istore 8, 2) := by decide +kernel
theorem d_D_runSums_48 : decode prog_1_method_20_code 48 = .ok (.aload 4, 2) := by decide +kernel
theorem d_D_runSums_50 : decode prog_1_method_20_code 50 = .ok (.aload_n 1, 1) := by decide +kernel
theorem d_D_runSums_51 : decode prog_1_method_20_code 51 = .ok (.iload 5, 2) := by decide +kernel
theorem d_D_runSums_53 : decode prog_1_method_20_code 53 = .ok (.iload 6, 2) := by decide +kernel
theorem d_D_runSums_55 : decode prog_1_method_20_code 55 = .ok (.invokevirtual 256, 3) := by decide +kernel
theorem d_D_runSums_58 : decode prog_1_method_20_code 58 = .ok (.istore 9, 2) := by decide +kernel
theorem d_D_runSums_60 : decode prog_1_method_20_code 60 = .ok (.iload 8, 2) := by decide +kernel
theorem d_D_runSums_62 : decode prog_1_method_20_code 62 = .ok (.aload 4, 2) := by decide +kernel
theorem d_D_runSums_64 : decode prog_1_method_20_code 64 = .ok (.getfield 259, 3) := by decide +kernel
theorem d_D_runSums_67 : decode prog_1_method_20_code 67 = .ok (.ior, 1) := by decide +kernel
theorem d_D_runSums_68 : decode prog_1_method_20_code 68 = .ok (.istore 8, 2) := by decide +kernel
theorem d_D_runSums_70 : decode prog_1_method_20_code 70 = .ok (.aload 4, 2) := by decide +kernel
theorem d_D_runSums_72 : decode prog_1_method_20_code 72 = .ok (.aload_n 1, 1) := by decide +kernel
theorem d_D_runSums_73 : decode prog_1_method_20_code 73 = .ok (.iload 6, 2) := by decide +kernel
theorem d_D_runSums_75 : decode prog_1_method_20_code 75 = .ok (.aload_n 1, 1) := by decide +kernel
theorem d_D_runSums_76 : decode prog_1_method_20_code 76 = .ok (.iload_n 2, 1) := by decide +kernel
theorem d_D_runSums_77 : decode prog_1_method_20_code 77 = .ok (.iconst 5, 1) := by decide +kernel
theorem d_D_runSums_78 : decode prog_1_method_20_code 78 = .ok (.invokestatic 235, 3) := by decide +kernel
theorem d_D_runSums_81 : decode prog_1_method_20_code 81 = .ok (.invokevirtual 256, 3) := by decide +kernel
theorem d_D_runSums_84 : decode prog_1_method_20_code 84 = .ok (.istore 10, 2) := by decide +kernel
theorem d_D_runSums_86 : decode prog_1_method_20_code 86 = .ok (.iload 8, 2) := by decide +kernel
theorem d_D_runSums_88 : decode prog_1_method_20_code 88 = .ok (.aload 4, 2) := by decide +kernel
theorem d_D_runSums_90 : decode prog_1_method_20_code 90 = .ok (.getfield 259, 3) := by decide +kernel
theorem d_D_runSums_93 : decode prog_1_method_20_code 93 = .ok (.ior, 1) := by decide +kernel
theorem d_D_runSums_94 : decode prog_1_method_20_code 94 = .ok (.istore 8, 2) := by decide +kernel
theorem d_D_runSums_96 : decode prog_1_method_20_code 96 = .ok (.iload 8, 2) := by decide +kernel
theorem d_D_runSums_98 : decode prog_1_method_20_code 98 = .ok (.ifCond .eq 6, 3) := by decide +kernel
theorem d_D_runSums_101 : decode prog_1_method_20_code 101 = .ok (.bipush (-3), 2) := by decide +kernel
theorem d_D_runSums_103 : decode prog_1_method_20_code 103 = .ok (.ireturn, 1) := by decide +kernel
theorem d_D_runSums_104 : decode prog_1_method_20_code 104 = .ok (.iload_n 3, 1) := by decide +kernel
theorem d_D_runSums_105 : decode prog_1_method_20_code 105 = .ok (.iconst 1, 1) := by decide +kernel
theorem d_D_runSums_106 : decode prog_1_method_20_code 106 = .ok (.if_icmp .ne 19, 3) := by decide +kernel
theorem d_D_runSums_109 : decode prog_1_method_20_code 109 = .ok (.aload_n 0, 1) := by decide +kernel
theorem d_D_runSums_110 : decode prog_1_method_20_code 110 = .ok (.getfield 12, 3) := by decide +kernel
theorem d_D_runSums_113 : decode prog_1_method_20_code 113 = .ok (.iload 7, 2) := by decide +kernel
theorem d_D_runSums_115 : decode prog_1_method_20_code 115 = .ok (.iload 9, 2) := by decide +kernel
theorem d_D_runSums_117 : decode prog_1_method_20_code 117 = .ok (.iload 10, 2) := by decide +kernel
theorem d_D_runSums_119 : decode prog_1_method_20_code 119 = .ok (.invokestatic 276, 3) := by decide +kernel
theorem d_D_runSums_122 : decode prog_1_method_20_code 122 = .ok (.goto 16, 3) := by decide +kernel
theorem d_D_runSums_125 : decode prog_1_method_20_code 125 = .ok (.aload_n 0, 1) := by decide +kernel
theorem d_D_runSums_126 : decode prog_1_method_20_code 126 = .ok (.getfield 12, 3) := by decide +kernel
theorem d_D_runSums_129 : decode prog_1_method_20_code 129 = .ok (.iload 7, 2) := by decide +kernel
theorem d_D_runSums_131 : decode prog_1_method_20_code 131 = .ok (.iload 9, 2) := by decide +kernel
theorem d_D_runSums_133 : decode prog_1_method_20_code 133 = .ok (.iload 10, 2) := by decide +kernel
theorem d_D_runSums_135 : decode prog_1_method_20_code 135 = .ok (.invokestatic 280, 3) := by decide +kernel
theorem d_D_runSums_138 : decode prog_1_method_20_code 138 = .ok (.ireturn, 1) := by decide +kernel
def w_D_runSums {d : Nat} (hd : 3 ≤ d) := (show SS ("DebtDoors", prog_1_method_20_code, 11) (some .int) d 0 0 0 0 _ from (sS (p1 := 9) (sR (rFr fl_D_243 nk_7_0 (rFr fl_D_51 nk_11_7 (rAn 0 d_D_runSums_0 rfl) d_D_runSums_1) d_D_runSums_4) d_D_runSums_7 (by decide)) (sS (p1 := 17) (sI (xE (rS p_D_column (Nat.le_trans (Nat.le_of_ble_eq_true rfl) hd) ls_D_235 (rAi (rAi (rAr rA0 (rAn 1 d_D_runSums_9 rfl)) (rIn 2 d_D_runSums_10 rfl)) (rI d_D_runSums_11 rfl)) (by decide) d_D_runSums_12)) d_D_runSums_15 (by decide)) (sS (p1 := 25) (sI (xE (rS p_D_column (Nat.le_trans (Nat.le_of_ble_eq_true rfl) hd) ls_D_235 (rAi (rAi (rAr rA0 (rAn 1 d_D_runSums_17 rfl)) (rIn 2 d_D_runSums_18 rfl)) (rI d_D_runSums_19 rfl)) (by decide) d_D_runSums_20)) d_D_runSums_23 (by decide)) (sS (p1 := 41) (sI (xV lv_D_256 (xA (rAi (rAi (rAr (rAr rA0 (rAl d_D_runSums_25)) (rAn 1 d_D_runSums_27 rfl)) (rS p_D_column (Nat.le_trans (Nat.le_of_ble_eq_true rfl) hd) ls_D_235 (rAi (rAi (rAr rA0 (rAn 1 d_D_runSums_28 rfl)) (rIn 2 d_D_runSums_29 rfl)) (rI d_D_runSums_30 rfl)) (by decide) d_D_runSums_31)) (rIl d_D_runSums_34))) (by decide) d_D_runSums_36) d_D_runSums_39 (by decide)) (sS (p1 := 48) (sI (xE (rF 2 fl_D_259 nk_3_2 (rAl d_D_runSums_41) d_D_runSums_43 rfl)) d_D_runSums_46 (by decide)) (sS (p1 := 60) (sI (xV lv_D_256 (xA (rAi (rAi (rAr (rAr rA0 (rAl d_D_runSums_48)) (rAn 1 d_D_runSums_50 rfl)) (rIl d_D_runSums_51)) (rIl d_D_runSums_53))) (by decide) d_D_runSums_55) d_D_runSums_58 (by decide)) (sS (p1 := 70) (sI (xE (r2 o_or (rIl d_D_runSums_60) (rF 2 fl_D_259 nk_3_2 (rAl d_D_runSums_62) d_D_runSums_64 rfl) d_D_runSums_67)) d_D_runSums_68 (by decide)) (sS (p1 := 86) (sI (xV lv_D_256 (xA (rAi (rAi (rAr (rAr rA0 (rAl d_D_runSums_70)) (rAn 1 d_D_runSums_72 rfl)) (rIl d_D_runSums_73)) (rS p_D_column (Nat.le_trans (Nat.le_of_ble_eq_true rfl) hd) ls_D_235 (rAi (rAi (rAr rA0 (rAn 1 d_D_runSums_75 rfl)) (rIn 2 d_D_runSums_76 rfl)) (rI d_D_runSums_77 rfl)) (by decide) d_D_runSums_78))) (by decide) d_D_runSums_81) d_D_runSums_84 (by decide)) (sS (p1 := 96) (sI (xE (r2 o_or (rIl d_D_runSums_86) (rF 2 fl_D_259 nk_3_2 (rAl d_D_runSums_88) d_D_runSums_90 rfl) d_D_runSums_93)) d_D_runSums_94 (by decide)) (sS (p1 := 104) (sIf (pn := 104) (tt := 101) (xC (rNot (rJ1 (tgt := 104) k_eq (rIl d_D_runSums_96) d_D_runSums_98 (by decide)))) (sRi (xE (rB d_D_runSums_101 rfl)) d_D_runSums_103 rfl)) (sRi (xT2 (xC (rNot (rJ2 (tgt := 125) j_ne (rIn 3 d_D_runSums_104 rfl) (rI d_D_runSums_105 rfl) d_D_runSums_106 (by decide)))) (xGoE (p2 := 138) (xS ls_D_276 (xA (rAi (rAi (rAi (rAr rA0 (rFr fl_D_12 nk_11_0 (rAn 0 d_D_runSums_109 rfl) d_D_runSums_110)) (rIl d_D_runSums_113)) (rIl d_D_runSums_115)) (rIl d_D_runSums_117))) (by decide) d_D_runSums_119) d_D_runSums_122 (by decide)) (xS ls_D_280 (xA (rAi (rAi (rAi (rAr rA0 (rFr fl_D_12 nk_11_0 (rAn 0 d_D_runSums_125 rfl) d_D_runSums_126)) (rIl d_D_runSums_129)) (rIl d_D_runSums_131)) (rIl d_D_runSums_133))) (by decide) d_D_runSums_135)) d_D_runSums_138 rfl))))))))))))
theorem m_D_fillOrderWords : Cond.instanceMethod y_D_fillOrderWords.1 ∈ zTb ∧ Cond.selects y_D_fillOrderWords.1.cls y_D_fillOrderWords.1 y_D_fillOrderWords.1 ∈ zTb ∧ Cond.initialized y_D_fillOrderWords.1.cls ∈ zTb ∧ Cond.code y_D_fillOrderWords.1 y_D_fillOrderWords.2.1 y_D_fillOrderWords.2.2.1 y_D_fillOrderWords.2.2.2 ∈ zTb ∧ (y_D_fillOrderWords.1.cls ≠ "java/lang/invoke/MethodHandle" ∧ y_D_fillOrderWords.1.cls ≠ "java/lang/invoke/VarHandle" ∧ (parseMethodDescriptor y_D_fillOrderWords.1.desc).map (fun d => d.parameters.length) = some 1) ∧ y_D_fillOrderWords.2.2.1 ≤ 20 :=
  ⟨(zTb_in 929 (by decide +kernel) (by decide +kernel)), (List.mem_filter.mpr ⟨List.mem_append_left _ (by decide +kernel), by decide +kernel⟩), (zTb_in 139 (by decide +kernel) (by decide +kernel)), (zTb_in 930 (by decide +kernel) (by decide +kernel)), by decide +kernel, by decide +kernel⟩
theorem lv_D_252 : zLv "DebtDoors" 252 y_D_fillOrderWords 1 11 := ⟨⟨(zTb_in 927 (by decide +kernel) (by decide +kernel)), m_D_fillOrderWords.1, m_D_fillOrderWords.2.1, m_D_fillOrderWords.2.2⟩, _, rfl, rfl⟩
theorem fl_D_247 : zFl "DebtDoors" 247 3 0 := ⟨_, rfl, by decide, (zTb_in 375 (by decide +kernel) (by decide +kernel)), rfl⟩
theorem m_D_runSums : Cond.instanceMethod y_D_runSums.1 ∈ zTb ∧ Cond.selects y_D_runSums.1.cls y_D_runSums.1 y_D_runSums.1 ∈ zTb ∧ Cond.initialized y_D_runSums.1.cls ∈ zTb ∧ Cond.code y_D_runSums.1 y_D_runSums.2.1 y_D_runSums.2.2.1 y_D_runSums.2.2.2 ∈ zTb ∧ (y_D_runSums.1.cls ≠ "java/lang/invoke/MethodHandle" ∧ y_D_runSums.1.cls ≠ "java/lang/invoke/VarHandle" ∧ (parseMethodDescriptor y_D_runSums.1.desc).map (fun d => d.parameters.length) = some 3) ∧ y_D_runSums.2.2.1 ≤ 20 :=
  ⟨(zTb_in 945 (by decide +kernel) (by decide +kernel)), (List.mem_filter.mpr ⟨List.mem_append_left _ (by decide +kernel), by decide +kernel⟩), (zTb_in 139 (by decide +kernel) (by decide +kernel)), (zTb_in 946 (by decide +kernel) (by decide +kernel)), by decide +kernel, by decide +kernel⟩
theorem lv_D_270 : zLv "DebtDoors" 270 y_D_runSums 3 11 := ⟨⟨(zTb_in 943 (by decide +kernel) (by decide +kernel)), m_D_runSums.1, m_D_runSums.2.1, m_D_runSums.2.2⟩, _, rfl, rfl⟩
def y_D_runClause : zMt := (⟨"DebtDoors", "runClause", "([II)I"⟩, prog_1_method_19_code, 8, some .int)
theorem d_D_runClause_0 : decode prog_1_method_19_code 0 = .ok (.aload_n 0, 1) := by decide +kernel
theorem d_D_runClause_1 : decode prog_1_method_19_code 1 = .ok (.getfield 51, 3) := by decide +kernel
theorem d_D_runClause_4 : decode prog_1_method_19_code 4 = .ok (.getfield 243, 3) := by decide +kernel
theorem d_D_runClause_7 : decode prog_1_method_19_code 7 = .ok (.astore_n 3, 1) := by decide +kernel
theorem d_D_runClause_8 : decode prog_1_method_19_code 8 = .ok (.aload_n 0, 1) := by decide +kernel
theorem d_D_runClause_9 : decode prog_1_method_19_code 9 = .ok (.aload_n 3, 1) := by decide +kernel
theorem d_D_runClause_10 : decode prog_1_method_19_code 10 = .ok (.getfield 247, 3) := by decide +kernel
theorem d_D_runClause_13 : decode prog_1_method_19_code 13 = .ok (.invokevirtual 252, 3) := by decide +kernel
theorem d_D_runClause_16 : decode prog_1_method_19_code 16 = .ok (.aload_n 1, 1) := by decide +kernel
theorem d_D_runClause_17 : decode prog_1_method_19_code 17 = .ok (.iload_n 2, 1) := by decide +kernel
theorem d_D_runClause_18 : decode prog_1_method_19_code 18 = .ok (.iconst 5, 1) := by decide +kernel
theorem d_D_runClause_19 : decode prog_1_method_19_code 19 = .ok (.invokestatic 235, 3) := by decide +kernel
theorem d_D_runClause_22 : decode prog_1_method_19_code 22 = .ok (.istore 4, 2) := by decide +kernel
theorem d_D_runClause_24 : decode prog_1_method_19_code 24 = .ok (.aload_n 1, 1) := by decide +kernel
theorem d_D_runClause_25 : decode prog_1_method_19_code 25 = .ok (.iload_n 2, 1) := by decide +kernel
theorem d_D_runClause_26 : decode prog_1_method_19_code 26 = .ok (.bipush 6, 2) := by decide +kernel
theorem d_D_runClause_28 : decode prog_1_method_19_code 28 = .ok (.invokestatic 235, 3) := by decide +kernel
theorem d_D_runClause_31 : decode prog_1_method_19_code 31 = .ok (.istore 5, 2) := by decide +kernel
theorem d_D_runClause_33 : decode prog_1_method_19_code 33 = .ok (.iload 4, 2) := by decide +kernel
theorem d_D_runClause_35 : decode prog_1_method_19_code 35 = .ok (.iload 5, 2) := by decide +kernel
theorem d_D_runClause_37 : decode prog_1_method_19_code 37 = .ok (.if_icmp .ge 25, 3) := by decide +kernel
theorem d_D_runClause_40 : decode prog_1_method_19_code 40 = .ok (.aload_n 3, 1) := by decide +kernel
theorem d_D_runClause_41 : decode prog_1_method_19_code 41 = .ok (.aload_n 1, 1) := by decide +kernel
theorem d_D_runClause_42 : decode prog_1_method_19_code 42 = .ok (.iload 4, 2) := by decide +kernel
theorem d_D_runClause_44 : decode prog_1_method_19_code 44 = .ok (.iload 5, 2) := by decide +kernel
theorem d_D_runClause_46 : decode prog_1_method_19_code 46 = .ok (.invokevirtual 256, 3) := by decide +kernel
theorem d_D_runClause_49 : decode prog_1_method_19_code 49 = .ok (.ifCond .eq 10, 3) := by decide +kernel
theorem d_D_runClause_52 : decode prog_1_method_19_code 52 = .ok (.aload_n 3, 1) := by decide +kernel
theorem d_D_runClause_53 : decode prog_1_method_19_code 53 = .ok (.getfield 259, 3) := by decide +kernel
theorem d_D_runClause_56 : decode prog_1_method_19_code 56 = .ok (.ifCond .eq 6, 3) := by decide +kernel
theorem d_D_runClause_59 : decode prog_1_method_19_code 59 = .ok (.bipush (-100), 2) := by decide +kernel
theorem d_D_runClause_61 : decode prog_1_method_19_code 61 = .ok (.ireturn, 1) := by decide +kernel
theorem d_D_runClause_62 : decode prog_1_method_19_code 62 = .ok (.aload_n 0, 1) := by decide +kernel
theorem d_D_runClause_63 : decode prog_1_method_19_code 63 = .ok (.getfield 34, 3) := by decide +kernel
theorem d_D_runClause_66 : decode prog_1_method_19_code 66 = .ok (.aload_n 0, 1) := by decide +kernel
theorem d_D_runClause_67 : decode prog_1_method_19_code 67 = .ok (.getfield 12, 3) := by decide +kernel
theorem d_D_runClause_70 : decode prog_1_method_19_code 70 = .ok (.getfield 115, 3) := by decide +kernel
theorem d_D_runClause_73 : decode prog_1_method_19_code 73 = .ok (.invokevirtual 263, 3) := by decide +kernel
theorem d_D_runClause_76 : decode prog_1_method_19_code 76 = .ok (.aload_n 1, 1) := by decide +kernel
theorem d_D_runClause_77 : decode prog_1_method_19_code 77 = .ok (.iload_n 2, 1) := by decide +kernel
theorem d_D_runClause_78 : decode prog_1_method_19_code 78 = .ok (.iconst 0, 1) := by decide +kernel
theorem d_D_runClause_79 : decode prog_1_method_19_code 79 = .ok (.invokestatic 235, 3) := by decide +kernel
theorem d_D_runClause_82 : decode prog_1_method_19_code 82 = .ok (.istore 6, 2) := by decide +kernel
theorem d_D_runClause_84 : decode prog_1_method_19_code 84 = .ok (.iload 6, 2) := by decide +kernel
theorem d_D_runClause_86 : decode prog_1_method_19_code 86 = .ok (.iconst 2, 1) := by decide +kernel
theorem d_D_runClause_87 : decode prog_1_method_19_code 87 = .ok (.if_icmp .ne 17, 3) := by decide +kernel
theorem d_D_runClause_90 : decode prog_1_method_19_code 90 = .ok (.aload_n 0, 1) := by decide +kernel
theorem d_D_runClause_91 : decode prog_1_method_19_code 91 = .ok (.getfield 12, 3) := by decide +kernel
theorem d_D_runClause_94 : decode prog_1_method_19_code 94 = .ok (.aload_n 0, 1) := by decide +kernel
theorem d_D_runClause_95 : decode prog_1_method_19_code 95 = .ok (.getfield 51, 3) := by decide +kernel
theorem d_D_runClause_98 : decode prog_1_method_19_code 98 = .ok (.invokestatic 266, 3) := by decide +kernel
theorem d_D_runClause_101 : decode prog_1_method_19_code 101 = .ok (.goto 11, 3) := by decide +kernel
theorem d_D_runClause_104 : decode prog_1_method_19_code 104 = .ok (.aload_n 0, 1) := by decide +kernel
theorem d_D_runClause_105 : decode prog_1_method_19_code 105 = .ok (.aload_n 1, 1) := by decide +kernel
theorem d_D_runClause_106 : decode prog_1_method_19_code 106 = .ok (.iload_n 2, 1) := by decide +kernel
theorem d_D_runClause_107 : decode prog_1_method_19_code 107 = .ok (.iload 6, 2) := by decide +kernel
theorem d_D_runClause_109 : decode prog_1_method_19_code 109 = .ok (.invokevirtual 270, 3) := by decide +kernel
theorem d_D_runClause_112 : decode prog_1_method_19_code 112 = .ok (.istore 7, 2) := by decide +kernel
theorem d_D_runClause_114 : decode prog_1_method_19_code 114 = .ok (.iload 7, 2) := by decide +kernel
theorem d_D_runClause_116 : decode prog_1_method_19_code 116 = .ok (.ifCond .lt 31, 3) := by decide +kernel
theorem d_D_runClause_119 : decode prog_1_method_19_code 119 = .ok (.aload_n 0, 1) := by decide +kernel
theorem d_D_runClause_120 : decode prog_1_method_19_code 120 = .ok (.getfield 34, 3) := by decide +kernel
theorem d_D_runClause_123 : decode prog_1_method_19_code 123 = .ok (.iload 6, 2) := by decide +kernel
theorem d_D_runClause_125 : decode prog_1_method_19_code 125 = .ok (.iconst 2, 1) := by decide +kernel
theorem d_D_runClause_126 : decode prog_1_method_19_code 126 = .ok (.if_icmp .ne 7, 3) := by decide +kernel
theorem d_D_runClause_129 : decode prog_1_method_19_code 129 = .ok (.iconst 4, 1) := by decide +kernel
theorem d_D_runClause_130 : decode prog_1_method_19_code 130 = .ok (.goto 14, 3) := by decide +kernel
theorem d_D_runClause_133 : decode prog_1_method_19_code 133 = .ok (.iload 6, 2) := by decide +kernel
theorem d_D_runClause_135 : decode prog_1_method_19_code 135 = .ok (.iconst 1, 1) := by decide +kernel
theorem d_D_runClause_136 : decode prog_1_method_19_code 136 = .ok (.if_icmp .ne 7, 3) := by decide +kernel
theorem d_D_runClause_139 : decode prog_1_method_19_code 139 = .ok (.iconst 1, 1) := by decide +kernel
theorem d_D_runClause_140 : decode prog_1_method_19_code 140 = .ok (.goto 4, 3) := by decide +kernel
theorem d_D_runClause_143 : decode prog_1_method_19_code 143 = .ok (.iconst 0, 1) := by decide +kernel
theorem d_D_runClause_144 : decode prog_1_method_19_code 144 = .ok (.invokevirtual 273, 3) := by decide +kernel
theorem d_D_runClause_147 : decode prog_1_method_19_code 147 = .ok (.iload 7, 2) := by decide +kernel
theorem d_D_runClause_149 : decode prog_1_method_19_code 149 = .ok (.ireturn, 1) := by decide +kernel
def w_D_runClause {d : Nat} (hd : 3 ≤ d) := (show SS ("DebtDoors", prog_1_method_19_code, 8) (some .int) d 0 0 0 0 _ from (sS (p1 := 8) (sRn 3 (rFr fl_D_243 nk_7_0 (rFr fl_D_51 nk_11_7 (rAn 0 d_D_runClause_0 rfl) d_D_runClause_1) d_D_runClause_4) d_D_runClause_7 rfl (by decide)) (sS (p1 := 16) (sV (xVv lv_D_252 (xA (rAr (rAr rA0 (rAn 0 d_D_runClause_8 rfl)) (rFr fl_D_247 nk_3_0 (rAn 3 d_D_runClause_9 rfl) d_D_runClause_10))) (by decide) d_D_runClause_13)) (sS (p1 := 24) (sI (xE (rS p_D_column (Nat.le_trans (Nat.le_of_ble_eq_true rfl) hd) ls_D_235 (rAi (rAi (rAr rA0 (rAn 1 d_D_runClause_16 rfl)) (rIn 2 d_D_runClause_17 rfl)) (rI d_D_runClause_18 rfl)) (by decide) d_D_runClause_19)) d_D_runClause_22 (by decide)) (sS (p1 := 33) (sI (xE (rS p_D_column (Nat.le_trans (Nat.le_of_ble_eq_true rfl) hd) ls_D_235 (rAi (rAi (rAr rA0 (rAn 1 d_D_runClause_24 rfl)) (rIn 2 d_D_runClause_25 rfl)) (rB d_D_runClause_26 rfl)) (by decide) d_D_runClause_28)) d_D_runClause_31 (by decide)) (sS (p1 := 62) (sIf (pn := 62) (tt := 59) (xAnd (mm := 40) (xC (rNot (rJ2 (tgt := 62) j_ge (rIl d_D_runClause_33) (rIl d_D_runClause_35) d_D_runClause_37 (by decide)))) (xOr (mm := 52) (xJ1 (tgt := 59) k_eq (xV lv_D_256 (xA (rAi (rAi (rAr (rAr rA0 (rAn 3 d_D_runClause_40 rfl)) (rAn 1 d_D_runClause_41 rfl)) (rIl d_D_runClause_42)) (rIl d_D_runClause_44))) (by decide) d_D_runClause_46) d_D_runClause_49 (by decide)) (xC (rNot (rJ1 (tgt := 62) k_eq (rF 2 fl_D_259 nk_3_2 (rAn 3 d_D_runClause_52 rfl) d_D_runClause_53 rfl) d_D_runClause_56 (by decide)))))) (sRi (xE (rB d_D_runClause_59 rfl)) d_D_runClause_61 rfl)) (sS (p1 := 76) (sV (xVv lv_D_263 (xA (rAr (rAr rA0 (rFr fl_D_34 nk_11_4 (rAn 0 d_D_runClause_62 rfl) d_D_runClause_63)) (rFr fl_D_115 nk_9_0 (rFr fl_D_12 nk_11_0 (rAn 0 d_D_runClause_66 rfl) d_D_runClause_67) d_D_runClause_70))) (by decide) d_D_runClause_73)) (sS (p1 := 84) (sI (xE (rS p_D_column (Nat.le_trans (Nat.le_of_ble_eq_true rfl) hd) ls_D_235 (rAi (rAi (rAr rA0 (rAn 1 d_D_runClause_76 rfl)) (rIn 2 d_D_runClause_77 rfl)) (rI d_D_runClause_78 rfl)) (by decide) d_D_runClause_79)) d_D_runClause_82 (by decide)) (sS (p1 := 114) (sI (xT2 (xC (rNot (rJ2 (tgt := 104) j_ne (rIl d_D_runClause_84) (rI d_D_runClause_86 rfl) d_D_runClause_87 (by decide)))) (xGoE (p2 := 112) (xS ls_D_266 (xA (rAr (rAr rA0 (rFr fl_D_12 nk_11_0 (rAn 0 d_D_runClause_90 rfl) d_D_runClause_91)) (rFr fl_D_51 nk_11_7 (rAn 0 d_D_runClause_94 rfl) d_D_runClause_95))) (by decide) d_D_runClause_98) d_D_runClause_101 (by decide)) (xV lv_D_270 (xA (rAi (rAi (rAr (rAr rA0 (rAn 0 d_D_runClause_104 rfl)) (rAn 1 d_D_runClause_105 rfl)) (rIn 2 d_D_runClause_106 rfl)) (rIl d_D_runClause_107))) (by decide) d_D_runClause_109)) d_D_runClause_112 (by decide)) (sS (p1 := 147) (sIf (pn := 147) (tt := 119) (xC (rNot (rJ1 (tgt := 147) k_lt (rIl d_D_runClause_114) d_D_runClause_116 (by decide)))) (sV (xVv lv_D_273 (xA (rAi (rAr rA0 (rFr fl_D_34 nk_11_4 (rAn 0 d_D_runClause_119 rfl) d_D_runClause_120)) (rT2 (rNot (rJ2 (tgt := 133) j_ne (rIl d_D_runClause_123) (rI d_D_runClause_125 rfl) d_D_runClause_126 (by decide))) (rGoE (p2 := 144) (rI d_D_runClause_129 rfl) d_D_runClause_130 (by decide)) (rT2 (rNot (rJ2 (tgt := 143) j_ne (rIl d_D_runClause_133) (rI d_D_runClause_135 rfl) d_D_runClause_136 (by decide))) (rGoE (p2 := 144) (rI d_D_runClause_139 rfl) d_D_runClause_140 (by decide)) (rI d_D_runClause_143 rfl))))) (by decide) d_D_runClause_144))) (sRi (xE (rIl d_D_runClause_147)) d_D_runClause_149 rfl)))))))))))
theorem fp_11_18 : zFp 11 18 0 := ⟨_, rfl, rfl, rfl, by decide⟩
theorem m_D_runClause : Cond.instanceMethod y_D_runClause.1 ∈ zTb ∧ Cond.selects y_D_runClause.1.cls y_D_runClause.1 y_D_runClause.1 ∈ zTb ∧ Cond.initialized y_D_runClause.1.cls ∈ zTb ∧ Cond.code y_D_runClause.1 y_D_runClause.2.1 y_D_runClause.2.2.1 y_D_runClause.2.2.2 ∈ zTb ∧ (y_D_runClause.1.cls ≠ "java/lang/invoke/MethodHandle" ∧ y_D_runClause.1.cls ≠ "java/lang/invoke/VarHandle" ∧ (parseMethodDescriptor y_D_runClause.1.desc).map (fun d => d.parameters.length) = some 2) ∧ y_D_runClause.2.2.1 ≤ 20 :=
  ⟨(zTb_in 925 (by decide +kernel) (by decide +kernel)), (List.mem_filter.mpr ⟨List.mem_append_left _ (by decide +kernel), by decide +kernel⟩), (zTb_in 139 (by decide +kernel) (by decide +kernel)), (zTb_in 926 (by decide +kernel) (by decide +kernel)), by decide +kernel, by decide +kernel⟩
theorem lv_D_239 : zLv "DebtDoors" 239 y_D_runClause 2 11 := ⟨⟨(zTb_in 923 (by decide +kernel) (by decide +kernel)), m_D_runClause.1, m_D_runClause.2.1, m_D_runClause.2.2⟩, _, rfl, rfl⟩
def y_D_runOrders : zMt := (⟨"DebtDoors", "runOrders", "([I)I"⟩, prog_1_method_18_code, 7, some .int)
theorem d_D_runOrders_0 : decode prog_1_method_18_code 0 = .ok (.aload_n 0, 1) := by decide +kernel
theorem d_D_runOrders_1 : decode prog_1_method_18_code 1 = .ok (.iconst 0, 1) := by decide +kernel
theorem d_D_runOrders_2 : decode prog_1_method_18_code 2 = .ok (.putfield 232, 3) := by decide +kernel
theorem d_D_runOrders_5 : decode prog_1_method_18_code 5 = .ok (.aload_n 0, 1) := by decide +kernel
theorem d_D_runOrders_6 : decode prog_1_method_18_code 6 = .ok (.iconst (-1), 1) := by decide +kernel
theorem d_D_runOrders_7 : decode prog_1_method_18_code 7 = .ok (.putfield 101, 3) := by decide +kernel
theorem d_D_runOrders_10 : decode prog_1_method_18_code 10 = .ok (.aload_n 1, 1) := by decide +kernel
theorem d_D_runOrders_11 : decode prog_1_method_18_code 11 = .ok (.iconst 0, 1) := by decide +kernel
theorem d_D_runOrders_12 : decode prog_1_method_18_code 12 = .ok (.iaload, 1) := by decide +kernel
theorem d_D_runOrders_13 : decode prog_1_method_18_code 13 = .ok (.istore_n 2, 1) := by decide +kernel
theorem d_D_runOrders_14 : decode prog_1_method_18_code 14 = .ok (.iconst 0, 1) := by decide +kernel
theorem d_D_runOrders_15 : decode prog_1_method_18_code 15 = .ok (.istore_n 3, 1) := by decide +kernel
theorem d_D_runOrders_16 : decode prog_1_method_18_code 16 = .ok (.iload_n 3, 1) := by decide +kernel
theorem d_D_runOrders_17 : decode prog_1_method_18_code 17 = .ok (.iload_n 2, 1) := by decide +kernel
theorem d_D_runOrders_18 : decode prog_1_method_18_code 18 = .ok (.if_icmp .ge 90, 3) := by decide +kernel
theorem d_D_runOrders_21 : decode prog_1_method_18_code 21 = .ok (.aload_n 1, 1) := by decide +kernel
theorem d_D_runOrders_22 : decode prog_1_method_18_code 22 = .ok (.iload_n 3, 1) := by decide +kernel
theorem d_D_runOrders_23 : decode prog_1_method_18_code 23 = .ok (.iconst 1, 1) := by decide +kernel
theorem d_D_runOrders_24 : decode prog_1_method_18_code 24 = .ok (.invokestatic 235, 3) := by decide +kernel
theorem d_D_runOrders_27 : decode prog_1_method_18_code 27 = .ok (.istore 4, 2) := by decide +kernel
theorem d_D_runOrders_29 : decode prog_1_method_18_code 29 = .ok (.iconst 0, 1) := by decide +kernel
theorem d_D_runOrders_30 : decode prog_1_method_18_code 30 = .ok (.istore 5, 2) := by decide +kernel
theorem d_D_runOrders_32 : decode prog_1_method_18_code 32 = .ok (.iload 5, 2) := by decide +kernel
theorem d_D_runOrders_34 : decode prog_1_method_18_code 34 = .ok (.iload 4, 2) := by decide +kernel
theorem d_D_runOrders_36 : decode prog_1_method_18_code 36 = .ok (.if_icmp .ge 66, 3) := by decide +kernel
theorem d_D_runOrders_39 : decode prog_1_method_18_code 39 = .ok (.aload_n 0, 1) := by decide +kernel
theorem d_D_runOrders_40 : decode prog_1_method_18_code 40 = .ok (.aload_n 1, 1) := by decide +kernel
theorem d_D_runOrders_41 : decode prog_1_method_18_code 41 = .ok (.iload_n 3, 1) := by decide +kernel
theorem d_D_runOrders_42 : decode prog_1_method_18_code 42 = .ok (.invokevirtual 239, 3) := by decide +kernel
theorem d_D_runOrders_45 : decode prog_1_method_18_code 45 = .ok (.istore 6, 2) := by decide +kernel
theorem d_D_runOrders_47 : decode prog_1_method_18_code 47 = .ok (.iload 6, 2) := by decide +kernel
theorem d_D_runOrders_49 : decode prog_1_method_18_code 49 = .ok (.bipush (-100), 2) := by decide +kernel
theorem d_D_runOrders_51 : decode prog_1_method_18_code 51 = .ok (.if_icmp .ne 6, 3) := by decide +kernel
theorem d_D_runOrders_54 : decode prog_1_method_18_code 54 = .ok (.goto 42, 3) := by decide +kernel
theorem d_D_runOrders_57 : decode prog_1_method_18_code 57 = .ok (.iload 6, 2) := by decide +kernel
theorem d_D_runOrders_59 : decode prog_1_method_18_code 59 = .ok (.ifCond .ge 11, 3) := by decide +kernel
theorem d_D_runOrders_62 : decode prog_1_method_18_code 62 = .ok (.aload_n 0, 1) := by decide +kernel
theorem d_D_runOrders_63 : decode prog_1_method_18_code 63 = .ok (.iload_n 3, 1) := by decide +kernel
theorem d_D_runOrders_64 : decode prog_1_method_18_code 64 = .ok (.putfield 97, 3) := by decide +kernel
theorem d_D_runOrders_67 : decode prog_1_method_18_code 67 = .ok (.iload 6, 2) := by decide +kernel
theorem d_D_runOrders_69 : decode prog_1_method_18_code 69 = .ok (.ireturn, 1) := by decide +kernel
theorem d_D_runOrders_70 : decode prog_1_method_18_code 70 = .ok (.aload_n 0, 1) := by decide +kernel
theorem d_D_runOrders_71 : decode prog_1_method_18_code 71 = .ok (.dup, 1) := by decide +kernel
theorem d_D_runOrders_72 : decode prog_1_method_18_code 72 = .ok (.getfield 232, 3) := by decide +kernel
theorem d_D_runOrders_75 : decode prog_1_method_18_code 75 = .ok (.iconst 1, 1) := by decide +kernel
theorem d_D_runOrders_76 : decode prog_1_method_18_code 76 = .ok (.iadd, 1) := by decide +kernel
theorem d_D_runOrders_77 : decode prog_1_method_18_code 77 = .ok (.putfield 232, 3) := by decide +kernel
theorem d_D_runOrders_80 : decode prog_1_method_18_code 80 = .ok (.aload_n 1, 1) := by decide +kernel
theorem d_D_runOrders_81 : decode prog_1_method_18_code 81 = .ok (.iload_n 3, 1) := by decide +kernel
theorem d_D_runOrders_82 : decode prog_1_method_18_code 82 = .ok (.iconst 0, 1) := by decide +kernel
theorem d_D_runOrders_83 : decode prog_1_method_18_code 83 = .ok (.invokestatic 235, 3) := by decide +kernel
theorem d_D_runOrders_86 : decode prog_1_method_18_code 86 = .ok (.iconst 2, 1) := by decide +kernel
theorem d_D_runOrders_87 : decode prog_1_method_18_code 87 = .ok (.if_icmp .eq 9, 3) := by decide +kernel
theorem d_D_runOrders_90 : decode prog_1_method_18_code 90 = .ok (.aload_n 0, 1) := by decide +kernel
theorem d_D_runOrders_91 : decode prog_1_method_18_code 91 = .ok (.iload 6, 2) := by decide +kernel
theorem d_D_runOrders_93 : decode prog_1_method_18_code 93 = .ok (.putfield 101, 3) := by decide +kernel
theorem d_D_runOrders_96 : decode prog_1_method_18_code 96 = .ok (.iinc 5 1, 3) := by decide +kernel
theorem d_D_runOrders_99 : decode prog_1_method_18_code 99 = .ok (.goto (-67), 3) := by decide +kernel
theorem d_D_runOrders_102 : decode prog_1_method_18_code 102 = .ok (.iinc 3 1, 3) := by decide +kernel
theorem d_D_runOrders_105 : decode prog_1_method_18_code 105 = .ok (.goto (-89), 3) := by decide +kernel
theorem d_D_runOrders_108 : decode prog_1_method_18_code 108 = .ok (.iconst 0, 1) := by decide +kernel
theorem d_D_runOrders_109 : decode prog_1_method_18_code 109 = .ok (.ireturn, 1) := by decide +kernel
def w_D_runOrders {d : Nat} (hd : 3 ≤ d) := (show SS ("DebtDoors", prog_1_method_18_code, 7) (some .int) d 0 0 0 0 _ from (sS (p1 := 5) (sP 18 fl_D_232 fp_11_18 nk_11_18 (rAn 0 d_D_runOrders_0 rfl) (xE (rI d_D_runOrders_1 rfl)) d_D_runOrders_2 rfl) (sS (p1 := 10) (sP 19 fl_D_101 fp_11_19 nk_11_19 (rAn 0 d_D_runOrders_5 rfl) (xE (rI d_D_runOrders_6 rfl)) d_D_runOrders_7 rfl) (sS (p1 := 14) (sIn 2 (xE (rIa (rAn 1 d_D_runOrders_10 rfl) (rI d_D_runOrders_11 rfl) d_D_runOrders_12)) d_D_runOrders_13 rfl (by decide)) (sS (p1 := 108) (sS (p1 := 16) (sIn 3 (xE (rI d_D_runOrders_14 rfl)) d_D_runOrders_15 rfl (by decide)) (sLp (ps := 102) (tt := 21) (pn := 108) (p1 := 0) (p2 := 0) (xC (rNot (rJ2 (tgt := 108) j_ge (rIn 3 d_D_runOrders_16 rfl) (rIn 2 d_D_runOrders_17 rfl) d_D_runOrders_18 (by decide)))) (sS (p1 := 29) (sI (xE (rS p_D_column (Nat.le_trans (Nat.le_of_ble_eq_true rfl) hd) ls_D_235 (rAi (rAi (rAr rA0 (rAn 1 d_D_runOrders_21 rfl)) (rIn 3 d_D_runOrders_22 rfl)) (rI d_D_runOrders_23 rfl)) (by decide) d_D_runOrders_24)) d_D_runOrders_27 (by decide)) (sS (p1 := 32) (sI (xE (rI d_D_runOrders_29 rfl)) d_D_runOrders_30 (by decide)) (sLp (ps := 96) (tt := 39) (pn := 102) (p1 := 0) (p2 := 0) (xC (rNot (rJ2 (tgt := 102) j_ge (rIl d_D_runOrders_32) (rIl d_D_runOrders_34) d_D_runOrders_36 (by decide)))) (sS (p1 := 47) (sI (xV lv_D_239 (xA (rAi (rAr (rAr rA0 (rAn 0 d_D_runOrders_39 rfl)) (rAn 1 d_D_runOrders_40 rfl)) (rIn 3 d_D_runOrders_41 rfl))) (by decide) d_D_runOrders_42) d_D_runOrders_45 (by decide)) (sS (p1 := 57) (sIf (pn := 57) (tt := 96) (xC (rGt (p2 := 96) (rNot (rJ2 (tgt := 57) j_ne (rIl d_D_runOrders_47) (rB d_D_runOrders_49 rfl) d_D_runOrders_51 (by decide))) d_D_runOrders_54 (by decide))) sCo0) (sS (p1 := 70) (sIf (pn := 70) (tt := 62) (xC (rNot (rJ1 (tgt := 70) k_ge (rIl d_D_runOrders_57) d_D_runOrders_59 (by decide)))) (sS (p1 := 67) (sP 17 fl_D_97 fp_11_17 nk_11_17 (rAn 0 d_D_runOrders_62 rfl) (xE (rIn 3 d_D_runOrders_63 rfl)) d_D_runOrders_64 rfl) (sRi (xE (rIl d_D_runOrders_67)) d_D_runOrders_69 rfl))) (sS (p1 := 80) (sPo 18 o_add fl_D_232 fp_11_18 nk_11_18 (rAn 0 d_D_runOrders_70 rfl) d_D_runOrders_71 d_D_runOrders_72 (rI d_D_runOrders_75 rfl) d_D_runOrders_76 d_D_runOrders_77 rfl) (sIf (pn := 96) (tt := 90) (xC (rNot (rJ2 (tgt := 96) j_eq (rS p_D_column (Nat.le_trans (Nat.le_of_ble_eq_true rfl) hd) ls_D_235 (rAi (rAi (rAr rA0 (rAn 1 d_D_runOrders_80 rfl)) (rIn 3 d_D_runOrders_81 rfl)) (rI d_D_runOrders_82 rfl)) (by decide) d_D_runOrders_83) (rI d_D_runOrders_86 rfl) d_D_runOrders_87 (by decide)))) (sP 19 fl_D_101 fp_11_19 nk_11_19 (rAn 0 d_D_runOrders_90 rfl) (xE (rIl d_D_runOrders_91)) d_D_runOrders_93 rfl)))))) (sGo (pn := 32) (sInc d_D_runOrders_96 (by decide)) d_D_runOrders_99 (by decide))))) (sGo (pn := 16) (sInc d_D_runOrders_102 (by decide)) d_D_runOrders_105 (by decide)))) (sRi (xE (rI d_D_runOrders_108 rfl)) d_D_runOrders_109 rfl))))))
set_option maxRecDepth 20000 in
theorem q_D_fillOrderWords {d : Nat} (hd : 2 ≤ d) {μ : zMem} {Z : Zt} {F : Option (List Cls)} {A : Lg} {w : Int → Int} (h : CTx μ Z F A w) : zSp d 0 0 y_D_fillOrderWords zT0 [vr 0, vr 326] μ zT0 (fun r μ' => r = none ∧ μ' 326 = fillO Z A (μ 0 18) (μ 0 19) (μ 326) ∧ zfc [326] μ μ') := by
  obtain ⟨n1, n2, n3, n4, n5, n6, n7⟩ := h.n
  refine zSp.ss [vr 0, vr 326, vx 0, vx 0] rfl (w_D_fillOrderWords (Nat.le_trans (by decide) hd)) rfl rfl ?_
  (try simp only [zit_e, Bool.and_eq_true, Bool.or_eq_true, Bool.not_eq_true', Bool.and_eq_false_iff, Bool.or_eq_false_iff, Bool.not_eq_false', zbe, zdt, zdf, zb2_p, zbp_0, zbp_1, zbp_inj, zbp_01, Bool.true_eq_false, Bool.false_eq_true, true_and, and_true, Decidable.not_not, Classical.not_not, implies_true, List.nil_append, List.cons_append, List.append_assoc, Option.some.injEq, Sum.inl.injEq, zSw_c, zSw_n]); (try simp only [zit_e, Bool.and_eq_true, Bool.or_eq_true, Bool.not_eq_true', Bool.and_eq_false_iff, Bool.or_eq_false_iff, Bool.not_eq_false', zbe, zdt, zdf, zb2_p, zbp_0, zbp_1, zbp_inj, zbp_01, Bool.true_eq_false, Bool.false_eq_true, true_and, and_true, Decidable.not_not, Classical.not_not, implies_true, List.nil_append, List.cons_append, List.append_assoc, Option.some.injEq, Sum.inl.injEq, zSw_c, zSw_n, zc_0, zc_1, zc_2]); (try simp only [zi_cs, zi_c0, zii_cs, zii_c0, zl_cs, zl_c0, zll_cs, zll_c0, zr_cs, zr_c0, zrr_cs, zrr_c0, zxs_cs, zxs_c0, zxx_cs, zxx_c0, zfree_c0, zfree_c1, zfree_cs, zfree_cz, zlong_i, zlong_r, zlong_x, zset_0, zset_s, true_and, and_true, Option.some.injEq, Sum.inl.injEq, Sum.inr.injEq, zb2_p, zbp_0, zbp_1, zbp_inj, zbp_01, Nat.zero_add, Nat.reduceAdd, implies_true, List.nil_append, List.cons_append, List.append_assoc, Int.not_lt, Int.not_le, Decidable.not_not, Int.zero_add, Int.reduceLE, Int.reduceLT, Int.reduceEq, Int.reduceNe, Int.reduceAdd, Int.reduceSub, Int.reduceMul, Int.reduceNeg, Int.reduceToNat, Nat.reduceMul, Nat.reduceLT, Nat.reduceEqDiff, and_self, ite_true, ite_false, zx1, zx2, zRecv, List.length_cons, List.length_nil, ne_eq, not_true_eq_false, not_false_eq_true, true_or, or_true, or_false, false_or, and_false, false_and, zf01, zf10, reduceCtorEq, zSw_c, zSw_n, zm_r, zit_T, zit_F, false_implies, true_implies, zc_0, zc_1, zc_2])
  have hd2 := h.d
  have hz := h.1.1
  have k6 : μ 1 6 = Z.1 := n2
  have hk0 : zkd 326 = 0 := rfl
  have hk1 : zln 326 = 60 := rfl
  refine ⟨hk0, by rw [hk1]; decide, hk0, by rw [hk1]; decide, hk0, by rw [hk1]; decide, hk0, by rw [hk1]; decide, ?_⟩
  generalize hdn : μ 0 18 = dn
  generalize hls : μ 0 19 = ls
  have o0 : ∀ i : Int, 0 ≤ i → i < 4 → ordW Z A dn ls i = zit (i = 3) ls (zit (i = 2) dn (zit (i = 1) (μ 2 5) (zit (i = 0) (μ 2 6) (μ 326 i)))) := fun i a b => by
    unfold ordW
    rw [n4, n6]
    by_cases c0 : i = 0
    · simp only [c0, zit_T, zit_F, Int.reduceEq]
    by_cases c1 : i = 1
    · simp only [c1, zit_T, zit_F, Int.reduceEq]
    by_cases c2 : i = 2
    · simp only [c2, zit_T, zit_F, Int.reduceEq]
    have c3 : i = 3 := by omega
    simp only [c3, zit_T, zit_F, Int.reduceEq]
  refine zLoop.up 7 (fun j ρ μ1 => ρ = [vr 0, vr 326, vr 2, vi j] ∧ zfc [326] μ μ1 ∧ (∀ i : Int, 0 ≤ i → i < 4 + j → μ1 326 i = ordW Z A dn ls i) ∧ ∀ i : Int, ¬ (0 ≤ i ∧ i < 60) → μ1 326 i = μ 326 i) ⟨rfl, (((zfc.rf.zm (by decide)).zm (by decide)).zm (by decide)).zm (by decide), fun i a b => ?_, fun i hi => ?_⟩ ?_
  · rw [o0 i a (by omega)]
    simp only [zm_r, zit_T]
  · rw [zm_o (by omega), zm_o (by omega), zm_o (by omega), zm_o (by omega)]
  rintro j ρ μ1 hj ⟨rfl, hf, h1, h2⟩
  have f0 := hf 0 (by decide)
  have f1 := hf 1 (by decide)
  have f2 := hf 2 (by decide)
  have f3 := hf 3 (by decide)
  (try simp only [zit_e, Bool.and_eq_true, Bool.or_eq_true, Bool.not_eq_true', Bool.and_eq_false_iff, Bool.or_eq_false_iff, Bool.not_eq_false', zbe, zdt, zdf, zb2_p, zbp_0, zbp_1, zbp_inj, zbp_01, Bool.true_eq_false, Bool.false_eq_true, true_and, and_true, Decidable.not_not, Classical.not_not, implies_true, List.nil_append, List.cons_append, List.append_assoc, Option.some.injEq, Sum.inl.injEq, zSw_c, zSw_n]); (try simp only [zit_e, Bool.and_eq_true, Bool.or_eq_true, Bool.not_eq_true', Bool.and_eq_false_iff, Bool.or_eq_false_iff, Bool.not_eq_false', zbe, zdt, zdf, zb2_p, zbp_0, zbp_1, zbp_inj, zbp_01, Bool.true_eq_false, Bool.false_eq_true, true_and, and_true, Decidable.not_not, Classical.not_not, implies_true, List.nil_append, List.cons_append, List.append_assoc, Option.some.injEq, Sum.inl.injEq, zSw_c, zSw_n, zc_0, zc_1, zc_2]); (try simp only [zi_cs, zi_c0, zii_cs, zii_c0, zl_cs, zl_c0, zll_cs, zll_c0, zr_cs, zr_c0, zrr_cs, zrr_c0, zxs_cs, zxs_c0, zxx_cs, zxx_c0, zfree_c0, zfree_c1, zfree_cs, zfree_cz, zlong_i, zlong_r, zlong_x, zset_0, zset_s, true_and, and_true, Option.some.injEq, Sum.inl.injEq, Sum.inr.injEq, zb2_p, zbp_0, zbp_1, zbp_inj, zbp_01, Nat.zero_add, Nat.reduceAdd, implies_true, List.nil_append, List.cons_append, List.append_assoc, Int.not_lt, Int.not_le, Decidable.not_not, Int.zero_add, Int.reduceLE, Int.reduceLT, Int.reduceEq, Int.reduceNe, Int.reduceAdd, Int.reduceSub, Int.reduceMul, Int.reduceNeg, Int.reduceToNat, Nat.reduceMul, Nat.reduceLT, Nat.reduceEqDiff, and_self, ite_true, ite_false, zx1, zx2, zRecv, List.length_cons, List.length_nil, ne_eq, not_true_eq_false, not_false_eq_true, true_or, or_true, or_false, false_or, and_false, false_and, zf01, zf10, reduceCtorEq, zSw_c, zSw_n, zm_r, zit_T, zit_F, false_implies, true_implies, zc_0, zc_1, zc_2])
  rw [f1, f3, k6]
  refine zif (fun c => ?_) (fun c => ?_)
  · refine ⟨by ((try simp only [zI_e]); (first | done | omega | skip)), hk0, by omega, by rw [hk1]; omega, ?_⟩
    refine ⟨fun _ => by omega, by ((try simp only [zI_e]); (first | done | omega | skip)), ?_⟩
    refine znx (by omega) ⟨rfl, hf.zm (by decide), fun i a b => ?_, fun i hi => ?_⟩
    · by_cases q : i = 4 + (j : Int)
      · rw [zit_t q, q]
        have hp := (h.p).1 j (by omega) (by omega)
        unfold ordW
        rw [zit_f (show ¬ 4 + (j : Int) = 0 by omega), zit_f (show ¬ 4 + (j : Int) = 1 by omega), zit_f (show ¬ 4 + (j : Int) = 2 by omega), zit_f (show ¬ 4 + (j : Int) = 3 by omega), zit_t (show 4 + (j : Int) < 11 by omega), show 4 + (j : Int) - 4 = j by omega, hp]
      · rw [zit_f q]
        exact h1 i a (by omega)
    · rw [zit_f (show ¬ i = 4 + (j : Int) by omega)]
      exact h2 i hi
  · have hj7 : j = 7 := by omega
    subst hj7
    refine zLoop.up 49 (fun j ρ μ1 => ρ = [vr 0, vr 326, vr 2, vi (11 + j)] ∧ zfc [326] μ μ1 ∧ (∀ i : Int, 0 ≤ i → i < 11 → μ1 326 i = ordW Z A dn ls i) ∧ (∀ i : Int, 11 ≤ i → i < 11 + j → μ1 326 i = 0) ∧ ∀ i : Int, ¬ (0 ≤ i ∧ i < 60) → μ1 326 i = μ 326 i) ⟨rfl, hf, fun i a b => h1 i a (by omega), fun i a b => by omega, h2⟩ ?_
    rintro j ρ μ2 hj ⟨rfl, hf, h1, h3, h2⟩
    have f0 := hf 0 (by decide)
    have f2 := hf 2 (by decide)
    (try simp only [zit_e, Bool.and_eq_true, Bool.or_eq_true, Bool.not_eq_true', Bool.and_eq_false_iff, Bool.or_eq_false_iff, Bool.not_eq_false', zbe, zdt, zdf, zb2_p, zbp_0, zbp_1, zbp_inj, zbp_01, Bool.true_eq_false, Bool.false_eq_true, true_and, and_true, Decidable.not_not, Classical.not_not, implies_true, List.nil_append, List.cons_append, List.append_assoc, Option.some.injEq, Sum.inl.injEq, zSw_c, zSw_n]); (try simp only [zit_e, Bool.and_eq_true, Bool.or_eq_true, Bool.not_eq_true', Bool.and_eq_false_iff, Bool.or_eq_false_iff, Bool.not_eq_false', zbe, zdt, zdf, zb2_p, zbp_0, zbp_1, zbp_inj, zbp_01, Bool.true_eq_false, Bool.false_eq_true, true_and, and_true, Decidable.not_not, Classical.not_not, implies_true, List.nil_append, List.cons_append, List.append_assoc, Option.some.injEq, Sum.inl.injEq, zSw_c, zSw_n, zc_0, zc_1, zc_2]); (try simp only [zi_cs, zi_c0, zii_cs, zii_c0, zl_cs, zl_c0, zll_cs, zll_c0, zr_cs, zr_c0, zrr_cs, zrr_c0, zxs_cs, zxs_c0, zxx_cs, zxx_c0, zfree_c0, zfree_c1, zfree_cs, zfree_cz, zlong_i, zlong_r, zlong_x, zset_0, zset_s, true_and, and_true, Option.some.injEq, Sum.inl.injEq, Sum.inr.injEq, zb2_p, zbp_0, zbp_1, zbp_inj, zbp_01, Nat.zero_add, Nat.reduceAdd, implies_true, List.nil_append, List.cons_append, List.append_assoc, Int.not_lt, Int.not_le, Decidable.not_not, Int.zero_add, Int.reduceLE, Int.reduceLT, Int.reduceEq, Int.reduceNe, Int.reduceAdd, Int.reduceSub, Int.reduceMul, Int.reduceNeg, Int.reduceToNat, Nat.reduceMul, Nat.reduceLT, Nat.reduceEqDiff, and_self, ite_true, ite_false, zx1, zx2, zRecv, List.length_cons, List.length_nil, ne_eq, not_true_eq_false, not_false_eq_true, true_or, or_true, or_false, false_or, and_false, false_and, zf01, zf10, reduceCtorEq, zSw_c, zSw_n, zm_r, zit_T, zit_F, false_implies, true_implies, zc_0, zc_1, zc_2])
    refine zif (fun c => ?_) (fun c => ?_)
    · refine ⟨hk0, by omega, by rw [hk1]; omega, by ((try simp only [zI_e]); (first | done | omega | skip)), ?_⟩
      refine znx (by omega) ⟨by rw [show 11 + (j : Int) + 1 = 11 + ((j + 1 : Nat) : Int) by omega], hf.zm (by decide), fun i a b => ?_, fun i a b => ?_, fun i hi => ?_⟩
      · rw [zit_f (show ¬ i = 11 + (j : Int) by omega)]
        exact h1 i a b
      · by_cases q : i = 11 + (j : Int)
        · rw [zit_t q]
        · rw [zit_f q]
          exact h3 i a (by omega)
      · rw [zit_f (show ¬ i = 11 + (j : Int) by omega)]
        exact h2 i hi
    · have hj7 : j = 49 := by omega
      subst hj7
      have hT := hd2.2.2.2.1
      have hn16 := hT.1
      have hT2 := hT.2
      refine zLoop.up (μ 2 5).toNat (fun j ρ μ1 => ρ = [vr 0, vr 326, vr 2, vi j] ∧ zfc [326] μ μ1 ∧ (∀ i : Int, 0 ≤ i → i < 11 → μ1 326 i = ordW Z A dn ls i) ∧ (∀ i : Int, 11 ≤ i → i < 60 → μ1 326 i = owL ((i - 11) / 7) ((i - 11) % 7) (tL j (fD μ))) ∧ ∀ i : Int, ¬ (0 ≤ i ∧ i < 60) → μ1 326 i = μ 326 i) ⟨rfl, hf, h1, fun i a b => by rw [h3 i a (by omega)]; rfl, h2⟩ ?_
      rintro j ρ μ3 hj ⟨rfl, hf, h1, h3, h2⟩
      have f2 := hf 2 (by decide)
      have f4 := hf 4 (by decide)
      have f5 := hf 5 (by decide)
      have f6 := hf 6 (by decide)
      (try simp only [zit_e, Bool.and_eq_true, Bool.or_eq_true, Bool.not_eq_true', Bool.and_eq_false_iff, Bool.or_eq_false_iff, Bool.not_eq_false', zbe, zdt, zdf, zb2_p, zbp_0, zbp_1, zbp_inj, zbp_01, Bool.true_eq_false, Bool.false_eq_true, true_and, and_true, Decidable.not_not, Classical.not_not, implies_true, List.nil_append, List.cons_append, List.append_assoc, Option.some.injEq, Sum.inl.injEq, zSw_c, zSw_n]); (try simp only [zit_e, Bool.and_eq_true, Bool.or_eq_true, Bool.not_eq_true', Bool.and_eq_false_iff, Bool.or_eq_false_iff, Bool.not_eq_false', zbe, zdt, zdf, zb2_p, zbp_0, zbp_1, zbp_inj, zbp_01, Bool.true_eq_false, Bool.false_eq_true, true_and, and_true, Decidable.not_not, Classical.not_not, implies_true, List.nil_append, List.cons_append, List.append_assoc, Option.some.injEq, Sum.inl.injEq, zSw_c, zSw_n, zc_0, zc_1, zc_2]); (try simp only [zi_cs, zi_c0, zii_cs, zii_c0, zl_cs, zl_c0, zll_cs, zll_c0, zr_cs, zr_c0, zrr_cs, zrr_c0, zxs_cs, zxs_c0, zxx_cs, zxx_c0, zfree_c0, zfree_c1, zfree_cs, zfree_cz, zlong_i, zlong_r, zlong_x, zset_0, zset_s, true_and, and_true, Option.some.injEq, Sum.inl.injEq, Sum.inr.injEq, zb2_p, zbp_0, zbp_1, zbp_inj, zbp_01, Nat.zero_add, Nat.reduceAdd, implies_true, List.nil_append, List.cons_append, List.append_assoc, Int.not_lt, Int.not_le, Decidable.not_not, Int.zero_add, Int.reduceLE, Int.reduceLT, Int.reduceEq, Int.reduceNe, Int.reduceAdd, Int.reduceSub, Int.reduceMul, Int.reduceNeg, Int.reduceToNat, Nat.reduceMul, Nat.reduceLT, Nat.reduceEqDiff, and_self, ite_true, ite_false, zx1, zx2, zRecv, List.length_cons, List.length_nil, ne_eq, not_true_eq_false, not_false_eq_true, true_or, or_true, or_false, false_or, and_false, false_and, zf01, zf10, reduceCtorEq, zSw_c, zSw_n, zm_r, zit_T, zit_F, false_implies, true_implies, zc_0, zc_1, zc_2])
      rw [f2, f4, f5, f6]
      refine zif (fun c => ?_) (fun c => ?_)
      · have hx := hT2 j (by omega) (by omega)
        have ha : 0 ≤ μ 4 j ∧ μ 4 j < 7 := hx.1
        have hb : 0 ≤ μ 5 j ∧ μ 5 j < 7 := hx.2.1
        have hm : 1 ≤ μ 6 j ∧ μ 6 j ≤ 9999 := hx.2.2.2.1
        have e3 := h3 (11 + μ 4 j * 7 + μ 5 j) (by omega) (by omega)
        have hin := owL_in (a := (11 + μ 4 j * 7 + μ 5 j - 11) / 7) (b := (11 + μ 4 j * 7 + μ 5 j - 11) % 7) hT j (by omega)
        rw [← e3] at hin
        have h16 : (j : Int) < 16 := by omega
        refine ⟨⟨⟨⟨⟨by omega, h16⟩, by ((try simp only [zI_e]); (first | done | omega | skip))⟩, by ((try simp only [zI_e]); (first | done | omega | skip))⟩, ⟨by omega, h16⟩, by ((try simp only [zI_e]); (first | done | omega | skip))⟩, hk0, by omega, by rw [hk1]; omega, ⟨by omega, h16⟩, by ((try simp only [zI_e]); (first | done | omega | skip)), by ((try simp only [zI_e]); (first | done | omega | skip)), ?_⟩
        refine znx (by omega) ⟨rfl, hf.zm (by decide), fun i a b => ?_, fun i a b => ?_, fun i hi => ?_⟩
        · rw [zit_f (show ¬ i = 11 + μ 4 j * 7 + μ 5 j by omega)]
          exact h1 i a b
        · rw [owL_s]
          have q0 : ((fD μ j).1 = (i - 11) / 7 ∧ (fD μ j).2.1 = (i - 11) % 7) ↔ i = 11 + μ 4 j * 7 + μ 5 j := by
            show (μ 4 j = (i - 11) / 7 ∧ μ 5 j = (i - 11) % 7) ↔ _
            omega
          by_cases q : i = 11 + μ 4 j * 7 + μ 5 j
          · rw [zit_t q, if_pos (q0.mpr q), ← q, h3 i a b]
          · rw [zit_f q, if_neg (fun z => q (q0.mp z)), h3 i a b, Int.add_zero]
        · rw [zit_f (show ¬ i = 11 + μ 4 j * 7 + μ 5 j by omega)]
          exact h2 i hi
      · have e : j = (μ 2 5).toNat := by omega
        subst e
        refine ⟨?_, hf⟩
        funext i
        unfold fillO
        by_cases c1 : 0 ≤ i ∧ i < 60
        · rw [zit_t c1]
          by_cases c2 : i < 11
          · exact h1 i c1.1 c2
          · rw [h3 i (by omega) c1.2]
            unfold ordW
            rw [zit_f (show ¬ i = 0 by omega), zit_f (show ¬ i = 1 by omega), zit_f (show ¬ i = 2 by omega), zit_f (show ¬ i = 3 by omega), zit_f c2, ← n3]
            rfl
        · rw [zit_f c1]
          exact h2 i c1
theorem mv_w {d : Nat} (hd : 5 ≤ d) {μ : zMem} {κ W : Int → Int} {x y : Int} {a b : Nat} {m : Mn} {K : zRo} (hκ : μ 323 = κ) (hW : μ 326 = W) (hb : bW W) (hx : x = a) (hy : y = b) (hab : a ≤ b ∧ b ≤ 385) (hr : runs1 κ a b m) (hv : ∀ i : Int, (a : Int) ≤ i → i < b → 0 ≤ κ i ∧ κ i ≤ 1000000) (hk : ∀ μ', μ' 325 2 = (if m W = none then 1 else 0) → zfc [325, 327] μ μ' → K (some (vi ((m W).getD 0))) μ') : zCw d y_Ma_value [vr 325, vr 323, vi x, vi y] μ K := by
  subst hx
  subst hy
  refine zCw.use (q_Ma_value (d := 4) (by decide) (P := 323) (a := a) (b := b) ⟨rfl, rfl, by decide⟩ (by omega) (by rw [hκ]; exact hv) (by rw [hW]; exact WB_b hb)) hd (fun q μ' e => ?_)
  rw [hκ, hW, Int.toNat_natCast, Int.toNat_natCast, hr W] at e
  obtain ⟨rfl, e1, e2⟩ := e
  exact hk μ' e1 e2
theorem or01 {x y z : Int} {a b c : Prop} [Decidable a] [Decidable b] [Decidable c] (hx : x = if a then 1 else 0) (hy : y = if b then 1 else 0) (hz : z = if c then 1 else 0) : (¬ zor (zor x y) z = 0) ↔ (a ∨ b ∨ c) := by
  subst hx
  subst hy
  subst hz
  by_cases ha : a <;> by_cases hb : b <;> by_cases hc : c <;> simp only [ha, hb, hc, if_true, if_false] <;> decide
theorem q_D_runSums {d : Nat} (hd : 7 ≤ d) {μ : zMem} {Z : Zt} {F : Option (List Cls)} {A : Lg} {w W : Int → Int} {κ : Int → Int} {k : Int} {cl : Cls} (h : CTx μ Z F A w) (hκ : μ 323 = κ) (hk : 0 ≤ k ∧ k < 12) (hH : Hd true κ k cl) (hL : ClC true κ cl) (hcl : cl.1 = 0 ∨ cl.1 = 1) (hW : μ 326 = W) (hb : bW W) : zSp d 0 0 y_D_runSums zT0 [vr 0, vr 323, vi k, vi cl.1] μ zT0 (fun r μ' => r = some (vi (orC Z F A cl W)) ∧ (orC Z F A cl W < 0 → zfc [325, 327] μ μ') ∧ (0 ≤ orC Z F A cl W → CTx μ' Z F (orA Z F A cl W) w ∧ zfc [2, 3, 4, 5, 6, 7, 325, 327] μ μ')) := by
  refine zSp.ss [vr 0, vr 323, vi k, vi cl.1, vx 0, vx 0, vx 0, vx 0, vx 0, vx 0, vx 0] rfl (w_D_runSums (Nat.le_trans (by decide) hd)) rfl rfl ?_
  (try simp only [zit_e, Bool.and_eq_true, Bool.or_eq_true, Bool.not_eq_true', Bool.and_eq_false_iff, Bool.or_eq_false_iff, Bool.not_eq_false', zbe, zdt, zdf, zb2_p, zbp_0, zbp_1, zbp_inj, zbp_01, Bool.true_eq_false, Bool.false_eq_true, true_and, and_true, Decidable.not_not, Classical.not_not, implies_true, List.nil_append, List.cons_append, List.append_assoc, Option.some.injEq, Sum.inl.injEq, zSw_c, zSw_n]); (try simp only [zit_e, Bool.and_eq_true, Bool.or_eq_true, Bool.not_eq_true', Bool.and_eq_false_iff, Bool.or_eq_false_iff, Bool.not_eq_false', zbe, zdt, zdf, zb2_p, zbp_0, zbp_1, zbp_inj, zbp_01, Bool.true_eq_false, Bool.false_eq_true, true_and, and_true, Decidable.not_not, Classical.not_not, implies_true, List.nil_append, List.cons_append, List.append_assoc, Option.some.injEq, Sum.inl.injEq, zSw_c, zSw_n, zc_0, zc_1, zc_2, zc_324, zc_325, f_D_column, g_D_column]); (try simp only [zi_cs, zi_c0, zii_cs, zii_c0, zl_cs, zl_c0, zll_cs, zll_c0, zr_cs, zr_c0, zrr_cs, zrr_c0, zxs_cs, zxs_c0, zxx_cs, zxx_c0, zfree_c0, zfree_c1, zfree_cs, zfree_cz, zlong_i, zlong_r, zlong_x, zset_0, zset_s, true_and, and_true, Option.some.injEq, Sum.inl.injEq, Sum.inr.injEq, zb2_p, zbp_0, zbp_1, zbp_inj, zbp_01, Nat.zero_add, Nat.reduceAdd, implies_true, List.nil_append, List.cons_append, List.append_assoc, Int.not_lt, Int.not_le, Decidable.not_not, Int.zero_add, Int.reduceLE, Int.reduceLT, Int.reduceEq, Int.reduceNe, Int.reduceAdd, Int.reduceSub, Int.reduceMul, Int.reduceNeg, Int.reduceToNat, Nat.reduceMul, Nat.reduceLT, Nat.reduceEqDiff, and_self, ite_true, ite_false, zx1, zx2, zRecv, List.length_cons, List.length_nil, ne_eq, not_true_eq_false, not_false_eq_true, true_or, or_true, or_false, false_or, and_false, false_and, zf01, zf10, reduceCtorEq, zSw_c, zSw_n, zm_r, zit_T, zit_F, false_implies, true_implies, zc_0, zc_1, zc_2, zc_324, zc_325, f_D_column, g_D_column])
  obtain ⟨⟨s1, s2⟩, ⟨s3, s4, s5, s6, s7⟩, s8, s9⟩ := hL
  obtain ⟨t1, t2, t3, t4, t5, t6⟩ := hH
  rw [if_pos rfl] at s1
  have s1 := s1.resolve_left (by omega)
  have s4 := s4 rfl
  have t3 := t3 (fun q => by omega)
  have t4 := t4 rfl (by omega)
  have g0 : (zkd 323 = 0 ∧ zln 323 = 385) ∧ 0 ≤ k ∧ k ≤ 11 := ⟨⟨rfl, rfl⟩, by omega⟩
  refine ⟨g0, g0, g0, ?_⟩
  rw [hκ, t3.1, t3.2, t4]
  refine mv_w (by omega) hκ hW hb rfl rfl (by omega) s1.1 (fun i a b => s8 i a (by omega)) (fun μ1 a1 a2 => ⟨_, rfl, ?_⟩)
  refine mv_w (by omega) ((a2 323 (by decide)).trans hκ) ((a2 326 (by decide)).trans hW) hb rfl rfl (by omega) s1.2.1 (fun i a b => s8 i (by omega) (by omega)) (fun μ2 b1 b2 => ⟨_, rfl, g0, ?_⟩)
  rw [b2 323 (by decide), a2 323 (by decide), hκ, t5]
  refine mv_w (by omega) ((b2 323 (by decide)).trans ((a2 323 (by decide)).trans hκ)) ((b2 326 (by decide)).trans ((a2 326 (by decide)).trans hW)) hb rfl rfl (by omega) s1.2.2 (fun i a b => s8 i (by omega) (by omega)) (fun μ3 c1 c2 => ⟨_, rfl, ?_⟩)
  rw [show μ2 325 2 = μ2 325 2 from rfl]
  have hB : (¬ zor (zor (μ1 325 2) (μ2 325 2)) (μ3 325 2) = 0) ↔ orB cl W := or01 a1 b1 c1
  have hf : zfc [325, 327] μ μ3 := ((a2.tr b2).tr c2).mo (by simp)
  have hC := h.k (μ' := μ3) (fun c hc => hf c (by simp only [List.mem_cons, List.not_mem_nil, or_false]; omega)) (by rw [hf 326 (by decide)]; exact h.2.2.2.2.2)
  have h2 : ¬ cl.1 = 2 := by omega
  refine zif (fun c => ?_) (fun c => ?_)
  · have hc : orC Z F A cl W = -3 := by
      unfold orC
      rw [zit_f h2, zit_t (hB.mp c)]
    rw [hc]
    exact ⟨rfl, fun _ => hf, fun q => absurd q (by decide)⟩
  · have hnb : ¬ orB cl W := fun q => c (hB.mpr q)
    refine zif (fun c1 => ?_) (fun c1 => ?_)
    · have hc : orC Z F A cl W = payA Z A (orG cl W 0) (orG cl W 1) (orG cl W 2) := by
        unfold orC
        rw [zit_f h2, zit_f hnb, zit_t c1]
      have ha : orA Z F A cl W = pdA A (orG cl W 0) (orG cl W 1) (payA Z A (orG cl W 0) (orG cl W 1) (orG cl W 2)) := by
        unfold orA
        rw [if_neg h2, if_pos c1]
      rw [hc, ha]
      refine zCw.use (q_C_payBack (d := 5) (by decide) hC) (by omega) (fun q μ4 e => ?_)
      obtain ⟨rfl, e1, e2⟩ := e
      exact ⟨_, rfl, rfl, fun q => by rw [e1 q]; exact hf, fun q => ⟨(e2 q).1, (hf.tr (e2 q).2).mo (by simp)⟩⟩
    · have hc : orC Z F A cl W = lendA Z A (orG cl W 0) (orG cl W 1) (orG cl W 2) := by
        unfold orC
        rw [zit_f h2, zit_f hnb, zit_f c1]
      have ha : orA Z F A cl W = ldA A (orG cl W 0) (orG cl W 1) (orG cl W 2) := by
        unfold orA
        rw [if_neg h2, if_neg c1]
      rw [hc, ha]
      refine zCw.use (q_C_lendOut (d := 5) (by decide) hC) (by omega) (fun q μ4 e => ?_)
      obtain ⟨rfl, e1, e2⟩ := e
      exact ⟨_, rfl, rfl, fun q => by rw [e1 q]; exact hf, fun q => ⟨(e2 q).2.1, (hf.tr (e2 q).2.2).mo (by simp)⟩⟩
/-- what a run of a clause writes -/
def OrF (μ μ' : zMem) : Prop := ∀ c : Nat, ¬ (2 ≤ c ∧ c ≤ 7) → ¬ (111 ≤ c ∧ c < 216) → ¬ (325 ≤ c ∧ c ≤ 327) → μ' c = μ c
theorem OrF.rf {μ : zMem} : OrF μ μ := fun _ _ _ _ => rfl
theorem OrF.tr {a b c : zMem} (h1 : OrF a b) (h2 : OrF b c) : OrF a c := fun k p q r => (h2 k p q r).trans (h1 k p q r)
theorem OrF.z {a b : zMem} {l : List Nat} (h : zfc l a b) (hl : ∀ c : Nat, c ∈ l → 2 ≤ c ∧ c ≤ 7 ∨ 111 ≤ c ∧ c < 216 ∨ 325 ≤ c ∧ c ≤ 327) : OrF a b := fun c p q r => h c (fun hc => by have := hl c hc; omega)
theorem orC_2 {Z : Zt} {F : Option (List Cls)} {A : Lg} {cl : Cls} {W : Int → Int} (h : cl.1 = 2) : orC Z F A cl W = zit (A.2.2 < 999) (grw Z F W A A.2.1.length).2 (-3) ∧ orA Z F A cl W = (grw Z F W A A.2.1.length).1 := by
  unfold orC orA
  rw [zit_t h, if_pos h]
  exact ⟨rfl, rfl⟩
def RcR (Z : Zt) (F : Option (List Cls)) (A : Lg) (W : Int → Int) (cl : Cls) (μ : zMem) (n : Int) (μ' : zMem) : Prop := OrF μ μ' ∧ SlO μ' ∧ (hlT cl.2.2.2.2.2.2 W = false → n = -100 ∧ CTx μ' Z F A W ∧ unD μ' 111 = unD μ 111) ∧ (hlT cl.2.2.2.2.2.2 W = true → n = orC Z F A cl W ∧ (orC Z F A cl W < 0 → CTx μ' Z F A W ∧ unD μ' 111 = unD μ 111) ∧ (0 ≤ orC Z F A cl W → CTx μ' Z F (orA Z F A cl W) W ∧ unD μ' 111 = kpD (unD μ 111) (A, orK cl)))
/-- before the deed: filled, tested -/
def RcP (Z : Zt) (F : Option (List Cls)) (A : Lg) (W κ : Int → Int) (cl : Cls) (μ μ2 : zMem) : Prop := CTx μ2 Z F A W ∧ SlO μ2 ∧ OrF μ μ2 ∧ unD μ2 111 = unD μ 111 ∧ μ2 323 = κ ∧ μ2 326 = W ∧ hlT cl.2.2.2.2.2.2 W = true
section ZRC
variable {d : Nat} {Z : Zt} {F : Option (List Cls)} {A : Lg} {W κ : Int → Int} {cl : Cls} {μ μ2 X : zMem}
theorem RcP.x (h : RcP Z F A W κ cl μ μ2) (hX : HdC μ2 X) (hk2 : ∀ k : Nat, (k < 114 ∨ 216 ≤ k) → X k = μ2 k) : CTx X Z F A W ∧ OrF μ X ∧ unD X 111 = unD μ 111 ∧ X 323 = κ ∧ X 326 = W := by
  obtain ⟨h1, h2, h3, h4, h5, h6, h7⟩ := h
  exact ⟨h1.up h1.2.1 (by rw [lgO_c (fun c hc => hk2 _ (by omega))]; exact h1.2.2.2.1.1) (by rw [hk2 2 (by decide)]; exact h1.2.2.2.1.2) (fun c hc => hk2 c (by omega)) (by rw [hk2 326 (by decide)]; exact h1.2.2.2.2.2), h3.tr (fun c p q r => hk2 c (by omega)), hX.2.1.trans h4, (hk2 323 (by decide)).trans h5, (hk2 326 (by decide)).trans h6⟩
theorem RcP.no (h : RcP Z F A W κ cl μ μ2) (hX : HdC μ2 X) (hk2 : ∀ k : Nat, (k < 114 ∨ 216 ≤ k) → X k = μ2 k) {Y : zMem} (hz : zfc [325, 327] X Y) {n : Int} (hn : n = orC Z F A cl W) (hc : orC Z F A cl W < 0) : RcR Z F A W cl μ n Y := by
  obtain ⟨x1, x2, x3, x4, x5⟩ := h.x hX hk2
  refine ⟨x2.tr (OrF.z hz (by decide)), hX.1.c (fun c p q => hz c (by simp only [List.mem_cons, List.not_mem_nil, or_false]; omega)), fun q => ?_, fun _ => ⟨hn, fun _ => ⟨x1.k (fun c hc => hz c (by simp only [List.mem_cons, List.not_mem_nil, or_false]; omega)) (by rw [hz 326 (by decide)]; exact x1.2.2.2.2.2), (unD_same hX.1 (fun c p q => hz c (by simp only [List.mem_cons, List.not_mem_nil, or_false]; omega))).1.trans x3⟩, fun q => absurd q (by omega)⟩⟩
  rw [h.2.2.2.2.2.2] at q
  cases q
theorem RcP.yes (hd : 3 ≤ d) (h : RcP Z F A W κ cl μ μ2) (hX : HdC μ2 X) (hk2 : ∀ k : Nat, (k < 114 ∨ 216 ≤ k) → X k = μ2 k) {Y : zMem} (hz : zfc [2, 3, 4, 5, 6, 7, 325, 326, 327] X Y) (hY : CTx Y Z F (orA Z F A cl W) W) {n : Int} (hn : n = orC Z F A cl W) (hc : 0 ≤ orC Z F A cl W) : zCw d y_Un_keep [vr 111, vi (orK cl)] Y (fun q μ' => q = none ∧ ∃ n1, n = n1 ∧ RcR Z F A W cl μ n1 μ') := by
  obtain ⟨x1, x2, x3, x4, x5⟩ := h.x hX hk2
  have u := unD_same hX.1 (b := Y) (fun c p q => hz c (by simp only [List.mem_cons, List.not_mem_nil, or_false]; omega))
  refine zCw.use (q_Un_keep (d := 2) (by decide) (by rw [hz 111 (by decide)]; exact hX.1.1)) hd (fun q V e => ?_)
  obtain ⟨rfl, e1, e2, e3⟩ := e
  rw [u.1, u.2, x3, hX.2.2.1, h.1.2.2.2.1.1] at e1
  refine ⟨rfl, _, rfl, (x2.tr (OrF.z hz (by decide))).tr (OrF.z e3 (by decide)), ⟨e2, fun s p q => ?_⟩, fun q => ?_, fun _ => ⟨hn, fun q => absurd q (by omega), fun _ => ⟨hY.k (fun c hc => e3 c (by simp only [List.mem_cons, List.not_mem_nil, or_false]; omega)) (by rw [e3 326 (by decide)]; exact hY.2.2.2.2.2), e1⟩⟩⟩
  · have := slC_n ⟨p, q⟩
    rw [e3 _ (by simp only [List.mem_cons, List.not_mem_nil, or_false]; omega), hz _ (by simp only [List.mem_cons, List.not_mem_nil, or_false]; omega)]
    exact hX.1.2 s p q
  · rw [h.2.2.2.2.2.2] at q
    cases q
end ZRC
theorem q_D_runClause {d : Nat} (hd : 10 ≤ d) {μ : zMem} {Z : Zt} {F : Option (List Cls)} {A : Lg} {w W : Int → Int} {κ : Int → Int} {k : Int} {cl : Cls} (h : CTx μ Z F A w) (hs : SlO μ) (hκ : μ 323 = κ) (hk : 0 ≤ k ∧ k < 12) (hH : Hd true κ k cl) (hL : ClC true κ cl) (hcl : 0 ≤ cl.1 ∧ cl.1 ≤ 2) (hW : fillO Z A (μ 0 18) (μ 0 19) (μ 326) = W) (hb : bW W) : zSp d 0 0 y_D_runClause zT0 [vr 0, vr 323, vi k] μ zT0 (fun r μ' => ∃ n : Int, r = some (vi n) ∧ RcR Z F A W cl μ n μ') := by
  refine zSp.ss [vr 0, vr 323, vi k, vx 0, vx 0, vx 0, vx 0, vx 0] rfl (w_D_runClause (Nat.le_trans (by decide) hd)) rfl rfl ?_
  (try simp only [zit_e, Bool.and_eq_true, Bool.or_eq_true, Bool.not_eq_true', Bool.and_eq_false_iff, Bool.or_eq_false_iff, Bool.not_eq_false', zbe, zdt, zdf, zb2_p, zbp_0, zbp_1, zbp_inj, zbp_01, Bool.true_eq_false, Bool.false_eq_true, true_and, and_true, Decidable.not_not, Classical.not_not, implies_true, List.nil_append, List.cons_append, List.append_assoc, Option.some.injEq, Sum.inl.injEq, zSw_c, zSw_n]); (try simp only [zit_e, Bool.and_eq_true, Bool.or_eq_true, Bool.not_eq_true', Bool.and_eq_false_iff, Bool.or_eq_false_iff, Bool.not_eq_false', zbe, zdt, zdf, zb2_p, zbp_0, zbp_1, zbp_inj, zbp_01, Bool.true_eq_false, Bool.false_eq_true, true_and, and_true, Decidable.not_not, Classical.not_not, implies_true, List.nil_append, List.cons_append, List.append_assoc, Option.some.injEq, Sum.inl.injEq, zSw_c, zSw_n, zc_0, zc_1, zc_2, zc_111, zc_324, zc_325, f_D_column, g_D_column]); (try simp only [zi_cs, zi_c0, zii_cs, zii_c0, zl_cs, zl_c0, zll_cs, zll_c0, zr_cs, zr_c0, zrr_cs, zrr_c0, zxs_cs, zxs_c0, zxx_cs, zxx_c0, zfree_c0, zfree_c1, zfree_cs, zfree_cz, zlong_i, zlong_r, zlong_x, zset_0, zset_s, true_and, and_true, Option.some.injEq, Sum.inl.injEq, Sum.inr.injEq, zb2_p, zbp_0, zbp_1, zbp_inj, zbp_01, Nat.zero_add, Nat.reduceAdd, implies_true, List.nil_append, List.cons_append, List.append_assoc, Int.not_lt, Int.not_le, Decidable.not_not, Int.zero_add, Int.reduceLE, Int.reduceLT, Int.reduceEq, Int.reduceNe, Int.reduceAdd, Int.reduceSub, Int.reduceMul, Int.reduceNeg, Int.reduceToNat, Nat.reduceMul, Nat.reduceLT, Nat.reduceEqDiff, and_self, ite_true, ite_false, zx1, zx2, zRecv, List.length_cons, List.length_nil, ne_eq, not_true_eq_false, not_false_eq_true, true_or, or_true, or_false, false_or, and_false, false_and, zf01, zf10, reduceCtorEq, zSw_c, zSw_n, zm_r, zit_T, zit_F, false_implies, true_implies, zc_0, zc_1, zc_2, zc_111, zc_324, zc_325, f_D_column, g_D_column])
  refine zCw.use (q_D_fillOrderWords (d := 2) (by decide) h) (by omega) (fun q μ1 e => ?_)
  obtain ⟨rfl, e1, e2⟩ := e
  rw [hW] at e1
  have hC1 : CTx μ1 Z F A W := by
    obtain ⟨a, b, c, e, f, g⟩ := h
    exact ⟨a, b, by rw [e2 1 (by decide), e2 8 (by decide), e2 9 (by decide)]; exact c, ⟨(lgO_c (fun c hc => e2 _ (by simp only [List.mem_cons, List.not_mem_nil, or_false]; omega))).trans e.1, by rw [e2 2 (by decide)]; exact e.2⟩, f.c (e2 1 (by decide)) (fun c p q => e2 c (by simp only [List.mem_cons, List.not_mem_nil, or_false]; omega)), by rw [e1]; exact ⟨fun _ _ => rfl, hb⟩⟩
  have g0 : (zkd 323 = 0 ∧ zln 323 = 385) ∧ 0 ≤ k ∧ k ≤ 11 := ⟨⟨rfl, rfl⟩, by omega⟩
  have hκ1 := (e2 323 (by decide)).trans hκ
  refine ⟨rfl, g0, g0, ?_⟩
  rw [hκ1, hH.2.2.2.2.1, hH.2.2.2.2.2]
  obtain ⟨⟨s1, s2⟩, ⟨s3, s4, s5, s6, s7⟩, s8, s9⟩ := id hL
  have hO1 : OrF μ μ1 := OrF.z e2 (by decide)
  have hS1 : SlO μ1 := hs.c (fun c p q => e2 c (by simp only [List.mem_cons, List.not_mem_nil, or_false]; omega))
  have hU1 : unD μ1 111 = unD μ 111 := (unD_same hs (fun c p q => e2 c (by simp only [List.mem_cons, List.not_mem_nil, or_false]; omega))).1
  have tl : ∀ μ2 : zMem, zfc [325, 327] μ1 μ2 → CTx μ2 Z F A W ∧ SlO μ2 ∧ OrF μ μ2 ∧ unD μ2 111 = unD μ 111 ∧ μ2 323 = κ ∧ μ2 326 = W := fun μ2 z => ⟨hC1.k (fun c hc => z c (by simp only [List.mem_cons, List.not_mem_nil, or_false]; omega)) (by rw [z 326 (by decide)]; exact hC1.2.2.2.2.2), hS1.c (fun c p q => z c (by simp only [List.mem_cons, List.not_mem_nil, or_false]; omega)), hO1.tr (OrF.z z (by decide)), (unD_same hS1 (fun c p q => z c (by simp only [List.mem_cons, List.not_mem_nil, or_false]; omega))).1.trans hU1, (z 323 (by decide)).trans hκ1, (z 326 (by decide)).trans e1⟩
  have nt : ∀ {μ2 : zMem}, zfc [325, 327] μ1 μ2 → hlT cl.2.2.2.2.2.2 W = false → RcR Z F A W cl μ (-100) μ2 := by
    intro μ2 z hh
    obtain ⟨t1, t2, t3, t4, t5, t6⟩ := tl μ2 z
    refine ⟨t3, t2, fun _ => ⟨rfl, t1, t4⟩, fun q => ?_⟩
    rw [hh] at q
    cases q
  have st : (∃ m, cl.2.2.2.2.2.2 = some m ∧ cl.2.2.1.2.2.2.1 < cl.2.2.1.2.2.2.2 ∧ runs1 κ cl.2.2.1.2.2.2.1 cl.2.2.1.2.2.2.2 m) ∨ (cl.2.2.2.2.2.2 = none ∧ cl.2.2.1.2.2.2.1 = cl.2.2.1.2.2.2.2) := by
    revert s2
    rcases cl.2.2.2.2.2.2 with _ | m
    · exact fun z => Or.inr ⟨rfl, z⟩
    · exact fun z => Or.inl ⟨m, rfl, z⟩
  have nx2 : ∀ μ2 : zMem, zfc [325, 327] μ1 μ2 → hlT cl.2.2.2.2.2.2 W = true → ∃ μ3 : zMem, μ2 = μ3 ∧ RcP Z F A W κ cl μ μ3 := fun μ2 z hh => by
    obtain ⟨t1, t2, t3, t4, t5, t6⟩ := tl μ2 z
    exact ⟨μ2, rfl, t1, t2, t3, t4, t5, t6, hh⟩
  refine zif (fun c => ?_) (fun c => ?_)
  rotate_left
  · have hh : hlT cl.2.2.2.2.2.2 W = true := by
      rcases st with ⟨m, -, c2, -⟩ | ⟨c2, -⟩
      · exact absurd c2 (by omega)
      · rw [c2]
        rfl
    obtain ⟨μ2, rfl, hP⟩ := nx2 μ1 zfc.rf hh
    have n5 := hP.1.n.2.2.2.2.1
    refine hoC_w (by omega) hP.2.1 n5 (fun X hX hk2 => ⟨rfl, g0, ?_⟩)
    obtain ⟨x1, x2, x3, x4, x5⟩ := hP.x hX hk2
    have n4 := x1.n.2.2.2.1
    rw [x4, Int.add_zero, hH.1]
    refine zif (fun c2 => ?_) (fun c2 => ?_)
    · obtain ⟨o1, o2⟩ := orC_2 (Z := Z) (F := F) (A := A) (W := W) c2
      by_cases c9 : A.2.2 < 999
      · rw [zit_t c9] at o1
        refine zCw.use (q_D_nextDay (d := 8) (by decide) x1 c9) (by omega) (fun q Y e => ?_)
        obtain ⟨rfl, f1, f2⟩ := e
        rw [← o2] at f1
        have hg := (grw_ok (Z := Z) (F := F) (w := W) x1.2.1 c9 _ (Int.le_refl _)).2.2.1
        refine ⟨_, rfl, zif (fun _ => ?_) (fun q => absurd hg q)⟩
        exact hP.yes (by omega) hX hk2 (f2.mo (by simp)) f1 o1.symm (by omega)
      · rw [zit_f c9] at o1
        refine zCw.use (q_D_nextDay0 (d := 8) (by decide) (by rw [n4]; omega)) (by omega) (fun q Y e => ?_)
        obtain ⟨rfl, rfl⟩ := e
        refine ⟨_, rfl, zif (fun q => absurd q (by decide)) (fun _ => ⟨_, rfl, hP.no hX hk2 zfc.rf o1.symm (by omega)⟩)⟩
    · refine zCw.use (q_D_runSums (d := 7) (by decide) x1 x4 hk hH hL (by omega) x5 hb) (by omega) (fun q Y e => ?_)
      obtain ⟨rfl, f1, f2⟩ := e
      refine ⟨_, rfl, zif (fun q => ?_) (fun q => ?_)⟩
      · exact hP.yes (by omega) hX hk2 ((f2 q).2.mo (by simp)) (f2 q).1 rfl q
      · exact ⟨_, rfl, hP.no hX hk2 (f1 (by omega)) rfl (by omega)⟩
  · rcases st with ⟨m, c2, -, c4⟩ | ⟨-, c2⟩
    rotate_left
    · exact absurd c (by omega)
    refine mv_w (by omega) hκ1 e1 hb rfl rfl (by omega) c4 (fun i a b => s8 i (by omega) b) (fun μ2 a1 a2 => ⟨_, rfl, ?_⟩)
    refine zif (fun c5 => ?_) (fun c5 => ?_)
    · refine ⟨_, rfl, nt a2 ?_⟩
      rw [c2]
      rcases hm : m W with _ | y
      · exact hlT_n hm
      · rw [hlT_y hm, decide_eq_false_iff_not]
        rw [hm] at c5
        exact fun q => q c5
    rcases hm : m W with _ | y
    · rw [hm] at c5
      exact absurd rfl c5
    rw [hm, if_neg (by simp)] at a1
    rw [hm] at c5
    rw [a1, if_neg (by simp)]
    obtain ⟨μ3, rfl, hP⟩ := nx2 μ2 a2 (by rw [c2, hlT_y hm, decide_eq_true_iff]; exact c5)
    have n5 := hP.1.n.2.2.2.2.1
    refine hoC_w (by omega) hP.2.1 n5 (fun X hX hk2 => ⟨rfl, g0, ?_⟩)
    obtain ⟨x1, x2, x3, x4, x5⟩ := hP.x hX hk2
    have n4 := x1.n.2.2.2.1
    rw [x4, Int.add_zero, hH.1]
    refine zif (fun c2 => ?_) (fun c2 => ?_)
    · obtain ⟨o1, o2⟩ := orC_2 (Z := Z) (F := F) (A := A) (W := W) c2
      by_cases c9 : A.2.2 < 999
      · rw [zit_t c9] at o1
        refine zCw.use (q_D_nextDay (d := 8) (by decide) x1 c9) (by omega) (fun q Y e => ?_)
        obtain ⟨rfl, f1, f2⟩ := e
        rw [← o2] at f1
        have hg := (grw_ok (Z := Z) (F := F) (w := W) x1.2.1 c9 _ (Int.le_refl _)).2.2.1
        refine ⟨_, rfl, zif (fun _ => ?_) (fun q => absurd hg q)⟩
        exact hP.yes (by omega) hX hk2 (f2.mo (by simp)) f1 o1.symm (by omega)
      · rw [zit_f c9] at o1
        refine zCw.use (q_D_nextDay0 (d := 8) (by decide) (by rw [n4]; omega)) (by omega) (fun q Y e => ?_)
        obtain ⟨rfl, rfl⟩ := e
        refine ⟨_, rfl, zif (fun q => absurd q (by decide)) (fun _ => ⟨_, rfl, hP.no hX hk2 zfc.rf o1.symm (by omega)⟩)⟩
    · refine zCw.use (q_D_runSums (d := 7) (by decide) x1 x4 hk hH hL (by omega) x5 hb) (by omega) (fun q Y e => ?_)
      obtain ⟨rfl, f1, f2⟩ := e
      refine ⟨_, rfl, zif (fun q => ?_) (fun q => ?_)⟩
      · exact hP.yes (by omega) hX hk2 ((f2 q).2.mo (by simp)) (f2 q).1 rfl q
      · exact ⟨_, rfl, hP.no hX hk2 (f1 (by omega)) rfl (by omega)⟩

