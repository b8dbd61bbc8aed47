/-! what the last clause tells -/
def hlT (mt : Option Mn) (W : Int → Int) : Bool := match mt with
  | none => true
  | some m => match m W with
    | none => false
    | some y => decide (y ≠ 0)
def tlC (W : Int → Int) (kind : Int) (cl : Cls) : Option Int := if cl.1 = kind ∧ hlT cl.2.2.2.2.2.2 W = true then cl.2.2.2.1 W else none
def oEl (a b : Option Int) : Option Int := match a with
  | some x => some x
  | none => b
def lstT (W : Int → Int) (kind : Int) : List Cls → Option Int
  | [] => none
  | cl :: cs => oEl (lstT W kind cs) (tlC W kind cl)
theorem oEl_n {a : Option Int} : oEl a none = a := by cases a <;> rfl
theorem lstT_app {W : Int → Int} {kind : Int} {cl : Cls} : ∀ cs : List Cls, lstT W kind (cs ++ [cl]) = oEl (tlC W kind cl) (lstT W kind cs)
  | [] => by
    show oEl none (tlC W kind cl) = oEl (tlC W kind cl) none
    rw [oEl_n]
    rfl
  | c1 :: cs => by
    show oEl (lstT W kind (cs ++ [cl])) (tlC W kind c1) = _
    rw [lstT_app cs, lstT]
    cases tlC W kind cl with
    | none => rfl
    | some x => rfl
def clp (high s : Int) : Int := if s < 0 then 0 else if high < s then high else s
def tlV (high without : Int) (E : Option Int) : Int := match E with
  | none => without
  | some s => clp high s
/-- a law as the reference keeps it -/
def LwM (κ : Int → Int) (f : Int) (Q : zTk) : Prop := κ (157 + f) = (Q.2.2.2 : Int) ∧ ∀ u : Nat, u < Q.2.2.2 → κ (164 + (400 * f + u)) = Q.1 u ∧ κ (2964 + (400 * f + u)) = Q.2.1 u
def LwP (o : Bool) (Q : zTk) (cls : List Cls) (code : List Int) : Prop := okK Q ∧ pCls Q.1 (fun t => decide (Q.2.2.2 ≤ t)) (pcO o Q.1 Q.2.1) 12 0 0 85 = (Q.2.2.2, some (cls, code))
def FT (μ μ' : zMem) : Prop := zfc [355] μ μ' ∧ ∀ j : Int, j ≠ 20 → j ≠ 21 → j ≠ 22 → j ≠ 23 → μ' 355 j = μ 355 j
theorem FT.rf {μ : zMem} : FT μ μ := ⟨zfc.rf, fun _ _ _ _ _ => rfl⟩
theorem FT.tr {a b c : zMem} (h1 : FT a b) (h2 : FT b c) : FT a c := ⟨(h1.1.tr h2.1).mo (by simp), fun j a1 a2 a3 a4 => by rw [h2.2 j a1 a2 a3 a4, h1.2 j a1 a2 a3 a4]⟩
theorem FT_zm {μ : zMem} {j v : Int} (h : j = 20 ∨ j = 21 ∨ j = 22 ∨ j = 23) : FT μ (zm μ 355 j v) := ⟨zfc.rf.zm (by decide), fun i a1 a2 a3 a4 => zm_j (by omega)⟩
theorem FE.ft {μ μ' : zMem} (h : FE μ μ') : FT μ μ' := ⟨h.1, fun j a1 _ a3 _ => h.2 j a1 a3⟩
theorem fp_12_23 : zFp 12 23 1 := ⟨_, rfl, rfl, rfl, by decide⟩
theorem fp_12_21 : zFp 12 21 0 := ⟨_, rfl, rfl, rfl, by decide⟩
def y_M_tells : zMt := (⟨"DebtDoorsModel", "tells", "(III)I"⟩, prog_14_method_73_code, 11, some .int)
theorem d_M_tells_0 : decode prog_14_method_73_code 0 = .ok (.aload_n 0, 1) := by decide +kernel
theorem d_M_tells_1 : decode prog_14_method_73_code 1 = .ok (.getfield 24, 3) := by decide +kernel
theorem d_M_tells_4 : decode prog_14_method_73_code 4 = .ok (.sipush 156, 3) := by decide +kernel
theorem d_M_tells_7 : decode prog_14_method_73_code 7 = .ok (.iaload, 1) := by decide +kernel
theorem d_M_tells_8 : decode prog_14_method_73_code 8 = .ok (.iconst (-1), 1) := by decide +kernel
theorem d_M_tells_9 : decode prog_14_method_73_code 9 = .ok (.if_icmp .ne 5, 3) := by decide +kernel
theorem d_M_tells_12 : decode prog_14_method_73_code 12 = .ok (.iload_n 3, 1) := by decide +kernel
theorem d_M_tells_13 : decode prog_14_method_73_code 13 = .ok (.ireturn, 1) := by decide +kernel
theorem d_M_tells_14 : decode prog_14_method_73_code 14 = .ok (.aload_n 0, 1) := by decide +kernel
theorem d_M_tells_15 : decode prog_14_method_73_code 15 = .ok (.iconst 0, 1) := by decide +kernel
theorem d_M_tells_16 : decode prog_14_method_73_code 16 = .ok (.putfield 310, 3) := by decide +kernel
theorem d_M_tells_19 : decode prog_14_method_73_code 19 = .ok (.iload_n 3, 1) := by decide +kernel
theorem d_M_tells_20 : decode prog_14_method_73_code 20 = .ok (.i2l, 1) := by decide +kernel
theorem d_M_tells_21 : decode prog_14_method_73_code 21 = .ok (.lstore 4, 2) := by decide +kernel
theorem d_M_tells_23 : decode prog_14_method_73_code 23 = .ok (.aload_n 0, 1) := by decide +kernel
theorem d_M_tells_24 : decode prog_14_method_73_code 24 = .ok (.sipush 400, 3) := by decide +kernel
theorem d_M_tells_27 : decode prog_14_method_73_code 27 = .ok (.aload_n 0, 1) := by decide +kernel
theorem d_M_tells_28 : decode prog_14_method_73_code 28 = .ok (.getfield 24, 3) := by decide +kernel
theorem d_M_tells_31 : decode prog_14_method_73_code 31 = .ok (.sipush 156, 3) := by decide +kernel
theorem d_M_tells_34 : decode prog_14_method_73_code 34 = .ok (.iaload, 1) := by decide +kernel
theorem d_M_tells_35 : decode prog_14_method_73_code 35 = .ok (.imul, 1) := by decide +kernel
theorem d_M_tells_36 : decode prog_14_method_73_code 36 = .ok (.putfield 280, 3) := by decide +kernel
theorem d_M_tells_39 : decode prog_14_method_73_code 39 = .ok (.aload_n 0, 1) := by decide +kernel
theorem d_M_tells_40 : decode prog_14_method_73_code 40 = .ok (.aload_n 0, 1) := by decide +kernel
theorem d_M_tells_41 : decode prog_14_method_73_code 41 = .ok (.getfield 280, 3) := by decide +kernel
theorem d_M_tells_44 : decode prog_14_method_73_code 44 = .ok (.aload_n 0, 1) := by decide +kernel
theorem d_M_tells_45 : decode prog_14_method_73_code 45 = .ok (.getfield 24, 3) := by decide +kernel
theorem d_M_tells_48 : decode prog_14_method_73_code 48 = .ok (.sipush 157, 3) := by decide +kernel
theorem d_M_tells_51 : decode prog_14_method_73_code 51 = .ok (.aload_n 0, 1) := by decide +kernel
theorem d_M_tells_52 : decode prog_14_method_73_code 52 = .ok (.getfield 24, 3) := by decide +kernel
theorem d_M_tells_55 : decode prog_14_method_73_code 55 = .ok (.sipush 156, 3) := by decide +kernel
theorem d_M_tells_58 : decode prog_14_method_73_code 58 = .ok (.iaload, 1) := by decide +kernel
theorem d_M_tells_59 : decode prog_14_method_73_code 59 = .ok (.iadd, 1) := by decide +kernel
theorem d_M_tells_60 : decode prog_14_method_73_code 60 = .ok (.iaload, 1) := by decide +kernel
theorem d_M_tells_61 : decode prog_14_method_73_code 61 = .ok (.iadd, 1) := by decide +kernel
theorem d_M_tells_62 : decode prog_14_method_73_code 62 = .ok (.putfield 277, 3) := by decide +kernel
theorem d_M_tells_65 : decode prog_14_method_73_code 65 = .ok (.aload_n 0, 1) := by decide +kernel
theorem d_M_tells_66 : decode prog_14_method_73_code 66 = .ok (.getfield 280, 3) := by decide +kernel
theorem d_M_tells_69 : decode prog_14_method_73_code 69 = .ok (.aload_n 0, 1) := by decide +kernel
theorem d_M_tells_70 : decode prog_14_method_73_code 70 = .ok (.getfield 277, 3) := by decide +kernel
theorem d_M_tells_73 : decode prog_14_method_73_code 73 = .ok (.if_icmp .ge 143, 3) := by decide +kernel
theorem d_M_tells_76 : decode prog_14_method_73_code 76 = .ok (.aload_n 0, 1) := by decide +kernel
theorem d_M_tells_77 : decode prog_14_method_73_code 77 = .ok (.aload_n 0, 1) := by decide +kernel
theorem d_M_tells_78 : decode prog_14_method_73_code 78 = .ok (.getfield 280, 3) := by decide +kernel
theorem d_M_tells_81 : decode prog_14_method_73_code 81 = .ok (.invokevirtual 283, 3) := by decide +kernel
theorem d_M_tells_84 : decode prog_14_method_73_code 84 = .ok (.istore 6, 2) := by decide +kernel
theorem d_M_tells_86 : decode prog_14_method_73_code 86 = .ok (.aload_n 0, 1) := by decide +kernel
theorem d_M_tells_87 : decode prog_14_method_73_code 87 = .ok (.iconst 0, 1) := by decide +kernel
theorem d_M_tells_88 : decode prog_14_method_73_code 88 = .ok (.putfield 290, 3) := by decide +kernel
theorem d_M_tells_91 : decode prog_14_method_73_code 91 = .ok (.aload_n 0, 1) := by decide +kernel
theorem d_M_tells_92 : decode prog_14_method_73_code 92 = .ok (.dup, 1) := by decide +kernel
theorem d_M_tells_93 : decode prog_14_method_73_code 93 = .ok (.getfield 280, 3) := by decide +kernel
theorem d_M_tells_96 : decode prog_14_method_73_code 96 = .ok (.iconst 1, 1) := by decide +kernel
theorem d_M_tells_97 : decode prog_14_method_73_code 97 = .ok (.iadd, 1) := by decide +kernel
theorem d_M_tells_98 : decode prog_14_method_73_code 98 = .ok (.putfield 280, 3) := by decide +kernel
theorem d_M_tells_101 : decode prog_14_method_73_code 101 = .ok (.iload 6, 2) := by decide +kernel
theorem d_M_tells_103 : decode prog_14_method_73_code 103 = .ok (.iconst 4, 1) := by decide +kernel
theorem d_M_tells_104 : decode prog_14_method_73_code 104 = .ok (.if_icmp .ne 7, 3) := by decide +kernel
theorem d_M_tells_107 : decode prog_14_method_73_code 107 = .ok (.lconst 1, 1) := by decide +kernel
theorem d_M_tells_108 : decode prog_14_method_73_code 108 = .ok (.goto 8, 3) := by decide +kernel
theorem d_M_tells_111 : decode prog_14_method_73_code 111 = .ok (.aload_n 0, 1) := by decide +kernel
theorem d_M_tells_112 : decode prog_14_method_73_code 112 = .ok (.iconst 1, 1) := by decide +kernel
theorem d_M_tells_113 : decode prog_14_method_73_code 113 = .ok (.invokevirtual 307, 3) := by decide +kernel
theorem d_M_tells_116 : decode prog_14_method_73_code 116 = .ok (.lstore 7, 2) := by decide +kernel
theorem d_M_tells_118 : decode prog_14_method_73_code 118 = .ok (.aload_n 0, 1) := by decide +kernel
theorem d_M_tells_119 : decode prog_14_method_73_code 119 = .ok (.getfield 290, 3) := by decide +kernel
theorem d_M_tells_122 : decode prog_14_method_73_code 122 = .ok (.istore 9, 2) := by decide +kernel
theorem d_M_tells_124 : decode prog_14_method_73_code 124 = .ok (.aload_n 0, 1) := by decide +kernel
theorem d_M_tells_125 : decode prog_14_method_73_code 125 = .ok (.iconst 0, 1) := by decide +kernel
theorem d_M_tells_126 : decode prog_14_method_73_code 126 = .ok (.putfield 290, 3) := by decide +kernel
theorem d_M_tells_129 : decode prog_14_method_73_code 129 = .ok (.aload_n 0, 1) := by decide +kernel
theorem d_M_tells_130 : decode prog_14_method_73_code 130 = .ok (.iconst 5, 1) := by decide +kernel
theorem d_M_tells_131 : decode prog_14_method_73_code 131 = .ok (.invokevirtual 304, 3) := by decide +kernel
theorem d_M_tells_134 : decode prog_14_method_73_code 134 = .ok (.ifCond .eq 11, 3) := by decide +kernel
theorem d_M_tells_137 : decode prog_14_method_73_code 137 = .ok (.aload_n 0, 1) := by decide +kernel
theorem d_M_tells_138 : decode prog_14_method_73_code 138 = .ok (.iconst 1, 1) := by decide +kernel
theorem d_M_tells_139 : decode prog_14_method_73_code 139 = .ok (.invokevirtual 325, 3) := by decide +kernel
theorem d_M_tells_142 : decode prog_14_method_73_code 142 = .ok (.ifCond .eq 7, 3) := by decide +kernel
theorem d_M_tells_145 : decode prog_14_method_73_code 145 = .ok (.iconst 1, 1) := by decide +kernel
theorem d_M_tells_146 : decode prog_14_method_73_code 146 = .ok (.goto 4, 3) := by decide +kernel
theorem d_M_tells_149 : decode prog_14_method_73_code 149 = .ok (.iconst 0, 1) := by decide +kernel
theorem d_M_tells_150 : decode prog_14_method_73_code 150 = .ok (.istore 10, 2) := by decide +kernel
theorem d_M_tells_152 : decode prog_14_method_73_code 152 = .ok (.iload 6, 2) := by decide +kernel
theorem d_M_tells_154 : decode prog_14_method_73_code 154 = .ok (.iload_n 1, 1) := by decide +kernel
theorem d_M_tells_155 : decode prog_14_method_73_code 155 = .ok (.if_icmp .ne 48, 3) := by decide +kernel
theorem d_M_tells_158 : decode prog_14_method_73_code 158 = .ok (.iload 10, 2) := by decide +kernel
theorem d_M_tells_160 : decode prog_14_method_73_code 160 = .ok (.ifCond .eq 43, 3) := by decide +kernel
theorem d_M_tells_163 : decode prog_14_method_73_code 163 = .ok (.aload_n 0, 1) := by decide +kernel
theorem d_M_tells_164 : decode prog_14_method_73_code 164 = .ok (.getfield 290, 3) := by decide +kernel
theorem d_M_tells_167 : decode prog_14_method_73_code 167 = .ok (.ifCond .ne 36, 3) := by decide +kernel
theorem d_M_tells_170 : decode prog_14_method_73_code 170 = .ok (.iload 9, 2) := by decide +kernel
theorem d_M_tells_172 : decode prog_14_method_73_code 172 = .ok (.ifCond .ne 31, 3) := by decide +kernel
theorem d_M_tells_175 : decode prog_14_method_73_code 175 = .ok (.lload 7, 2) := by decide +kernel
theorem d_M_tells_177 : decode prog_14_method_73_code 177 = .ok (.lconst 0, 1) := by decide +kernel
theorem d_M_tells_178 : decode prog_14_method_73_code 178 = .ok (.lcmp, 1) := by decide +kernel
theorem d_M_tells_179 : decode prog_14_method_73_code 179 = .ok (.ifCond .ge 7, 3) := by decide +kernel
theorem d_M_tells_182 : decode prog_14_method_73_code 182 = .ok (.lconst 0, 1) := by decide +kernel
theorem d_M_tells_183 : decode prog_14_method_73_code 183 = .ok (.goto 18, 3) := by decide +kernel
theorem d_M_tells_186 : decode prog_14_method_73_code 186 = .ok (.lload 7, 2) := by decide +kernel
theorem d_M_tells_188 : decode prog_14_method_73_code 188 = .ok (.iload_n 2, 1) := by decide +kernel
theorem d_M_tells_189 : decode prog_14_method_73_code 189 = .ok (.i2l, 1) := by decide +kernel
theorem d_M_tells_190 : decode prog_14_method_73_code 190 = .ok (.lcmp, 1) := by decide +kernel
theorem d_M_tells_191 : decode prog_14_method_73_code 191 = .ok (.ifCond .le 8, 3) := by decide +kernel
theorem d_M_tells_194 : decode prog_14_method_73_code 194 = .ok (.iload_n 2, 1) := by decide +kernel
theorem d_M_tells_195 : decode prog_14_method_73_code 195 = .ok (.i2l, 1) := by decide +kernel
theorem d_M_tells_196 : decode prog_14_method_73_code 196 = .ok (.goto 5, 3) := by decide +kernel
theorem d_M_tells_199 : decode prog_14_method_73_code 199 = .ok (.lload 7, 2) := by decide +kernel
theorem d_M_tells_201 : decode prog_14_method_73_code 201 = .ok (.lstore 4, 2) := by decide +kernel
theorem d_M_tells_203 : decode prog_14_method_73_code 203 = .ok (.aload_n 0, 1) := by decide +kernel
theorem d_M_tells_204 : decode prog_14_method_73_code 204 = .ok (.dup, 1) := by decide +kernel
theorem d_M_tells_205 : decode prog_14_method_73_code 205 = .ok (.getfield 280, 3) := by decide +kernel
theorem d_M_tells_208 : decode prog_14_method_73_code 208 = .ok (.iconst 1, 1) := by decide +kernel
theorem d_M_tells_209 : decode prog_14_method_73_code 209 = .ok (.iadd, 1) := by decide +kernel
theorem d_M_tells_210 : decode prog_14_method_73_code 210 = .ok (.putfield 280, 3) := by decide +kernel
theorem d_M_tells_213 : decode prog_14_method_73_code 213 = .ok (.goto (-148), 3) := by decide +kernel
theorem d_M_tells_216 : decode prog_14_method_73_code 216 = .ok (.lload 4, 2) := by decide +kernel
theorem d_M_tells_218 : decode prog_14_method_73_code 218 = .ok (.l2i, 1) := by decide +kernel
theorem d_M_tells_219 : decode prog_14_method_73_code 219 = .ok (.ireturn, 1) := by decide +kernel
def w_M_tells {d : Nat} (hd : 2 ≤ d) := (show SS ("DebtDoorsModel", prog_14_method_73_code, 11) (some .int) d 0 0 0 0 _ from (sS (p1 := 14) (sIf (pn := 14) (tt := 12) (xC (rNot (rJ2 (tgt := 14) j_ne (rIa (rFr fl_M_24 nk_12_2 (rAn 0 d_M_tells_0 rfl) d_M_tells_1) (rSi d_M_tells_4 rfl) d_M_tells_7) (rI d_M_tells_8 rfl) d_M_tells_9 (by decide)))) (sRi (xE (rIn 3 d_M_tells_12 rfl)) d_M_tells_13 rfl)) (sS (p1 := 19) (sP 23 fl_M_310 fp_12_23 nk_12_23 (rAn 0 d_M_tells_14 rfl) (xE (rI d_M_tells_15 rfl)) d_M_tells_16 rfl) (sS (p1 := 23) (sL (xLp (rI2L (rIn 3 d_M_tells_19 rfl) d_M_tells_20)) d_M_tells_21 (by decide)) (sS (p1 := 39) (sP 20 fl_M_280 fp_12_20 nk_12_20 (rAn 0 d_M_tells_23 rfl) (xE (r2 o_mul (rSi d_M_tells_24 rfl) (rIa (rFr fl_M_24 nk_12_2 (rAn 0 d_M_tells_27 rfl) d_M_tells_28) (rSi d_M_tells_31 rfl) d_M_tells_34) d_M_tells_35)) d_M_tells_36 rfl) (sS (p1 := 65) (sP 21 fl_M_277 fp_12_21 nk_12_21 (rAn 0 d_M_tells_39 rfl) (xE (r2 o_add (rF 20 fl_M_280 nk_12_20 (rAn 0 d_M_tells_40 rfl) d_M_tells_41 rfl) (rIa (rFr fl_M_24 nk_12_2 (rAn 0 d_M_tells_44 rfl) d_M_tells_45) (r2 o_add (rSi d_M_tells_48 rfl) (rIa (rFr fl_M_24 nk_12_2 (rAn 0 d_M_tells_51 rfl) d_M_tells_52) (rSi d_M_tells_55 rfl) d_M_tells_58) d_M_tells_59) d_M_tells_60) d_M_tells_61)) d_M_tells_62 rfl) (sS (p1 := 216) (sLp (ps := 65) (tt := 76) (pn := 216) (p1 := 0) (p2 := 0) (xC (rNot (rJ2 (tgt := 216) j_ge (rF 20 fl_M_280 nk_12_20 (rAn 0 d_M_tells_65 rfl) d_M_tells_66 rfl) (rF 21 fl_M_277 nk_12_21 (rAn 0 d_M_tells_69 rfl) d_M_tells_70 rfl) d_M_tells_73 (by decide)))) (sS (p1 := 86) (sI (xE (rV p_M_codeAt (Nat.le_trans (Nat.le_of_ble_eq_true rfl) hd) lv_M_283 (rAi (rAr rA0 (rAn 0 d_M_tells_76 rfl)) (rF 20 fl_M_280 nk_12_20 (rAn 0 d_M_tells_77 rfl) d_M_tells_78 rfl)) (by decide) d_M_tells_81)) d_M_tells_84 (by decide)) (sS (p1 := 91) (sP 22 fl_M_290 fp_12_22 nk_12_22 (rAn 0 d_M_tells_86 rfl) (xE (rI d_M_tells_87 rfl)) d_M_tells_88 rfl) (sS (p1 := 101) (sPo 20 o_add fl_M_280 fp_12_20 nk_12_20 (rAn 0 d_M_tells_91 rfl) d_M_tells_92 d_M_tells_93 (rI d_M_tells_96 rfl) d_M_tells_97 d_M_tells_98 rfl) (sS (p1 := 118) (sL (xT2l (xC (rNot (rJ2 (tgt := 111) j_ne (rIl d_M_tells_101) (rI d_M_tells_103 rfl) d_M_tells_104 (by decide)))) (xLp (rGoL (p2 := 116) (rLc1 d_M_tells_107) d_M_tells_108 (by decide))) (xVL lv_M_307 (xA (rAi (rAr rA0 (rAn 0 d_M_tells_111 rfl)) (rI d_M_tells_112 rfl))) (by decide) d_M_tells_113)) d_M_tells_116 (by decide)) (sS (p1 := 124) (sI (xE (rF 22 fl_M_290 nk_12_22 (rAn 0 d_M_tells_118 rfl) d_M_tells_119 rfl)) d_M_tells_122 (by decide)) (sS (p1 := 129) (sP 22 fl_M_290 fp_12_22 nk_12_22 (rAn 0 d_M_tells_124 rfl) (xE (rI d_M_tells_125 rfl)) d_M_tells_126 rfl) (sS (p1 := 152) (sI (xTb (xOr (mm := 137) (xNot (xNot (xJ1 (tgt := 145) k_eq (xV lv_M_304 (xA (rAi (rAr rA0 (rAn 0 d_M_tells_129 rfl)) (rI d_M_tells_130 rfl))) (by decide) d_M_tells_131) d_M_tells_134 (by decide)))) (xNot (xJ1 (tgt := 149) k_eq (xV lv_M_325 (xA (rAi (rAr rA0 (rAn 0 d_M_tells_137 rfl)) (rI d_M_tells_138 rfl))) (by decide) d_M_tells_139) d_M_tells_142 (by decide)))) (rGoE (p2 := 150) (rI d_M_tells_145 rfl) d_M_tells_146 (by decide)) (rI d_M_tells_149 rfl)) d_M_tells_150 (by decide)) (sS (p1 := 203) (sIf (pn := 203) (tt := 175) (xC (rAnd (mm := 170) (rAnd (mm := 163) (rAnd (mm := 158) (rNot (rJ2 (tgt := 203) j_ne (rIl d_M_tells_152) (rIn 1 d_M_tells_154 rfl) d_M_tells_155 (by decide))) (rNot (rJ1 (tgt := 203) k_eq (rIl d_M_tells_158) d_M_tells_160 (by decide)))) (rNot (rJ1 (tgt := 203) k_ne (rF 22 fl_M_290 nk_12_22 (rAn 0 d_M_tells_163 rfl) d_M_tells_164 rfl) d_M_tells_167 (by decide)))) (rNot (rJ1 (tgt := 203) k_ne (rIl d_M_tells_170) d_M_tells_172 (by decide))))) (sL (xLp (rT2l (rNot (rJ1 (tgt := 186) k_ge (rCmp (rLl d_M_tells_175) (rLc0 d_M_tells_177) d_M_tells_178) d_M_tells_179 (by decide))) (rGoL (p2 := 201) (rLc0 d_M_tells_182) d_M_tells_183 (by decide)) (rT2l (rNot (rJ1 (tgt := 199) k_le (rCmp (rLl d_M_tells_186) (rI2L (rIn 2 d_M_tells_188 rfl) d_M_tells_189) d_M_tells_190) d_M_tells_191 (by decide))) (rGoL (p2 := 201) (rI2L (rIn 2 d_M_tells_194 rfl) d_M_tells_195) d_M_tells_196 (by decide)) (rLl d_M_tells_199)))) d_M_tells_201 (by decide))) (sGo (pn := 65) (sPo 20 o_add fl_M_280 fp_12_20 nk_12_20 (rAn 0 d_M_tells_203 rfl) d_M_tells_204 d_M_tells_205 (rI d_M_tells_208 rfl) d_M_tells_209 d_M_tells_210 rfl) d_M_tells_213 (by decide)))))))))) s0) (sRi (xE (rL2I (rLl d_M_tells_216) d_M_tells_218)) d_M_tells_219 rfl))))))))
theorem q_M_tells0 {d : Nat} (hd : 46 ≤ d) {μ : zMem} {head high without : Int} (h0 : μ 357 156 = -1) : zSp d 0 0 y_M_tells zT0 [vr 355, vi head, vi high, vi without] μ zT0 (fun r μ' => r = some (vi without) ∧ μ' = μ) := by
  refine zSp.ss [vr 355, vi head, vi high, vi without, vx 0, vx 0, vx 0, vx 0, vx 0, vx 0, vx 0] rfl (w_M_tells (Nat.le_trans (by decide) hd)) rfl rfl ?_
  (try simp only [zit_e, Bool.and_eq_true, Bool.or_eq_true, Bool.not_eq_true', Bool.and_eq_false_iff, Bool.or_eq_false_iff, Bool.not_eq_false', zbe, zdt, zdf, zb2_p, zbp_0, zbp_1, zbp_inj, zbp_01, Bool.true_eq_false, Bool.false_eq_true, true_and, and_true, Decidable.not_not, Classical.not_not, implies_true, List.nil_append, List.cons_append, List.append_assoc, Option.some.injEq, Sum.inl.injEq, zSw_c, zSw_n]); (try simp only [zit_e, Bool.and_eq_true, Bool.or_eq_true, Bool.not_eq_true', Bool.and_eq_false_iff, Bool.or_eq_false_iff, Bool.not_eq_false', zbe, zdt, zdf, zb2_p, zbp_0, zbp_1, zbp_inj, zbp_01, Bool.true_eq_false, Bool.false_eq_true, true_and, and_true, Decidable.not_not, Classical.not_not, implies_true, List.nil_append, List.cons_append, List.append_assoc, Option.some.injEq, Sum.inl.injEq, zSw_c, zSw_n, zc_355, f_M_codeAt, g_M_codeAt]); (try simp only [zi_cs, zi_c0, zii_cs, zii_c0, zl_cs, zl_c0, zll_cs, zll_c0, zr_cs, zr_c0, zrr_cs, zrr_c0, zxs_cs, zxs_c0, zxx_cs, zxx_c0, zfree_c0, zfree_c1, zfree_cs, zfree_cz, zlong_i, zlong_r, zlong_x, zset_0, zset_s, true_and, and_true, Option.some.injEq, Sum.inl.injEq, Sum.inr.injEq, zb2_p, zbp_0, zbp_1, zbp_inj, zbp_01, Nat.zero_add, Nat.reduceAdd, implies_true, List.nil_append, List.cons_append, List.append_assoc, Int.not_lt, Int.not_le, Decidable.not_not, Int.zero_add, Int.reduceLE, Int.reduceLT, Int.reduceEq, Int.reduceNe, Int.reduceAdd, Int.reduceSub, Int.reduceMul, Int.reduceNeg, Int.reduceToNat, Nat.reduceMul, Nat.reduceLT, Nat.reduceEqDiff, and_self, ite_true, ite_false, zx1, zx2, zRecv, List.length_cons, List.length_nil, ne_eq, not_true_eq_false, not_false_eq_true, true_or, or_true, or_false, false_or, and_false, false_and, zf01, zf10, reduceCtorEq, zSw_c, zSw_n, zm_r, zit_T, zit_F, false_implies, true_implies, zc_355, f_M_codeAt, g_M_codeAt])
  rw [if_pos h0]
  trivial
theorem hl_s {m : Mn} {W : Int → Int} {x : Int} (h : ∀ y, m W = some y → y = x) : hlT (some m) W = true ↔ (¬ x = 0 ∧ evB 1 0 (m W) = 0) := by
  unfold hlT
  rcases e : m W with _ | y
  · simp only [e]
    rw [(evV_n ⟨rfl, rfl⟩ rfl).2]
    simp
  · simp only [e]
    rw [(evV_s ⟨rfl, rfl⟩ rfl).2, ← h y e]
    simp
theorem tl_c {W : Int → Int} {head s sb : Int} {cl : Cls} {H C : Prop} (h1 : (sb = 0 → cl.2.2.2.1 W = some s) ∧ (¬ sb = 0 → cl.2.2.2.1 W = none)) (h2 : hlT cl.2.2.2.2.2.2 W = true ↔ H) (hC : C ↔ (cl.1 + 1 = head ∧ H) ∧ sb = 0) : (C → tlC W (head - 1) cl = some s) ∧ (¬ C → tlC W (head - 1) cl = none) := by
  unfold tlC
  rw [hC]
  refine ⟨fun q => ?_, fun q => ?_⟩
  · rw [if_pos ⟨by omega, h2.mpr q.1.2⟩]
    exact h1.1 q.2
  · by_cases c : cl.1 = head - 1 ∧ hlT cl.2.2.2.2.2.2 W = true
    · rw [if_pos c]
      exact h1.2 (fun z => q ⟨⟨by omega, h2.mp c.2⟩, z⟩)
    · rw [if_neg c]
theorem tlV_in {high without : Int} {E : Option Int} (hi : 0 ≤ high ∧ high ≤ 1000000) (hw : -1000000 ≤ without ∧ without ≤ 1000000) : -1000000 ≤ tlV high without E ∧ tlV high without E ≤ 1000000 := by
  cases E with
  | none => exact hw
  | some x =>
    show -1000000 ≤ clp high x ∧ clp high x ≤ 1000000
    unfold clp
    repeat' split
    all_goals omega
theorem clp_z {high s : Int} : zit (zcmp s 0 < 0) 0 (zit (0 < zcmp s high) high s) = clp high s := by
  have h1 := (zcmp_p (a := s) (b := high)).1
  have h2 := (zcmp_p (a := s) (b := 0)).2.1
  unfold clp zit
  repeat' split
  all_goals omega
/-- its loop over the clauses -/
def TLI (head high without f : Int) (Q : zTk) (cls : List Cls) (W : Int → Int) (μ : zMem) (k : Nat) (ρ : List zV) (μ2 : zMem) : Prop := ∃ (t l w g : Nat) (cs rest : List Cls) (cc : List Int) (x6 x7 x8 x9 x10 : zV), ρ = [vr 355, vi head, vi high, vi without, vl (tlV high without (lstT W (head - 1) cs)), vx 0, x6, x7, x8, x9, x10] ∧ FT μ μ2 ∧ μ2 355 21 = 400 * f + Q.2.2.2 ∧ μ2 355 23 = 0 ∧ μ2 355 20 = 400 * f + t ∧ cls = cs ++ rest ∧ ((t = Q.2.2.2 + 1 ∧ rest = []) ∨ (l ≤ 50 ∧ t ≤ Q.2.2.2 ∧ pCls Q.1 (fun t => decide (Q.2.2.2 ≤ t)) (pcO false Q.1 Q.2.1) g t l w = (Q.2.2.2, some (rest, cc)))) ∧ k = Q.2.2.2 + 1 - t
theorem TLI_n {head high without f : Int} {Q : zTk} {cls cs rest : List Cls} {W : Int → Int} {μ μ2 : zMem} {t t2 l l2 w g : Nat} {cl : Cls} {c1 cc : List Int} {x6 x7 x8 x9 x10 : zV} (hQ : okK Q) (hS : pCls Q.1 (fun t => decide (Q.2.2.2 ≤ t)) (pcO false Q.1 Q.2.1) (g + 1) t l w = (Q.2.2.2, some (rest, cc))) (hp : pcO false Q.1 Q.2.1 t l w = (t2, some (l2, cl, c1))) (htt : t < t2) (hl2 : l2 ≤ 50) (hcl : cls = cs ++ rest) (hF : FT μ μ2) (h21 : μ2 355 21 = 400 * f + Q.2.2.2) (h23 : μ2 355 23 = 0) (h20 : μ2 355 20 = 400 * f + t2 + 1) (htn : t < Q.2.2.2) : ∃ m' : Nat, m' < Q.2.2.2 + 1 - t ∧ TLI head high without f Q cls W μ m' [vr 355, vi head, vi high, vi without, vl (tlV high without (lstT W (head - 1) (cs ++ [cl]))), vx 0, x6, x7, x8, x9, x10] μ2 := by
  rw [pCls_K hp] at hS
  unfold pK at hS
  by_cases c9 : Q.1 t2 = 159
  · rw [if_pos c9] at hS
    have ht2 := zNlt (c := Q.1) hQ.2.1 (show Q.1 t2 ≠ 0 by omega)
    rcases e1 : pCls Q.1 (fun t => decide (Q.2.2.2 ≤ t)) (pcO false Q.1 Q.2.1) g (t2 + 1) l2 (w + c1.length) with ⟨t3, _ | ⟨r3, c3⟩⟩
    · rw [e1] at hS
      cases hS
    rw [e1] at hS
    have q1 : t3 = Q.2.2.2 := congrArg (fun z => z.1) hS
    have q2 : [cl] ++ r3 = rest := by
      have := congrArg (fun z => z.2) hS
      simp only [lCat] at this
      exact congrArg Prod.fst (Option.some.inj this)
    refine ⟨Q.2.2.2 + 1 - (t2 + 1), by omega, t2 + 1, l2, w + c1.length, g, cs ++ [cl], r3, c3, x6, x7, x8, x9, x10, rfl, hF, h21, h23, by omega, ?_, Or.inr ⟨hl2, ht2, ?_⟩, rfl⟩
    · rw [hcl, ← q2, List.append_assoc]
    · rw [e1, q1]
  · rw [if_neg c9] at hS
    split at hS
    next c5 =>
      have q1 : t2 = Q.2.2.2 := congrArg (fun z => z.1) hS
      have q2 : [cl] = rest := by
        have := congrArg (fun z => z.2) hS
        simp only [lCat, List.append_nil] at this
        exact congrArg Prod.fst (Option.some.inj this)
      refine ⟨Q.2.2.2 + 1 - (t2 + 1), by omega, t2 + 1, l2, w, g, cs ++ [cl], [], [], x6, x7, x8, x9, x10, rfl, hF, h21, h23, by omega, ?_, Or.inl ⟨by omega, rfl⟩, rfl⟩
      rw [hcl, ← q2, List.append_nil]
    next => cases hS
theorem pMT_G {Q : zTk} (hQ : okK Q) {o : Bool} {t l w t1 l1 : Nat} {mt : Option Mn} {cd : List Int} (e : pMT o Q.1 Q.2.1 t l w = (t1, some (l1, mt, cd))) (hl : l ≤ 50) (ht : t ≤ Q.2.2.2) : l1 ≤ 50 ∧ t1 ≤ Q.2.2.2 ∧ t ≤ t1 := by
  unfold pMT at e
  split at e
  · next q =>
    have hlt := zNlt (c := Q.1) hQ.2.1 (show Q.1 t ≠ 0 by rw [q]; decide)
    rcases e1 : lvT o Q.1 Q.2.1 8 (t + 1) l w with ⟨t2, _ | ⟨l2, m2, c2⟩⟩
    · rw [e1] at e
      cases e
    rw [e1] at e
    have g := (PG_T (o := o) (v := Q.2.1) hQ.2.1 8 (t + 1) l w hl hlt).2 _ _ _ _ e1
    cases e
    omega
  · cases e
    omega
theorem pcO_G {Q : zTk} (hQ : okK Q) {t l w t1 l1 : Nat} {cl : Cls} {cd : List Int} (e : pcO false Q.1 Q.2.1 t l w = (t1, some (l1, cl, cd))) (hl : l ≤ 50) (ht : t ≤ Q.2.2.2) : l1 ≤ 50 ∧ t1 ≤ Q.2.2.2 ∧ t < t1 := by
  unfold pcO at e
  rw [if_neg (by decide)] at e
  unfold pLawC at e
  split at e
  next q =>
    have hlt := zNlt (c := Q.1) hQ.2.1 (show Q.1 t ≠ 0 by omega)
    rcases e1 : pLw Q.1 Q.2.1 t l w with ⟨t2, _ | ⟨l2, m2, c2⟩⟩
    · rw [e1] at e
      cases e
    rw [e1] at e
    simp only at e
    have g1 : l2 ≤ 50 ∧ t2 ≤ Q.2.2.2 ∧ t < t2 := by
      unfold pLw at e1
      split at e1
      · cases e1
        omega
      · have := (PG_S (o := false) (v := Q.2.1) hQ.2.1 8 (t + 1) l w hl hlt).2 _ _ _ _ e1
        omega
    rcases e3 : pMT false Q.1 Q.2.1 t2 l2 (w + c2.length) with ⟨t4, _ | ⟨l4, m4, c4⟩⟩
    · rw [e3] at e
      cases e
    rw [e3] at e
    have g3 := pMT_G hQ e3 g1.1 g1.2.1
    cases e
    omega
  next => cases e
/-- a clause's test at its call -/
theorem pt_w {d : Nat} (hd : 45 ≤ d) {Q : zTk} {o : Bool} {b live : Int} {W : Int → Int} (hQ : okK Q) {t l w t1 l1 : Nat} {mt : Option Mn} {cd : List Int} {μ : zMem} {A : zMem → Prop} {B : Int → zMem → Prop} (hlv : live = 0 ∨ live = 1) (h : Ev Q o b W μ) (hg : μ 355 20 = b + t) (h22 : μ 355 22 = 0) (hl : l ≤ 50) (ht : t ≤ Q.2.2.2) (hp : pMT o Q.1 Q.2.1 t l w = (t1, some (l1, mt, cd))) (hA : mt = none → t1 = t → A μ) (hB : ∀ m x μ', mt = some m → (x = 0 ∨ x = 1) → (live = 1 → ∀ y, m W = some y → y = x) → μ' 355 20 = b + t1 → μ' 355 22 = evB live 0 (m W) → FE μ μ' → t < t1 → B x μ') : zCw d y_M_passes0 [vr 355, vi 5] μ (fun q μ2 => ∃ n, q = some (vi n) ∧ if n = 0 then A μ2 else zCw d y_M_testOf [vr 355, vi live] μ2 (fun q μ3 => ∃ n, q = some (vi n) ∧ B n μ3)) := by
  unfold pMT at hp
  refine ep_w (by omega) hQ h hg ht (by decide) (fun c0 htn μ1 a1 a2 a3 a4 => ⟨_, rfl, ?_⟩) (fun c0 => ⟨_, rfl, ?_⟩)
  · rw [if_neg (by decide)]
    rw [if_pos c0] at hp
    rcases e1 : lvT o Q.1 Q.2.1 8 (t + 1) l w with ⟨t2, _ | ⟨l2, m2, c2⟩⟩
    · rw [e1] at hp
      cases hp
    rw [e1] at hp
    have hg1 := (PG_T (o := o) (v := Q.2.1) hQ.2.1 8 (t + 1) l w hl htn).2 _ _ _ _ e1
    cases hp
    exact et_w (by omega) hQ hlv (Or.inl rfl) a1 a2 (a3.trans h22) hl htn e1 (fun x μ' f1 f2 f3 f4 f5 => ⟨x, rfl, hB m2 x μ' rfl f1 (fun q => f2 q rfl) f3 f4 (a4.tr f5) (by omega)⟩)
  · rw [if_pos rfl]
    rw [if_neg c0] at hp
    cases hp
    exact hA rfl rfl
theorem q_M_tells1 {d : Nat} (hd : 46 ≤ d) {μ : zMem} {head high without f : Int} {Q : zTk} {cls : List Cls} {code : List Int} {W : Int → Int} (hf : μ 357 156 = f) (hf5 : 0 ≤ f ∧ f ≤ 5) (hL : LwM (μ 357) f Q) (hP : LwP false Q cls code) (hW : ∀ i : Int, 0 ≤ i → i < 10 → μ 367 i = W i) (hWb : ∀ i : Int, 0 ≤ i → i < 60 → -1000000 ≤ W i ∧ W i ≤ 1000000) (hh : 1 ≤ head) (hi : 0 ≤ high ∧ high ≤ 1000000) (hw : -1000000 ≤ without ∧ without ≤ 1000000) : zSp d 0 0 y_M_tells zT0 [vr 355, vi head, vi high, vi without] μ zT0 (fun r μ' => r = some (vi (tlV high without (lstT W (head - 1) cls))) ∧ FT μ μ') := by
  refine zSp.ss [vr 355, vi head, vi high, vi without, vx 0, vx 0, vx 0, vx 0, vx 0, vx 0, vx 0] rfl (w_M_tells (Nat.le_trans (by decide) hd)) rfl rfl ?_
  (try simp only [zit_e, Bool.and_eq_true, Bool.or_eq_true, Bool.not_eq_true', Bool.and_eq_false_iff, Bool.or_eq_false_iff, Bool.not_eq_false', zbe, zdt, zdf, zb2_p, zbp_0, zbp_1, zbp_inj, zbp_01, Bool.true_eq_false, Bool.false_eq_true, true_and, and_true, Decidable.not_not, Classical.not_not, implies_true, List.nil_append, List.cons_append, List.append_assoc, Option.some.injEq, Sum.inl.injEq, zSw_c, zSw_n]); (try simp only [zit_e, Bool.and_eq_true, Bool.or_eq_true, Bool.not_eq_true', Bool.and_eq_false_iff, Bool.or_eq_false_iff, Bool.not_eq_false', zbe, zdt, zdf, zb2_p, zbp_0, zbp_1, zbp_inj, zbp_01, Bool.true_eq_false, Bool.false_eq_true, true_and, and_true, Decidable.not_not, Classical.not_not, implies_true, List.nil_append, List.cons_append, List.append_assoc, Option.some.injEq, Sum.inl.injEq, zSw_c, zSw_n, zc_355, f_M_codeAt, g_M_codeAt]); (try simp only [zi_cs, zi_c0, zii_cs, zii_c0, zl_cs, zl_c0, zll_cs, zll_c0, zr_cs, zr_c0, zrr_cs, zrr_c0, zxs_cs, zxs_c0, zxx_cs, zxx_c0, zfree_c0, zfree_c1, zfree_cs, zfree_cz, zlong_i, zlong_r, zlong_x, zset_0, zset_s, true_and, and_true, Option.some.injEq, Sum.inl.injEq, Sum.inr.injEq, zb2_p, zbp_0, zbp_1, zbp_inj, zbp_01, Nat.zero_add, Nat.reduceAdd, implies_true, List.nil_append, List.cons_append, List.append_assoc, Int.not_lt, Int.not_le, Decidable.not_not, Int.zero_add, Int.reduceLE, Int.reduceLT, Int.reduceEq, Int.reduceNe, Int.reduceAdd, Int.reduceSub, Int.reduceMul, Int.reduceNeg, Int.reduceToNat, Nat.reduceMul, Nat.reduceLT, Nat.reduceEqDiff, and_self, ite_true, ite_false, zx1, zx2, zRecv, List.length_cons, List.length_nil, ne_eq, not_true_eq_false, not_false_eq_true, true_or, or_true, or_false, false_or, and_false, false_and, zf01, zf10, reduceCtorEq, zSw_c, zSw_n, zm_r, zit_T, zit_F, false_implies, true_implies, zc_355, f_M_codeAt, g_M_codeAt])
  rw [hf]
  have hQ := hP.1
  have hN4 := hQ.1
  rw [if_neg (by omega), hL.1]
  refine ⟨zI_s (by omega) (by omega), ⟨⟨zI_s (by omega) (by omega), by omega⟩, zI_s (by omega) (by omega)⟩, ?_⟩
  have mkE : ∀ {μ2 : zMem}, FT μ μ2 → μ2 355 21 = 400 * f + Q.2.2.2 → μ2 355 23 = 0 → Ev Q false (400 * f) W μ2 := by
    intro μ2 h1 h2 h3
    have e7 := h1.1 357 (by decide)
    refine ⟨⟨h2, h3, by omega⟩, fun u hu => ?_, fun _ i a1 a2 => ?_, fun q => (by cases q), hWb⟩
    · rw [e7]
      exact hL.2 u hu
    · rw [h1.1 367 (by decide)]
      exact hW i a1 a2
  refine zLoop.mk (TLI head high without f Q cls W μ) (Q.2.2.2 + 1) ⟨0, 0, 85, 12, [], cls, code, vx 0, vx 0, vx 0, vx 0, vx 0, rfl, ((FT_zm (by decide)).tr (FT_zm (by decide))).tr (FT_zm (by decide)), ?_, ?_, ?_, rfl, Or.inr ⟨Nat.zero_le _, Nat.zero_le _, hP.2⟩, rfl⟩ ?_
  · simp only [zi_cs, zi_c0, zii_cs, zii_c0, zl_cs, zl_c0, zll_cs, zll_c0, zr_cs, zr_c0, zrr_cs, zrr_c0, zxs_cs, zxs_c0, zxx_cs, zxx_c0, zfree_c0, zfree_c1, zfree_cs, zfree_cz, zlong_i, zlong_r, zlong_x, zset_0, zset_s, true_and, and_true, Option.some.injEq, Sum.inl.injEq, Sum.inr.injEq, zb2_p, zbp_0, zbp_1, zbp_inj, zbp_01, Nat.zero_add, Nat.reduceAdd, implies_true, List.nil_append, List.cons_append, List.append_assoc, Int.not_lt, Int.not_le, Decidable.not_not, Int.zero_add, Int.reduceLE, Int.reduceLT, Int.reduceEq, Int.reduceNe, Int.reduceAdd, Int.reduceSub, Int.reduceMul, Int.reduceNeg, Int.reduceToNat, Nat.reduceMul, Nat.reduceLT, Nat.reduceEqDiff, and_self, ite_true, ite_false, zx1, zx2, zRecv, List.length_cons, List.length_nil, ne_eq, not_true_eq_false, not_false_eq_true, true_or, or_true, or_false, false_or, and_false, false_and, zf01, zf10, reduceCtorEq, zSw_c, zSw_n, zm_r, zit_T, zit_F, false_implies, true_implies]
  · simp only [zi_cs, zi_c0, zii_cs, zii_c0, zl_cs, zl_c0, zll_cs, zll_c0, zr_cs, zr_c0, zrr_cs, zrr_c0, zxs_cs, zxs_c0, zxx_cs, zxx_c0, zfree_c0, zfree_c1, zfree_cs, zfree_cz, zlong_i, zlong_r, zlong_x, zset_0, zset_s, true_and, and_true, Option.some.injEq, Sum.inl.injEq, Sum.inr.injEq, zb2_p, zbp_0, zbp_1, zbp_inj, zbp_01, Nat.zero_add, Nat.reduceAdd, implies_true, List.nil_append, List.cons_append, List.append_assoc, Int.not_lt, Int.not_le, Decidable.not_not, Int.zero_add, Int.reduceLE, Int.reduceLT, Int.reduceEq, Int.reduceNe, Int.reduceAdd, Int.reduceSub, Int.reduceMul, Int.reduceNeg, Int.reduceToNat, Nat.reduceMul, Nat.reduceLT, Nat.reduceEqDiff, and_self, ite_true, ite_false, zx1, zx2, zRecv, List.length_cons, List.length_nil, ne_eq, not_true_eq_false, not_false_eq_true, true_or, or_true, or_false, false_or, and_false, false_and, zf01, zf10, reduceCtorEq, zSw_c, zSw_n, zm_r, zit_T, zit_F, false_implies, true_implies]
  · simp only [zi_cs, zi_c0, zii_cs, zii_c0, zl_cs, zl_c0, zll_cs, zll_c0, zr_cs, zr_c0, zrr_cs, zrr_c0, zxs_cs, zxs_c0, zxx_cs, zxx_c0, zfree_c0, zfree_c1, zfree_cs, zfree_cz, zlong_i, zlong_r, zlong_x, zset_0, zset_s, true_and, and_true, Option.some.injEq, Sum.inl.injEq, Sum.inr.injEq, zb2_p, zbp_0, zbp_1, zbp_inj, zbp_01, Nat.zero_add, Nat.reduceAdd, implies_true, List.nil_append, List.cons_append, List.append_assoc, Int.not_lt, Int.not_le, Decidable.not_not, Int.zero_add, Int.reduceLE, Int.reduceLT, Int.reduceEq, Int.reduceNe, Int.reduceAdd, Int.reduceSub, Int.reduceMul, Int.reduceNeg, Int.reduceToNat, Nat.reduceMul, Nat.reduceLT, Nat.reduceEqDiff, and_self, ite_true, ite_false, zx1, zx2, zRecv, List.length_cons, List.length_nil, ne_eq, not_true_eq_false, not_false_eq_true, true_or, or_true, or_false, false_or, and_false, false_and, zf01, zf10, reduceCtorEq, zSw_c, zSw_n, zm_r, zit_T, zit_F, false_implies, true_implies]
    rw [Int.natCast_zero, Int.add_zero]
  rintro k ρ μ2 ⟨t, l, w, g, cs, rest, cc, x6, x7, x8, x9, x10, rfl, hF, h21, h23, h20, hcl, hS, rfl⟩
  have hE := mkE hF h21 h23
  have hc := Ev_code hQ hE h20
  (try simp only [zit_e, Bool.and_eq_true, Bool.or_eq_true, Bool.not_eq_true', Bool.and_eq_false_iff, Bool.or_eq_false_iff, Bool.not_eq_false', zbe, zdt, zdf, zb2_p, zbp_0, zbp_1, zbp_inj, zbp_01, Bool.true_eq_false, Bool.false_eq_true, true_and, and_true, Decidable.not_not, Classical.not_not, implies_true, List.nil_append, List.cons_append, List.append_assoc, Option.some.injEq, Sum.inl.injEq, zSw_c, zSw_n]); (try simp only [zit_e, Bool.and_eq_true, Bool.or_eq_true, Bool.not_eq_true', Bool.and_eq_false_iff, Bool.or_eq_false_iff, Bool.not_eq_false', zbe, zdt, zdf, zb2_p, zbp_0, zbp_1, zbp_inj, zbp_01, Bool.true_eq_false, Bool.false_eq_true, true_and, and_true, Decidable.not_not, Classical.not_not, implies_true, List.nil_append, List.cons_append, List.append_assoc, Option.some.injEq, Sum.inl.injEq, zSw_c, zSw_n, zc_355, f_M_codeAt, g_M_codeAt]); (try simp only [zi_cs, zi_c0, zii_cs, zii_c0, zl_cs, zl_c0, zll_cs, zll_c0, zr_cs, zr_c0, zrr_cs, zrr_c0, zxs_cs, zxs_c0, zxx_cs, zxx_c0, zfree_c0, zfree_c1, zfree_cs, zfree_cz, zlong_i, zlong_r, zlong_x, zset_0, zset_s, true_and, and_true, Option.some.injEq, Sum.inl.injEq, Sum.inr.injEq, zb2_p, zbp_0, zbp_1, zbp_inj, zbp_01, Nat.zero_add, Nat.reduceAdd, implies_true, List.nil_append, List.cons_append, List.append_assoc, Int.not_lt, Int.not_le, Decidable.not_not, Int.zero_add, Int.reduceLE, Int.reduceLT, Int.reduceEq, Int.reduceNe, Int.reduceAdd, Int.reduceSub, Int.reduceMul, Int.reduceNeg, Int.reduceToNat, Nat.reduceMul, Nat.reduceLT, Nat.reduceEqDiff, and_self, ite_true, ite_false, zx1, zx2, zRecv, List.length_cons, List.length_nil, ne_eq, not_true_eq_false, not_false_eq_true, true_or, or_true, or_false, false_or, and_false, false_and, zf01, zf10, reduceCtorEq, zSw_c, zSw_n, zm_r, zit_T, zit_F, false_implies, true_implies, zc_355, f_M_codeAt, g_M_codeAt])
  refine zif (fun c0 => ?_) (fun c0 => ?_)
  · rcases hS with hS | ⟨hl, ht, hS⟩
    · omega
    have htn : t < Q.2.2.2 := by omega
    rcases g with _ | g
    · cases hS
    rcases e1 : pcO false Q.1 Q.2.1 t l w with ⟨t2, _ | ⟨l2, cl, c1⟩⟩
    · rw [pCls_n e1] at hS
      cases hS
    refine ⟨hc.1, zI_s (by omega) (by omega), ?_⟩
    rw [hc.2]
    have hg := pcO_G hQ e1 hl ht
    have upd : ∀ {x6 x7 x8 x9 x10 : zV} {μ3 : zMem} {C : Prop} {inst : Decidable C} {s : Int}, FT μ μ3 → μ3 355 21 = 400 * f + Q.2.2.2 → μ3 355 23 = 0 → μ3 355 20 = 400 * f + t2 → ((C → tlC W (head - 1) cl = some s) ∧ (¬ C → tlC W (head - 1) cl = none)) → @ite Prop C inst (zI (μ3 355 20 + 1) ∧ ∃ m' : Nat, m' < Q.2.2.2 + 1 - t ∧ TLI head high without f Q cls W μ m' [vr 355, vi head, vi high, vi without, vl (zit (zcmp s 0 < 0) 0 (zit (0 < zcmp s high) high s)), vx 0, x6, x7, x8, x9, x10] (zm μ3 355 20 (μ3 355 20 + 1))) (zI (μ3 355 20 + 1) ∧ ∃ m' : Nat, m' < Q.2.2.2 + 1 - t ∧ TLI head high without f Q cls W μ m' [vr 355, vi head, vi high, vi without, vl (tlV high without (lstT W (head - 1) cs)), vx 0, x6, x7, x8, x9, x10] (zm μ3 355 20 (μ3 355 20 + 1))) := by
      intro x6 x7 x8 x9 x10 μ3 C inst s b1 b2 b3 b4 b5
      have hgo := hg.2.1
      have nx := fun {x6 x7 x8 x9 x10 : zV} => TLI_n (head := head) (high := high) (without := without) (f := f) (W := W) (μ := μ) (μ2 := zm μ3 355 20 (μ3 355 20 + 1)) (x6 := x6) (x7 := x7) (x8 := x8) (x9 := x9) (x10 := x10) hQ hS e1 hg.2.2 hg.1 hcl (b1.tr (FT_zm (Or.inl rfl))) ((zm_j (by decide)).trans b2) ((zm_j (by decide)).trans b3) (by rw [zm_s, b4]) htn
      refine zif (fun c => ⟨zI_s (by omega) (by omega), ?_⟩) (fun c => ⟨zI_s (by omega) (by omega), ?_⟩)
      · have := nx (x6 := x6) (x7 := x7) (x8 := x8) (x9 := x9) (x10 := x10)
        rw [lstT_app, b5.1 c] at this
        rw [clp_z]
        exact this
      · have := nx (x6 := x6) (x7 := x7) (x8 := x8) (x9 := x9) (x10 := x10)
        rw [lstT_app, b5.2 c] at this
        exact this
    unfold pcO at e1
    rw [if_neg (by decide)] at e1
    unfold pLawC at e1
    split at e1
    next c14 =>
      rcases f1 : pLw Q.1 Q.2.1 t l w with ⟨t1, _ | ⟨l1, m1, d1⟩⟩
      · rw [f1] at e1
        cases e1
      rw [f1] at e1
      simp only at e1
      rcases f2 : pMT false Q.1 Q.2.1 t1 l1 (w + d1.length) with ⟨t3, _ | ⟨l3, mt, d3⟩⟩
      · rw [f2] at e1
        cases e1
      rw [f2] at e1
      cases e1
      have keep : ∀ {μ3 : zMem}, FE μ2 μ3 → FT μ μ3 ∧ μ3 355 21 = 400 * f + Q.2.2.2 ∧ μ3 355 23 = 0 ∧ Ev Q false (400 * f) W μ3 := by
        intro μ3 b1
        exact ⟨hF.tr b1.ft, (b1.2 21 (by decide) (by decide)).trans h21, (b1.2 23 (by decide) (by decide)).trans h23, Ev_c hE b1⟩
      refine zif (fun c4 => ?_) (fun c4 => ?_)
      · unfold pLw at f1
        rw [if_pos c4] at f1
        cases f1
        have k3 := keep (((FE_zm (j := 22) (v := 0) (Or.inr rfl)).tr (FE_zm (j := 20) (v := μ2 355 20 + 1) (Or.inl rfl))).tr (FE_zm (j := 22) (v := 0) (Or.inr rfl)))
        refine pt_w (by omega) hQ (Or.inr rfl) k3.2.2.2 (t := t + 1) (by simp only [zi_cs, zi_c0, zii_cs, zii_c0, zl_cs, zl_c0, zll_cs, zll_c0, zr_cs, zr_c0, zrr_cs, zrr_c0, zxs_cs, zxs_c0, zxx_cs, zxx_c0, zfree_c0, zfree_c1, zfree_cs, zfree_cz, zlong_i, zlong_r, zlong_x, zset_0, zset_s, true_and, and_true, Option.some.injEq, Sum.inl.injEq, Sum.inr.injEq, zb2_p, zbp_0, zbp_1, zbp_inj, zbp_01, Nat.zero_add, Nat.reduceAdd, implies_true, List.nil_append, List.cons_append, List.append_assoc, Int.not_lt, Int.not_le, Decidable.not_not, Int.zero_add, Int.reduceLE, Int.reduceLT, Int.reduceEq, Int.reduceNe, Int.reduceAdd, Int.reduceSub, Int.reduceMul, Int.reduceNeg, Int.reduceToNat, Nat.reduceMul, Nat.reduceLT, Nat.reduceEqDiff, and_self, ite_true, ite_false, zx1, zx2, zRecv, List.length_cons, List.length_nil, ne_eq, not_true_eq_false, not_false_eq_true, true_or, or_true, or_false, false_or, and_false, false_and, zf01, zf10, reduceCtorEq, zSw_c, zSw_n, zm_r, zit_T, zit_F, false_implies, true_implies]; omega) zm_s hl htn f2 (fun q1 q2 => ?_) (fun m x μ4 q1 q2 q3 q4 q5 q6 q7 => ?_)
        · subst q2
          refine upd k3.1 k3.2.1 k3.2.2.1 (by simp only [zi_cs, zi_c0, zii_cs, zii_c0, zl_cs, zl_c0, zll_cs, zll_c0, zr_cs, zr_c0, zrr_cs, zrr_c0, zxs_cs, zxs_c0, zxx_cs, zxx_c0, zfree_c0, zfree_c1, zfree_cs, zfree_cz, zlong_i, zlong_r, zlong_x, zset_0, zset_s, true_and, and_true, Option.some.injEq, Sum.inl.injEq, Sum.inr.injEq, zb2_p, zbp_0, zbp_1, zbp_inj, zbp_01, Nat.zero_add, Nat.reduceAdd, implies_true, List.nil_append, List.cons_append, List.append_assoc, Int.not_lt, Int.not_le, Decidable.not_not, Int.zero_add, Int.reduceLE, Int.reduceLT, Int.reduceEq, Int.reduceNe, Int.reduceAdd, Int.reduceSub, Int.reduceMul, Int.reduceNeg, Int.reduceToNat, Nat.reduceMul, Nat.reduceLT, Nat.reduceEqDiff, and_self, ite_true, ite_false, zx1, zx2, zRecv, List.length_cons, List.length_nil, ne_eq, not_true_eq_false, not_false_eq_true, true_or, or_true, or_false, false_or, and_false, false_and, zf01, zf10, reduceCtorEq, zSw_c, zSw_n, zm_r, zit_T, zit_F, false_implies, true_implies]; omega) (tl_c (sb := 0) (H := True) ⟨fun _ => rfl, fun q => absurd rfl q⟩ ?_ ?_)
          · show hlT mt W = true ↔ True
            rw [q1]
            simp [hlT]
          · rw [zm_s]
            show (Q.1 t = head ∧ (0 : Int) = 0) ↔ (Q.1 t - 1 + 1 = head ∧ True) ∧ (0 : Int) = 0
            rw [Int.sub_add_cancel]
            exact ⟨fun z => ⟨⟨z.1, trivial⟩, rfl⟩, fun z => ⟨z.1.1, rfl⟩⟩
        · have hqq : Q.1 t - 1 + 1 = Q.1 t := by omega
          have k4 := keep ((((FE_zm (j := 22) (v := 0) (Or.inr rfl)).tr (FE_zm (j := 20) (v := μ2 355 20 + 1) (Or.inl rfl))).tr (FE_zm (j := 22) (v := 0) (Or.inr rfl))).tr q6)
          refine upd k4.1 k4.2.1 k4.2.2.1 q4 (tl_c (sb := 0) (H := ¬ x = 0 ∧ evB 1 0 (m W) = 0) ⟨fun _ => rfl, fun q => absurd rfl q⟩ ?_ ?_)
          · show hlT mt W = true ↔ _
            rw [q1]
            exact hl_s (q3 rfl)
          · rw [q5]
            show ((Q.1 t = head ∧ ¬ x = 0) ∧ evB 1 0 (m W) = 0) ↔ (Q.1 t - 1 + 1 = head ∧ ¬ x = 0 ∧ evB 1 0 (m W) = 0) ∧ (0 : Int) = 0
            rw [hqq]
            exact ⟨fun z => ⟨⟨z.1.1, z.1.2, z.2⟩, rfl⟩, fun z => ⟨⟨z.1.1, z.1.2.1⟩, z.1.2.2⟩⟩
      · unfold pLw at f1
        rw [if_neg c4] at f1
        have k3 := keep ((FE_zm (j := 22) (v := 0) (Or.inr rfl)).tr (FE_zm (j := 20) (v := μ2 355 20 + 1) (Or.inl rfl)))
        have hg1 := (PG_S (o := false) (v := Q.2.1) hQ.2.1 8 (t + 1) l w hl htn).2 _ _ _ _ f1
        refine es_w (by omega) hQ (br := 0) (Or.inr rfl) (Or.inl rfl) k3.2.2.2 (t := t + 1) (by simp only [zi_cs, zi_c0, zii_cs, zii_c0, zl_cs, zl_c0, zll_cs, zll_c0, zr_cs, zr_c0, zrr_cs, zrr_c0, zxs_cs, zxs_c0, zxx_cs, zxx_c0, zfree_c0, zfree_c1, zfree_cs, zfree_cz, zlong_i, zlong_r, zlong_x, zset_0, zset_s, true_and, and_true, Option.some.injEq, Sum.inl.injEq, Sum.inr.injEq, zb2_p, zbp_0, zbp_1, zbp_inj, zbp_01, Nat.zero_add, Nat.reduceAdd, implies_true, List.nil_append, List.cons_append, List.append_assoc, Int.not_lt, Int.not_le, Decidable.not_not, Int.zero_add, Int.reduceLE, Int.reduceLT, Int.reduceEq, Int.reduceNe, Int.reduceAdd, Int.reduceSub, Int.reduceMul, Int.reduceNeg, Int.reduceToNat, Nat.reduceMul, Nat.reduceLT, Nat.reduceEqDiff, and_self, ite_true, ite_false, zx1, zx2, zRecv, List.length_cons, List.length_nil, ne_eq, not_true_eq_false, not_false_eq_true, true_or, or_true, or_false, false_or, and_false, false_and, zf01, zf10, reduceCtorEq, zSw_c, zSw_n, zm_r, zit_T, zit_F, false_implies, true_implies]; omega) (by simp only [zi_cs, zi_c0, zii_cs, zii_c0, zl_cs, zl_c0, zll_cs, zll_c0, zr_cs, zr_c0, zrr_cs, zrr_c0, zxs_cs, zxs_c0, zxx_cs, zxx_c0, zfree_c0, zfree_c1, zfree_cs, zfree_cz, zlong_i, zlong_r, zlong_x, zset_0, zset_s, true_and, and_true, Option.some.injEq, Sum.inl.injEq, Sum.inr.injEq, zb2_p, zbp_0, zbp_1, zbp_inj, zbp_01, Nat.zero_add, Nat.reduceAdd, implies_true, List.nil_append, List.cons_append, List.append_assoc, Int.not_lt, Int.not_le, Decidable.not_not, Int.zero_add, Int.reduceLE, Int.reduceLT, Int.reduceEq, Int.reduceNe, Int.reduceAdd, Int.reduceSub, Int.reduceMul, Int.reduceNeg, Int.reduceToNat, Nat.reduceMul, Nat.reduceLT, Nat.reduceEqDiff, and_self, ite_true, ite_false, zx1, zx2, zRecv, List.length_cons, List.length_nil, ne_eq, not_true_eq_false, not_false_eq_true, true_or, or_true, or_false, false_or, and_false, false_and, zf01, zf10, reduceCtorEq, zSw_c, zSw_n, zm_r, zit_T, zit_F, false_implies, true_implies]) hl htn f1 (fun μ3 a1 a2 a3 a4 => ⟨_, rfl, ?_⟩)
        have hs1 : (evB 1 0 (m1 W) = 0 → m1 W = some (evV 1 0 (m1 W))) ∧ (¬ evB 1 0 (m1 W) = 0 → m1 W = none) := by
          rcases m1 W with _ | y
          · rw [(evV_n ⟨rfl, rfl⟩ rfl).2]
            exact ⟨fun q => absurd q (by decide), fun _ => rfl⟩
          · rw [(evV_s ⟨rfl, rfl⟩ rfl).2, (evV_s ⟨rfl, rfl⟩ rfl).1]
            exact ⟨fun _ => rfl, fun q => absurd rfl q⟩
        rw [a2]
        have g3 : FE μ2 (zm μ3 355 22 0) := (((FE_zm (j := 22) (v := 0) (Or.inr rfl)).tr (FE_zm (j := 20) (v := μ2 355 20 + 1) (Or.inl rfl))).tr a3).tr (FE_zm (Or.inr rfl))
        have k4 := keep g3
        refine pt_w (by omega) hQ (Or.inr rfl) k4.2.2.2 (t := t1) (by rw [zm_j (by decide)]; exact a1) zm_s hg1.2.2.2.1 hg1.2.1 f2 (fun q1 q2 => ?_) (fun m x μ4 q1 q2 q3 q4 q5 q6 q7 => ?_)
        · subst q2
          refine upd k4.1 k4.2.1 k4.2.2.1 (by rw [zm_j (by decide)]; exact a1) (tl_c (sb := evB 1 0 (m1 W)) (H := True) hs1 ?_ ?_)
          · show hlT mt W = true ↔ True
            rw [q1]
            simp [hlT]
          · rw [zm_s]
            show ((Q.1 t = head ∧ (0 : Int) = 0) ∧ evB 1 0 (m1 W) = 0) ↔ (Q.1 t - 1 + 1 = head ∧ True) ∧ evB 1 0 (m1 W) = 0
            rw [Int.sub_add_cancel]
            exact ⟨fun z => ⟨⟨z.1.1, trivial⟩, z.2⟩, fun z => ⟨⟨z.1.1, rfl⟩, z.2⟩⟩
        · have hqq : Q.1 t - 1 + 1 = Q.1 t := by omega
          have k5 := keep (g3.tr q6)
          refine upd k5.1 k5.2.1 k5.2.2.1 q4 (tl_c (sb := evB 1 0 (m1 W)) (H := ¬ x = 0 ∧ evB 1 0 (m W) = 0) hs1 ?_ ?_)
          · show hlT mt W = true ↔ _
            rw [q1]
            exact hl_s (q3 rfl)
          · rw [q5]
            show (((Q.1 t = head ∧ ¬ x = 0) ∧ evB 1 0 (m W) = 0) ∧ evB 1 0 (m1 W) = 0) ↔ (Q.1 t - 1 + 1 = head ∧ ¬ x = 0 ∧ evB 1 0 (m W) = 0) ∧ evB 1 0 (m1 W) = 0
            rw [hqq]
            exact ⟨fun z => ⟨⟨z.1.1.1, z.1.1.2, z.1.2⟩, z.2⟩, fun z => ⟨⟨⟨z.1.1, z.1.2.1⟩, z.1.2.2⟩, z.2⟩⟩
    next => cases e1
  · have hz := tlV_in (E := lstT W (head - 1) cs) hi hw
    rcases hS with ⟨ht, hr⟩ | ⟨hl, ht, hS⟩
    · rw [hr, List.append_nil] at hcl
      rw [hcl]
      exact ⟨zI_s (by omega) (by omega), rfl, hF⟩
    · exfalso
      rcases g with _ | g
      · cases hS
      rcases e1 : pcO false Q.1 Q.2.1 t l w with ⟨t2, _ | ⟨l2, cl, c1⟩⟩
      · rw [pCls_n e1] at hS
        cases hS
      · have := pcO_G hQ e1 hl ht
        omega

