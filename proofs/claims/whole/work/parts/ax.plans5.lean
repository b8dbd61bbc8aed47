/-! plans, the reference: all rows -/
def FdM (μ μ' : zMem) (pl : Nat) (R : Option (List Nat)) : Prop := (¬ μ 355 37 = 0 → ∀ i : Int, 0 ≤ i → i < 8 → μ' 377 i = μ 377 i) ∧ (μ 355 37 = 0 → ∀ l, R = some l → (∀ i : Nat, i < pl → μ' 377 i = μ 376 i) ∧ ∀ i : Nat, i < l.length → μ' 377 ((pl + i : Nat) : Int) = ((l.getD i 0 : Nat) : Int))
/-- what the reference's plan writes -/
def MPl (μ μ' : zMem) : Prop := (∀ j : Int, j ≠ 20 → j ≠ 21 → j ≠ 22 → j ≠ 23 → j ≠ 37 → μ' 355 j = μ 355 j) ∧ (∀ i : Int, 73 ≤ i → μ' 357 i = μ 357 i) ∧ zfc [355, 357, 360, 367, 376, 377] μ μ'
theorem MPl.rf {μ : zMem} : MPl μ μ := ⟨fun _ _ _ _ _ _ => rfl, fun _ _ => rfl, zfc.rf⟩
theorem MPl.tr {a b c : zMem} (h1 : MPl a b) (h2 : MPl b c) : MPl a c := ⟨fun j p q r s t => (h2.1 j p q r s t).trans (h1.1 j p q r s t), fun i hi => (h2.2.1 i hi).trans (h1.2.1 i hi), (h1.2.2.tr h2.2.2).mo (by simp)⟩
theorem MF.pl {a b : zMem} (h : MF a b) : MPl a b := ⟨fun j p q r s _ => h.1 j p q r s, fun i _ => by rw [h.2 357 (by decide)], h.2.mo (by simp)⟩
theorem VMx.x {b a mx : Int} {μ μ' : zMem} {V : List D4} (h : VMx b a mx μ V) (hb : 73 ≤ b ∧ 73 ≤ a) (h1 : ∀ i : Int, 73 ≤ i → μ' 357 i = μ 357 i) : VMx b a mx μ' V := by
  obtain ⟨p, q, r⟩ := h
  refine ⟨by rw [h1 a hb.2]; exact p, ?_, r⟩
  rw [← q]
  unfold fcM
  rw [h1 a hb.2]
  exact tL_congr (fun i i0 _ => by rw [h1 _ (by omega), h1 _ (by omega), h1 _ (by omega), h1 _ (by omega)])
theorem FdM.tr {a b c e : zMem} {pl j : Nat} {r : Int} {R S : Option (List Nat)} (h1 : FdM a b pl R) (h7 : c 355 37 = b 355 37) (hz : b 355 37 = a 355 37 + r) (hr : 0 ≤ r) (ha : 0 ≤ a 355 37) (hRz : r = 0 ↔ R = none) (h2 : ∀ i : Int, 0 ≤ i → i < 8 → c 377 i = b 377 i) (h3 : ∀ i : Nat, i < pl → c 376 i = a 376 i) (h4 : c 376 (pl : Int) = (j : Int)) (hR : ∀ l, R = some l → pl + l.length ≤ 8) (h5 : FdM c e (pl + 1) S) : FdM a e pl (oOr R (S.map (fun l => j :: l))) := by
  refine ⟨fun q i i0 i1 => ?_, fun q l e1 => ?_⟩
  · rw [h5.1 (by omega) i i0 i1, h2 i i0 i1, h1.1 q i i0 i1]
  · rcases R with _ | lr
    · have := hRz.mpr rfl
      rcases S with _ | ls
      · cases e1
      · cases e1
        obtain ⟨g2, g3⟩ := h5.2 (by omega) _ rfl
        refine ⟨fun i hi => by rw [g2 i (by omega), h3 i hi], fun i hi => ?_⟩
        rcases i with _ | i
        · rw [Nat.add_zero, g2 pl (by omega), h4]
          rfl
        · have := g3 i (by simpa using hi)
          rw [show pl + (i + 1) = pl + 1 + i by omega, this]
          rfl
    · cases e1
      have hr0 : ¬ r = 0 := fun z => by cases hRz.mp z
      obtain ⟨g2, g3⟩ := h1.2 q _ rfl
      have hl := hR _ rfl
      exact ⟨fun i hi => by rw [h5.1 (by omega) i (by omega) (by omega), h2 i (by omega) (by omega), g2 i hi], fun i hi => by rw [h5.1 (by omega) _ (by omega) (by omega), h2 _ (by omega) (by omega), g3 i hi]⟩
theorem dpA_B {Z : Zt} {F : Option (List Cls)} {A B : Lg} {w : Int → Int} {o v a b : Int} (h : B.2.2 = A.2.2) : dpA Z F B w o v a b = dpA Z F A w o v a b := by
  unfold dpA wdA
  rw [h]
def z7 (Z : Zt) : Zt := (7, Z.2)
theorem z7_ok {Z : Zt} (h : okZ Z) : okZ (z7 Z) := ⟨by show (0 : Int) ≤ 7 ∧ (7 : Int) ≤ 7; decide, h.2⟩
theorem z7_n {Z : Zt} {V : List D4} (hV : ∀ x, x ∈ V → ok4 999 x) : ∀ x, x ∈ V → x.1 < (z7 Z).1 ∧ x.2.1 < (z7 Z).1 := fun x hx => by
  obtain ⟨o1, o2, -⟩ := hV x hx
  show x.1 < 7 ∧ x.2.1 < 7
  omega
theorem q_R_repays2 {d : Nat} (hd : 4 ≤ d) {μ : zMem} {Y Z : Zt} {F : Option (List Cls)} {A : Lg} {w : Int → Int} {a b m x : Int} (h : MTx μ Z F A w) (hY : okZ Y) (hc : 0 ≤ payA Y A a b x) (hm : payA Y A a b x = m) : zSp d 0 0 y_M_repays zT0 [vr 355, vi a, vi b, vi m] μ zT0 (fun q μ' => q = none ∧ MTx μ' Z F (pdA A a b m) w ∧ (∀ i : Int, 73 ≤ i → μ' 357 i = μ 357 i) ∧ zfc [357] μ μ') := by
  obtain ⟨n1, n2, n3, n4, n5, n6, n7⟩ := h.n
  obtain ⟨hp, hk⟩ := h.p
  have hg := payC_0 hc
  have hz7 := hY.1.2
  have hpa := hk a (by omega) (by omega)
  have hpb := hk b (by omega) (by omega)
  have hmm : m = muchC (puA A) A.2.1 a b x := by rw [← hm]; exact payA_m hc
  have hmb : 0 ≤ m ∧ m ≤ μ 357 a ∧ m ≤ 9999 - μ 357 b := by
    rw [hp a (by omega) (by omega), hp b (by omega) (by omega), hmm]
    have := hg.2.2.2.1
    unfold muchC at *
    omega
  refine (q_M_repays hd (a := a) (b := b) (m := m) h.d.2.2.2.1 (by omega) (by omega) (by omega) ⟨by ((try simp only [zI_e]); (first | done | omega | skip)), by rw [zit_f (by omega)]; ((try simp only [zI_e]); (first | done | omega | skip))⟩).imp (fun q μ' e => ?_)
  obtain ⟨rfl, e1, e2, e3, e4⟩ := e
  have e73 : ∀ i : Int, 73 ≤ i → μ' 357 i = μ 357 i := fun i hi => by
    rw [e3 i (by omega), zit_f (by omega), zit_f (by omega)]
  refine ⟨rfl, h.up (by rw [hmm]; exact pdA_ok hY h.2.1 hc) (lgM_is ?_ ?_ ?_) e2.1 e73, e73, e4⟩
  · refine mvP_e (p := μ 357) hp (by omega) (fun j _ _ => ?_)
    rw [e3 j (by omega), zit_f (show ¬ b = a by omega)]
  · rw [e1, n3]
    rfl
  · rw [e3 72 (by omega), zit_f (by omega), zit_f (by omega)]
    exact n4
section ZPM
variable {Z : Zt} {F : Option (List Cls)} {A : Lg} {w : Int → Int} {V : List D4}
def RbM (Z : Zt) (F : Option (List Cls)) (w : Int → Int) (B : Lg) (pl : Nat) (μ : zMem) (R : Int × Option (List Nat)) (μ' : zMem) : Prop := MTx μ' Z F B w ∧ μ' 355 37 = μ 355 37 + R.1 ∧ FdM μ μ' pl R.2 ∧ (∀ i : Nat, i < pl → μ' 376 i = μ 376 i) ∧ (∀ y : Int, 0 ≤ y → y < 73 * (pl : Int) → μ' 360 y = μ 360 y) ∧ MPl μ μ'
theorem fl_M_418 : zFl "DebtDoorsModel" 418 12 37 := ⟨_, rfl, by decide, (zTb_in 1363 (by decide +kernel) (by decide +kernel)), rfl⟩
theorem nk_12_37 : zNk 12 37 = some 0 := rfl
theorem nk_12_36 : zNk 12 36 = none := rfl
theorem nk_12_35 : zNk 12 35 = none := rfl
theorem fp_12_37 : zFp 12 37 0 := ⟨_, rfl, rfl, rfl, by decide⟩
def y_M_triesVisits : zMt := (⟨"DebtDoorsModel", "triesVisits", "(II)V"⟩, prog_14_method_112_code, 7, none)
theorem m_M_triesVisits : Cond.instanceMethod y_M_triesVisits.1 ∈ zTb ∧ Cond.selects y_M_triesVisits.1.cls y_M_triesVisits.1 y_M_triesVisits.1 ∈ zTb ∧ Cond.initialized y_M_triesVisits.1.cls ∈ zTb ∧ Cond.code y_M_triesVisits.1 y_M_triesVisits.2.1 y_M_triesVisits.2.2.1 y_M_triesVisits.2.2.2 ∈ zTb ∧ (y_M_triesVisits.1.cls ≠ "java/lang/invoke/MethodHandle" ∧ y_M_triesVisits.1.cls ≠ "java/lang/invoke/VarHandle" ∧ (parseMethodDescriptor y_M_triesVisits.1.desc).map (fun d => d.parameters.length) = some 2) ∧ y_M_triesVisits.2.2.1 ≤ 20 :=
  ⟨(zTb_in 1939 (by decide +kernel) (by decide +kernel)), (List.mem_filter.mpr ⟨List.mem_append_left _ (by decide +kernel), by decide +kernel⟩), (zTb_in 151 (by decide +kernel) (by decide +kernel)), (zTb_in 1940 (by decide +kernel) (by decide +kernel)), by decide +kernel, by decide +kernel⟩
theorem lv_M_424 : zLv "DebtDoorsModel" 424 y_M_triesVisits 2 12 := ⟨⟨(zTb_in 1937 (by decide +kernel) (by decide +kernel)), m_M_triesVisits.1, m_M_triesVisits.2.1, m_M_triesVisits.2.2⟩, _, rfl, rfl⟩
theorem d_M_triesVisits_0 : decode prog_14_method_112_code 0 = .ok (.aload_n 0, 1) := by decide +kernel
theorem d_M_triesVisits_1 : decode prog_14_method_112_code 1 = .ok (.getfield 24, 3) := by decide +kernel
theorem d_M_triesVisits_4 : decode prog_14_method_112_code 4 = .ok (.sipush 153, 3) := by decide +kernel
theorem d_M_triesVisits_7 : decode prog_14_method_112_code 7 = .ok (.iaload, 1) := by decide +kernel
theorem d_M_triesVisits_8 : decode prog_14_method_112_code 8 = .ok (.istore_n 3, 1) := by decide +kernel
theorem d_M_triesVisits_9 : decode prog_14_method_112_code 9 = .ok (.iload_n 1, 1) := by decide +kernel
theorem d_M_triesVisits_10 : decode prog_14_method_112_code 10 = .ok (.iload_n 3, 1) := by decide +kernel
theorem d_M_triesVisits_11 : decode prog_14_method_112_code 11 = .ok (.if_icmp .ne 50, 3) := by decide +kernel
theorem d_M_triesVisits_14 : decode prog_14_method_112_code 14 = .ok (.iconst 0, 1) := by decide +kernel
theorem d_M_triesVisits_15 : decode prog_14_method_112_code 15 = .ok (.istore 4, 2) := by decide +kernel
theorem d_M_triesVisits_17 : decode prog_14_method_112_code 17 = .ok (.iload 4, 2) := by decide +kernel
theorem d_M_triesVisits_19 : decode prog_14_method_112_code 19 = .ok (.iload_n 3, 1) := by decide +kernel
theorem d_M_triesVisits_20 : decode prog_14_method_112_code 20 = .ok (.if_icmp .ge 30, 3) := by decide +kernel
theorem d_M_triesVisits_23 : decode prog_14_method_112_code 23 = .ok (.aload_n 0, 1) := by decide +kernel
theorem d_M_triesVisits_24 : decode prog_14_method_112_code 24 = .ok (.getfield 418, 3) := by decide +kernel
theorem d_M_triesVisits_27 : decode prog_14_method_112_code 27 = .ok (.ifCond .ne 23, 3) := by decide +kernel
theorem d_M_triesVisits_30 : decode prog_14_method_112_code 30 = .ok (.aload_n 0, 1) := by decide +kernel
theorem d_M_triesVisits_31 : decode prog_14_method_112_code 31 = .ok (.getfield 89, 3) := by decide +kernel
theorem d_M_triesVisits_34 : decode prog_14_method_112_code 34 = .ok (.iload 4, 2) := by decide +kernel
theorem d_M_triesVisits_36 : decode prog_14_method_112_code 36 = .ok (.aload_n 0, 1) := by decide +kernel
theorem d_M_triesVisits_37 : decode prog_14_method_112_code 37 = .ok (.getfield 86, 3) := by decide +kernel
theorem d_M_triesVisits_40 : decode prog_14_method_112_code 40 = .ok (.iload 4, 2) := by decide +kernel
theorem d_M_triesVisits_42 : decode prog_14_method_112_code 42 = .ok (.iaload, 1) := by decide +kernel
theorem d_M_triesVisits_43 : decode prog_14_method_112_code 43 = .ok (.iastore, 1) := by decide +kernel
theorem d_M_triesVisits_44 : decode prog_14_method_112_code 44 = .ok (.iinc 4 1, 3) := by decide +kernel
theorem d_M_triesVisits_47 : decode prog_14_method_112_code 47 = .ok (.goto (-30), 3) := by decide +kernel
theorem d_M_triesVisits_50 : decode prog_14_method_112_code 50 = .ok (.aload_n 0, 1) := by decide +kernel
theorem d_M_triesVisits_51 : decode prog_14_method_112_code 51 = .ok (.dup, 1) := by decide +kernel
theorem d_M_triesVisits_52 : decode prog_14_method_112_code 52 = .ok (.getfield 418, 3) := by decide +kernel
theorem d_M_triesVisits_55 : decode prog_14_method_112_code 55 = .ok (.iconst 1, 1) := by decide +kernel
theorem d_M_triesVisits_56 : decode prog_14_method_112_code 56 = .ok (.iadd, 1) := by decide +kernel
theorem d_M_triesVisits_57 : decode prog_14_method_112_code 57 = .ok (.putfield 418, 3) := by decide +kernel
theorem d_M_triesVisits_60 : decode prog_14_method_112_code 60 = .ok (.return_, 1) := by decide +kernel
theorem d_M_triesVisits_61 : decode prog_14_method_112_code 61 = .ok (.aload_n 0, 1) := by decide +kernel
theorem d_M_triesVisits_62 : decode prog_14_method_112_code 62 = .ok (.iload_n 1, 1) := by decide +kernel
theorem d_M_triesVisits_63 : decode prog_14_method_112_code 63 = .ok (.invokevirtual 421, 3) := by decide +kernel
theorem d_M_triesVisits_66 : decode prog_14_method_112_code 66 = .ok (.iconst 0, 1) := by decide +kernel
theorem d_M_triesVisits_67 : decode prog_14_method_112_code 67 = .ok (.istore 4, 2) := by decide +kernel
theorem d_M_triesVisits_69 : decode prog_14_method_112_code 69 = .ok (.iload 4, 2) := by decide +kernel
theorem d_M_triesVisits_71 : decode prog_14_method_112_code 71 = .ok (.iload_n 3, 1) := by decide +kernel
theorem d_M_triesVisits_72 : decode prog_14_method_112_code 72 = .ok (.if_icmp .ge 146, 3) := by decide +kernel
theorem d_M_triesVisits_75 : decode prog_14_method_112_code 75 = .ok (.bipush 87, 2) := by decide +kernel
theorem d_M_triesVisits_77 : decode prog_14_method_112_code 77 = .ok (.iconst 4, 1) := by decide +kernel
theorem d_M_triesVisits_78 : decode prog_14_method_112_code 78 = .ok (.iload 4, 2) := by decide +kernel
theorem d_M_triesVisits_80 : decode prog_14_method_112_code 80 = .ok (.imul, 1) := by decide +kernel
theorem d_M_triesVisits_81 : decode prog_14_method_112_code 81 = .ok (.iadd, 1) := by decide +kernel
theorem d_M_triesVisits_82 : decode prog_14_method_112_code 82 = .ok (.istore 5, 2) := by decide +kernel
theorem d_M_triesVisits_84 : decode prog_14_method_112_code 84 = .ok (.iload_n 2, 1) := by decide +kernel
theorem d_M_triesVisits_85 : decode prog_14_method_112_code 85 = .ok (.iload 4, 2) := by decide +kernel
theorem d_M_triesVisits_87 : decode prog_14_method_112_code 87 = .ok (.invokestatic 406, 3) := by decide +kernel
theorem d_M_triesVisits_90 : decode prog_14_method_112_code 90 = .ok (.ifCond .ne 122, 3) := by decide +kernel
theorem d_M_triesVisits_93 : decode prog_14_method_112_code 93 = .ok (.aload_n 0, 1) := by decide +kernel
theorem d_M_triesVisits_94 : decode prog_14_method_112_code 94 = .ok (.aload_n 0, 1) := by decide +kernel
theorem d_M_triesVisits_95 : decode prog_14_method_112_code 95 = .ok (.getfield 24, 3) := by decide +kernel
theorem d_M_triesVisits_98 : decode prog_14_method_112_code 98 = .ok (.iload 5, 2) := by decide +kernel
theorem d_M_triesVisits_100 : decode prog_14_method_112_code 100 = .ok (.iconst 1, 1) := by decide +kernel
theorem d_M_triesVisits_101 : decode prog_14_method_112_code 101 = .ok (.iadd, 1) := by decide +kernel
theorem d_M_triesVisits_102 : decode prog_14_method_112_code 102 = .ok (.iaload, 1) := by decide +kernel
theorem d_M_triesVisits_103 : decode prog_14_method_112_code 103 = .ok (.aload_n 0, 1) := by decide +kernel
theorem d_M_triesVisits_104 : decode prog_14_method_112_code 104 = .ok (.getfield 24, 3) := by decide +kernel
theorem d_M_triesVisits_107 : decode prog_14_method_112_code 107 = .ok (.iload 5, 2) := by decide +kernel
theorem d_M_triesVisits_109 : decode prog_14_method_112_code 109 = .ok (.iaload, 1) := by decide +kernel
theorem d_M_triesVisits_110 : decode prog_14_method_112_code 110 = .ok (.invokevirtual 348, 3) := by decide +kernel
theorem d_M_triesVisits_113 : decode prog_14_method_112_code 113 = .ok (.aload_n 0, 1) := by decide +kernel
theorem d_M_triesVisits_114 : decode prog_14_method_112_code 114 = .ok (.getfield 24, 3) := by decide +kernel
theorem d_M_triesVisits_117 : decode prog_14_method_112_code 117 = .ok (.iload 5, 2) := by decide +kernel
theorem d_M_triesVisits_119 : decode prog_14_method_112_code 119 = .ok (.iconst 2, 1) := by decide +kernel
theorem d_M_triesVisits_120 : decode prog_14_method_112_code 120 = .ok (.iadd, 1) := by decide +kernel
theorem d_M_triesVisits_121 : decode prog_14_method_112_code 121 = .ok (.iaload, 1) := by decide +kernel
theorem d_M_triesVisits_122 : decode prog_14_method_112_code 122 = .ok (.if_icmp .ge 6, 3) := by decide +kernel
theorem d_M_triesVisits_125 : decode prog_14_method_112_code 125 = .ok (.goto 87, 3) := by decide +kernel
theorem d_M_triesVisits_128 : decode prog_14_method_112_code 128 = .ok (.aload_n 0, 1) := by decide +kernel
theorem d_M_triesVisits_129 : decode prog_14_method_112_code 129 = .ok (.aload_n 0, 1) := by decide +kernel
theorem d_M_triesVisits_130 : decode prog_14_method_112_code 130 = .ok (.getfield 24, 3) := by decide +kernel
theorem d_M_triesVisits_133 : decode prog_14_method_112_code 133 = .ok (.iload 5, 2) := by decide +kernel
theorem d_M_triesVisits_135 : decode prog_14_method_112_code 135 = .ok (.iconst 1, 1) := by decide +kernel
theorem d_M_triesVisits_136 : decode prog_14_method_112_code 136 = .ok (.iadd, 1) := by decide +kernel
theorem d_M_triesVisits_137 : decode prog_14_method_112_code 137 = .ok (.iaload, 1) := by decide +kernel
theorem d_M_triesVisits_138 : decode prog_14_method_112_code 138 = .ok (.aload_n 0, 1) := by decide +kernel
theorem d_M_triesVisits_139 : decode prog_14_method_112_code 139 = .ok (.getfield 24, 3) := by decide +kernel
theorem d_M_triesVisits_142 : decode prog_14_method_112_code 142 = .ok (.iload 5, 2) := by decide +kernel
theorem d_M_triesVisits_144 : decode prog_14_method_112_code 144 = .ok (.iaload, 1) := by decide +kernel
theorem d_M_triesVisits_145 : decode prog_14_method_112_code 145 = .ok (.aload_n 0, 1) := by decide +kernel
theorem d_M_triesVisits_146 : decode prog_14_method_112_code 146 = .ok (.getfield 24, 3) := by decide +kernel
theorem d_M_triesVisits_149 : decode prog_14_method_112_code 149 = .ok (.iload 5, 2) := by decide +kernel
theorem d_M_triesVisits_151 : decode prog_14_method_112_code 151 = .ok (.iconst 3, 1) := by decide +kernel
theorem d_M_triesVisits_152 : decode prog_14_method_112_code 152 = .ok (.iadd, 1) := by decide +kernel
theorem d_M_triesVisits_153 : decode prog_14_method_112_code 153 = .ok (.iaload, 1) := by decide +kernel
theorem d_M_triesVisits_154 : decode prog_14_method_112_code 154 = .ok (.invokevirtual 369, 3) := by decide +kernel
theorem d_M_triesVisits_157 : decode prog_14_method_112_code 157 = .ok (.istore 6, 2) := by decide +kernel
theorem d_M_triesVisits_159 : decode prog_14_method_112_code 159 = .ok (.iload 6, 2) := by decide +kernel
theorem d_M_triesVisits_161 : decode prog_14_method_112_code 161 = .ok (.ifCond .le 25, 3) := by decide +kernel
theorem d_M_triesVisits_164 : decode prog_14_method_112_code 164 = .ok (.aload_n 0, 1) := by decide +kernel
theorem d_M_triesVisits_165 : decode prog_14_method_112_code 165 = .ok (.aload_n 0, 1) := by decide +kernel
theorem d_M_triesVisits_166 : decode prog_14_method_112_code 166 = .ok (.getfield 24, 3) := by decide +kernel
theorem d_M_triesVisits_169 : decode prog_14_method_112_code 169 = .ok (.iload 5, 2) := by decide +kernel
theorem d_M_triesVisits_171 : decode prog_14_method_112_code 171 = .ok (.iconst 1, 1) := by decide +kernel
theorem d_M_triesVisits_172 : decode prog_14_method_112_code 172 = .ok (.iadd, 1) := by decide +kernel
theorem d_M_triesVisits_173 : decode prog_14_method_112_code 173 = .ok (.iaload, 1) := by decide +kernel
theorem d_M_triesVisits_174 : decode prog_14_method_112_code 174 = .ok (.aload_n 0, 1) := by decide +kernel
theorem d_M_triesVisits_175 : decode prog_14_method_112_code 175 = .ok (.getfield 24, 3) := by decide +kernel
theorem d_M_triesVisits_178 : decode prog_14_method_112_code 178 = .ok (.iload 5, 2) := by decide +kernel
theorem d_M_triesVisits_180 : decode prog_14_method_112_code 180 = .ok (.iaload, 1) := by decide +kernel
theorem d_M_triesVisits_181 : decode prog_14_method_112_code 181 = .ok (.iload 6, 2) := by decide +kernel
theorem d_M_triesVisits_183 : decode prog_14_method_112_code 183 = .ok (.invokevirtual 372, 3) := by decide +kernel
theorem d_M_triesVisits_186 : decode prog_14_method_112_code 186 = .ok (.aload_n 0, 1) := by decide +kernel
theorem d_M_triesVisits_187 : decode prog_14_method_112_code 187 = .ok (.getfield 86, 3) := by decide +kernel
theorem d_M_triesVisits_190 : decode prog_14_method_112_code 190 = .ok (.iload_n 1, 1) := by decide +kernel
theorem d_M_triesVisits_191 : decode prog_14_method_112_code 191 = .ok (.iload 4, 2) := by decide +kernel
theorem d_M_triesVisits_193 : decode prog_14_method_112_code 193 = .ok (.iastore, 1) := by decide +kernel
theorem d_M_triesVisits_194 : decode prog_14_method_112_code 194 = .ok (.aload_n 0, 1) := by decide +kernel
theorem d_M_triesVisits_195 : decode prog_14_method_112_code 195 = .ok (.iload_n 1, 1) := by decide +kernel
theorem d_M_triesVisits_196 : decode prog_14_method_112_code 196 = .ok (.iconst 1, 1) := by decide +kernel
theorem d_M_triesVisits_197 : decode prog_14_method_112_code 197 = .ok (.iadd, 1) := by decide +kernel
theorem d_M_triesVisits_198 : decode prog_14_method_112_code 198 = .ok (.iload_n 2, 1) := by decide +kernel
theorem d_M_triesVisits_199 : decode prog_14_method_112_code 199 = .ok (.iconst 1, 1) := by decide +kernel
theorem d_M_triesVisits_200 : decode prog_14_method_112_code 200 = .ok (.iload 4, 2) := by decide +kernel
theorem d_M_triesVisits_202 : decode prog_14_method_112_code 202 = .ok (.ishl, 1) := by decide +kernel
theorem d_M_triesVisits_203 : decode prog_14_method_112_code 203 = .ok (.ior, 1) := by decide +kernel
theorem d_M_triesVisits_204 : decode prog_14_method_112_code 204 = .ok (.invokevirtual 424, 3) := by decide +kernel
theorem d_M_triesVisits_207 : decode prog_14_method_112_code 207 = .ok (.aload_n 0, 1) := by decide +kernel
theorem d_M_triesVisits_208 : decode prog_14_method_112_code 208 = .ok (.iload_n 1, 1) := by decide +kernel
theorem d_M_triesVisits_209 : decode prog_14_method_112_code 209 = .ok (.invokevirtual 427, 3) := by decide +kernel
theorem d_M_triesVisits_212 : decode prog_14_method_112_code 212 = .ok (.iinc 4 1, 3) := by decide +kernel
theorem d_M_triesVisits_215 : decode prog_14_method_112_code 215 = .ok (.goto (-146), 3) := by decide +kernel
theorem d_M_triesVisits_218 : decode prog_14_method_112_code 218 = .ok (.return_, 1) := by decide +kernel
def w_M_triesVisits {d : Nat} (hd : 4 ≤ d) := (show SS ("DebtDoorsModel", prog_14_method_112_code, 7) (none) d 0 0 0 0 _ from (sS (p1 := 9) (sIn 3 (xE (rIa (rFr fl_M_24 nk_12_2 (rAn 0 d_M_triesVisits_0 rfl) d_M_triesVisits_1) (rSi d_M_triesVisits_4 rfl) d_M_triesVisits_7)) d_M_triesVisits_8 rfl (by decide)) (sS (p1 := 61) (sIf (pn := 61) (tt := 14) (xC (rNot (rJ2 (tgt := 61) j_ne (rIn 1 d_M_triesVisits_9 rfl) (rIn 3 d_M_triesVisits_10 rfl) d_M_triesVisits_11 (by decide)))) (sS (p1 := 50) (sS (p1 := 17) (sI (xE (rI d_M_triesVisits_14 rfl)) d_M_triesVisits_15 (by decide)) (sLp (ps := 44) (tt := 30) (pn := 50) (p1 := 0) (p2 := 0) (xC (rAnd (mm := 23) (rNot (rJ2 (tgt := 50) j_ge (rIl d_M_triesVisits_17) (rIn 3 d_M_triesVisits_19 rfl) d_M_triesVisits_20 (by decide))) (rNot (rJ1 (tgt := 50) k_ne (rF 37 fl_M_418 nk_12_37 (rAn 0 d_M_triesVisits_23 rfl) d_M_triesVisits_24 rfl) d_M_triesVisits_27 (by decide))))) (sAs (rFr fl_M_89 nk_12_36 (rAn 0 d_M_triesVisits_30 rfl) d_M_triesVisits_31) (rIl d_M_triesVisits_34) (xE (rIa (rFr fl_M_86 nk_12_35 (rAn 0 d_M_triesVisits_36 rfl) d_M_triesVisits_37) (rIl d_M_triesVisits_40) d_M_triesVisits_42)) d_M_triesVisits_43) (sGo (pn := 17) (sInc d_M_triesVisits_44 (by decide)) d_M_triesVisits_47 (by decide)))) (sS (p1 := 60) (sPo 37 o_add fl_M_418 fp_12_37 nk_12_37 (rAn 0 d_M_triesVisits_50 rfl) d_M_triesVisits_51 d_M_triesVisits_52 (rI d_M_triesVisits_55 rfl) d_M_triesVisits_56 d_M_triesVisits_57 rfl) (sRv d_M_triesVisits_60 rfl)))) (sS (p1 := 66) (sV (xVv lv_M_421 (xA (rAi (rAr rA0 (rAn 0 d_M_triesVisits_61 rfl)) (rIn 1 d_M_triesVisits_62 rfl))) (by decide) d_M_triesVisits_63)) (sS (p1 := 218) (sS (p1 := 69) (sI (xE (rI d_M_triesVisits_66 rfl)) d_M_triesVisits_67 (by decide)) (sLp (ps := 212) (tt := 75) (pn := 218) (p1 := 0) (p2 := 0) (xC (rNot (rJ2 (tgt := 218) j_ge (rIl d_M_triesVisits_69) (rIn 3 d_M_triesVisits_71 rfl) d_M_triesVisits_72 (by decide)))) (sS (p1 := 84) (sI (xE (r2 o_add (rB d_M_triesVisits_75 rfl) (r2 o_mul (rI d_M_triesVisits_77 rfl) (rIl d_M_triesVisits_78) d_M_triesVisits_80) d_M_triesVisits_81)) d_M_triesVisits_82 (by decide)) (sS (p1 := 128) (sIf (pn := 128) (tt := 212) (xOr (mm := 93) (xC (rJ1 (tgt := 212) k_ne (rS p_M_isIn (Nat.le_trans (Nat.le_of_ble_eq_true rfl) hd) ls_M_406 (rAi (rAi rA0 (rIn 2 d_M_triesVisits_84 rfl)) (rIl d_M_triesVisits_85)) (by decide) d_M_triesVisits_87) d_M_triesVisits_90 (by decide))) (xGt (p2 := 212) (xNot (xJ2 (tgt := 128) j_ge (xV lv_M_348 (xA (rAi (rAi (rAr rA0 (rAn 0 d_M_triesVisits_93 rfl)) (rIa (rFr fl_M_24 nk_12_2 (rAn 0 d_M_triesVisits_94 rfl) d_M_triesVisits_95) (r2 o_add (rIl d_M_triesVisits_98) (rI d_M_triesVisits_100 rfl) d_M_triesVisits_101) d_M_triesVisits_102)) (rIa (rFr fl_M_24 nk_12_2 (rAn 0 d_M_triesVisits_103 rfl) d_M_triesVisits_104) (rIl d_M_triesVisits_107) d_M_triesVisits_109))) (by decide) d_M_triesVisits_110) (xE (rIa (rFr fl_M_24 nk_12_2 (rAn 0 d_M_triesVisits_113 rfl) d_M_triesVisits_114) (r2 o_add (rIl d_M_triesVisits_117) (rI d_M_triesVisits_119 rfl) d_M_triesVisits_120) d_M_triesVisits_121)) d_M_triesVisits_122 (by decide))) d_M_triesVisits_125 (by decide))) sCo0) (sS (p1 := 159) (sI (xE (rV p_M_canRepay (Nat.le_trans (Nat.le_of_ble_eq_true rfl) hd) lv_M_369 (rAi (rAi (rAi (rAr rA0 (rAn 0 d_M_triesVisits_128 rfl)) (rIa (rFr fl_M_24 nk_12_2 (rAn 0 d_M_triesVisits_129 rfl) d_M_triesVisits_130) (r2 o_add (rIl d_M_triesVisits_133) (rI d_M_triesVisits_135 rfl) d_M_triesVisits_136) d_M_triesVisits_137)) (rIa (rFr fl_M_24 nk_12_2 (rAn 0 d_M_triesVisits_138 rfl) d_M_triesVisits_139) (rIl d_M_triesVisits_142) d_M_triesVisits_144)) (rIa (rFr fl_M_24 nk_12_2 (rAn 0 d_M_triesVisits_145 rfl) d_M_triesVisits_146) (r2 o_add (rIl d_M_triesVisits_149) (rI d_M_triesVisits_151 rfl) d_M_triesVisits_152) d_M_triesVisits_153)) (by decide) d_M_triesVisits_154)) d_M_triesVisits_157 (by decide)) (sS (p1 := 186) (sIf (pn := 186) (tt := 164) (xC (rNot (rJ1 (tgt := 186) k_le (rIl d_M_triesVisits_159) d_M_triesVisits_161 (by decide)))) (sV (xVv lv_M_372 (xA (rAi (rAi (rAi (rAr rA0 (rAn 0 d_M_triesVisits_164 rfl)) (rIa (rFr fl_M_24 nk_12_2 (rAn 0 d_M_triesVisits_165 rfl) d_M_triesVisits_166) (r2 o_add (rIl d_M_triesVisits_169) (rI d_M_triesVisits_171 rfl) d_M_triesVisits_172) d_M_triesVisits_173)) (rIa (rFr fl_M_24 nk_12_2 (rAn 0 d_M_triesVisits_174 rfl) d_M_triesVisits_175) (rIl d_M_triesVisits_178) d_M_triesVisits_180)) (rIl d_M_triesVisits_181))) (by decide) d_M_triesVisits_183))) (sS (p1 := 194) (sAs (rFr fl_M_86 nk_12_35 (rAn 0 d_M_triesVisits_186 rfl) d_M_triesVisits_187) (rIn 1 d_M_triesVisits_190 rfl) (xE (rIl d_M_triesVisits_191)) d_M_triesVisits_193) (sS (p1 := 207) (sV (xVv lv_M_424 (xA (rAi (rAi (rAr rA0 (rAn 0 d_M_triesVisits_194 rfl)) (r2 o_add (rIn 1 d_M_triesVisits_195 rfl) (rI d_M_triesVisits_196 rfl) d_M_triesVisits_197)) (r2 o_or (rIn 2 d_M_triesVisits_198 rfl) (r2 o_shl (rI d_M_triesVisits_199 rfl) (rIl d_M_triesVisits_200) d_M_triesVisits_202) d_M_triesVisits_203))) (by decide) d_M_triesVisits_204)) (sV (xVv lv_M_427 (xA (rAi (rAr rA0 (rAn 0 d_M_triesVisits_207 rfl)) (rIn 1 d_M_triesVisits_208 rfl))) (by decide) d_M_triesVisits_209)))))))) (sGo (pn := 69) (sInc d_M_triesVisits_212 (by decide)) d_M_triesVisits_215 (by decide)))) (sRv d_M_triesVisits_218 rfl))))))
def y_M_plan : zMt := (⟨"DebtDoorsModel", "plan", "(I)I"⟩, prog_14_method_113_code, 2, some .int)
theorem d_M_plan_0 : decode prog_14_method_113_code 0 = .ok (.iload_n 1, 1) := by decide +kernel
theorem d_M_plan_1 : decode prog_14_method_113_code 1 = .ok (.iconst (-1), 1) := by decide +kernel
theorem d_M_plan_2 : decode prog_14_method_113_code 2 = .ok (.aload_n 0, 1) := by decide +kernel
theorem d_M_plan_3 : decode prog_14_method_113_code 3 = .ok (.getfield 24, 3) := by decide +kernel
theorem d_M_plan_6 : decode prog_14_method_113_code 6 = .ok (.sipush 153, 3) := by decide +kernel
theorem d_M_plan_9 : decode prog_14_method_113_code 9 = .ok (.iaload, 1) := by decide +kernel
theorem d_M_plan_10 : decode prog_14_method_113_code 10 = .ok (.iconst 1, 1) := by decide +kernel
theorem d_M_plan_11 : decode prog_14_method_113_code 11 = .ok (.isub, 1) := by decide +kernel
theorem d_M_plan_12 : decode prog_14_method_113_code 12 = .ok (.invokestatic 123, 3) := by decide +kernel
theorem d_M_plan_15 : decode prog_14_method_113_code 15 = .ok (.ifCond .ne 5, 3) := by decide +kernel
theorem d_M_plan_18 : decode prog_14_method_113_code 18 = .ok (.iconst (-1), 1) := by decide +kernel
theorem d_M_plan_19 : decode prog_14_method_113_code 19 = .ok (.ireturn, 1) := by decide +kernel
theorem d_M_plan_20 : decode prog_14_method_113_code 20 = .ok (.aload_n 0, 1) := by decide +kernel
theorem d_M_plan_21 : decode prog_14_method_113_code 21 = .ok (.iconst 0, 1) := by decide +kernel
theorem d_M_plan_22 : decode prog_14_method_113_code 22 = .ok (.putfield 418, 3) := by decide +kernel
theorem d_M_plan_25 : decode prog_14_method_113_code 25 = .ok (.aload_n 0, 1) := by decide +kernel
theorem d_M_plan_26 : decode prog_14_method_113_code 26 = .ok (.iconst 0, 1) := by decide +kernel
theorem d_M_plan_27 : decode prog_14_method_113_code 27 = .ok (.iconst 0, 1) := by decide +kernel
theorem d_M_plan_28 : decode prog_14_method_113_code 28 = .ok (.invokevirtual 424, 3) := by decide +kernel
theorem d_M_plan_31 : decode prog_14_method_113_code 31 = .ok (.iload_n 1, 1) := by decide +kernel
theorem d_M_plan_32 : decode prog_14_method_113_code 32 = .ok (.iconst (-1), 1) := by decide +kernel
theorem d_M_plan_33 : decode prog_14_method_113_code 33 = .ok (.if_icmp .ne 10, 3) := by decide +kernel
theorem d_M_plan_36 : decode prog_14_method_113_code 36 = .ok (.aload_n 0, 1) := by decide +kernel
theorem d_M_plan_37 : decode prog_14_method_113_code 37 = .ok (.getfield 418, 3) := by decide +kernel
theorem d_M_plan_40 : decode prog_14_method_113_code 40 = .ok (.goto 20, 3) := by decide +kernel
theorem d_M_plan_43 : decode prog_14_method_113_code 43 = .ok (.aload_n 0, 1) := by decide +kernel
theorem d_M_plan_44 : decode prog_14_method_113_code 44 = .ok (.getfield 418, 3) := by decide +kernel
theorem d_M_plan_47 : decode prog_14_method_113_code 47 = .ok (.ifCond .ne 7, 3) := by decide +kernel
theorem d_M_plan_50 : decode prog_14_method_113_code 50 = .ok (.iconst (-1), 1) := by decide +kernel
theorem d_M_plan_51 : decode prog_14_method_113_code 51 = .ok (.goto 9, 3) := by decide +kernel
theorem d_M_plan_54 : decode prog_14_method_113_code 54 = .ok (.aload_n 0, 1) := by decide +kernel
theorem d_M_plan_55 : decode prog_14_method_113_code 55 = .ok (.getfield 89, 3) := by decide +kernel
theorem d_M_plan_58 : decode prog_14_method_113_code 58 = .ok (.iload_n 1, 1) := by decide +kernel
theorem d_M_plan_59 : decode prog_14_method_113_code 59 = .ok (.iaload, 1) := by decide +kernel
theorem d_M_plan_60 : decode prog_14_method_113_code 60 = .ok (.ireturn, 1) := by decide +kernel
def w_M_plan {d : Nat} (hd : 2 ≤ d) := (show SS ("DebtDoorsModel", prog_14_method_113_code, 2) (some .int) d 0 0 0 0 _ from (sS (p1 := 20) (sIf (pn := 20) (tt := 18) (xC (rNot (rJ1 (tgt := 20) k_ne (rS p_M_lies (Nat.le_trans (Nat.le_of_ble_eq_true rfl) hd) ls_M_123 (rAi (rAi (rAi rA0 (rIn 1 d_M_plan_0 rfl)) (rI d_M_plan_1 rfl)) (r2 o_sub (rIa (rFr fl_M_24 nk_12_2 (rAn 0 d_M_plan_2 rfl) d_M_plan_3) (rSi d_M_plan_6 rfl) d_M_plan_9) (rI d_M_plan_10 rfl) d_M_plan_11)) (by decide) d_M_plan_12) d_M_plan_15 (by decide)))) (sRi (xE (rI d_M_plan_18 rfl)) d_M_plan_19 rfl)) (sS (p1 := 25) (sP 37 fl_M_418 fp_12_37 nk_12_37 (rAn 0 d_M_plan_20 rfl) (xE (rI d_M_plan_21 rfl)) d_M_plan_22 rfl) (sS (p1 := 31) (sV (xVv lv_M_424 (xA (rAi (rAi (rAr rA0 (rAn 0 d_M_plan_25 rfl)) (rI d_M_plan_26 rfl)) (rI d_M_plan_27 rfl))) (by decide) d_M_plan_28)) (sRi (xE (rT2 (rNot (rJ2 (tgt := 43) j_ne (rIn 1 d_M_plan_31 rfl) (rI d_M_plan_32 rfl) d_M_plan_33 (by decide))) (rGoE (p2 := 60) (rF 37 fl_M_418 nk_12_37 (rAn 0 d_M_plan_36 rfl) d_M_plan_37 rfl) d_M_plan_40 (by decide)) (rT2 (rNot (rJ1 (tgt := 54) k_ne (rF 37 fl_M_418 nk_12_37 (rAn 0 d_M_plan_43 rfl) d_M_plan_44 rfl) d_M_plan_47 (by decide))) (rGoE (p2 := 60) (rI d_M_plan_50 rfl) d_M_plan_51 (by decide)) (rIa (rFr fl_M_89 nk_12_36 (rAn 0 d_M_plan_54 rfl) d_M_plan_55) (rIn 1 d_M_plan_58 rfl) d_M_plan_59)))) d_M_plan_60 rfl)))))
theorem q_M_triesVisits (hA : okA A) : ∀ (f : Nat) {d : Nat} (hd : 51 + f ≤ d) {μ : zMem} {P : Int → Int} {B : Lg} {used pl : Nat}, pl + f = V.length → MTx μ Z F B w → VMx 87 153 999 μ V → PlL A V P B → okQ A V P → used < 256 → (∀ i : Nat, i < 8 → ¬ zbit (used : Int) (i : Int) → P i = 0) → (0 ≤ μ 355 37 ∧ μ 355 37 + ((8 ^ f : Nat) : Int) ≤ 1000000000) → zSp d 0 0 y_M_triesVisits zT0 [vr 355, vi pl, vi used] μ zT0 (fun q μ' => q = none ∧ RbM Z F w B pl μ (plN Z F A w V f used P) μ') := by
  intro f
  induction f with
  | zero =>
    intro d hd μ P B used pl hpl hM hV hP hQ hu h0 h37
    have hl := hV.l
    have h8 := hV.1
    refine zSp.ss [vr 355, vi pl, vi used, vx 0, vx 0, vx 0, vx 0] rfl (w_M_triesVisits (by omega)) rfl rfl ?_
    (try simp only [zit_e, Bool.and_eq_true, Bool.or_eq_true, Bool.not_eq_true', Bool.and_eq_false_iff, Bool.or_eq_false_iff, Bool.not_eq_false', zbe, zdt, zdf, zb2_p, zbp_0, zbp_1, zbp_inj, zbp_01, Bool.true_eq_false, Bool.false_eq_true, true_and, and_true, Decidable.not_not, Classical.not_not, implies_true, List.nil_append, List.cons_append, List.append_assoc, Option.some.injEq, Sum.inl.injEq, zSw_c, zSw_n]); (try simp only [zit_e, Bool.and_eq_true, Bool.or_eq_true, Bool.not_eq_true', Bool.and_eq_false_iff, Bool.or_eq_false_iff, Bool.not_eq_false', zbe, zdt, zdf, zb2_p, zbp_0, zbp_1, zbp_inj, zbp_01, Bool.true_eq_false, Bool.false_eq_true, true_and, and_true, Decidable.not_not, Classical.not_not, implies_true, List.nil_append, List.cons_append, List.append_assoc, Option.some.injEq, Sum.inl.injEq, zSw_c, zSw_n, zc_355]); (try simp only [zi_cs, zi_c0, zii_cs, zii_c0, zl_cs, zl_c0, zll_cs, zll_c0, zr_cs, zr_c0, zrr_cs, zrr_c0, zxs_cs, zxs_c0, zxx_cs, zxx_c0, zfree_c0, zfree_c1, zfree_cs, zfree_cz, zlong_i, zlong_r, zlong_x, zset_0, zset_s, true_and, and_true, Option.some.injEq, Sum.inl.injEq, Sum.inr.injEq, zb2_p, zbp_0, zbp_1, zbp_inj, zbp_01, Nat.zero_add, Nat.reduceAdd, implies_true, List.nil_append, List.cons_append, List.append_assoc, Int.not_lt, Int.not_le, Decidable.not_not, Int.zero_add, Int.reduceLE, Int.reduceLT, Int.reduceEq, Int.reduceNe, Int.reduceAdd, Int.reduceSub, Int.reduceMul, Int.reduceNeg, Int.reduceToNat, Nat.reduceMul, Nat.reduceLT, Nat.reduceEqDiff, and_self, ite_true, ite_false, zx1, zx2, zRecv, List.length_cons, List.length_nil, ne_eq, not_true_eq_false, not_false_eq_true, true_or, or_true, or_false, false_or, and_false, false_and, zf01, zf10, reduceCtorEq, zSw_c, zSw_n, zm_r, zit_T, zit_F, false_implies, true_implies, zc_355])
    rw [hl]
    refine zif (fun c => ?_) (fun c => by omega)
    refine zLoop.up V.length (fun j ρ ν => ρ = [vr 355, vi pl, vi used, vi (V.length : Int), vi j, vx 0, vx 0] ∧ (μ 355 37 = 0 → ∀ i : Int, 0 ≤ i → i < j → ν 377 i = μ 376 i) ∧ (¬ μ 355 37 = 0 → ν = μ) ∧ zfc [377] μ ν) ⟨rfl, fun _ i _ _ => by omega, fun _ => rfl, zfc.rf⟩ ?_
    rintro j ρ ν hj ⟨rfl, h1, h2, hf⟩
    (try simp only [zit_e, Bool.and_eq_true, Bool.or_eq_true, Bool.not_eq_true', Bool.and_eq_false_iff, Bool.or_eq_false_iff, Bool.not_eq_false', zbe, zdt, zdf, zb2_p, zbp_0, zbp_1, zbp_inj, zbp_01, Bool.true_eq_false, Bool.false_eq_true, true_and, and_true, Decidable.not_not, Classical.not_not, implies_true, List.nil_append, List.cons_append, List.append_assoc, Option.some.injEq, Sum.inl.injEq, zSw_c, zSw_n]); (try simp only [zit_e, Bool.and_eq_true, Bool.or_eq_true, Bool.not_eq_true', Bool.and_eq_false_iff, Bool.or_eq_false_iff, Bool.not_eq_false', zbe, zdt, zdf, zb2_p, zbp_0, zbp_1, zbp_inj, zbp_01, Bool.true_eq_false, Bool.false_eq_true, true_and, and_true, Decidable.not_not, Classical.not_not, implies_true, List.nil_append, List.cons_append, List.append_assoc, Option.some.injEq, Sum.inl.injEq, zSw_c, zSw_n, zc_355]); (try simp only [zi_cs, zi_c0, zii_cs, zii_c0, zl_cs, zl_c0, zll_cs, zll_c0, zr_cs, zr_c0, zrr_cs, zrr_c0, zxs_cs, zxs_c0, zxx_cs, zxx_c0, zfree_c0, zfree_c1, zfree_cs, zfree_cz, zlong_i, zlong_r, zlong_x, zset_0, zset_s, true_and, and_true, Option.some.injEq, Sum.inl.injEq, Sum.inr.injEq, zb2_p, zbp_0, zbp_1, zbp_inj, zbp_01, Nat.zero_add, Nat.reduceAdd, implies_true, List.nil_append, List.cons_append, List.append_assoc, Int.not_lt, Int.not_le, Decidable.not_not, Int.zero_add, Int.reduceLE, Int.reduceLT, Int.reduceEq, Int.reduceNe, Int.reduceAdd, Int.reduceSub, Int.reduceMul, Int.reduceNeg, Int.reduceToNat, Nat.reduceMul, Nat.reduceLT, Nat.reduceEqDiff, and_self, ite_true, ite_false, zx1, zx2, zRecv, List.length_cons, List.length_nil, ne_eq, not_true_eq_false, not_false_eq_true, true_or, or_true, or_false, false_or, and_false, false_and, zf01, zf10, reduceCtorEq, zSw_c, zSw_n, zm_r, zit_T, zit_F, false_implies, true_implies, zc_355])
    rw [hf 355 (by decide)]
    refine zif (fun c1 => ?_) (fun c1 => ?_)
    · refine ⟨by omega, by omega, ⟨by omega, by omega⟩, by ((try simp only [zI_e]); (first | done | omega | skip)), znx (by omega) ⟨rfl, fun q i i0 i1 => ?_, fun q => absurd c1.2 q, hf.zm (by decide)⟩⟩
      by_cases e : i = j
      · rw [e, zit_t rfl, hf 376 (by decide)]
      · rw [zit_f e]
        exact h1 q i i0 (by omega)
    · refine ⟨by ((try simp only [zI_e]); (first | done | omega | skip)), hM.k (by rw [zm_off _ (by decide), hf 357 (by decide)]), zm_s, ⟨fun q i _ _ => ?_, fun q l e => ?_⟩, fun i hi => by rw [zm_off _ (by decide), hf 376 (by decide)], fun y _ _ => by rw [zm_off _ (by decide), hf 360 (by decide)], fun j _ _ _ _ h => ?_, fun i _ => by rw [zm_off _ (by decide), hf 357 (by decide)], (hf.mo (by simp)).zm (by decide)⟩
      · rw [zm_off _ (by decide), h2 q]
      · cases e
        refine ⟨fun i hi => ?_, fun i hi => absurd hi (Nat.not_lt_zero i)⟩
        have : j = V.length := Classical.byContradiction (fun z => c1 ⟨by omega, q⟩)
        rw [zm_off _ (by decide)]
        exact h1 q i (by omega) (by omega)
      · rw [zm_o (Or.inr h), hf 355 (by decide)]
  | succ f ih =>
    intro d hd μ P B used pl hpl hM hV hP hQ hu h0 h37
    have hl := hV.l
    have h8 := hV.1
    have hV8 : V.length ≤ 8 := by omega
    refine zSp.ss [vr 355, vi pl, vi used, vx 0, vx 0, vx 0, vx 0] rfl (w_M_triesVisits (by omega)) rfl rfl ?_
    (try simp only [zit_e, Bool.and_eq_true, Bool.or_eq_true, Bool.not_eq_true', Bool.and_eq_false_iff, Bool.or_eq_false_iff, Bool.not_eq_false', zbe, zdt, zdf, zb2_p, zbp_0, zbp_1, zbp_inj, zbp_01, Bool.true_eq_false, Bool.false_eq_true, true_and, and_true, Decidable.not_not, Classical.not_not, implies_true, List.nil_append, List.cons_append, List.append_assoc, Option.some.injEq, Sum.inl.injEq, zSw_c, zSw_n]); (try simp only [zit_e, Bool.and_eq_true, Bool.or_eq_true, Bool.not_eq_true', Bool.and_eq_false_iff, Bool.or_eq_false_iff, Bool.not_eq_false', zbe, zdt, zdf, zb2_p, zbp_0, zbp_1, zbp_inj, zbp_01, Bool.true_eq_false, Bool.false_eq_true, true_and, and_true, Decidable.not_not, Classical.not_not, implies_true, List.nil_append, List.cons_append, List.append_assoc, Option.some.injEq, Sum.inl.injEq, zSw_c, zSw_n, zc_355]); (try simp only [zi_cs, zi_c0, zii_cs, zii_c0, zl_cs, zl_c0, zll_cs, zll_c0, zr_cs, zr_c0, zrr_cs, zrr_c0, zxs_cs, zxs_c0, zxx_cs, zxx_c0, zfree_c0, zfree_c1, zfree_cs, zfree_cz, zlong_i, zlong_r, zlong_x, zset_0, zset_s, true_and, and_true, Option.some.injEq, Sum.inl.injEq, Sum.inr.injEq, zb2_p, zbp_0, zbp_1, zbp_inj, zbp_01, Nat.zero_add, Nat.reduceAdd, implies_true, List.nil_append, List.cons_append, List.append_assoc, Int.not_lt, Int.not_le, Decidable.not_not, Int.zero_add, Int.reduceLE, Int.reduceLT, Int.reduceEq, Int.reduceNe, Int.reduceAdd, Int.reduceSub, Int.reduceMul, Int.reduceNeg, Int.reduceToNat, Nat.reduceMul, Nat.reduceLT, Nat.reduceEqDiff, and_self, ite_true, ite_false, zx1, zx2, zRecv, List.length_cons, List.length_nil, ne_eq, not_true_eq_false, not_false_eq_true, true_or, or_true, or_false, false_or, and_false, false_and, zf01, zf10, reduceCtorEq, zSw_c, zSw_n, zm_r, zit_T, zit_F, false_implies, true_implies, zc_355])
    rw [hl]
    refine zif (fun c => by omega) (fun c => ?_)
    have hJ := fun j => plJ_in (Z := Z) (F := F) (A := A) (w := w) (V := V) (used := used) (P := P) (f := f) (M := ((8 ^ f : Nat) : Int)) (g := plN Z F A w V f) (Int.natCast_nonneg _) (fun u Q => plN_in hV8 f u Q) j
    have h8f : ((8 ^ (f + 1) : Nat) : Int) = ((8 ^ f : Nat) : Int) * 8 := by
      rw [Nat.pow_succ]
      exact_mod_cast rfl
    have hpos : (1 : Int) ≤ ((8 ^ f : Nat) : Int) := by
      have : 0 < 8 ^ f := Nat.pow_pos (by decide)
      omega
    have hMj : ∀ i : Nat, i ≤ 8 → ((8 ^ f : Nat) : Int) * i ≤ ((8 ^ f : Nat) : Int) * 8 := fun i hi => Int.mul_le_mul_of_nonneg_left (by omega) (by omega)
    refine zCw.use (q_M_laysAside (d := 1) (k := (pl : Int)) (by decide) (by omega)) (by omega) (fun q μL e => ?_)
    obtain ⟨rfl, l1, l2⟩ := e
    have hb : (tL 7 (μ 357), dbM (fun _ => μ 357), μ 357 72) = B := hM.2.2.2.1.1
    have n5 := hM.n.2.2.2.2.1
    refine ⟨rfl, ?_⟩
    refine zLoop.up V.length (fun j ρ ν => ∃ x5 x6 : zV, ρ = [vr 355, vi pl, vi used, vi (V.length : Int), vi j, x5, x6] ∧ MTx ν Z F B w ∧ ν 355 37 = μ 355 37 + (plJ Z F A w V (plN Z F A w V f) used P j).1 ∧ FdM μ ν pl (plJ Z F A w V (plN Z F A w V f) used P j).2 ∧ (∀ i : Nat, i < pl → ν 376 i = μ 376 i) ∧ (∀ y : Int, 0 ≤ y → y < 73 * (pl : Int) + 73 → ν 360 y = μL 360 y) ∧ MPl μ ν) ⟨_, _, rfl, hM.k (l2 357 (by decide)), by rw [l2 355 (by decide)]; exact (Int.add_zero _).symm, ⟨fun _ i _ _ => by rw [l2 377 (by decide)], fun _ l e => (by cases e)⟩, fun i _ => by rw [l2 376 (by decide)], fun _ _ _ => rfl, ⟨fun j _ _ _ _ _ => by rw [l2 355 (by decide)], fun i _ => by rw [l2 357 (by decide)], l2.mo (by simp)⟩⟩ ?_
    rintro j ρ ν hj ⟨x5, x6, rfl, hMν, e37, hFν, hr, ha, hpν⟩
    have hVν : VMx 87 153 999 ν V := hV.x (by decide) hpν.2.1
    (try simp only [zit_e, Bool.and_eq_true, Bool.or_eq_true, Bool.not_eq_true', Bool.and_eq_false_iff, Bool.or_eq_false_iff, Bool.not_eq_false', zbe, zdt, zdf, zb2_p, zbp_0, zbp_1, zbp_inj, zbp_01, Bool.true_eq_false, Bool.false_eq_true, true_and, and_true, Decidable.not_not, Classical.not_not, implies_true, List.nil_append, List.cons_append, List.append_assoc, Option.some.injEq, Sum.inl.injEq, zSw_c, zSw_n]); (try simp only [zit_e, Bool.and_eq_true, Bool.or_eq_true, Bool.not_eq_true', Bool.and_eq_false_iff, Bool.or_eq_false_iff, Bool.not_eq_false', zbe, zdt, zdf, zb2_p, zbp_0, zbp_1, zbp_inj, zbp_01, Bool.true_eq_false, Bool.false_eq_true, true_and, and_true, Decidable.not_not, Classical.not_not, implies_true, List.nil_append, List.cons_append, List.append_assoc, Option.some.injEq, Sum.inl.injEq, zSw_c, zSw_n, zc_355, f_M_isIn, g_M_isIn]); (try simp only [zi_cs, zi_c0, zii_cs, zii_c0, zl_cs, zl_c0, zll_cs, zll_c0, zr_cs, zr_c0, zrr_cs, zrr_c0, zxs_cs, zxs_c0, zxx_cs, zxx_c0, zfree_c0, zfree_c1, zfree_cs, zfree_cz, zlong_i, zlong_r, zlong_x, zset_0, zset_s, true_and, and_true, Option.some.injEq, Sum.inl.injEq, Sum.inr.injEq, zb2_p, zbp_0, zbp_1, zbp_inj, zbp_01, Nat.zero_add, Nat.reduceAdd, implies_true, List.nil_append, List.cons_append, List.append_assoc, Int.not_lt, Int.not_le, Decidable.not_not, Int.zero_add, Int.reduceLE, Int.reduceLT, Int.reduceEq, Int.reduceNe, Int.reduceAdd, Int.reduceSub, Int.reduceMul, Int.reduceNeg, Int.reduceToNat, Nat.reduceMul, Nat.reduceLT, Nat.reduceEqDiff, and_self, ite_true, ite_false, zx1, zx2, zRecv, List.length_cons, List.length_nil, ne_eq, not_true_eq_false, not_false_eq_true, true_or, or_true, or_false, false_or, and_false, false_and, zf01, zf10, reduceCtorEq, zSw_c, zSw_n, zm_r, zit_T, zit_F, false_implies, true_implies, zc_355, f_M_isIn, g_M_isIn])
    refine zif (fun c1 => ?_) (fun c1 => ?_)
    · obtain ⟨⟨v0, v1, v2, v3⟩, o1, o2, o3, o4, o5⟩ := hVν.e (k := (j : Int)) (by omega) (by omega)
      have hJj := hJ j
      have hJj1 := hJ (j + 1)
      have hb1 := hMj (j + 1) (by omega)
      have hb0 : ((8 ^ f : Nat) : Int) * ((j + 1 : Nat) : Int) = ((8 ^ f : Nat) : Int) * j + ((8 ^ f : Nat) : Int) := by rw [Int.natCast_succ, Int.mul_add, Int.mul_one]
      have nxt : ∀ {ν2 : zMem} {x5 x6 : zV}, ¬ plC Z F A w V used P j → MTx ν2 Z F B w ∧ ν2 355 37 = μ 355 37 + (plJ Z F A w V (plN Z F A w V f) used P j).1 ∧ FdM μ ν2 pl (plJ Z F A w V (plN Z F A w V f) used P j).2 ∧ (∀ i : Nat, i < pl → ν2 376 i = μ 376 i) ∧ (∀ y : Int, 0 ≤ y → y < 73 * (pl : Int) + 73 → ν2 360 y = μL 360 y) ∧ MPl μ ν2 → zI ((j : Int) + 1) ∧ ∃ m', m' < V.length - j ∧ ∃ j', m' = V.length - j' ∧ j' ≤ V.length ∧ ∃ y5 y6 : zV, [vr 355, vi pl, vi used, vi (V.length : Int), vi ((j : Int) + 1), x5, x6] = [vr 355, vi pl, vi used, vi (V.length : Int), vi j', y5, y6] ∧ MTx ν2 Z F B w ∧ ν2 355 37 = μ 355 37 + (plJ Z F A w V (plN Z F A w V f) used P j').1 ∧ FdM μ ν2 pl (plJ Z F A w V (plN Z F A w V f) used P j').2 ∧ (∀ i : Nat, i < pl → ν2 376 i = μ 376 i) ∧ (∀ y : Int, 0 ≤ y → y < 73 * (pl : Int) + 73 → ν2 360 y = μL 360 y) ∧ MPl μ ν2 := by
        intro ν2 x5 x6 q1 q2
        exact ⟨by ((try simp only [zI_e]); (first | done | omega | skip)), V.length - (j + 1), by omega, j + 1, rfl, by omega, _, _, rfl, by rw [plJ_n q1]; exact q2⟩
      rw [v0, v1]
      have hPB := hP
      obtain ⟨p1, p2, p3, p4⟩ := hP
      have hz7 := hM.1.1.2
      have edn : dnA Z F B w (dfV V j).2.1 (dfV V j).1 = dpA Z F A w (dfV V j).2.1 (dfV V j).1 (owP A V P (dfV V j).2.1 (dfV V j).1) (owP A V P (dfV V j).1 (dfV V j).2.1) := by
        unfold dnA
        rw [p3 _ _ (by omega) (by omega) (by omega) (by omega) (fun q => o3 q.symm), p3 _ _ (by omega) (by omega) (by omega) (by omega) o3, dpA_B p4]
      refine ⟨⟨by ((try simp only [zI_e]); (first | done | omega | skip)), by ((try simp only [zI_e]); (first | done | omega | skip))⟩, ⟨⟨by omega, by omega⟩, by omega, by omega⟩, ?_⟩
      refine zif (fun c4 => ?_) (fun c4 => ?_)
      · rw [zbp_0] at c4
        exact nxt (fun q => c4 q.1) ⟨hMν, e37, hFν, hr, ha, hpν⟩
      rw [zbp_0] at c4
      have c4 : ¬ zbit (used : Int) (j : Int) := Classical.not_not.mp c4
      refine ⟨⟨⟨by ((try simp only [zI_e]); (first | done | omega | skip)), by omega, by omega⟩, by omega, by omega⟩, ?_⟩
      refine zCw.use (q_R_deepNow (d := 49) (by decide) hMν (o := (dfV V j).2.1) (v := (dfV V j).1) o2 o1) (by omega) (fun q ν2 e => ?_)
      obtain ⟨rfl, hmf⟩ := e
      refine ⟨_, rfl, ⟨by ((try simp only [zI_e]); (first | done | omega | skip)), by omega, by omega⟩, ?_⟩
      have hM2 := hMν.f hmf
      have k357 : ν2 357 = ν 357 := hmf.2 357 (by decide)
      rw [edn, k357, v2]
      have hp2 := hpν.tr hmf.pl
      have f37 : ν2 355 37 = ν 355 37 := hmf.1 37 (by decide) (by decide) (by decide) (by decide)
      have f376 : ν2 376 = ν 376 := hmf.2 376 (by decide)
      have f377 : ν2 377 = ν 377 := hmf.2 377 (by decide)
      have f360 : ν2 360 = ν 360 := hmf.2 360 (by decide)
      refine zif (fun c5 => ?_) (fun c5 => ?_)
      · have q1 : ¬ plC Z F A w V used P j := fun q => by
          have := q.2
          unfold plD at this
          omega
        refine nxt q1 ⟨hM2, by rw [f37]; exact e37, ?_, fun i hi => by rw [f376]; exact hr i hi, fun y y0 y1 => by rw [f360]; exact ha y y0 y1, hp2⟩
        unfold FdM at hFν ⊢
        rw [f377]
        exact hFν
      have c5 : plD Z F A w V P j := by
        unfold plD
        omega
      have hcc : plC Z F A w V used P j := ⟨c4, c5⟩
      rw [plJ_y hcc] at hJj1
      have hg := plN_in (Z := Z) (F := F) (A := A) (w := w) hV8 f (used + 2 ^ j) (upF P j (plX A V P j))
      have hz := zor_set (c := used) (i := j) hu (by omega) c4
      have hPj : P j = 0 := h0 j (by omega) c4
      have hx := plX_in hQ hV.2.2 (i := j) (by omega)
      have hQ3 := okQ_up hQ hV.2.2 (i := j) (by omega) hPj
      have hup := PlL_up (z7_ok hM.1) hPB hV.2.2 (z7_n hV.2.2) (i := j) (by omega) hPj
      have htb : ∀ i : Nat, zbit ((used + 2 ^ j : Nat) : Int) (i : Int) ↔ i = j ∨ zbit (used : Int) (i : Int) := fun i => by
        rw [zbit_n, zbit_n, tb_or hu (by omega) (by cases q2 : used.testBit j with | false => rfl | true => exact absurd (zbit_n.mpr q2) c4), Bool.or_eq_true, decide_eq_true_iff]
        exact ⟨fun q => q.elim Or.inr (fun z => Or.inl z.symm), fun q => q.elim (fun z => Or.inr z.symm) Or.inl⟩
      have ecr : f_M_canRepay [vr 355, vi (dfV V j).2.1, vi (dfV V j).1, vi (dfV V j).2.2.2] ν2 = plX A V P j := by
        show (if (dfV V j).2.1 = (dfV V j).1 then 0 else min (min (dfV V j).2.2.2 (owL (dfV V j).2.1 (dfV V j).1 (dbM ν2))) (min (ν2 357 (dfV V j).2.1) (9999 - ν2 357 (dfV V j).1))) = _
        rw [if_neg (fun q => o3 q.symm), hM2.n.2.2.1, (hM2.p).1 _ (by omega) (by omega), (hM2.p).1 _ (by omega) (by omega), p2 _ (by omega) (by omega), p2 _ (by omega) (by omega), p3 _ _ (by omega) (by omega) (by omega) (by omega) (fun q => o3 q.symm)]
        unfold plX
        omega
      rw [v0, v1, v3, ecr]
      have hpb := (hM2.p).2 (dfV V j).1 (by omega) (by omega)
      refine ⟨⟨⟨⟨⟨by ((try simp only [zI_e]); (first | done | omega | skip)), by omega, by omega⟩, by omega, by omega⟩, by ((try simp only [zI_e]); (first | done | omega | skip)), by omega, by omega⟩, rfl, hM2.d.2.2.2.1, ⟨by omega, by omega⟩, ⟨by omega, by omega⟩, hpb⟩, ?_⟩
      have fin : ∀ {ν3 : zMem} {B3 : Lg}, MTx ν3 Z F B3 w → PlL A V (upF P j (plX A V P j)) B3 → (∀ i : Int, 73 ≤ i → ν3 357 i = ν2 357 i) → zfc [357] ν2 ν3 → 0 ≤ (pl : Int) ∧ (pl : Int) < 8 ∧ zI ((pl : Int) + 1) ∧ zCw d y_M_triesVisits [vr 355, vi ((pl : Int) + 1), vi (zor (used : Int) (zshl 1 (j : Int)))] (zm ν3 376 pl j) (fun q μ2 => q = none ∧ zCw d y_M_takesBack [vr 355, vi pl] μ2 (fun q μ2 => q = none ∧ zI ((j : Int) + 1) ∧ ∃ m', m' < V.length - j ∧ ∃ j', m' = V.length - j' ∧ j' ≤ V.length ∧ ∃ y5 y6 : zV, [vr 355, vi pl, vi used, vi (V.length : Int), vi ((j : Int) + 1), vi (87 + 4 * (j : Int)), vi (plX A V P j)] = [vr 355, vi pl, vi used, vi (V.length : Int), vi j', y5, y6] ∧ MTx μ2 Z F B w ∧ μ2 355 37 = μ 355 37 + (plJ Z F A w V (plN Z F A w V f) used P j').1 ∧ FdM μ μ2 pl (plJ Z F A w V (plN Z F A w V f) used P j').2 ∧ (∀ i : Nat, i < pl → μ2 376 i = μ 376 i) ∧ (∀ y : Int, 0 ≤ y → y < 73 * (pl : Int) + 73 → μ2 360 y = μL 360 y) ∧ MPl μ μ2)) := by
        intro ν3 B3 hM3 hP3 q73 q7
        refine ⟨by omega, by omega, by ((try simp only [zI_e]); (first | done | omega | skip)), ?_⟩
        rw [hz.1]
        have g37 : zm ν3 376 pl j 355 37 = ν 355 37 := by rw [zm_off _ (by decide), q7 355 (by decide), f37]
        have hp3 : MPl μ (zm ν3 376 pl j) := hp2.tr ⟨fun j _ _ _ _ _ => by rw [zm_off _ (by decide), q7 355 (by decide)], fun i hi => by rw [zm_off _ (by decide), q73 i hi], (q7.mo (by simp)).zm (by decide)⟩
        have epl : ((pl : Int) + 1) = ((pl + 1 : Nat) : Int) := by omega
        rw [epl]
        refine zCw.use (ih (d := 51 + f) (Nat.le_refl _) (used := used + 2 ^ j) (pl := pl + 1) (by omega) (hM3.k (zm_off _ (by decide))) (hV.x (by decide) hp3.2.1) hP3 hQ3 hz.2.2 (fun i hi hzi => ?_) (by rw [g37]; have := hJj.1; omega)) (by omega) (fun q ν4 e => ?_)
        · have e1 : ¬ i = j := fun q => hzi ((htb i).mpr (Or.inl q))
          rw [upF_o (by omega)]
          exact h0 i hi (fun q => hzi ((htb i).mpr (Or.inr q)))
        obtain ⟨rfl, hM4, h47, hF4, hr4, ha4, hp4⟩ := e
        refine ⟨rfl, zCw.use (q_M_takesBack (d := 1) (k := (pl : Int)) (by decide) (by omega)) (by omega) (fun q ν5 e => ?_)⟩
        obtain ⟨rfl, t1, t2⟩ := e
        have x73 : ∀ i : Int, 73 ≤ i → ν5 357 i = ν4 357 i := fun i hi => by rw [t1, zit_f (by omega)]
        have k4 : ∀ y : Int, 0 ≤ y → y < 73 * (pl : Int) + 73 → ν4 360 y = μL 360 y := fun y y0 y1 => by
          rw [ha4 y y0 (by omega), zm_off _ (by decide), q7 360 (by decide), f360]
          exact ha y y0 y1
        refine ⟨rfl, by ((try simp only [zI_e]); (first | done | omega | skip)), V.length - (j + 1), by omega, j + 1, rfl, by omega, _, _, rfl, hM4.bk hM.2.1 (κ := μ 357) (fun y y0 y1 => ?_) x73 hb n5, ?_, ?_, fun i hi => ?_, fun y y0 y1 => ?_, (hp3.tr hp4).tr ⟨fun j _ _ _ _ _ => by rw [t2 355 (by decide)], x73, t2.mo (by simp)⟩⟩
        · rw [t1, zit_t ⟨y0, y1⟩, k4 _ (by omega) (by omega), l1, zit_t (by omega), show 73 * (pl : Int) + y - 73 * pl = y by omega]
        · rw [plJ_y hcc, t2 355 (by decide), h47, g37, e37]
          exact Int.add_assoc _ _ _
        · rw [plJ_y hcc]
          have hF5 : FdM (zm ν3 376 pl j) ν5 (pl + 1) (plN Z F A w V f (used + 2 ^ j) (upF P j (plX A V P j))).2 := by
            unfold FdM at hF4 ⊢
            rw [t2 377 (by decide)]
            exact hF4
          refine hFν.tr g37 e37 hJj.1.1 h37.1 hJj.2.1 (fun i i0 i1 => ?_) (fun i hi => ?_) ?_ (fun l hl => ?_) hF5
          · rw [zm_off _ (by decide), q7 377 (by decide), f377]
          · rw [zm_o (by omega), q7 376 (by decide), f376]
            exact hr i hi
          · rw [zm_s]
          · have := (hJ j).2.2 l hl
            omega
        · rw [t2 376 (by decide), hr4 i (by omega), zm_o (by omega), q7 376 (by decide), f376]
          exact hr i hi
        · rw [t2 360 (by decide)]
          exact k4 y y0 y1
      refine zif (fun c6 => ?_) (fun c6 => ?_)
      · obtain ⟨u1, u2, u3⟩ := hup.1 c6
        refine ⟨⟨⟨by ((try simp only [zI_e]); (first | done | omega | skip)), by omega, by omega⟩, by omega, by omega⟩, ?_⟩
        refine zCw.use (q_R_repays2 (d := 4) (by decide) hM2 (z7_ok hM.1) u1 u2) (by omega) (fun q ν3 e => ?_)
        obtain ⟨rfl, hM3, q73, q7⟩ := e
        exact ⟨rfl, fin hM3 u3 q73 q7⟩
      · have u3 := hup.2 (by omega)
        exact fin hM2 u3 (fun _ _ => rfl) zfc.rf
    · have ej : j = V.length := by omega
      subst ej
      exact ⟨hMν, e37, hFν, hr, fun y y0 y1 => by rw [ha y y0 (by omega), l1, zit_f (by omega)], hpν⟩
end ZPM
theorem q_M_plan {d : Nat} (hd : 62 ≤ d) {μ : zMem} {Z : Zt} {F : Option (List Cls)} {A : Lg} {w : Int → Int} {V : List D4} {x : Int} (hM : MTx μ Z F A w) (hV : VMx 87 153 999 μ V) : zSp d 0 0 y_M_plan zT0 [vr 355, vi x] μ zT0 (fun q μ' => q = some (vi (plV V x (plA Z F A w V))) ∧ MTx μ' Z F A w ∧ MPl μ μ') := by
  have hl := hV.l
  have h8 := hV.1
  have hA := hM.2.1
  refine zSp.ss [vr 355, vi x] rfl (w_M_plan (by omega)) rfl rfl ?_
  (try simp only [zit_e, Bool.and_eq_true, Bool.or_eq_true, Bool.not_eq_true', Bool.and_eq_false_iff, Bool.or_eq_false_iff, Bool.not_eq_false', zbe, zdt, zdf, zb2_p, zbp_0, zbp_1, zbp_inj, zbp_01, Bool.true_eq_false, Bool.false_eq_true, true_and, and_true, Decidable.not_not, Classical.not_not, implies_true, List.nil_append, List.cons_append, List.append_assoc, Option.some.injEq, Sum.inl.injEq, zSw_c, zSw_n]); (try simp only [zit_e, Bool.and_eq_true, Bool.or_eq_true, Bool.not_eq_true', Bool.and_eq_false_iff, Bool.or_eq_false_iff, Bool.not_eq_false', zbe, zdt, zdf, zb2_p, zbp_0, zbp_1, zbp_inj, zbp_01, Bool.true_eq_false, Bool.false_eq_true, true_and, and_true, Decidable.not_not, Classical.not_not, implies_true, List.nil_append, List.cons_append, List.append_assoc, Option.some.injEq, Sum.inl.injEq, zSw_c, zSw_n, zc_355, f_M_lies, g_M_lies]); (try simp only [zi_cs, zi_c0, zii_cs, zii_c0, zl_cs, zl_c0, zll_cs, zll_c0, zr_cs, zr_c0, zrr_cs, zrr_c0, zxs_cs, zxs_c0, zxx_cs, zxx_c0, zfree_c0, zfree_c1, zfree_cs, zfree_cz, zlong_i, zlong_r, zlong_x, zset_0, zset_s, true_and, and_true, Option.some.injEq, Sum.inl.injEq, Sum.inr.injEq, zb2_p, zbp_0, zbp_1, zbp_inj, zbp_01, Nat.zero_add, Nat.reduceAdd, implies_true, List.nil_append, List.cons_append, List.append_assoc, Int.not_lt, Int.not_le, Decidable.not_not, Int.zero_add, Int.reduceLE, Int.reduceLT, Int.reduceEq, Int.reduceNe, Int.reduceAdd, Int.reduceSub, Int.reduceMul, Int.reduceNeg, Int.reduceToNat, Nat.reduceMul, Nat.reduceLT, Nat.reduceEqDiff, and_self, ite_true, ite_false, zx1, zx2, zRecv, List.length_cons, List.length_nil, ne_eq, not_true_eq_false, not_false_eq_true, true_or, or_true, or_false, false_or, and_false, false_and, zf01, zf10, reduceCtorEq, zSw_c, zSw_n, zm_r, zit_T, zit_F, false_implies, true_implies, zc_355, f_M_lies, g_M_lies])
  rw [hl]
  have hR : plK ((8 ^ V.length : Nat) : Int) V.length (plA Z F A w V) := plN_in (by omega) V.length 0 _
  have h87 : ((8 ^ V.length : Nat) : Int) ≤ 16777216 := by
    have : 8 ^ V.length ≤ 8 ^ 8 := Nat.pow_le_pow_right (by decide) (by omega)
    have e : (8 : Nat) ^ 8 = 16777216 := by decide
    omega
  refine ⟨by ((try simp only [zI_e]); (first | done | omega | skip)), ?_⟩
  refine zif (fun c => ?_) (fun c => ?_)
  · refine ⟨?_, hM, MPl.rf⟩
    unfold plV
    rw [zit_f (by omega), zit_t (by omega)]
  have hq := q_M_triesVisits (Z := Z) (F := F) (A := A) (w := w) (V := V) hA V.length (d := 60) (by omega) (μ := zm μ 355 37 0) (P := fun _ => 0) (B := A) (used := 0) (pl := 0) (by omega) (hM.k (zm_off _ (by decide))) (hV.k (zm_off _ (by decide))) (PlL_0 hA) (okQ_0 hA) (by decide) (fun _ _ _ => rfl) (by rw [zm_s]; omega)
  refine zCw.use hq (by omega) (fun q μ2 e => ?_)
  obtain ⟨rfl, hM2, h37, hF, -, -, hp⟩ := e
  have eP : plN Z F A w V V.length 0 (fun _ => 0) = plA Z F A w V := rfl
  rw [eP] at h37 hF
  rw [zm_s, Int.zero_add] at h37
  have hp2 : MPl μ μ2 := MPl.tr ⟨fun j _ _ _ _ h => zm_o (Or.inr h), fun i _ => by rw [zm_off _ (by decide)], zfc.rf.zm (by decide)⟩ hp
  refine ⟨rfl, ?_⟩
  rw [h37]
  generalize plA Z F A w V = R at *
  obtain ⟨r1, r2, r3⟩ := hR
  unfold plV
  refine ⟨fun _ _ => by omega, ?_, hM2, hp2⟩
  by_cases c1 : x = -1
  · rw [zit_t c1, zit_t c1]
  rw [zit_f c1, zit_f c1]
  by_cases c2 : R.1 = 0
  · rw [zit_t c2, zit_t (Or.inl c2)]
  rw [zit_f c2, zit_f (show ¬ (R.1 = 0 ∨ ¬ (0 ≤ x ∧ x < (V.length : Int))) by omega)]
  rcases hl2 : R.2 with _ | l
  · exact absurd (r2.mpr hl2) c2
  · have h3 := r3 l hl2
    have := (hF.2 zm_s l hl2).2 x.toNat (by omega)
    rw [show ((0 + x.toNat : Nat) : Int) = x by omega] at this
    exact this
theorem LC_plan {x : Int} : LC y_D_plan y_M_plan [vi x] := LC.mk (fun k μ h0 h1 hJ => by
  obtain ⟨Z, F, A, w, hC, hM⟩ := hJ.ctx
  obtain ⟨V, v1, v2⟩ := hJ.1.2.2.2.2.2.2.1.x
  refine ⟨0, fun v μ1 => v = plV V x (plA Z F A w V) ∧ CPl w μ μ1, fun μ1 v μ2 => v = plV V x (plA Z F A w V) ∧ MTx μ2 Z F A w ∧ MPl μ1 μ2, by decide, ?_, ?_, ?_⟩
  · refine zCw.use (q_D_plan (d := 22) (by decide) hC v1 (x := x)) (by decide) (fun q μ1 e => ?_)
    obtain ⟨rfl, e1⟩ := e
    exact OD.yes (by decide) (e1.1.hm (by simp)) ⟨rfl, e1⟩
  · intro μ1 hm
    refine zCw.use (q_M_plan (d := 62) (by decide) (hM.k (μ' := μ1) (hm 357 (by decide))) (v2.k (hm 357 (by decide))) (x := x)) (by decide) (fun q μ2 e => ?_)
    obtain ⟨rfl, e1, e2⟩ := e
    exact OM.yes (by decide) (e2.2.2.hc (by simp)) ⟨rfl, e1, e2⟩
  · rintro - v1 v2 μ1 μ2 hm ⟨rfl, x1⟩ hc ⟨rfl, y1, y2⟩
    have hJ1 := hJ.m HC.rf hm
    have hC1 := hC.pl x1
    refine ⟨rfl, JJ.up (k := k) (hJ1.tw (hJ1.1.lg (A := A) (fun c hc => x1.1 c (by simp only [List.mem_cons, List.not_mem_nil, or_false]; omega)) y2.2.1 hC.2.1 hC1.2.2.2.1.1 hC1.2.2.2.1.2 y1.2.2.2.1.1 y1.2.2.2.1.2) ⟨fun c p q r s t u => x1.1 c ?_, fun j _ _ => by rw [x1.1 0 (by decide)], ⟨by rw [x1.1 321 (by decide)], by rw [x1.1 321 (by decide)]⟩, by rw [x1.1 351 (by decide)], fun _ => hC1.2.2.2.2.2.2⟩ (y2.2.2.kmt (by simp [scM]) (fun j hj => y2.1 j (by unfold kfM at hj; omega) (by unfold kfM at hj; omega) (by unfold kfM at hj; omega) (by unfold kfM at hj; omega) (by unfold kfM at hj; omega)))) (by omega)⟩
    unfold scC at r
    simp only [List.mem_cons, List.not_mem_nil, or_false]
    omega)

