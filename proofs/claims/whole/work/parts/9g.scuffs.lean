/-! what is told in fours, as both sides ask it -/
def fcC (C : Nat) (j : Int) (μ : zMem) : List D4 := tL (μ 1 j).toNat (fun i => (μ (C + i.toNat) 0, μ (C + i.toNat) 1, μ (C + i.toNat) 2, μ (C + i.toNat) 3))
def fcM (b a : Int) (μ : zMem) : List D4 := tL (μ 357 a).toNat (fun i => (μ 357 (b + 4 * i), μ 357 (b + 4 * i + 1), μ 357 (b + 4 * i + 2), μ 357 (b + 4 * i + 3)))
def ok4 (mx : Int) (x : D4) : Prop := (0 ≤ x.1 ∧ x.1 ≤ 6) ∧ (0 ≤ x.2.1 ∧ x.2.1 ≤ 6) ∧ x.1 ≠ x.2.1 ∧ (1 ≤ x.2.2.1 ∧ x.2.2.1 ≤ 3) ∧ 0 ≤ x.2.2.2 ∧ x.2.2.2 ≤ mx
def VCx (C : Nat) (j mx : Int) (μ : zMem) (V : List D4) : Prop := (0 ≤ μ 1 j ∧ μ 1 j ≤ 8) ∧ fcC C j μ = V ∧ ∀ x, x ∈ V → ok4 mx x
def VMx (b a mx : Int) (μ : zMem) (V : List D4) : Prop := (0 ≤ μ 357 a ∧ μ 357 a ≤ 8) ∧ fcM b a μ = V ∧ ∀ x, x ∈ V → ok4 mx x
theorem VCx.k {C : Nat} {j mx : Int} {μ μ' : zMem} {V : List D4} (h : VCx C j mx μ V) (h1 : μ' 1 = μ 1) (h2 : ∀ c : Nat, C ≤ c → c < C + 8 → μ' c = μ c) : VCx C j mx μ' V := by
  refine ⟨by rw [h1]; exact h.1, ?_, h.2.2⟩
  rw [← h.2.1]
  unfold fcC
  rw [h1]
  have := h.1
  exact tL_congr (fun i a b => by rw [h2 _ (by omega) (by omega)])
theorem VMx.k {b a mx : Int} {μ μ' : zMem} {V : List D4} (h : VMx b a mx μ V) (h1 : μ' 357 = μ 357) : VMx b a mx μ' V := by
  unfold VMx fcM at *
  rw [h1]
  exact h
def dfV (V : List D4) (k : Int) : D4 := gL (0, 0, 0, 0) V k
theorem VCx.l {C : Nat} {j mx : Int} {μ : zMem} {V : List D4} (h : VCx C j mx μ V) : μ 1 j = (V.length : Int) := by
  have := h.1
  rw [← h.2.1]
  unfold fcC
  rw [tL_len]
  omega
theorem VMx.l {b a mx : Int} {μ : zMem} {V : List D4} (h : VMx b a mx μ V) : μ 357 a = (V.length : Int) := by
  have := h.1
  rw [← h.2.1]
  unfold fcM
  rw [tL_len]
  omega
theorem dfV_m {V : List D4} {k : Int} (h0 : 0 ≤ k) (h1 : k < (V.length : Int)) : V[k.toNat]? = some (dfV V k) := by
  unfold dfV gL
  rw [List.getD_eq_getElem?_getD]
  have : k.toNat < V.length := by omega
  rw [List.getElem?_eq_getElem this]
  rfl
theorem VCx.e {C : Nat} {j mx : Int} {μ : zMem} {V : List D4} (h : VCx C j mx μ V) {k : Int} (h0 : 0 ≤ k) (h1 : k < (V.length : Int)) : (μ (C + k.toNat) 0 = (dfV V k).1 ∧ μ (C + k.toNat) 1 = (dfV V k).2.1 ∧ μ (C + k.toNat) 2 = (dfV V k).2.2.1 ∧ μ (C + k.toNat) 3 = (dfV V k).2.2.2) ∧ ok4 mx (dfV V k) := by
  have hl := h.l
  refine ⟨?_, h.2.2 _ (List.mem_of_getElem? (dfV_m h0 h1))⟩
  have : dfV V k = (μ (C + k.toNat) 0, μ (C + k.toNat) 1, μ (C + k.toNat) 2, μ (C + k.toNat) 3) := by
    unfold dfV
    rw [← h.2.1]
    unfold fcC
    rw [gL_tL h0 (by omega)]
  rw [this]
  exact ⟨rfl, rfl, rfl, rfl⟩
theorem VMx.e {b a mx : Int} {μ : zMem} {V : List D4} (h : VMx b a mx μ V) {k : Int} (h0 : 0 ≤ k) (h1 : k < (V.length : Int)) : (μ 357 (b + 4 * k) = (dfV V k).1 ∧ μ 357 (b + 4 * k + 1) = (dfV V k).2.1 ∧ μ 357 (b + 4 * k + 2) = (dfV V k).2.2.1 ∧ μ 357 (b + 4 * k + 3) = (dfV V k).2.2.2) ∧ ok4 mx (dfV V k) := by
  have hl := h.l
  refine ⟨?_, h.2.2 _ (List.mem_of_getElem? (dfV_m h0 h1))⟩
  have : dfV V k = (μ 357 (b + 4 * k), μ 357 (b + 4 * k + 1), μ 357 (b + 4 * k + 2), μ 357 (b + 4 * k + 3)) := by
    unfold dfV
    rw [← h.2.1]
    unfold fcM
    rw [gL_tL h0 (by omega)]
  rw [this]
  exact ⟨rfl, rfl, rfl, rfl⟩
theorem TV.x {j : Int} {C : Nat} {a b mx : Int} {μ : zMem} (h : TV j C a b mx μ (μ 357)) : ∃ V, VCx C j mx μ V ∧ VMx b a mx μ V := by
  obtain ⟨p, q, r⟩ := h
  have hk : ∀ x, x ∈ fcC C j μ → ok4 mx x := by
    intro x hx
    unfold fcC tL at hx
    rw [List.mem_map] at hx
    obtain ⟨i, hi, rfl⟩ := hx
    rw [List.mem_range] at hi
    have := (r i (by omega) (by omega)).2
    exact this
  refine ⟨fcC C j μ, ⟨p, rfl, hk⟩, by rw [q]; exact p, ?_, hk⟩
  unfold fcC fcM
  rw [q]
  exact tL_congr (fun i x y => by
    have := (r i x (by omega)).1
    rw [this.1, this.2.1, this.2.2.1, this.2.2.2])
/-- calls that only tell, by the town and what is told in fours -/
theorem LC.tv {yD yM : zMt} {as : List zV} {f : Zt → Option (List Cls) → Lg → (Int → Int) → List D4 → List D4 → Int} (hD : ∀ (μ : zMem) (Z : Zt) (F : Option (List Cls)) (A : Lg) (w : Int → Int) (V S : List D4), CTx μ Z F A w → VCx 11 8 999 μ V → VCx 20 9 1 μ S → zCw 101 yD (vr 0 :: as) μ (fun q μ' => q = some (vi (f Z F A w V S)) ∧ HM μ μ' ∧ KC μ μ')) (hM : ∀ (μ : zMem) (Z : Zt) (F : Option (List Cls)) (A : Lg) (w : Int → Int) (V S : List D4), MTx μ Z F A w → VMx 87 153 999 μ V → VMx 119 154 1 μ S → zCw 101 yM (vr 355 :: as) μ (fun q μ' => q = some (vi (f Z F A w V S)) ∧ HC μ μ' ∧ KM μ μ')) : LC yD yM as := LC.mk (fun k μ h0 h1 hJ => by
  obtain ⟨Z, F, A, w, hC, hR⟩ := hJ.ctx
  obtain ⟨V, v1, v2⟩ := hJ.1.2.2.2.2.2.2.1.x
  obtain ⟨S, s1, s2⟩ := hJ.1.2.2.2.2.2.2.2.1.x
  refine ⟨0, fun v μ1 => v = f Z F A w V S ∧ KC μ μ1, fun μ1 v μ2 => v = f Z F A w V S ∧ KM μ1 μ2, by decide, ?_, ?_, ?_⟩
  · obtain ⟨d1, R1, p1, p2, p3⟩ := hD μ Z F A w V S hC v1 s1
    exact ⟨d1, R1, p1, p2, fun q μ' e => by
      obtain ⟨rfl, e1, e2⟩ := p3 q μ' e
      exact OD.yes (by decide) e1 ⟨rfl, e2⟩⟩
  · intro μ1 hm
    obtain ⟨d1, R1, p1, p2, p3⟩ := hM μ1 Z F A w V S (hR.k (hm 357 (by decide))) (v2.k (hm 357 (by decide))) (s2.k (hm 357 (by decide)))
    exact ⟨d1, R1, p1, p2, fun q μ' e => by
      obtain ⟨rfl, e1, e2⟩ := p3 q μ' e
      exact OM.yes (by decide) e1 ⟨rfl, e2⟩⟩
  · rintro c v1 v2 μ1 μ2 hm ⟨rfl, e1⟩ hc ⟨rfl, e2⟩
    exact ⟨rfl, (hJ.t (Int.le_refl _) e1 KM.rf |>.m HC.rf hm).t (by omega) KC.rf e2⟩)
/-- whether a scuff is so, if one owed another one so much more -/
noncomputable def so1 (Z : Zt) (F : Option (List Cls)) (A : Lg) (w : Int → Int) (a b m : Int) (x : D4) : Prop := x.2.2.1 ≤ dpA Z F A w x.2.1 x.1 (owL x.2.1 x.1 A.2.1 + zit (x.2.1 = a ∧ x.1 = b) m 0) (owL x.1 x.2.1 A.2.1 + zit (x.2.1 = b ∧ x.1 = a) m 0) ↔ x.2.2.2 = 1
noncomputable def soA (Z : Zt) (F : Option (List Cls)) (A : Lg) (w : Int → Int) (S : List D4) (a b m : Int) : Prop := ∀ k : Nat, k < S.length → so1 Z F A w a b m (dfV S k)
theorem lv_D_408 : zLv "DebtDoors" 408 y_Ru_depth 5 7 := ⟨⟨(zTb_in 1260 (by decide +kernel) (by decide +kernel)), m_Ru_depth.1, m_Ru_depth.2.1, m_Ru_depth.2.2⟩, _, rfl, rfl⟩
def y_D_scuffsAreSo : zMt := (⟨"DebtDoors", "scuffsAreSo", "(III)Z"⟩, prog_1_method_60_code, 12, some .boolean)
theorem d_D_scuffsAreSo_0 : decode prog_1_method_60_code 0 = .ok (.aload_n 0, 1) := by decide +kernel
theorem d_D_scuffsAreSo_1 : decode prog_1_method_60_code 1 = .ok (.getfield 12, 3) := by decide +kernel
theorem d_D_scuffsAreSo_4 : decode prog_1_method_60_code 4 = .ok (.getfield 115, 3) := by decide +kernel
theorem d_D_scuffsAreSo_7 : decode prog_1_method_60_code 7 = .ok (.astore 4, 2) := by decide +kernel
theorem d_D_scuffsAreSo_9 : decode prog_1_method_60_code 9 = .ok (.iconst 0, 1) := by decide +kernel
theorem d_D_scuffsAreSo_10 : decode prog_1_method_60_code 10 = .ok (.istore 5, 2) := by decide +kernel
theorem d_D_scuffsAreSo_12 : decode prog_1_method_60_code 12 = .ok (.iload 5, 2) := by decide +kernel
theorem d_D_scuffsAreSo_14 : decode prog_1_method_60_code 14 = .ok (.aload_n 0, 1) := by decide +kernel
theorem d_D_scuffsAreSo_15 : decode prog_1_method_60_code 15 = .ok (.getfield 12, 3) := by decide +kernel
theorem d_D_scuffsAreSo_18 : decode prog_1_method_60_code 18 = .ok (.getfield 399, 3) := by decide +kernel
theorem d_D_scuffsAreSo_21 : decode prog_1_method_60_code 21 = .ok (.if_icmp .ge 147, 3) := by decide +kernel
theorem d_D_scuffsAreSo_24 : decode prog_1_method_60_code 24 = .ok (.aload_n 0, 1) := by decide +kernel
theorem d_D_scuffsAreSo_25 : decode prog_1_method_60_code 25 = .ok (.getfield 12, 3) := by decide +kernel
theorem d_D_scuffsAreSo_28 : decode prog_1_method_60_code 28 = .ok (.getfield 402, 3) := by decide +kernel
theorem d_D_scuffsAreSo_31 : decode prog_1_method_60_code 31 = .ok (.iload 5, 2) := by decide +kernel
theorem d_D_scuffsAreSo_33 : decode prog_1_method_60_code 33 = .ok (.aaload, 1) := by decide +kernel
theorem d_D_scuffsAreSo_34 : decode prog_1_method_60_code 34 = .ok (.astore 6, 2) := by decide +kernel
theorem d_D_scuffsAreSo_36 : decode prog_1_method_60_code 36 = .ok (.aload 6, 2) := by decide +kernel
theorem d_D_scuffsAreSo_38 : decode prog_1_method_60_code 38 = .ok (.iconst 1, 1) := by decide +kernel
theorem d_D_scuffsAreSo_39 : decode prog_1_method_60_code 39 = .ok (.iaload, 1) := by decide +kernel
theorem d_D_scuffsAreSo_40 : decode prog_1_method_60_code 40 = .ok (.istore 7, 2) := by decide +kernel
theorem d_D_scuffsAreSo_42 : decode prog_1_method_60_code 42 = .ok (.aload 6, 2) := by decide +kernel
theorem d_D_scuffsAreSo_44 : decode prog_1_method_60_code 44 = .ok (.iconst 0, 1) := by decide +kernel
theorem d_D_scuffsAreSo_45 : decode prog_1_method_60_code 45 = .ok (.iaload, 1) := by decide +kernel
theorem d_D_scuffsAreSo_46 : decode prog_1_method_60_code 46 = .ok (.istore 8, 2) := by decide +kernel
theorem d_D_scuffsAreSo_48 : decode prog_1_method_60_code 48 = .ok (.aload 4, 2) := by decide +kernel
theorem d_D_scuffsAreSo_50 : decode prog_1_method_60_code 50 = .ok (.iload 7, 2) := by decide +kernel
theorem d_D_scuffsAreSo_52 : decode prog_1_method_60_code 52 = .ok (.iload 8, 2) := by decide +kernel
theorem d_D_scuffsAreSo_54 : decode prog_1_method_60_code 54 = .ok (.invokevirtual 176, 3) := by decide +kernel
theorem d_D_scuffsAreSo_57 : decode prog_1_method_60_code 57 = .ok (.istore 9, 2) := by decide +kernel
theorem d_D_scuffsAreSo_59 : decode prog_1_method_60_code 59 = .ok (.aload 4, 2) := by decide +kernel
theorem d_D_scuffsAreSo_61 : decode prog_1_method_60_code 61 = .ok (.iload 8, 2) := by decide +kernel
theorem d_D_scuffsAreSo_63 : decode prog_1_method_60_code 63 = .ok (.iload 7, 2) := by decide +kernel
theorem d_D_scuffsAreSo_65 : decode prog_1_method_60_code 65 = .ok (.invokevirtual 176, 3) := by decide +kernel
theorem d_D_scuffsAreSo_68 : decode prog_1_method_60_code 68 = .ok (.istore 10, 2) := by decide +kernel
theorem d_D_scuffsAreSo_70 : decode prog_1_method_60_code 70 = .ok (.iload 7, 2) := by decide +kernel
theorem d_D_scuffsAreSo_72 : decode prog_1_method_60_code 72 = .ok (.iload_n 1, 1) := by decide +kernel
theorem d_D_scuffsAreSo_73 : decode prog_1_method_60_code 73 = .ok (.if_icmp .ne 18, 3) := by decide +kernel
theorem d_D_scuffsAreSo_76 : decode prog_1_method_60_code 76 = .ok (.iload 8, 2) := by decide +kernel
theorem d_D_scuffsAreSo_78 : decode prog_1_method_60_code 78 = .ok (.iload_n 2, 1) := by decide +kernel
theorem d_D_scuffsAreSo_79 : decode prog_1_method_60_code 79 = .ok (.if_icmp .ne 12, 3) := by decide +kernel
theorem d_D_scuffsAreSo_82 : decode prog_1_method_60_code 82 = .ok (.iload 9, 2) := by decide +kernel
theorem d_D_scuffsAreSo_84 : decode prog_1_method_60_code 84 = .ok (.iload_n 3, 1) := by decide +kernel
theorem d_D_scuffsAreSo_85 : decode prog_1_method_60_code 85 = .ok (.iadd, 1) := by decide +kernel
theorem d_D_scuffsAreSo_86 : decode prog_1_method_60_code 86 = .ok (.istore 9, 2) := by decide +kernel
theorem d_D_scuffsAreSo_88 : decode prog_1_method_60_code 88 = .ok (.goto 21, 3) := by decide +kernel
theorem d_D_scuffsAreSo_91 : decode prog_1_method_60_code 91 = .ok (.iload 7, 2) := by decide +kernel
theorem d_D_scuffsAreSo_93 : decode prog_1_method_60_code 93 = .ok (.iload_n 2, 1) := by decide +kernel
theorem d_D_scuffsAreSo_94 : decode prog_1_method_60_code 94 = .ok (.if_icmp .ne 15, 3) := by decide +kernel
theorem d_D_scuffsAreSo_97 : decode prog_1_method_60_code 97 = .ok (.iload 8, 2) := by decide +kernel
theorem d_D_scuffsAreSo_99 : decode prog_1_method_60_code 99 = .ok (.iload_n 1, 1) := by decide +kernel
theorem d_D_scuffsAreSo_100 : decode prog_1_method_60_code 100 = .ok (.if_icmp .ne 9, 3) := by decide +kernel
theorem d_D_scuffsAreSo_103 : decode prog_1_method_60_code 103 = .ok (.iload 10, 2) := by decide +kernel
theorem d_D_scuffsAreSo_105 : decode prog_1_method_60_code 105 = .ok (.iload_n 3, 1) := by decide +kernel
theorem d_D_scuffsAreSo_106 : decode prog_1_method_60_code 106 = .ok (.iadd, 1) := by decide +kernel
theorem d_D_scuffsAreSo_107 : decode prog_1_method_60_code 107 = .ok (.istore 10, 2) := by decide +kernel
theorem d_D_scuffsAreSo_109 : decode prog_1_method_60_code 109 = .ok (.aload_n 0, 1) := by decide +kernel
theorem d_D_scuffsAreSo_110 : decode prog_1_method_60_code 110 = .ok (.getfield 51, 3) := by decide +kernel
theorem d_D_scuffsAreSo_113 : decode prog_1_method_60_code 113 = .ok (.aload_n 0, 1) := by decide +kernel
theorem d_D_scuffsAreSo_114 : decode prog_1_method_60_code 114 = .ok (.getfield 12, 3) := by decide +kernel
theorem d_D_scuffsAreSo_117 : decode prog_1_method_60_code 117 = .ok (.iload 7, 2) := by decide +kernel
theorem d_D_scuffsAreSo_119 : decode prog_1_method_60_code 119 = .ok (.iload 8, 2) := by decide +kernel
theorem d_D_scuffsAreSo_121 : decode prog_1_method_60_code 121 = .ok (.iload 9, 2) := by decide +kernel
theorem d_D_scuffsAreSo_123 : decode prog_1_method_60_code 123 = .ok (.iload 10, 2) := by decide +kernel
theorem d_D_scuffsAreSo_125 : decode prog_1_method_60_code 125 = .ok (.invokevirtual 408, 3) := by decide +kernel
theorem d_D_scuffsAreSo_128 : decode prog_1_method_60_code 128 = .ok (.aload 6, 2) := by decide +kernel
theorem d_D_scuffsAreSo_130 : decode prog_1_method_60_code 130 = .ok (.iconst 2, 1) := by decide +kernel
theorem d_D_scuffsAreSo_131 : decode prog_1_method_60_code 131 = .ok (.iaload, 1) := by decide +kernel
theorem d_D_scuffsAreSo_132 : decode prog_1_method_60_code 132 = .ok (.if_icmp .lt 7, 3) := by decide +kernel
theorem d_D_scuffsAreSo_135 : decode prog_1_method_60_code 135 = .ok (.iconst 1, 1) := by decide +kernel
theorem d_D_scuffsAreSo_136 : decode prog_1_method_60_code 136 = .ok (.goto 4, 3) := by decide +kernel
theorem d_D_scuffsAreSo_139 : decode prog_1_method_60_code 139 = .ok (.iconst 0, 1) := by decide +kernel
theorem d_D_scuffsAreSo_140 : decode prog_1_method_60_code 140 = .ok (.istore 11, 2) := by decide +kernel
theorem d_D_scuffsAreSo_142 : decode prog_1_method_60_code 142 = .ok (.iload 11, 2) := by decide +kernel
theorem d_D_scuffsAreSo_144 : decode prog_1_method_60_code 144 = .ok (.aload 6, 2) := by decide +kernel
theorem d_D_scuffsAreSo_146 : decode prog_1_method_60_code 146 = .ok (.iconst 3, 1) := by decide +kernel
theorem d_D_scuffsAreSo_147 : decode prog_1_method_60_code 147 = .ok (.iaload, 1) := by decide +kernel
theorem d_D_scuffsAreSo_148 : decode prog_1_method_60_code 148 = .ok (.iconst 1, 1) := by decide +kernel
theorem d_D_scuffsAreSo_149 : decode prog_1_method_60_code 149 = .ok (.if_icmp .ne 7, 3) := by decide +kernel
theorem d_D_scuffsAreSo_152 : decode prog_1_method_60_code 152 = .ok (.iconst 1, 1) := by decide +kernel
theorem d_D_scuffsAreSo_153 : decode prog_1_method_60_code 153 = .ok (.goto 4, 3) := by decide +kernel
theorem d_D_scuffsAreSo_156 : decode prog_1_method_60_code 156 = .ok (.iconst 0, 1) := by decide +kernel
theorem d_D_scuffsAreSo_157 : decode prog_1_method_60_code 157 = .ok (.if_icmp .eq 5, 3) := by decide +kernel
theorem d_D_scuffsAreSo_160 : decode prog_1_method_60_code 160 = .ok (.iconst 0, 1) := by decide +kernel
theorem d_D_scuffsAreSo_161 : decode prog_1_method_60_code 161 = .ok (.ireturn, 1) := by decide +kernel
theorem d_D_scuffsAreSo_162 : decode prog_1_method_60_code 162 = .ok (.iinc 5 1, 3) := by decide +kernel
theorem d_D_scuffsAreSo_165 : decode prog_1_method_60_code 165 = .ok (.goto (-153), 3) := by decide +kernel
theorem d_D_scuffsAreSo_168 : decode prog_1_method_60_code 168 = .ok (.iconst 1, 1) := by decide +kernel
theorem d_D_scuffsAreSo_169 : decode prog_1_method_60_code 169 = .ok (.ireturn, 1) := by decide +kernel
def w_D_scuffsAreSo {d : Nat} (hd : 2 ≤ d) := (show SS ("DebtDoors", prog_1_method_60_code, 12) (some .boolean) d 0 0 0 0 _ from (sS (p1 := 9) (sR (rFr fl_D_115 nk_9_0 (rFr fl_D_12 nk_11_0 (rAn 0 d_D_scuffsAreSo_0 rfl) d_D_scuffsAreSo_1) d_D_scuffsAreSo_4) d_D_scuffsAreSo_7 (by decide)) (sS (p1 := 168) (sS (p1 := 12) (sI (xE (rI d_D_scuffsAreSo_9 rfl)) d_D_scuffsAreSo_10 (by decide)) (sLp (ps := 162) (tt := 24) (pn := 168) (p1 := 0) (p2 := 0) (xC (rNot (rJ2 (tgt := 168) j_ge (rIl d_D_scuffsAreSo_12) (rF 9 fl_D_399 nk_9_9 (rFr fl_D_12 nk_11_0 (rAn 0 d_D_scuffsAreSo_14 rfl) d_D_scuffsAreSo_15) d_D_scuffsAreSo_18 rfl) d_D_scuffsAreSo_21 (by decide)))) (sS (p1 := 36) (sR (rAa (rFr fl_D_402 nk_9_4 (rFr fl_D_12 nk_11_0 (rAn 0 d_D_scuffsAreSo_24 rfl) d_D_scuffsAreSo_25) d_D_scuffsAreSo_28) (rIl d_D_scuffsAreSo_31) d_D_scuffsAreSo_33) d_D_scuffsAreSo_34 (by decide)) (sS (p1 := 42) (sI (xE (rIa (rAl d_D_scuffsAreSo_36) (rI d_D_scuffsAreSo_38 rfl) d_D_scuffsAreSo_39)) d_D_scuffsAreSo_40 (by decide)) (sS (p1 := 48) (sI (xE (rIa (rAl d_D_scuffsAreSo_42) (rI d_D_scuffsAreSo_44 rfl) d_D_scuffsAreSo_45)) d_D_scuffsAreSo_46 (by decide)) (sS (p1 := 59) (sI (xE (rV p_Le_owed (Nat.le_trans (Nat.le_of_ble_eq_true rfl) hd) lv_D_176 (rAi (rAi (rAr rA0 (rAl d_D_scuffsAreSo_48)) (rIl d_D_scuffsAreSo_50)) (rIl d_D_scuffsAreSo_52)) (by decide) d_D_scuffsAreSo_54)) d_D_scuffsAreSo_57 (by decide)) (sS (p1 := 70) (sI (xE (rV p_Le_owed (Nat.le_trans (Nat.le_of_ble_eq_true rfl) hd) lv_D_176 (rAi (rAi (rAr rA0 (rAl d_D_scuffsAreSo_59)) (rIl d_D_scuffsAreSo_61)) (rIl d_D_scuffsAreSo_63)) (by decide) d_D_scuffsAreSo_65)) d_D_scuffsAreSo_68 (by decide)) (sS (p1 := 109) (sIe (pn := 109) (tt := 82) (ff := 91) (xC (rAnd (mm := 76) (rNot (rJ2 (tgt := 91) j_ne (rIl d_D_scuffsAreSo_70) (rIn 1 d_D_scuffsAreSo_72 rfl) d_D_scuffsAreSo_73 (by decide))) (rNot (rJ2 (tgt := 91) j_ne (rIl d_D_scuffsAreSo_76) (rIn 2 d_D_scuffsAreSo_78 rfl) d_D_scuffsAreSo_79 (by decide))))) (sGo (pn := 109) (sI (xE (r2 o_add (rIl d_D_scuffsAreSo_82) (rIn 3 d_D_scuffsAreSo_84 rfl) d_D_scuffsAreSo_85)) d_D_scuffsAreSo_86 (by decide)) d_D_scuffsAreSo_88 (by decide)) (sIf (pn := 109) (tt := 103) (xC (rAnd (mm := 97) (rNot (rJ2 (tgt := 109) j_ne (rIl d_D_scuffsAreSo_91) (rIn 2 d_D_scuffsAreSo_93 rfl) d_D_scuffsAreSo_94 (by decide))) (rNot (rJ2 (tgt := 109) j_ne (rIl d_D_scuffsAreSo_97) (rIn 1 d_D_scuffsAreSo_99 rfl) d_D_scuffsAreSo_100 (by decide))))) (sI (xE (r2 o_add (rIl d_D_scuffsAreSo_103) (rIn 3 d_D_scuffsAreSo_105 rfl) d_D_scuffsAreSo_106)) d_D_scuffsAreSo_107 (by decide)))) (sS (p1 := 142) (sI (xTb (xNot (xJ2 (tgt := 139) j_lt (xV lv_D_408 (xA (rAi (rAi (rAi (rAi (rAr (rAr rA0 (rFr fl_D_51 nk_11_7 (rAn 0 d_D_scuffsAreSo_109 rfl) d_D_scuffsAreSo_110)) (rFr fl_D_12 nk_11_0 (rAn 0 d_D_scuffsAreSo_113 rfl) d_D_scuffsAreSo_114)) (rIl d_D_scuffsAreSo_117)) (rIl d_D_scuffsAreSo_119)) (rIl d_D_scuffsAreSo_121)) (rIl d_D_scuffsAreSo_123))) (by decide) d_D_scuffsAreSo_125) (xE (rIa (rAl d_D_scuffsAreSo_128) (rI d_D_scuffsAreSo_130 rfl) d_D_scuffsAreSo_131)) d_D_scuffsAreSo_132 (by decide))) (rGoE (p2 := 140) (rI d_D_scuffsAreSo_135 rfl) d_D_scuffsAreSo_136 (by decide)) (rI d_D_scuffsAreSo_139 rfl)) d_D_scuffsAreSo_140 (by decide)) (sIf (pn := 162) (tt := 160) (xC (rNot (rJ2 (tgt := 162) j_eq (rIl d_D_scuffsAreSo_142) (rTb (rNot (rJ2 (tgt := 156) j_ne (rIa (rAl d_D_scuffsAreSo_144) (rI d_D_scuffsAreSo_146 rfl) d_D_scuffsAreSo_147) (rI d_D_scuffsAreSo_148 rfl) d_D_scuffsAreSo_149 (by decide))) (rGoE (p2 := 157) (rI d_D_scuffsAreSo_152 rfl) d_D_scuffsAreSo_153 (by decide)) (rI d_D_scuffsAreSo_156 rfl)) d_D_scuffsAreSo_157 (by decide)))) (sRz (xE (rI d_D_scuffsAreSo_160 rfl)) d_D_scuffsAreSo_161 rfl))))))))) (sGo (pn := 12) (sInc d_D_scuffsAreSo_162 (by decide)) d_D_scuffsAreSo_165 (by decide)))) (sRz (xE (rI d_D_scuffsAreSo_168 rfl)) d_D_scuffsAreSo_169 rfl))))
def y_M_areSo : zMt := (⟨"DebtDoorsModel", "areSo", "(III)Z"⟩, prog_14_method_132_code, 9, some .boolean)
theorem d_M_areSo_0 : decode prog_14_method_132_code 0 = .ok (.iconst 0, 1) := by decide +kernel
theorem d_M_areSo_1 : decode prog_14_method_132_code 1 = .ok (.istore 4, 2) := by decide +kernel
theorem d_M_areSo_3 : decode prog_14_method_132_code 3 = .ok (.iload 4, 2) := by decide +kernel
theorem d_M_areSo_5 : decode prog_14_method_132_code 5 = .ok (.aload_n 0, 1) := by decide +kernel
theorem d_M_areSo_6 : decode prog_14_method_132_code 6 = .ok (.getfield 24, 3) := by decide +kernel
theorem d_M_areSo_9 : decode prog_14_method_132_code 9 = .ok (.sipush 154, 3) := by decide +kernel
theorem d_M_areSo_12 : decode prog_14_method_132_code 12 = .ok (.iaload, 1) := by decide +kernel
theorem d_M_areSo_13 : decode prog_14_method_132_code 13 = .ok (.if_icmp .ge 157, 3) := by decide +kernel
theorem d_M_areSo_16 : decode prog_14_method_132_code 16 = .ok (.aload_n 0, 1) := by decide +kernel
theorem d_M_areSo_17 : decode prog_14_method_132_code 17 = .ok (.getfield 24, 3) := by decide +kernel
theorem d_M_areSo_20 : decode prog_14_method_132_code 20 = .ok (.bipush 119, 2) := by decide +kernel
theorem d_M_areSo_22 : decode prog_14_method_132_code 22 = .ok (.iconst 4, 1) := by decide +kernel
theorem d_M_areSo_23 : decode prog_14_method_132_code 23 = .ok (.iload 4, 2) := by decide +kernel
theorem d_M_areSo_25 : decode prog_14_method_132_code 25 = .ok (.imul, 1) := by decide +kernel
theorem d_M_areSo_26 : decode prog_14_method_132_code 26 = .ok (.iadd, 1) := by decide +kernel
theorem d_M_areSo_27 : decode prog_14_method_132_code 27 = .ok (.iaload, 1) := by decide +kernel
theorem d_M_areSo_28 : decode prog_14_method_132_code 28 = .ok (.istore 5, 2) := by decide +kernel
theorem d_M_areSo_30 : decode prog_14_method_132_code 30 = .ok (.aload_n 0, 1) := by decide +kernel
theorem d_M_areSo_31 : decode prog_14_method_132_code 31 = .ok (.getfield 24, 3) := by decide +kernel
theorem d_M_areSo_34 : decode prog_14_method_132_code 34 = .ok (.bipush 119, 2) := by decide +kernel
theorem d_M_areSo_36 : decode prog_14_method_132_code 36 = .ok (.iconst 4, 1) := by decide +kernel
theorem d_M_areSo_37 : decode prog_14_method_132_code 37 = .ok (.iload 4, 2) := by decide +kernel
theorem d_M_areSo_39 : decode prog_14_method_132_code 39 = .ok (.imul, 1) := by decide +kernel
theorem d_M_areSo_40 : decode prog_14_method_132_code 40 = .ok (.iadd, 1) := by decide +kernel
theorem d_M_areSo_41 : decode prog_14_method_132_code 41 = .ok (.iconst 1, 1) := by decide +kernel
theorem d_M_areSo_42 : decode prog_14_method_132_code 42 = .ok (.iadd, 1) := by decide +kernel
theorem d_M_areSo_43 : decode prog_14_method_132_code 43 = .ok (.iaload, 1) := by decide +kernel
theorem d_M_areSo_44 : decode prog_14_method_132_code 44 = .ok (.istore 6, 2) := by decide +kernel
theorem d_M_areSo_46 : decode prog_14_method_132_code 46 = .ok (.aload_n 0, 1) := by decide +kernel
theorem d_M_areSo_47 : decode prog_14_method_132_code 47 = .ok (.iload 6, 2) := by decide +kernel
theorem d_M_areSo_49 : decode prog_14_method_132_code 49 = .ok (.iload 5, 2) := by decide +kernel
theorem d_M_areSo_51 : decode prog_14_method_132_code 51 = .ok (.invokevirtual 178, 3) := by decide +kernel
theorem d_M_areSo_54 : decode prog_14_method_132_code 54 = .ok (.iload_n 1, 1) := by decide +kernel
theorem d_M_areSo_55 : decode prog_14_method_132_code 55 = .ok (.iload 6, 2) := by decide +kernel
theorem d_M_areSo_57 : decode prog_14_method_132_code 57 = .ok (.if_icmp .ne 13, 3) := by decide +kernel
theorem d_M_areSo_60 : decode prog_14_method_132_code 60 = .ok (.iload_n 2, 1) := by decide +kernel
theorem d_M_areSo_61 : decode prog_14_method_132_code 61 = .ok (.iload 5, 2) := by decide +kernel
theorem d_M_areSo_63 : decode prog_14_method_132_code 63 = .ok (.if_icmp .ne 7, 3) := by decide +kernel
theorem d_M_areSo_66 : decode prog_14_method_132_code 66 = .ok (.iload_n 3, 1) := by decide +kernel
theorem d_M_areSo_67 : decode prog_14_method_132_code 67 = .ok (.goto 4, 3) := by decide +kernel
theorem d_M_areSo_70 : decode prog_14_method_132_code 70 = .ok (.iconst 0, 1) := by decide +kernel
theorem d_M_areSo_71 : decode prog_14_method_132_code 71 = .ok (.iadd, 1) := by decide +kernel
theorem d_M_areSo_72 : decode prog_14_method_132_code 72 = .ok (.istore 7, 2) := by decide +kernel
theorem d_M_areSo_74 : decode prog_14_method_132_code 74 = .ok (.aload_n 0, 1) := by decide +kernel
theorem d_M_areSo_75 : decode prog_14_method_132_code 75 = .ok (.iload 5, 2) := by decide +kernel
theorem d_M_areSo_77 : decode prog_14_method_132_code 77 = .ok (.iload 6, 2) := by decide +kernel
theorem d_M_areSo_79 : decode prog_14_method_132_code 79 = .ok (.invokevirtual 178, 3) := by decide +kernel
theorem d_M_areSo_82 : decode prog_14_method_132_code 82 = .ok (.iload_n 1, 1) := by decide +kernel
theorem d_M_areSo_83 : decode prog_14_method_132_code 83 = .ok (.iload 5, 2) := by decide +kernel
theorem d_M_areSo_85 : decode prog_14_method_132_code 85 = .ok (.if_icmp .ne 13, 3) := by decide +kernel
theorem d_M_areSo_88 : decode prog_14_method_132_code 88 = .ok (.iload_n 2, 1) := by decide +kernel
theorem d_M_areSo_89 : decode prog_14_method_132_code 89 = .ok (.iload 6, 2) := by decide +kernel
theorem d_M_areSo_91 : decode prog_14_method_132_code 91 = .ok (.if_icmp .ne 7, 3) := by decide +kernel
theorem d_M_areSo_94 : decode prog_14_method_132_code 94 = .ok (.iload_n 3, 1) := by decide +kernel
theorem d_M_areSo_95 : decode prog_14_method_132_code 95 = .ok (.goto 4, 3) := by decide +kernel
theorem d_M_areSo_98 : decode prog_14_method_132_code 98 = .ok (.iconst 0, 1) := by decide +kernel
theorem d_M_areSo_99 : decode prog_14_method_132_code 99 = .ok (.iadd, 1) := by decide +kernel
theorem d_M_areSo_100 : decode prog_14_method_132_code 100 = .ok (.istore 8, 2) := by decide +kernel
theorem d_M_areSo_102 : decode prog_14_method_132_code 102 = .ok (.aload_n 0, 1) := by decide +kernel
theorem d_M_areSo_103 : decode prog_14_method_132_code 103 = .ok (.iload 6, 2) := by decide +kernel
theorem d_M_areSo_105 : decode prog_14_method_132_code 105 = .ok (.iload 5, 2) := by decide +kernel
theorem d_M_areSo_107 : decode prog_14_method_132_code 107 = .ok (.iload 7, 2) := by decide +kernel
theorem d_M_areSo_109 : decode prog_14_method_132_code 109 = .ok (.iload 8, 2) := by decide +kernel
theorem d_M_areSo_111 : decode prog_14_method_132_code 111 = .ok (.invokevirtual 338, 3) := by decide +kernel
theorem d_M_areSo_114 : decode prog_14_method_132_code 114 = .ok (.aload_n 0, 1) := by decide +kernel
theorem d_M_areSo_115 : decode prog_14_method_132_code 115 = .ok (.getfield 24, 3) := by decide +kernel
theorem d_M_areSo_118 : decode prog_14_method_132_code 118 = .ok (.bipush 119, 2) := by decide +kernel
theorem d_M_areSo_120 : decode prog_14_method_132_code 120 = .ok (.iconst 4, 1) := by decide +kernel
theorem d_M_areSo_121 : decode prog_14_method_132_code 121 = .ok (.iload 4, 2) := by decide +kernel
theorem d_M_areSo_123 : decode prog_14_method_132_code 123 = .ok (.imul, 1) := by decide +kernel
theorem d_M_areSo_124 : decode prog_14_method_132_code 124 = .ok (.iadd, 1) := by decide +kernel
theorem d_M_areSo_125 : decode prog_14_method_132_code 125 = .ok (.iconst 2, 1) := by decide +kernel
theorem d_M_areSo_126 : decode prog_14_method_132_code 126 = .ok (.iadd, 1) := by decide +kernel
theorem d_M_areSo_127 : decode prog_14_method_132_code 127 = .ok (.iaload, 1) := by decide +kernel
theorem d_M_areSo_128 : decode prog_14_method_132_code 128 = .ok (.if_icmp .lt 7, 3) := by decide +kernel
theorem d_M_areSo_131 : decode prog_14_method_132_code 131 = .ok (.iconst 1, 1) := by decide +kernel
theorem d_M_areSo_132 : decode prog_14_method_132_code 132 = .ok (.goto 4, 3) := by decide +kernel
theorem d_M_areSo_135 : decode prog_14_method_132_code 135 = .ok (.iconst 0, 1) := by decide +kernel
theorem d_M_areSo_136 : decode prog_14_method_132_code 136 = .ok (.aload_n 0, 1) := by decide +kernel
theorem d_M_areSo_137 : decode prog_14_method_132_code 137 = .ok (.getfield 24, 3) := by decide +kernel
theorem d_M_areSo_140 : decode prog_14_method_132_code 140 = .ok (.bipush 119, 2) := by decide +kernel
theorem d_M_areSo_142 : decode prog_14_method_132_code 142 = .ok (.iconst 4, 1) := by decide +kernel
theorem d_M_areSo_143 : decode prog_14_method_132_code 143 = .ok (.iload 4, 2) := by decide +kernel
theorem d_M_areSo_145 : decode prog_14_method_132_code 145 = .ok (.imul, 1) := by decide +kernel
theorem d_M_areSo_146 : decode prog_14_method_132_code 146 = .ok (.iadd, 1) := by decide +kernel
theorem d_M_areSo_147 : decode prog_14_method_132_code 147 = .ok (.iconst 3, 1) := by decide +kernel
theorem d_M_areSo_148 : decode prog_14_method_132_code 148 = .ok (.iadd, 1) := by decide +kernel
theorem d_M_areSo_149 : decode prog_14_method_132_code 149 = .ok (.iaload, 1) := by decide +kernel
theorem d_M_areSo_150 : decode prog_14_method_132_code 150 = .ok (.iconst 1, 1) := by decide +kernel
theorem d_M_areSo_151 : decode prog_14_method_132_code 151 = .ok (.if_icmp .ne 7, 3) := by decide +kernel
theorem d_M_areSo_154 : decode prog_14_method_132_code 154 = .ok (.iconst 1, 1) := by decide +kernel
theorem d_M_areSo_155 : decode prog_14_method_132_code 155 = .ok (.goto 4, 3) := by decide +kernel
theorem d_M_areSo_158 : decode prog_14_method_132_code 158 = .ok (.iconst 0, 1) := by decide +kernel
theorem d_M_areSo_159 : decode prog_14_method_132_code 159 = .ok (.if_icmp .eq 5, 3) := by decide +kernel
theorem d_M_areSo_162 : decode prog_14_method_132_code 162 = .ok (.iconst 0, 1) := by decide +kernel
theorem d_M_areSo_163 : decode prog_14_method_132_code 163 = .ok (.ireturn, 1) := by decide +kernel
theorem d_M_areSo_164 : decode prog_14_method_132_code 164 = .ok (.iinc 4 1, 3) := by decide +kernel
theorem d_M_areSo_167 : decode prog_14_method_132_code 167 = .ok (.goto (-164), 3) := by decide +kernel
theorem d_M_areSo_170 : decode prog_14_method_132_code 170 = .ok (.iconst 1, 1) := by decide +kernel
theorem d_M_areSo_171 : decode prog_14_method_132_code 171 = .ok (.ireturn, 1) := by decide +kernel
def w_M_areSo {d : Nat} (hd : 3 ≤ d) := (show SS ("DebtDoorsModel", prog_14_method_132_code, 9) (some .boolean) d 0 0 0 0 _ from (sS (p1 := 170) (sS (p1 := 3) (sI (xE (rI d_M_areSo_0 rfl)) d_M_areSo_1 (by decide)) (sLp (ps := 164) (tt := 16) (pn := 170) (p1 := 0) (p2 := 0) (xC (rNot (rJ2 (tgt := 170) j_ge (rIl d_M_areSo_3) (rIa (rFr fl_M_24 nk_12_2 (rAn 0 d_M_areSo_5 rfl) d_M_areSo_6) (rSi d_M_areSo_9 rfl) d_M_areSo_12) d_M_areSo_13 (by decide)))) (sS (p1 := 30) (sI (xE (rIa (rFr fl_M_24 nk_12_2 (rAn 0 d_M_areSo_16 rfl) d_M_areSo_17) (r2 o_add (rB d_M_areSo_20 rfl) (r2 o_mul (rI d_M_areSo_22 rfl) (rIl d_M_areSo_23) d_M_areSo_25) d_M_areSo_26) d_M_areSo_27)) d_M_areSo_28 (by decide)) (sS (p1 := 46) (sI (xE (rIa (rFr fl_M_24 nk_12_2 (rAn 0 d_M_areSo_30 rfl) d_M_areSo_31) (r2 o_add (r2 o_add (rB d_M_areSo_34 rfl) (r2 o_mul (rI d_M_areSo_36 rfl) (rIl d_M_areSo_37) d_M_areSo_39) d_M_areSo_40) (rI d_M_areSo_41 rfl) d_M_areSo_42) d_M_areSo_43)) d_M_areSo_44 (by decide)) (sS (p1 := 74) (sI (xE (r2 o_add (rV p_M_owed (Nat.le_trans (Nat.le_of_ble_eq_true rfl) hd) lv_M_178 (rAi (rAi (rAr rA0 (rAn 0 d_M_areSo_46 rfl)) (rIl d_M_areSo_47)) (rIl d_M_areSo_49)) (by decide) d_M_areSo_51) (rT2 (rAnd (mm := 60) (rNot (rJ2 (tgt := 70) j_ne (rIn 1 d_M_areSo_54 rfl) (rIl d_M_areSo_55) d_M_areSo_57 (by decide))) (rNot (rJ2 (tgt := 70) j_ne (rIn 2 d_M_areSo_60 rfl) (rIl d_M_areSo_61) d_M_areSo_63 (by decide)))) (rGoE (p2 := 71) (rIn 3 d_M_areSo_66 rfl) d_M_areSo_67 (by decide)) (rI d_M_areSo_70 rfl)) d_M_areSo_71)) d_M_areSo_72 (by decide)) (sS (p1 := 102) (sI (xE (r2 o_add (rV p_M_owed (Nat.le_trans (Nat.le_of_ble_eq_true rfl) hd) lv_M_178 (rAi (rAi (rAr rA0 (rAn 0 d_M_areSo_74 rfl)) (rIl d_M_areSo_75)) (rIl d_M_areSo_77)) (by decide) d_M_areSo_79) (rT2 (rAnd (mm := 88) (rNot (rJ2 (tgt := 98) j_ne (rIn 1 d_M_areSo_82 rfl) (rIl d_M_areSo_83) d_M_areSo_85 (by decide))) (rNot (rJ2 (tgt := 98) j_ne (rIn 2 d_M_areSo_88 rfl) (rIl d_M_areSo_89) d_M_areSo_91 (by decide)))) (rGoE (p2 := 99) (rIn 3 d_M_areSo_94 rfl) d_M_areSo_95 (by decide)) (rI d_M_areSo_98 rfl)) d_M_areSo_99)) d_M_areSo_100 (by decide)) (sIf (pn := 164) (tt := 162) (xNot (xJ2 (tgt := 164) j_eq (xTb (xNot (xJ2 (tgt := 135) j_lt (xV lv_M_338 (xA (rAi (rAi (rAi (rAi (rAr rA0 (rAn 0 d_M_areSo_102 rfl)) (rIl d_M_areSo_103)) (rIl d_M_areSo_105)) (rIl d_M_areSo_107)) (rIl d_M_areSo_109))) (by decide) d_M_areSo_111) (xE (rIa (rFr fl_M_24 nk_12_2 (rAn 0 d_M_areSo_114 rfl) d_M_areSo_115) (r2 o_add (r2 o_add (rB d_M_areSo_118 rfl) (r2 o_mul (rI d_M_areSo_120 rfl) (rIl d_M_areSo_121) d_M_areSo_123) d_M_areSo_124) (rI d_M_areSo_125 rfl) d_M_areSo_126) d_M_areSo_127)) d_M_areSo_128 (by decide))) (rGoE (p2 := 136) (rI d_M_areSo_131 rfl) d_M_areSo_132 (by decide)) (rI d_M_areSo_135 rfl)) (xE (rTb (rNot (rJ2 (tgt := 158) j_ne (rIa (rFr fl_M_24 nk_12_2 (rAn 0 d_M_areSo_136 rfl) d_M_areSo_137) (r2 o_add (r2 o_add (rB d_M_areSo_140 rfl) (r2 o_mul (rI d_M_areSo_142 rfl) (rIl d_M_areSo_143) d_M_areSo_145) d_M_areSo_146) (rI d_M_areSo_147 rfl) d_M_areSo_148) d_M_areSo_149) (rI d_M_areSo_150 rfl) d_M_areSo_151 (by decide))) (rGoE (p2 := 159) (rI d_M_areSo_154 rfl) d_M_areSo_155 (by decide)) (rI d_M_areSo_158 rfl))) d_M_areSo_159 (by decide))) (sRz (xE (rI d_M_areSo_162 rfl)) d_M_areSo_163 rfl)))))) (sGo (pn := 3) (sInc d_M_areSo_164 (by decide)) d_M_areSo_167 (by decide)))) (sRz (xE (rI d_M_areSo_170 rfl)) d_M_areSo_171 rfl)))
theorem q_D_scuffsAreSo {d : Nat} (hd : 7 ≤ d) {μ : zMem} {Z : Zt} {F : Option (List Cls)} {A : Lg} {w : Int → Int} {S : List D4} {a b m : Int} (h : CTx μ Z F A w) (hS : VCx 20 9 1 μ S) (hm : 0 ≤ owL a b A.2.1 + m ∧ -10000 ≤ m ∧ m ≤ 10000) : zSp d 0 0 y_D_scuffsAreSo zT0 [vr 0, vi a, vi b, vi m] μ zT0 (fun q μ' => q = some (vi (zbp (soA Z F A w S a b m))) ∧ CF w μ μ') := by
  have hw := h.2.2.2.2.2
  have hSl := hS.l
  refine zSp.ss [vr 0, vi a, vi b, vi m, vx 0, vx 0, vx 0, vx 0, vx 0, vx 0, vx 0, vx 0] rfl (w_D_scuffsAreSo (Nat.le_trans (by decide) hd)) rfl rfl ?_
  (try simp only [zit_e, Bool.and_eq_true, Bool.or_eq_true, Bool.not_eq_true', Bool.and_eq_false_iff, Bool.or_eq_false_iff, Bool.not_eq_false', zbe, zdt, zdf, zb2_p, zbp_0, zbp_1, zbp_inj, zbp_01, Bool.true_eq_false, Bool.false_eq_true, true_and, and_true, Decidable.not_not, Classical.not_not, implies_true, List.nil_append, List.cons_append, List.append_assoc, Option.some.injEq, Sum.inl.injEq, zSw_c, zSw_n]); (try simp only [zit_e, Bool.and_eq_true, Bool.or_eq_true, Bool.not_eq_true', Bool.and_eq_false_iff, Bool.or_eq_false_iff, Bool.not_eq_false', zbe, zdt, zdf, zb2_p, zbp_0, zbp_1, zbp_inj, zbp_01, Bool.true_eq_false, Bool.false_eq_true, true_and, and_true, Decidable.not_not, Classical.not_not, implies_true, List.nil_append, List.cons_append, List.append_assoc, Option.some.injEq, Sum.inl.injEq, zSw_c, zSw_n, zc_0, zc_1, zc_2]); (try simp only [zi_cs, zi_c0, zii_cs, zii_c0, zl_cs, zl_c0, zll_cs, zll_c0, zr_cs, zr_c0, zrr_cs, zrr_c0, zxs_cs, zxs_c0, zxx_cs, zxx_c0, zfree_c0, zfree_c1, zfree_cs, zfree_cz, zlong_i, zlong_r, zlong_x, zset_0, zset_s, true_and, and_true, Option.some.injEq, Sum.inl.injEq, Sum.inr.injEq, zb2_p, zbp_0, zbp_1, zbp_inj, zbp_01, Nat.zero_add, Nat.reduceAdd, implies_true, List.nil_append, List.cons_append, List.append_assoc, Int.not_lt, Int.not_le, Decidable.not_not, Int.zero_add, Int.reduceLE, Int.reduceLT, Int.reduceEq, Int.reduceNe, Int.reduceAdd, Int.reduceSub, Int.reduceMul, Int.reduceNeg, Int.reduceToNat, Nat.reduceMul, Nat.reduceLT, Nat.reduceEqDiff, and_self, ite_true, ite_false, zx1, zx2, zRecv, List.length_cons, List.length_nil, ne_eq, not_true_eq_false, not_false_eq_true, true_or, or_true, or_false, false_or, and_false, false_and, zf01, zf10, reduceCtorEq, zSw_c, zSw_n, zm_r, zit_T, zit_F, false_implies, true_implies, zc_0, zc_1, zc_2])
  refine zLoop.up S.length (fun j ρ μ1 => ∃ (x6 x7 x8 x9 x10 x11 : zV), ρ = [vr 0, vi a, vi b, vi m, vr 2, vi j, x6, x7, x8, x9, x10, x11] ∧ CF w μ μ1 ∧ ∀ k : Nat, k < j → so1 Z F A w a b m (dfV S k)) ⟨_, _, _, _, _, _, rfl, CF.rf hw, fun k hk => absurd hk (Nat.not_lt_zero k)⟩ ?_
  rintro j ρ μ1 hj ⟨x6, x7, x8, x9, x10, x11, rfl, hF, hp⟩
  have h1 := h.f hF
  have hd1 := h1.d
  have hS1 : VCx 20 9 1 μ1 S := hS.k (hF.1 1 (by decide)) (fun c p q => hF.1 c (by simp only [List.mem_cons, List.not_mem_nil, or_false]; omega))
  have hSl1 := hS1.l
  (try simp only [zit_e, Bool.and_eq_true, Bool.or_eq_true, Bool.not_eq_true', Bool.and_eq_false_iff, Bool.or_eq_false_iff, Bool.not_eq_false', zbe, zdt, zdf, zb2_p, zbp_0, zbp_1, zbp_inj, zbp_01, Bool.true_eq_false, Bool.false_eq_true, true_and, and_true, Decidable.not_not, Classical.not_not, implies_true, List.nil_append, List.cons_append, List.append_assoc, Option.some.injEq, Sum.inl.injEq, zSw_c, zSw_n]); (try simp only [zit_e, Bool.and_eq_true, Bool.or_eq_true, Bool.not_eq_true', Bool.and_eq_false_iff, Bool.or_eq_false_iff, Bool.not_eq_false', zbe, zdt, zdf, zb2_p, zbp_0, zbp_1, zbp_inj, zbp_01, Bool.true_eq_false, Bool.false_eq_true, true_and, and_true, Decidable.not_not, Classical.not_not, implies_true, List.nil_append, List.cons_append, List.append_assoc, Option.some.injEq, Sum.inl.injEq, zSw_c, zSw_n, zc_0, zc_1, zc_2, zc_324, f_Le_owed, g_Le_owed]); (try simp only [zi_cs, zi_c0, zii_cs, zii_c0, zl_cs, zl_c0, zll_cs, zll_c0, zr_cs, zr_c0, zrr_cs, zrr_c0, zxs_cs, zxs_c0, zxx_cs, zxx_c0, zfree_c0, zfree_c1, zfree_cs, zfree_cz, zlong_i, zlong_r, zlong_x, zset_0, zset_s, true_and, and_true, Option.some.injEq, Sum.inl.injEq, Sum.inr.injEq, zb2_p, zbp_0, zbp_1, zbp_inj, zbp_01, Nat.zero_add, Nat.reduceAdd, implies_true, List.nil_append, List.cons_append, List.append_assoc, Int.not_lt, Int.not_le, Decidable.not_not, Int.zero_add, Int.reduceLE, Int.reduceLT, Int.reduceEq, Int.reduceNe, Int.reduceAdd, Int.reduceSub, Int.reduceMul, Int.reduceNeg, Int.reduceToNat, Nat.reduceMul, Nat.reduceLT, Nat.reduceEqDiff, and_self, ite_true, ite_false, zx1, zx2, zRecv, List.length_cons, List.length_nil, ne_eq, not_true_eq_false, not_false_eq_true, true_or, or_true, or_false, false_or, and_false, false_and, zf01, zf10, reduceCtorEq, zSw_c, zSw_n, zm_r, zit_T, zit_F, false_implies, true_implies, zc_0, zc_1, zc_2, zc_324, f_Le_owed, g_Le_owed])
  rw [hSl1]
  have h8 := hS1.1
  refine zif (fun c0 => ?_) (fun c0 => ?_)
  · obtain ⟨⟨e1, e2, e3, e4⟩, e5⟩ := hS1.e (k := j) (by omega) c0
    have hz := zpa10 (i := j) (by omega) (by omega)
    rw [hz.1.2]
    simp only [hz.2.2.1, hz.2.2.2]
    rw [hd1.1, e1, e2]
    generalize hx : dfV S j = x at *
    have lf : ∀ {μ2 : zMem} {C : Prop} {inst : Decidable C} {y6 y7 y8 y9 y10 y11 : zV}, (C ↔ ¬ so1 Z F A w a b m x) → CF w μ1 μ2 → @ite Prop C inst (0 = zbp (soA Z F A w S a b m) ∧ CF w μ μ2) (zI ((j : Int) + 1) ∧ ∃ m', m' < S.length - j ∧ ∃ j', m' = S.length - j' ∧ j' ≤ S.length ∧ ∃ x6 x7 x8 x9 x10 x11, [vr 0, vi a, vi b, vi m, vr 2, vi ((j : Int) + 1), y6, y7, y8, y9, y10, y11] = [vr 0, vi a, vi b, vi m, vr 2, vi j', x6, x7, x8, x9, x10, x11] ∧ CF w μ μ2 ∧ ∀ k : Nat, k < j' → so1 Z F A w a b m (dfV S k)) := by
      intro μ2 C inst y6 y7 y8 y9 y10 y11 hC hf
      refine zif (fun c1 => ?_) (fun c1 => ?_)
      · refine ⟨(zbf (fun q => hC.mp c1 ?_)).symm, hF.tr hf⟩
        have := q j (by omega)
        rw [hx] at this
        exact this
      · refine ⟨zI_s (by omega) (by omega), S.length - (j + 1), by omega, j + 1, rfl, by omega, _, _, _, _, _, _, rfl, hF.tr hf, fun k hk => ?_⟩
        by_cases ek : k = j
        · subst ek
          rw [hx]
          exact Classical.not_not.mp (fun q => c1 (hC.mpr q))
        · exact hp k (by omega)
    have b1 := owA (a := x.2.1) (b := x.1) h1.2.1
    have b2 := owA (a := x.1) (b := x.2.1) h1.2.1
    obtain ⟨o1, o2, o3, o4, o5⟩ := e5
    have hj4 : 0 ≤ (j : Int) ∧ (j : Int) < 8 := by omega
    refine ⟨⟨by decide, hj4⟩, ⟨trivial, by decide⟩, ⟨trivial, by decide⟩, hd1.2.2.2.1, hd1.2.2.2.1, ?_⟩
    have fr : ∀ {μ2 : zMem}, CF w μ1 μ2 → μ2 (20 + (j : Int).toNat) 2 = x.2.2.1 ∧ μ2 (20 + (j : Int).toNat) 3 = x.2.2.2 := by
      intro μ2 hf
      rw [hf.1 _ (by simp only [List.mem_cons, List.not_mem_nil, or_false]; omega)]
      exact ⟨e3, e4⟩
    refine zif (fun c1 => ?_) (fun c1 => ?_)
    · have q1 : owL x.2.1 x.1 A.2.1 = owL a b A.2.1 := by rw [c1.1, c1.2]
      refine ⟨zI_s (by omega) (by omega), zCw.use (q_C_depth (d := 6) (by decide) h1 o2 o1 (by omega) (by omega)) (by omega) (fun q μ2 e => ?_)⟩
      obtain ⟨rfl, hf⟩ := e
      obtain ⟨f1, f2⟩ := fr hf
      rw [f1, f2]
      refine ⟨_, rfl, ⟨trivial, by decide⟩, ⟨trivial, by decide⟩, lf ?_ hf⟩
      unfold so1
      rw [zit_t c1, zit_f (fun q => o3 (by omega)), Int.add_zero]
    · refine zif (fun c2 => ?_) (fun c2 => ?_)
      · have q1 : owL x.1 x.2.1 A.2.1 = owL a b A.2.1 := by rw [c2.1, c2.2]
        refine ⟨zI_s (by omega) (by omega), zCw.use (q_C_depth (d := 6) (by decide) h1 o2 o1 (by omega) (by omega)) (by omega) (fun q μ2 e => ?_)⟩
        obtain ⟨rfl, hf⟩ := e
        obtain ⟨f1, f2⟩ := fr hf
        rw [f1, f2]
        refine ⟨_, rfl, ⟨trivial, by decide⟩, ⟨trivial, by decide⟩, lf ?_ hf⟩
        unfold so1
        rw [zit_f c1, zit_t c2, Int.add_zero]
      · refine zCw.use (q_C_depth (d := 6) (by decide) h1 o2 o1 (by omega) (by omega)) (by omega) (fun q μ2 e => ?_)
        obtain ⟨rfl, hf⟩ := e
        obtain ⟨f1, f2⟩ := fr hf
        rw [f1, f2]
        refine ⟨_, rfl, ⟨trivial, by decide⟩, ⟨trivial, by decide⟩, lf ?_ hf⟩
        unfold so1
        rw [zit_f c1, zit_f c2, Int.add_zero, Int.add_zero]
  · have e : j = S.length := by omega
    subst e
    exact ⟨(zbt hp).symm, hF⟩
theorem q_M_areSo {d : Nat} (hd : 49 ≤ d) {μ : zMem} {Z : Zt} {F : Option (List Cls)} {A : Lg} {w : Int → Int} {S : List D4} {a b m : Int} (h : MTx μ Z F A w) (hS : VMx 119 154 1 μ S) (hm : 0 ≤ owL a b A.2.1 + m ∧ -10000 ≤ m ∧ m ≤ 10000) : zSp d 0 0 y_M_areSo zT0 [vr 355, vi a, vi b, vi m] μ zT0 (fun q μ' => q = some (vi (zbp (soA Z F A w S a b m))) ∧ MF μ μ') := by
  refine zSp.ss [vr 355, vi a, vi b, vi m, vx 0, vx 0, vx 0, vx 0, vx 0] rfl (w_M_areSo (Nat.le_trans (by decide) hd)) rfl rfl ?_
  (try simp only [zit_e, Bool.and_eq_true, Bool.or_eq_true, Bool.not_eq_true', Bool.and_eq_false_iff, Bool.or_eq_false_iff, Bool.not_eq_false', zbe, zdt, zdf, zb2_p, zbp_0, zbp_1, zbp_inj, zbp_01, Bool.true_eq_false, Bool.false_eq_true, true_and, and_true, Decidable.not_not, Classical.not_not, implies_true, List.nil_append, List.cons_append, List.append_assoc, Option.some.injEq, Sum.inl.injEq, zSw_c, zSw_n]); (try simp only [zit_e, Bool.and_eq_true, Bool.or_eq_true, Bool.not_eq_true', Bool.and_eq_false_iff, Bool.or_eq_false_iff, Bool.not_eq_false', zbe, zdt, zdf, zb2_p, zbp_0, zbp_1, zbp_inj, zbp_01, Bool.true_eq_false, Bool.false_eq_true, true_and, and_true, Decidable.not_not, Classical.not_not, implies_true, List.nil_append, List.cons_append, List.append_assoc, Option.some.injEq, Sum.inl.injEq, zSw_c, zSw_n, zc_355]); (try simp only [zi_cs, zi_c0, zii_cs, zii_c0, zl_cs, zl_c0, zll_cs, zll_c0, zr_cs, zr_c0, zrr_cs, zrr_c0, zxs_cs, zxs_c0, zxx_cs, zxx_c0, zfree_c0, zfree_c1, zfree_cs, zfree_cz, zlong_i, zlong_r, zlong_x, zset_0, zset_s, true_and, and_true, Option.some.injEq, Sum.inl.injEq, Sum.inr.injEq, zb2_p, zbp_0, zbp_1, zbp_inj, zbp_01, Nat.zero_add, Nat.reduceAdd, implies_true, List.nil_append, List.cons_append, List.append_assoc, Int.not_lt, Int.not_le, Decidable.not_not, Int.zero_add, Int.reduceLE, Int.reduceLT, Int.reduceEq, Int.reduceNe, Int.reduceAdd, Int.reduceSub, Int.reduceMul, Int.reduceNeg, Int.reduceToNat, Nat.reduceMul, Nat.reduceLT, Nat.reduceEqDiff, and_self, ite_true, ite_false, zx1, zx2, zRecv, List.length_cons, List.length_nil, ne_eq, not_true_eq_false, not_false_eq_true, true_or, or_true, or_false, false_or, and_false, false_and, zf01, zf10, reduceCtorEq, zSw_c, zSw_n, zm_r, zit_T, zit_F, false_implies, true_implies, zc_355])
  refine zLoop.up S.length (fun j ρ μ1 => ∃ (x5 x6 x7 x8 : zV), ρ = [vr 355, vi a, vi b, vi m, vi j, x5, x6, x7, x8] ∧ MF μ μ1 ∧ ∀ k : Nat, k < j → so1 Z F A w a b m (dfV S k)) ⟨_, _, _, _, rfl, MF.rf, fun k hk => absurd hk (Nat.not_lt_zero k)⟩ ?_
  rintro j ρ μ1 hj ⟨x5, x6, x7, x8, rfl, hF, hp⟩
  have h1 := h.f hF
  have hd1 := h1.d
  have hS1 : VMx 119 154 1 μ1 S := hS.k (hF.2 357 (by decide))
  have hSl1 := hS1.l
  (try simp only [zit_e, Bool.and_eq_true, Bool.or_eq_true, Bool.not_eq_true', Bool.and_eq_false_iff, Bool.or_eq_false_iff, Bool.not_eq_false', zbe, zdt, zdf, zb2_p, zbp_0, zbp_1, zbp_inj, zbp_01, Bool.true_eq_false, Bool.false_eq_true, true_and, and_true, Decidable.not_not, Classical.not_not, implies_true, List.nil_append, List.cons_append, List.append_assoc, Option.some.injEq, Sum.inl.injEq, zSw_c, zSw_n]); (try simp only [zit_e, Bool.and_eq_true, Bool.or_eq_true, Bool.not_eq_true', Bool.and_eq_false_iff, Bool.or_eq_false_iff, Bool.not_eq_false', zbe, zdt, zdf, zb2_p, zbp_0, zbp_1, zbp_inj, zbp_01, Bool.true_eq_false, Bool.false_eq_true, true_and, and_true, Decidable.not_not, Classical.not_not, implies_true, List.nil_append, List.cons_append, List.append_assoc, Option.some.injEq, Sum.inl.injEq, zSw_c, zSw_n, zc_355, f_M_owed, g_M_owed]); (try simp only [zi_cs, zi_c0, zii_cs, zii_c0, zl_cs, zl_c0, zll_cs, zll_c0, zr_cs, zr_c0, zrr_cs, zrr_c0, zxs_cs, zxs_c0, zxx_cs, zxx_c0, zfree_c0, zfree_c1, zfree_cs, zfree_cz, zlong_i, zlong_r, zlong_x, zset_0, zset_s, true_and, and_true, Option.some.injEq, Sum.inl.injEq, Sum.inr.injEq, zb2_p, zbp_0, zbp_1, zbp_inj, zbp_01, Nat.zero_add, Nat.reduceAdd, implies_true, List.nil_append, List.cons_append, List.append_assoc, Int.not_lt, Int.not_le, Decidable.not_not, Int.zero_add, Int.reduceLE, Int.reduceLT, Int.reduceEq, Int.reduceNe, Int.reduceAdd, Int.reduceSub, Int.reduceMul, Int.reduceNeg, Int.reduceToNat, Nat.reduceMul, Nat.reduceLT, Nat.reduceEqDiff, and_self, ite_true, ite_false, zx1, zx2, zRecv, List.length_cons, List.length_nil, ne_eq, not_true_eq_false, not_false_eq_true, true_or, or_true, or_false, false_or, and_false, false_and, zf01, zf10, reduceCtorEq, zSw_c, zSw_n, zm_r, zit_T, zit_F, false_implies, true_implies, zc_355, f_M_owed, g_M_owed])
  rw [hSl1]
  have h8 := hS1.1
  refine zif (fun c0 => ?_) (fun c0 => ?_)
  · obtain ⟨⟨e1, e2, e3, e4⟩, e5⟩ := hS1.e (k := j) (by omega) c0
    rw [hd1.1, e1, e2]
    generalize hx : dfV S j = x at *
    have b1 := owA (a := x.2.1) (b := x.1) h1.2.1
    have b2 := owA (a := x.1) (b := x.2.1) h1.2.1
    obtain ⟨o1, o2, o3, o4, o5⟩ := e5
    have z1 : zit (a = x.2.1 ∧ b = x.1) m 0 = zit (x.2.1 = a ∧ x.1 = b) m 0 := by
      rw [eq_comm (a := a), eq_comm (a := b)]
    have z2 : zit (a = x.1 ∧ b = x.2.1) m 0 = zit (x.2.1 = b ∧ x.1 = a) m 0 := by
      rw [eq_comm (a := a), eq_comm (a := b), and_comm]
    have n1 : -1000000 ≤ owL x.2.1 x.1 A.2.1 + zit (x.2.1 = a ∧ x.1 = b) m 0 ∧ 0 ≤ owL x.2.1 x.1 A.2.1 + zit (x.2.1 = a ∧ x.1 = b) m 0 ∧ owL x.2.1 x.1 A.2.1 + zit (x.2.1 = a ∧ x.1 = b) m 0 ≤ 1000000 := by
      by_cases c : x.2.1 = a ∧ x.1 = b
      · have : owL x.2.1 x.1 A.2.1 = owL a b A.2.1 := by rw [c.1, c.2]
        rw [zit_t c]
        omega
      · rw [zit_f c]
        omega
    have n2 : -1000000 ≤ owL x.1 x.2.1 A.2.1 + zit (x.2.1 = b ∧ x.1 = a) m 0 ∧ owL x.1 x.2.1 A.2.1 + zit (x.2.1 = b ∧ x.1 = a) m 0 ≤ 1000000 := by
      unfold zit
      split <;> omega
    rw [z1, z2]
    refine ⟨⟨⟨zI_s (by omega) (by omega), zI_s (by omega) (by omega)⟩, by omega, by omega⟩, ⟨⟨⟨zI_s (by omega) (by omega), zI_s (by omega) (by omega)⟩, zI_s (by omega) (by omega)⟩, by omega, by omega⟩, ⟨hd1.2.2.2.1, zI_s (by omega) (by omega)⟩, ⟨hd1.2.2.2.1, zI_s (by omega) (by omega)⟩, ?_⟩
    refine zCw.use (q_R_deepBy (d := 48) (by decide) h1 o2 o1 n1.2 n2) (by omega) (fun q μ2 e => ?_)
    obtain ⟨rfl, hf⟩ := e
    rw [hf.2 357 (by decide), e3, e4]
    refine ⟨_, rfl, ⟨⟨⟨zI_s (by omega) (by omega), zI_s (by omega) (by omega)⟩, zI_s (by omega) (by omega)⟩, by omega, by omega⟩, ⟨⟨⟨zI_s (by omega) (by omega), zI_s (by omega) (by omega)⟩, zI_s (by omega) (by omega)⟩, by omega, by omega⟩, ?_⟩
    refine zif (fun c1 => ?_) (fun c1 => ?_)
    · refine ⟨(zbf (fun q => c1 ?_)).symm, hF.tr hf⟩
      have := q j (by omega)
      rw [hx] at this
      exact this
    · refine ⟨zI_s (by omega) (by omega), S.length - (j + 1), by omega, j + 1, rfl, by omega, _, _, _, _, rfl, hF.tr hf, fun k hk => ?_⟩
      by_cases ek : k = j
      · subst ek
        rw [hx]
        exact Classical.not_not.mp c1
      · exact hp k (by omega)
  · have e : j = S.length := by omega
    subst e
    exact ⟨(zbt hp).symm, hF⟩

