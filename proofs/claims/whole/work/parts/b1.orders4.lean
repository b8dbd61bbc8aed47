/-! orders: the class -/
theorem pCls_A {o : Bool} {c v : Nat → Int} {fin : Nat → Bool} {P : Cls → Prop} (hC : ∀ {t l w t1 l1 : Nat} {cl : Cls} {cd : List Int}, pcO o c v t l w = (t1, some (l1, cl, cd)) → P cl) : ∀ (f t l w t1 : Nat) (cs : List Cls) (cc : List Int), pCls c fin (pcO o c v) f t l w = (t1, some (cs, cc)) → ∀ cl, cl ∈ cs → P cl
  | 0, t, l, w, t1, cs, cc, e, cl, _ => by
    rw [pCls] at e
    cases e
  | f + 1, t, l, w, t1, cs, cc, e, cl, hx => by
    rcases e1 : pcO o c v t l w with ⟨t2, _ | ⟨l2, c2, d2⟩⟩
    · rw [pCls_n e1] at e
      cases e
    by_cases h9 : c t2 = 159
    · rw [pCls_s e1 h9] at e
      rcases e3 : pCls c fin (pcO o c v) f (t2 + 1) l2 (w + d2.length) with ⟨t3, _ | ⟨r3, c3⟩⟩
      · rw [e3] at e
        cases e
      rw [e3] at e
      cases e
      rw [List.mem_append, List.mem_singleton] at hx
      rcases hx with hx | hx
      · rw [hx]
        exact hC e1
      · exact pCls_A hC f _ _ _ _ _ _ e3 cl hx
    · rw [pCls_e e1 h9] at e
      split at e
      · cases e
        rw [List.mem_singleton] at hx
        rw [hx]
        exact hC e1
      · cases e
theorem ord_taken {B : Int → Int} {n t1 : Nat} {cs : List Cls} {cc : List Int} (hB : okB B n) (e : pCls (cT B n) (fun t => decide (n ≤ ps B n t)) (pcO true (cT B n) (vT B n)) 12 0 0 85 = (t1, some (cs, cc))) : 85 + cc.length ≤ 385 ∧ (∀ cl, cl ∈ cs → (0 ≤ cl.1 ∧ cl.1 ≤ 2) ∧ 1 ≤ cl.2.1 ∧ cl.2.1 ≤ 20) ∧ ∀ κ : Int → Int, κ 0 = (cs.length : Int) → cs.length ≤ 12 → (∀ (j : Nat) (cl : Cls), cs[j]? = some cl → Hd true κ j cl) → Seg κ 85 cc → LwC true κ cs := by
  have hlen := pCls_len _ _ _ _ _ _ _ (Nat.zero_le _) (Nat.zero_le _) e
  have h133 := NT_le133 hB n
  have hv : ∀ t, 0 ≤ vT B n t := fun t => vT_in
  have hpc : ∀ {t l w t1 l1 : Nat} {cl : Cls} {cd : List Int}, pcO true (cT B n) (vT B n) t l w = (t1, some (l1, cl, cd)) → pOrdC (cT B n) (vT B n) t l w = (t1, some (l1, cl, cd)) := by
    intro t l w t1 l1 cl cd q
    unfold pcO at q
    rwa [if_pos rfl] at q
  exact ⟨by omega, pCls_A (fun q => pOrdC_k (hpc q)) _ _ _ _ _ _ _ e, fun κ k0 k1 k2 k3 => ⟨k0, k1, fun j cl hj => ⟨k2 j cl hj, pCls_C (fun q r1 r2 => (pOrdC_C hv (hpc q) r1 r2).1) _ _ _ _ _ _ _ e k3 (by omega) cl (List.mem_of_getElem? hj)⟩⟩⟩
/-- copied back, the history is what it was -/
theorem unD_cp {a X Y : zMem} (hs : SlO a) (h1 : (∀ s : Int, 0 ≤ s → s < 17 → lgO X (slC 216 s) = lgO a (slC 111 s) ∧ X (slC 216 s) 5 = a (slC 111 s) 5) ∧ (∀ s : Int, 0 ≤ s → s < 17 → X 218 s = a 113 s) ∧ X 216 2 = a 111 2 ∧ X 216 3 = a 111 3) (h2 : (∀ s : Int, 0 ≤ s → s < 17 → lgO Y (slC 111 s) = lgO X (slC 216 s) ∧ Y (slC 111 s) 5 = X (slC 216 s) 5) ∧ (∀ s : Int, 0 ≤ s → s < 17 → Y 113 s = X 218 s) ∧ Y 111 2 = X 216 2 ∧ Y 111 3 = X 216 3) : SlO Y ∧ unD Y 111 = unD a 111 := by
  obtain ⟨p1, p2, p3, p4⟩ := h1
  obtain ⟨q1, q2, q3, q4⟩ := h2
  refine ⟨⟨by rw [q3, q4, p3, p4]; exact hs.1, fun s x y => by rw [(q1 s x y).2, (p1 s x y).2]; exact hs.2 s x y⟩, ?_⟩
  have hsl : ∀ i : Int, slI Y 111 i = slI a 111 i := fun i => by
    unfold slI
    rw [q3, p3]
  unfold unD
  rw [q4, p4]
  refine tL_congr (fun i _ _ => ?_)
  have hi := slI_in (μ := a) (U := 111) (i := i)
  rw [hsl, (q1 _ hi.1 hi.2).1, (p1 _ hi.1 hi.2).1, show (111 : Nat) + 2 = 113 from rfl, q2 _ hi.1 hi.2, p2 _ hi.1 hi.2]
/-- where orders write -/
def OwC (μ μ' : zMem) : Prop := (∀ c : Nat, c ≠ 0 → ¬ (2 ≤ c ∧ c ≤ 7) → ¬ (105 ≤ c ∧ c ≤ 321) → c ≠ 323 → ¬ (325 ≤ c ∧ c ≤ 327) → c ≠ 354 → μ' c = μ c) ∧ ∀ i : Int, i ≠ 15 → i ≠ 17 → i ≠ 18 → i ≠ 19 → μ' 0 i = μ 0 i
theorem m_Un_copyFrom : Cond.instanceMethod y_Un_copyFrom.1 ∈ zTb ∧ Cond.selects y_Un_copyFrom.1.cls y_Un_copyFrom.1 y_Un_copyFrom.1 ∈ zTb ∧ Cond.initialized y_Un_copyFrom.1.cls ∈ zTb ∧ Cond.code y_Un_copyFrom.1 y_Un_copyFrom.2.1 y_Un_copyFrom.2.2.1 y_Un_copyFrom.2.2.2 ∈ zTb ∧ (y_Un_copyFrom.1.cls ≠ "java/lang/invoke/MethodHandle" ∧ y_Un_copyFrom.1.cls ≠ "java/lang/invoke/VarHandle" ∧ (parseMethodDescriptor y_Un_copyFrom.1.desc).map (fun d => d.parameters.length) = some 1) ∧ y_Un_copyFrom.2.2.1 ≤ 20 :=
  ⟨(zTb_in 914 (by decide +kernel) (by decide +kernel)), (zTb_in 915 (by decide +kernel) (by decide +kernel)), (zTb_in 142 (by decide +kernel) (by decide +kernel)), (zTb_in 916 (by decide +kernel) (by decide +kernel)), by decide +kernel, by decide +kernel⟩
theorem lv_D_225 : zLv "DebtDoors" 225 y_Un_copyFrom 1 10 := ⟨⟨(zTb_in 913 (by decide +kernel) (by decide +kernel)), m_Un_copyFrom.1, m_Un_copyFrom.2.1, m_Un_copyFrom.2.2⟩, _, rfl, rfl⟩
theorem nk_11_5 : zNk 11 5 = none := rfl
theorem m_D_runOrders : Cond.instanceMethod y_D_runOrders.1 ∈ zTb ∧ Cond.selects y_D_runOrders.1.cls y_D_runOrders.1 y_D_runOrders.1 ∈ zTb ∧ Cond.initialized y_D_runOrders.1.cls ∈ zTb ∧ Cond.code y_D_runOrders.1 y_D_runOrders.2.1 y_D_runOrders.2.2.1 y_D_runOrders.2.2.2 ∈ zTb ∧ (y_D_runOrders.1.cls ≠ "java/lang/invoke/MethodHandle" ∧ y_D_runOrders.1.cls ≠ "java/lang/invoke/VarHandle" ∧ (parseMethodDescriptor y_D_runOrders.1.desc).map (fun d => d.parameters.length) = some 1) ∧ y_D_runOrders.2.2.1 ≤ 20 :=
  ⟨(zTb_in 920 (by decide +kernel) (by decide +kernel)), (List.mem_filter.mpr ⟨List.mem_append_left _ (by decide +kernel), by decide +kernel⟩), (zTb_in 139 (by decide +kernel) (by decide +kernel)), (zTb_in 921 (by decide +kernel) (by decide +kernel)), by decide +kernel, by decide +kernel⟩
theorem lv_D_228 : zLv "DebtDoors" 228 y_D_runOrders 1 11 := ⟨⟨(zTb_in 918 (by decide +kernel) (by decide +kernel)), m_D_runOrders.1, m_D_runOrders.2.1, m_D_runOrders.2.2⟩, _, rfl, rfl⟩
def y_D_orders : zMt := (⟨"DebtDoors", "orders", "()I"⟩, prog_1_method_17_code, 3, some .int)
theorem d_D_orders_0 : decode prog_1_method_17_code 0 = .ok (.aload_n 0, 1) := by decide +kernel
theorem d_D_orders_1 : decode prog_1_method_17_code 1 = .ok (.iconst (-1), 1) := by decide +kernel
theorem d_D_orders_2 : decode prog_1_method_17_code 2 = .ok (.putfield 97, 3) := by decide +kernel
theorem d_D_orders_5 : decode prog_1_method_17_code 5 = .ok (.aload_n 0, 1) := by decide +kernel
theorem d_D_orders_6 : decode prog_1_method_17_code 6 = .ok (.getfield 44, 3) := by decide +kernel
theorem d_D_orders_9 : decode prog_1_method_17_code 9 = .ok (.iconst 1, 1) := by decide +kernel
theorem d_D_orders_10 : decode prog_1_method_17_code 10 = .ok (.invokevirtual 204, 3) := by decide +kernel
theorem d_D_orders_13 : decode prog_1_method_17_code 13 = .ok (.istore_n 1, 1) := by decide +kernel
theorem d_D_orders_14 : decode prog_1_method_17_code 14 = .ok (.aload_n 0, 1) := by decide +kernel
theorem d_D_orders_15 : decode prog_1_method_17_code 15 = .ok (.getfield 44, 3) := by decide +kernel
theorem d_D_orders_18 : decode prog_1_method_17_code 18 = .ok (.iconst 0, 1) := by decide +kernel
theorem d_D_orders_19 : decode prog_1_method_17_code 19 = .ok (.putfield 185, 3) := by decide +kernel
theorem d_D_orders_22 : decode prog_1_method_17_code 22 = .ok (.iload_n 1, 1) := by decide +kernel
theorem d_D_orders_23 : decode prog_1_method_17_code 23 = .ok (.ifCond .ne 10, 3) := by decide +kernel
theorem d_D_orders_26 : decode prog_1_method_17_code 26 = .ok (.aload_n 0, 1) := by decide +kernel
theorem d_D_orders_27 : decode prog_1_method_17_code 27 = .ok (.bipush (-6), 2) := by decide +kernel
theorem d_D_orders_29 : decode prog_1_method_17_code 29 = .ok (.invokevirtual 108, 3) := by decide +kernel
theorem d_D_orders_32 : decode prog_1_method_17_code 32 = .ok (.ireturn, 1) := by decide +kernel
theorem d_D_orders_33 : decode prog_1_method_17_code 33 = .ok (.aload_n 0, 1) := by decide +kernel
theorem d_D_orders_34 : decode prog_1_method_17_code 34 = .ok (.getfield 27, 3) := by decide +kernel
theorem d_D_orders_37 : decode prog_1_method_17_code 37 = .ok (.aload_n 0, 1) := by decide +kernel
theorem d_D_orders_38 : decode prog_1_method_17_code 38 = .ok (.getfield 12, 3) := by decide +kernel
theorem d_D_orders_41 : decode prog_1_method_17_code 41 = .ok (.getfield 115, 3) := by decide +kernel
theorem d_D_orders_44 : decode prog_1_method_17_code 44 = .ok (.invokevirtual 221, 3) := by decide +kernel
theorem d_D_orders_47 : decode prog_1_method_17_code 47 = .ok (.aload_n 0, 1) := by decide +kernel
theorem d_D_orders_48 : decode prog_1_method_17_code 48 = .ok (.getfield 38, 3) := by decide +kernel
theorem d_D_orders_51 : decode prog_1_method_17_code 51 = .ok (.aload_n 0, 1) := by decide +kernel
theorem d_D_orders_52 : decode prog_1_method_17_code 52 = .ok (.getfield 34, 3) := by decide +kernel
theorem d_D_orders_55 : decode prog_1_method_17_code 55 = .ok (.invokevirtual 225, 3) := by decide +kernel
theorem d_D_orders_58 : decode prog_1_method_17_code 58 = .ok (.aload_n 0, 1) := by decide +kernel
theorem d_D_orders_59 : decode prog_1_method_17_code 59 = .ok (.aload_n 0, 1) := by decide +kernel
theorem d_D_orders_60 : decode prog_1_method_17_code 60 = .ok (.getfield 44, 3) := by decide +kernel
theorem d_D_orders_63 : decode prog_1_method_17_code 63 = .ok (.getfield 208, 3) := by decide +kernel
theorem d_D_orders_66 : decode prog_1_method_17_code 66 = .ok (.invokevirtual 228, 3) := by decide +kernel
theorem d_D_orders_69 : decode prog_1_method_17_code 69 = .ok (.istore_n 2, 1) := by decide +kernel
theorem d_D_orders_70 : decode prog_1_method_17_code 70 = .ok (.iload_n 2, 1) := by decide +kernel
theorem d_D_orders_71 : decode prog_1_method_17_code 71 = .ok (.ifCond .ge 46, 3) := by decide +kernel
theorem d_D_orders_74 : decode prog_1_method_17_code 74 = .ok (.aload_n 0, 1) := by decide +kernel
theorem d_D_orders_75 : decode prog_1_method_17_code 75 = .ok (.getfield 12, 3) := by decide +kernel
theorem d_D_orders_78 : decode prog_1_method_17_code 78 = .ok (.getfield 115, 3) := by decide +kernel
theorem d_D_orders_81 : decode prog_1_method_17_code 81 = .ok (.aload_n 0, 1) := by decide +kernel
theorem d_D_orders_82 : decode prog_1_method_17_code 82 = .ok (.getfield 27, 3) := by decide +kernel
theorem d_D_orders_85 : decode prog_1_method_17_code 85 = .ok (.invokevirtual 221, 3) := by decide +kernel
theorem d_D_orders_88 : decode prog_1_method_17_code 88 = .ok (.aload_n 0, 1) := by decide +kernel
theorem d_D_orders_89 : decode prog_1_method_17_code 89 = .ok (.getfield 34, 3) := by decide +kernel
theorem d_D_orders_92 : decode prog_1_method_17_code 92 = .ok (.aload_n 0, 1) := by decide +kernel
theorem d_D_orders_93 : decode prog_1_method_17_code 93 = .ok (.getfield 38, 3) := by decide +kernel
theorem d_D_orders_96 : decode prog_1_method_17_code 96 = .ok (.invokevirtual 225, 3) := by decide +kernel
theorem d_D_orders_99 : decode prog_1_method_17_code 99 = .ok (.aload_n 0, 1) := by decide +kernel
theorem d_D_orders_100 : decode prog_1_method_17_code 100 = .ok (.iload_n 2, 1) := by decide +kernel
theorem d_D_orders_101 : decode prog_1_method_17_code 101 = .ok (.bipush (-5), 2) := by decide +kernel
theorem d_D_orders_103 : decode prog_1_method_17_code 103 = .ok (.if_icmp .ne 8, 3) := by decide +kernel
theorem d_D_orders_106 : decode prog_1_method_17_code 106 = .ok (.bipush (-5), 2) := by decide +kernel
theorem d_D_orders_108 : decode prog_1_method_17_code 108 = .ok (.goto 5, 3) := by decide +kernel
theorem d_D_orders_111 : decode prog_1_method_17_code 111 = .ok (.bipush (-3), 2) := by decide +kernel
theorem d_D_orders_113 : decode prog_1_method_17_code 113 = .ok (.invokevirtual 108, 3) := by decide +kernel
theorem d_D_orders_116 : decode prog_1_method_17_code 116 = .ok (.ireturn, 1) := by decide +kernel
theorem d_D_orders_117 : decode prog_1_method_17_code 117 = .ok (.aload_n 0, 1) := by decide +kernel
theorem d_D_orders_118 : decode prog_1_method_17_code 118 = .ok (.aload_n 0, 1) := by decide +kernel
theorem d_D_orders_119 : decode prog_1_method_17_code 119 = .ok (.getfield 232, 3) := by decide +kernel
theorem d_D_orders_122 : decode prog_1_method_17_code 122 = .ok (.invokevirtual 130, 3) := by decide +kernel
theorem d_D_orders_125 : decode prog_1_method_17_code 125 = .ok (.ireturn, 1) := by decide +kernel
def w_D_orders {d : Nat} (hd : 1 ≤ d) := (show SS ("DebtDoors", prog_1_method_17_code, 3) (some .int) d 0 0 0 0 _ from (sS (p1 := 5) (sP 17 fl_D_97 fp_11_17 nk_11_17 (rAn 0 d_D_orders_0 rfl) (xE (rI d_D_orders_1 rfl)) d_D_orders_2 rfl) (sS (p1 := 14) (sIn 1 (xV lv_D_204 (xA (rAi (rAr rA0 (rFr fl_D_44 nk_11_6 (rAn 0 d_D_orders_5 rfl) d_D_orders_6)) (rI d_D_orders_9 rfl))) (by decide) d_D_orders_10) d_D_orders_13 rfl (by decide)) (sS (p1 := 22) (sP 2 fl_D_185 fp_6_2 nk_6_2 (rFr fl_D_44 nk_11_6 (rAn 0 d_D_orders_14 rfl) d_D_orders_15) (xE (rI d_D_orders_18 rfl)) d_D_orders_19 rfl) (sS (p1 := 33) (sIf (pn := 33) (tt := 26) (xC (rNot (rJ1 (tgt := 33) k_ne (rIn 1 d_D_orders_22 rfl) d_D_orders_23 (by decide)))) (sRi (xV lv_D_108 (xA (rAi (rAr rA0 (rAn 0 d_D_orders_26 rfl)) (rB d_D_orders_27 rfl))) (by decide) d_D_orders_29) d_D_orders_32 rfl)) (sS (p1 := 47) (sV (xVv lv_D_221 (xA (rAr (rAr rA0 (rFr fl_D_27 nk_11_3 (rAn 0 d_D_orders_33 rfl) d_D_orders_34)) (rFr fl_D_115 nk_9_0 (rFr fl_D_12 nk_11_0 (rAn 0 d_D_orders_37 rfl) d_D_orders_38) d_D_orders_41))) (by decide) d_D_orders_44)) (sS (p1 := 58) (sV (xVv lv_D_225 (xA (rAr (rAr rA0 (rFr fl_D_38 nk_11_5 (rAn 0 d_D_orders_47 rfl) d_D_orders_48)) (rFr fl_D_34 nk_11_4 (rAn 0 d_D_orders_51 rfl) d_D_orders_52))) (by decide) d_D_orders_55)) (sS (p1 := 70) (sIn 2 (xV lv_D_228 (xA (rAr (rAr rA0 (rAn 0 d_D_orders_58 rfl)) (rFr fl_D_208 nk_6_1 (rFr fl_D_44 nk_11_6 (rAn 0 d_D_orders_59 rfl) d_D_orders_60) d_D_orders_63))) (by decide) d_D_orders_66) d_D_orders_69 rfl (by decide)) (sS (p1 := 117) (sIf (pn := 117) (tt := 74) (xC (rNot (rJ1 (tgt := 117) k_ge (rIn 2 d_D_orders_70 rfl) d_D_orders_71 (by decide)))) (sS (p1 := 88) (sV (xVv lv_D_221 (xA (rAr (rAr rA0 (rFr fl_D_115 nk_9_0 (rFr fl_D_12 nk_11_0 (rAn 0 d_D_orders_74 rfl) d_D_orders_75) d_D_orders_78)) (rFr fl_D_27 nk_11_3 (rAn 0 d_D_orders_81 rfl) d_D_orders_82))) (by decide) d_D_orders_85)) (sS (p1 := 99) (sV (xVv lv_D_225 (xA (rAr (rAr rA0 (rFr fl_D_34 nk_11_4 (rAn 0 d_D_orders_88 rfl) d_D_orders_89)) (rFr fl_D_38 nk_11_5 (rAn 0 d_D_orders_92 rfl) d_D_orders_93))) (by decide) d_D_orders_96)) (sRi (xV lv_D_108 (xA (rAi (rAr rA0 (rAn 0 d_D_orders_99 rfl)) (rT2 (rNot (rJ2 (tgt := 111) j_ne (rIn 2 d_D_orders_100 rfl) (rB d_D_orders_101 rfl) d_D_orders_103 (by decide))) (rGoE (p2 := 113) (rB d_D_orders_106 rfl) d_D_orders_108 (by decide)) (rB d_D_orders_111 rfl)))) (by decide) d_D_orders_113) d_D_orders_116 rfl)))) (sRi (xV lv_D_130 (xA (rAi (rAr rA0 (rAn 0 d_D_orders_117 rfl)) (rF 18 fl_D_232 nk_11_18 (rAn 0 d_D_orders_118 rfl) d_D_orders_119 rfl))) (by decide) d_D_orders_122) d_D_orders_125 rfl))))))))))
theorem q_D_orders {d : Nat} (hd : 53 ≤ d) {μ : zMem} {Z : Zt} {F : Option (List Cls)} {A : Lg} {w : Int → Int} {B : Int → Int} {n : Nat} (h : CTx μ Z F A w) (hs : SlO μ) (hB : okB B n) (h1 : μ 322 = B) (h2 : μ 321 2 = (n : Int)) (hr : okR (μ 354)) : zSp d 0 0 y_D_orders zT0 [vr 0] μ zT0 (fun r μ' => (∀ t, pCls (cT B n) (fun t => decide (n ≤ ps B n t)) (pcO true (cT B n) (vT B n)) 12 0 0 85 = (t, none) → r = some (vi (-6)) ∧ μ' 0 = (zm (zm μ 0 17 (-1)) 0 15 (-6)) 0 ∧ μ' 321 2 = 0 ∧ μ' 321 3 = (ps B n t : Int) ∧ μ' 354 = (zm μ 354 6 (μ 354 6 + 1)) 354 ∧ zfc [0, 321, 323, 354] μ μ') ∧ ∀ t a, pCls (cT B n) (fun t => decide (n ≤ ps B n t)) (pcO true (cT B n) (vT B n)) 12 0 0 85 = (t, some a) → OwC μ μ' ∧ μ' 321 2 = 0 ∧ μ' 321 3 = -1 ∧ (0 ≤ (orL Z F a.1 (A, unD μ 111, 0, -1, w) a.1.length).1 → r = some (vi (orL Z F a.1 (A, unD μ 111, 0, -1, w) a.1.length).2.2.2.1) ∧ CTx μ' Z F (orL Z F a.1 (A, unD μ 111, 0, -1, w) a.1.length).2.1 (orL Z F a.1 (A, unD μ 111, 0, -1, w) a.1.length).2.2.2.2.2 ∧ SlO μ' ∧ unD μ' 111 = (orL Z F a.1 (A, unD μ 111, 0, -1, w) a.1.length).2.2.1 ∧ μ' 0 15 = 0 ∧ μ' 0 17 = -1 ∧ μ' 354 = μ 354) ∧ ((orL Z F a.1 (A, unD μ 111, 0, -1, w) a.1.length).1 < 0 → ∃ (c : Int) (j : Nat), c = zit ((orL Z F a.1 (A, unD μ 111, 0, -1, w) a.1.length).1 = -5) (-5) (-3) ∧ r = some (vi c) ∧ j < a.1.length ∧ (orL Z F a.1 (A, unD μ 111, 0, -1, w) j).1 = 0 ∧ (orL Z F a.1 (A, unD μ 111, 0, -1, w) (j + 1)).1 < 0 ∧ (∃ w', CTx μ' Z F A w') ∧ SlO μ' ∧ unD μ' 111 = unD μ 111 ∧ μ' 0 15 = c ∧ μ' 0 17 = (j : Int) ∧ μ' 354 = (zm μ 354 (-c) (μ 354 (-c) + 1)) 354)) := by
  refine zSp.ss [vr 0, vx 0, vx 0] rfl (w_D_orders (Nat.le_trans (by decide) hd)) rfl rfl ?_
  (try simp only [zit_e, Bool.and_eq_true, Bool.or_eq_true, Bool.not_eq_true', Bool.and_eq_false_iff, Bool.or_eq_false_iff, Bool.not_eq_false', zbe, zdt, zdf, zb2_p, zbp_0, zbp_1, zbp_inj, zbp_01, Bool.true_eq_false, Bool.false_eq_true, true_and, and_true, Decidable.not_not, Classical.not_not, implies_true, List.nil_append, List.cons_append, List.append_assoc, Option.some.injEq, Sum.inl.injEq, zSw_c, zSw_n]); (try simp only [zit_e, Bool.and_eq_true, Bool.or_eq_true, Bool.not_eq_true', Bool.and_eq_false_iff, Bool.or_eq_false_iff, Bool.not_eq_false', zbe, zdt, zdf, zb2_p, zbp_0, zbp_1, zbp_inj, zbp_01, Bool.true_eq_false, Bool.false_eq_true, true_and, and_true, Decidable.not_not, Classical.not_not, implies_true, List.nil_append, List.cons_append, List.append_assoc, Option.some.injEq, Sum.inl.injEq, zSw_c, zSw_n, zc_0, zc_1, zc_321]); (try simp only [zi_cs, zi_c0, zii_cs, zii_c0, zl_cs, zl_c0, zll_cs, zll_c0, zr_cs, zr_c0, zrr_cs, zrr_c0, zxs_cs, zxs_c0, zxx_cs, zxx_c0, zfree_c0, zfree_c1, zfree_cs, zfree_cz, zlong_i, zlong_r, zlong_x, zset_0, zset_s, true_and, and_true, Option.some.injEq, Sum.inl.injEq, Sum.inr.injEq, zb2_p, zbp_0, zbp_1, zbp_inj, zbp_01, Nat.zero_add, Nat.reduceAdd, implies_true, List.nil_append, List.cons_append, List.append_assoc, Int.not_lt, Int.not_le, Decidable.not_not, Int.zero_add, Int.reduceLE, Int.reduceLT, Int.reduceEq, Int.reduceNe, Int.reduceAdd, Int.reduceSub, Int.reduceMul, Int.reduceNeg, Int.reduceToNat, Nat.reduceMul, Nat.reduceLT, Nat.reduceEqDiff, and_self, ite_true, ite_false, zx1, zx2, zRecv, List.length_cons, List.length_nil, ne_eq, not_true_eq_false, not_false_eq_true, true_or, or_true, or_false, false_or, and_false, false_and, zf01, zf10, reduceCtorEq, zSw_c, zSw_n, zm_r, zit_T, zit_F, false_implies, true_implies, zc_0, zc_1, zc_321])
  refine zCw.use (q_Re_read (d := 50) (Nat.le_refl _) (o := true) (x := 1) (by decide) hB (by rw [zm_off 322 (by decide)]; exact h1) (by rw [zm_off 321 (by decide)]; exact h2)) (by omega) (fun q μ1 e => ?_)
  have hb := e.1
  have hg := e.2
  clear e
  have htk : ∀ t a, pCls (cT B n) (fun t => decide (n ≤ ps B n t)) (pcO true (cT B n) (vT B n)) 12 0 0 85 = (t, some a) → _ := fun t a e => ord_taken (cs := a.1) (cc := a.2) hB e
  generalize pCls (cT B n) (fun t => decide (n ≤ ps B n t)) (pcO true (cT B n) (vT B n)) 12 0 0 85 = R at *
  rcases R with ⟨t, _ | a⟩
  · obtain ⟨rfl, f3, f1, f2⟩ := hb t rfl
    refine ⟨_, rfl, ?_⟩
    rw [if_pos rfl]
    have k354 : μ1 354 = μ 354 := (f1 354 (by decide)).trans (zm_off 354 (by decide))
    have k0 : μ1 0 = zm μ 0 17 (-1) 0 := f1 0 (by decide)
    refine rfD_w (by omega) (by decide) (by rw [zm_off 354 (by decide), k354]; exact hr) ⟨_, rfl, fun t1 q => ?_, fun t1 a q => (by cases q)⟩
    cases q
    refine ⟨rfl, ?_, ?_, ?_, ?_, ?_⟩
    · funext i
      unfold rfD
      simp only [zm_r, zit_T, zit_F, Nat.reduceEqDiff, k0]
    · unfold rfD
      rw [zm_off 321 (by decide), zm_off 321 (by decide), zm_s]
    · unfold rfD
      rw [zm_off 321 (by decide), zm_off 321 (by decide), zm_j (by decide), f3]
    · funext i
      unfold rfD
      simp only [zm_r, zit_T, zit_F, Nat.reduceEqDiff, k354]
      rfl
    · unfold rfD
      have f0 : zfc [0] μ (zm μ 0 17 (-1)) := zfc.rf.zm (by decide)
      exact ((((f0.tr f1).mo (b := [0, 321, 323, 354]) (by simp)).zm (by decide)).zm (by decide)).zm (by decide)
  · obtain ⟨rfl, g3, g0, gH, gS, gl, f1, f2⟩ := hg t a rfl
    obtain ⟨y1, y2, y3⟩ := htk t a rfl
    have hLw := y3 (μ1 323) g0 gl gH gS
    have f0 : zfc [0] μ (zm μ 0 17 (-1)) := zfc.rf.zm (by decide)
    have hz : zfc [0, 321, 323] μ (zm μ1 321 2 0) := ((f0.tr f1).mo (b := [0, 321, 323]) (by simp)).zm (by decide)
    have k0 : zm μ1 321 2 0 0 = zm μ 0 17 (-1) 0 := (zm_off 0 (by decide)).trans (f1 0 (by decide))
    have k2 : zm μ1 321 2 0 321 2 = 0 := zm_s
    have k3 : zm μ1 321 2 0 321 3 = -1 := (zm_j (by decide)).trans g3
    have k23 : zm μ1 321 2 0 323 = μ1 323 := zm_off 323 (by decide)
    generalize zm μ1 321 2 0 = μ2 at *
    refine ⟨_, rfl, ?_⟩
    rw [if_neg (by decide)]
    have hC2 : CTx μ2 Z F A w := h.k (fun c hc => hz c (by simp only [List.mem_cons, List.not_mem_nil, or_false]; omega)) (by rw [hz 326 (by decide)]; exact h.2.2.2.2.2)
    refine ⟨zc_105.1.1, pp_w (by omega) hC2 (fun μ3 hC3 hP3 z3 => ⟨rfl, zc_216.1.1, ?_⟩)⟩
    have hs3 : SlO μ3 := hs.c (fun c p q => (z3 c (by simp only [List.mem_cons, List.not_mem_nil, or_false]; omega)).trans (hz c (by simp only [List.mem_cons, List.not_mem_nil, or_false]; omega)))
    have hu3 : unD μ3 111 = unD μ 111 := (unD_same hs (fun c p q => (z3 c (by simp only [List.mem_cons, List.not_mem_nil, or_false]; omega)).trans (hz c (by simp only [List.mem_cons, List.not_mem_nil, or_false]; omega)))).1
    refine zCw.use (q_Un_copyFrom (d := 5) (by decide) isUn_2 isUn_1 (by decide) hs3.2) (by omega) (fun q μ4 e => ?_)
    obtain ⟨rfl, c1, c2, c3, c4, c5⟩ := e
    have hC4 : CTx μ4 Z F A w := hC3.k (fun c hc => c5 c (by omega)) (by rw [c5 326 (by decide)]; exact hC3.2.2.2.2.2)
    have hs4 : SlO μ4 := hs3.c (fun c p q => c5 c (by omega))
    have hu4 : unD μ4 111 = unD μ 111 := ((unD_same hs3 (fun c p q => c5 c (by omega))).1).trans hu3
    have hk4 : μ4 323 = μ1 323 := (c5 323 (by decide)).trans ((z3 323 (by decide)).trans k23)
    have hP4 : PpC A μ4 := hP3.c (fun c p q => c5 c (by omega))
    have k04 : μ4 0 = zm μ 0 17 (-1) 0 := (c5 0 (by decide)).trans ((z3 0 (by decide)).trans k0)
    refine ⟨rfl, zCw.use (q_D_runOrders (d := 12) (by decide) hC4 hs4 hk4 hLw y2) (by omega) (fun q μ5 e => ?_)⟩
    obtain ⟨v, rfl, e1, e2⟩ := e
    rw [hu4] at e1 e2
    rw [show μ4 0 17 = -1 by rw [k04]; exact zm_s] at e1
    refine ⟨_, rfl, ?_⟩
    generalize hE : orL Z F a.1 (A, unD μ 111, 0, -1, w) a.1.length = E at *
    have fr : ∀ {st : Int} {x : OrS} {X : zMem}, OrC Z F x st μ4 X → (∀ c : Nat, c ≠ 0 → ¬ (2 ≤ c ∧ c ≤ 7) → ¬ (105 ≤ c ∧ c ≤ 320) → c ≠ 321 → c ≠ 323 → ¬ (325 ≤ c ∧ c ≤ 327) → X c = μ c) ∧ X 321 = μ2 321 ∧ ∀ i : Int, i ≠ 17 → i ≠ 18 → i ≠ 19 → X 0 i = μ 0 i := by
      intro st x X hX
      obtain ⟨x1, x2, x3, x4, x5, x6⟩ := hX
      refine ⟨fun c p q r s t u => ?_, ?_, fun i p q r => ?_⟩
      · rw [x5 c p q (by omega) u, c5 c (by omega), z3 c (by simp only [List.mem_cons, List.not_mem_nil, or_false]; omega), hz c (by simp only [List.mem_cons, List.not_mem_nil, or_false]; omega)]
      · rw [x5 321 (by omega) (by omega) (by omega) (by omega), c5 321 (by omega), z3 321 (by decide)]
      · rw [x6 i p q r, k04, zm_o (Or.inr p)]
    refine zif (fun cv => ?_) (fun cv => ?_)
    · have hE1 : E.1 < 0 := by
        apply Classical.byContradiction
        intro q
        have := (e1 (by omega)).1
        omega
      obtain ⟨rv, r5, j, j1, j2, j3, hO⟩ := e2 hE1
      obtain ⟨g1, g2, g4⟩ := fr hO
      have hO5 := hO.2.2.2.2.1
      refine ⟨zc_2.1.1, pb_w (by omega) hO.1 h.2.1 (hP4.c (fun c p q => hO5 c (by omega) (by omega) (by omega) (by omega))) (fun μ6 hC6 z6 => ⟨rfl, isUn_1.1.1, ?_⟩)⟩
      have k6 : ∀ c : Nat, 216 ≤ c → c < 321 → μ6 c = μ4 c := fun c p q => (z6 c (by simp only [List.mem_cons, List.not_mem_nil, or_false]; omega)).trans (hO5 c (by omega) (by omega) (by omega) (by omega))
      have sl : ∀ s : Int, 0 ≤ s → s < 17 → 219 ≤ slC 216 s ∧ slC 216 s ≤ 315 := fun s p q => by unfold slC; omega
      have hcp : (∀ s : Int, 0 ≤ s → s < 17 → lgO μ6 (slC 216 s) = lgO μ3 (slC 111 s) ∧ μ6 (slC 216 s) 5 = μ3 (slC 111 s) 5) ∧ (∀ s : Int, 0 ≤ s → s < 17 → μ6 218 s = μ3 113 s) ∧ μ6 216 2 = μ3 111 2 ∧ μ6 216 3 = μ3 111 3 := by
        refine ⟨fun s p q => ⟨(lgO_c (fun c hc => ?_)).trans (c1 s p q).1, ?_⟩, fun s p q => ?_, ?_, ?_⟩
        · have := sl s p q
          exact k6 _ (by omega) (by omega)
        · have := sl s p q
          rw [k6 _ (by omega) (by omega)]
          exact (c1 s p q).2
        · rw [k6 218 (by decide) (by decide)]
          exact c2 s p q
        · rw [k6 216 (by decide) (by decide)]
          exact c3
        · rw [k6 216 (by decide) (by decide)]
          exact c4
      refine zCw.use (q_Un_copyFrom (d := 5) (by decide) isUn_1 isUn_2 (by decide) (fun s p q => by rw [(hcp.1 s p q).2]; exact hs3.2 s p q)) (by omega) (fun q μ7 e => ?_)
      obtain ⟨rfl, d1, d2, d3, d4, d5⟩ := e
      obtain ⟨u1, u2⟩ := unD_cp hs3 hcp ⟨d1, d2, d3, d4⟩
      have k7 : ∀ c : Nat, ¬ (2 ≤ c ∧ c ≤ 7) → ¬ (111 ≤ c ∧ c < 216) → μ7 c = μ5 c := fun c p q => (d5 c (by omega)).trans (z6 c (by simp only [List.mem_cons, List.not_mem_nil, or_false]; omega))
      have k354 : μ7 354 = μ 354 := (k7 354 (by omega) (by omega)).trans (g1 354 (by omega) (by omega) (by omega) (by omega) (by omega) (by omega))
      have k321 : μ7 321 = μ2 321 := (k7 321 (by omega) (by omega)).trans g2
      have k00 : μ7 0 = μ5 0 := k7 0 (by omega) (by omega)
      have hC7 : CTx μ7 Z F A E.2.2.2.2.2 := hC6.k (fun c hc => d5 c (by omega)) (by rw [d5 326 (by decide)]; exact hC6.2.2.2.2.2)
      have hc5 : -6 ≤ zit (v = -5) (-5) (-3) ∧ zit (v = -5) (-5) (-3) ≤ -1 := by
        unfold zit
        split <;> omega
      refine ⟨rfl, rfD_w (by omega) (by omega) (by rw [k354]; exact hr) ⟨_, rfl, fun t1 q => (by cases q), fun t1 a1 q => ?_⟩⟩
      cases q
      rw [hE]
      generalize hcc : zit (v = -5) (-5) (-3) = c at *
      have k9 : ∀ b : Nat, b ≠ 0 → b ≠ 354 → rfD μ7 c b = μ7 b := fun b p q => by
        unfold rfD
        rw [zm_off _ p, zm_off _ q]
      have k10 : rfD μ7 c 0 15 = c ∧ ∀ i : Int, i ≠ 15 → rfD μ7 c 0 i = μ5 0 i := by
        unfold rfD
        exact ⟨zm_s, fun i hi => by rw [zm_o (Or.inr hi), zm_off 0 (by decide), k00]⟩
      refine ⟨⟨fun b p q r s t u => ?_, fun i p q r s => ?_⟩, ?_, ?_, fun q => absurd hE1 (by omega), fun _ => ⟨c, j, by rw [← rv]; exact hcc.symm, rfl, j1, j2, j3, ⟨_, hC7.k (fun b hb => k9 b (by omega) (by omega)) (by rw [k9 326 (by decide) (by decide)]; exact hC7.2.2.2.2.2)⟩, u1.c (fun b p q => k9 b (by omega) (by omega)), ?_, k10.1, ?_, ?_⟩⟩
      · rw [k9 b p u, k7 b q (by omega)]
        exact g1 b p q (by omega) (by omega) s t
      · rw [k10.2 i p]
        exact g4 i q r s
      · rw [k9 321 (by decide) (by decide), k321]
        exact k2
      · rw [k9 321 (by decide) (by decide), k321]
        exact k3
      · exact (unD_same u1 (fun b p q => k9 b (by omega) (by omega))).1.trans (u2.trans hu3)
      · rw [k10.2 17 (by decide)]
        exact hO.2.2.2.1.1
      · unfold rfD
        funext i
        rw [zm_off 354 (by decide), zm_r, zm_r, k354]
    · have hE1 : 0 ≤ E.1 := by
        apply Classical.byContradiction
        intro q
        have := (e2 (by omega)).1
        omega
      obtain ⟨rv, hO⟩ := e1 hE1
      obtain ⟨g1, g2, g4⟩ := fr hO
      have hOO := hO
      obtain ⟨x1, x2, x3, x4, x5, x6⟩ := hO
      refine acD_w (by omega) ⟨_, rfl, fun t1 q => (by cases q), fun t1 a1 q => ?_⟩
      cases q
      rw [hE]
      have z : zfc [0] μ5 (zm μ5 0 15 0) := zfc.rf.zm (by decide)
      refine ⟨⟨fun b p q r s t u => ?_, fun i p q r s => ?_⟩, ?_, ?_, fun _ => ⟨x4.2.1, x1.k (fun b hb => z b (by simp only [List.mem_cons, List.not_mem_nil, or_false]; omega)) (by rw [z 326 (by decide)]; exact x1.2.2.2.2.2), x2.c (fun b p q => z b (by simp only [List.mem_cons, List.not_mem_nil, or_false]; omega)), (unD_same x2 (fun b p q => z b (by simp only [List.mem_cons, List.not_mem_nil, or_false]; omega))).1.trans x3, zm_s, ?_, ?_⟩, fun q => absurd hE1 (by omega)⟩
      · rw [z b (by simp only [List.mem_cons, List.not_mem_nil, or_false]; omega)]
        exact g1 b p q (by omega) (by omega) s t
      · rw [zm_o (Or.inr p)]
        exact g4 i q r s
      · rw [z 321 (by decide), g2]
        exact k2
      · rw [z 321 (by decide), g2]
        exact k3
      · rw [zm_o (by decide)]
        exact x4.1
      · rw [z 354 (by decide)]
        exact g1 354 (by omega) (by omega) (by omega) (by omega) (by omega) (by omega)

