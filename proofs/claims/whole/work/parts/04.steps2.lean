section ZJ
variable {Γ : zCx} {own : String} {cc : ByteArray} {nL d ce sl : Nat} {T : List zSh} {ad : Nat → Nat} {pc pc' tgt i : Nat} {ρ st st' : List zV} {μ : zMem} {a b n off : Int} {v w : zV}
theorem zi_iadd (X : zX Γ own cc nL d) (hd : decode cc pc = .ok (.iadd, 1)) (hr : zI (a + b)) (k : zG Γ nL ce sl T ad (pc + 1) ρ (vi (a + b) :: st) μ) : zG Γ nL ce sl T ad pc ρ (vi b :: vi a :: st) μ :=
  X.step (fun _ _ _ w => lv_iadd X.1 X.2.1 hd (by rw [← zz_ofadd]; exact w)) (fun h => h.tl.tl.cons (v := vi (a + b)) hr) k
theorem zi_isub (X : zX Γ own cc nL d) (hd : decode cc pc = .ok (.isub, 1)) (hr : zI (a - b)) (k : zG Γ nL ce sl T ad (pc + 1) ρ (vi (a - b) :: st) μ) : zG Γ nL ce sl T ad pc ρ (vi b :: vi a :: st) μ :=
  X.step (fun _ _ _ w => lv_isub X.1 X.2.1 hd (by rw [← zz_ofsub]; exact w)) (fun h => h.tl.tl.cons (v := vi (a - b)) hr) k
theorem zi_imul (X : zX Γ own cc nL d) (hd : decode cc pc = .ok (.imul, 1)) (hr : zI (a * b)) (k : zG Γ nL ce sl T ad (pc + 1) ρ (vi (a * b) :: st) μ) : zG Γ nL ce sl T ad pc ρ (vi b :: vi a :: st) μ :=
  X.step (fun _ _ _ w => lv_imul X.1 X.2.1 hd (by rw [← zz_ofmul]; exact w)) (fun h => h.tl.tl.cons (v := vi (a * b)) hr) k
theorem zi_ineg (X : zX Γ own cc nL d) (hd : decode cc pc = .ok (.ineg, 1)) (hr : zI (-a)) (k : zG Γ nL ce sl T ad (pc + 1) ρ (vi (-a) :: st) μ) : zG Γ nL ce sl T ad pc ρ (vi a :: st) μ :=
  X.step (fun _ _ _ w => lv_ineg X.1 X.2.1 hd (by rw [← zz_ofneg]; exact w)) (fun h => h.tl.cons (v := vi (-a)) hr) k
theorem zz_div {a b : Int} (ha : zI a) (hb : zI b) : Int32.ofInt (a.tdiv b) = Int32.ofInt a / Int32.ofInt b := by
  have e1 : Int32.minValue.toInt = -2147483648 := by decide
  have e2 : Int32.maxValue.toInt = 2147483647 := by decide
  exact Int32.ofInt_tdiv (by rw [e1]; exact ha.1) (by rw [e2]; exact ha.2) (by rw [e1]; exact hb.1) (by rw [e2]; exact hb.2)
theorem zz_ldiv {a b : Int} (ha : zL a) (hb : zL b) : Int64.ofInt (a.tdiv b) = Int64.ofInt a / Int64.ofInt b := by
  have e1 : Int64.minValue.toInt = -9223372036854775808 := by decide
  have e2 : Int64.maxValue.toInt = 9223372036854775807 := by decide
  exact Int64.ofInt_tdiv (by rw [e1]; exact ha.1) (by rw [e2]; exact ha.2) (by rw [e1]; exact hb.1) (by rw [e2]; exact hb.2)
theorem zz_tmod (a b : Int) : a.tmod b = a - a.tdiv b * b := by rw [Int.tmod_def, Int.mul_comm]
theorem zi_tdiv {a b : Int} (ha : zI a) (hb : zI (a.tdiv b) ∨ b ≠ -1) : zI (a.tdiv b) := by
  rcases hb with h | h
  · exact h
  · have h1 := Int.natAbs_tdiv_le_natAbs a b
    unfold zI at *
    by_cases hc : a = -2147483648
    · subst hc
      rcases Int.lt_trichotomy b 0 with q | q | q
      · have : ((-2147483648 : Int).tdiv b).natAbs ≤ 1073741824 := by
          have hb2 : 2 ≤ b.natAbs := by omega
          rw [Int.natAbs_tdiv]
          have e : (-2147483648 : Int).natAbs = 2147483648 := by decide
          rw [e]
          exact Nat.le_trans (Nat.div_le_div_left hb2 (by decide)) (by decide)
        omega
      · subst q; simp
      · have : (-2147483648 : Int).tdiv b ≤ 0 := by
          rw [show (-2147483648 : Int) = -(2147483648 : Int) from rfl, Int.neg_tdiv]
          have := Int.tdiv_nonneg (a := 2147483648) (b := b) (by decide) (by omega)
          omega
        omega
    · omega
theorem zi_idiv (X : zX Γ own cc nL d) (hd : decode cc pc = .ok (.idiv, 1)) (h0 : b ≠ 0) (hr : zI (a.tdiv b)) (k : zG Γ nL ce sl T ad (pc + 1) ρ (vi (a.tdiv b) :: st) μ) : zG Γ nL ce sl T ad pc ρ (vi b :: vi a :: st) μ := by
  intro H locs ls hP hD hS hL hW h1 h2
  have hb : zI b := h2.hd
  have ha : zI a := h2.tl.hd
  refine lv_idiv X.1 X.2.1 hd (fun e => h0 ((zI.eq hb zI0).mp e)) ?_
  have := k H locs ls hP hD hS hL hW h1 (h2.tl.tl.cons (v := vi (a.tdiv b)) hr)
  rw [List.map_cons, show zT Γ ad (vi (a.tdiv b)) = .int (Int32.ofInt (a.tdiv b)) from rfl, zz_div ha hb] at this
  exact this
theorem zI_tmod {a b : Int} (ha : zI a) : zI (a.tmod b) := by
  have h1 := Int.natAbs_tmod a b
  have h2 : (a.tmod b).natAbs ≤ a.natAbs := by rw [h1]; exact Nat.mod_le _ _
  unfold zI at *
  by_cases hc : a = -2147483648
  · subst hc
    by_cases hp : (-2147483648 : Int).tmod b ≤ 0
    · omega
    · exfalso
      have h5 : (-2147483648 : Int).tmod b = -((2147483648 : Int).tmod b) := by rw [show (-2147483648 : Int) = -(2147483648 : Int) from rfl, Int.neg_tmod]
      have h6 := Int.tmod_nonneg (a := 2147483648) b (by decide)
      omega
  · omega
theorem zi_irem (X : zX Γ own cc nL d) (hd : decode cc pc = .ok (.irem, 1)) (h0 : b ≠ 0) (k : zG Γ nL ce sl T ad (pc + 1) ρ (vi (a.tmod b) :: st) μ) : zG Γ nL ce sl T ad pc ρ (vi b :: vi a :: st) μ := by
  intro H locs ls hP hD hS hL hW h1 h2
  have hb : zI b := h2.hd
  have ha : zI a := h2.tl.hd
  refine lv_irem X.1 X.2.1 hd (fun e => h0 ((zI.eq hb zI0).mp e)) ?_
  have := k H locs ls hP hD hS hL hW h1 (h2.tl.tl.cons (v := vi (a.tmod b)) (zI_tmod ha))
  rw [List.map_cons, show zT Γ ad (vi (a.tmod b)) = .int (Int32.ofInt (a.tmod b)) from rfl, zz_tmod, zz_ofsub, zz_ofmul, zz_div ha hb] at this
  exact this
/-- bits, over the machine's own ints -/
def zand (a b : Int) : Int := (Int32.ofInt a &&& Int32.ofInt b).toInt
def zor (a b : Int) : Int := (Int32.ofInt a ||| Int32.ofInt b).toInt
def zxor (a b : Int) : Int := (Int32.ofInt a ^^^ Int32.ofInt b).toInt
def zshl (a b : Int) : Int := (Int32.ofInt a <<< (Int32.ofInt b &&& 31)).toInt
def zshr (a b : Int) : Int := (Int32.ofInt a >>> (Int32.ofInt b &&& 31)).toInt
def zush (a b : Int) : Int := ((Int32.ofInt a).toUInt32 >>> ((Int32.ofInt b).toUInt32 &&& Int32.toUInt32 31)).toInt32.toInt
def zi2b (a : Int) : Int := (Int32.ofInt a).toInt8.toInt
def zl2i (a : Int) : Int := (Int64.ofInt a).toInt32.toInt
theorem zz_of (x : Int32) : Int32.ofInt x.toInt = x := Int32.ofInt_toInt x
theorem zi_iand (X : zX Γ own cc nL d) (hd : decode cc pc = .ok (.iand, 1)) (k : zG Γ nL ce sl T ad (pc + 1) ρ (vi (zand a b) :: st) μ) : zG Γ nL ce sl T ad pc ρ (vi b :: vi a :: st) μ :=
  X.step (fun _ _ _ w => lv_iand X.1 X.2.1 hd (by rw [← zz_of (_ &&& _)]; exact w)) (fun h => h.tl.tl.cons (v := vi (zand a b)) (zI.tn _)) k
theorem zi_ior (X : zX Γ own cc nL d) (hd : decode cc pc = .ok (.ior, 1)) (k : zG Γ nL ce sl T ad (pc + 1) ρ (vi (zor a b) :: st) μ) : zG Γ nL ce sl T ad pc ρ (vi b :: vi a :: st) μ :=
  X.step (fun _ _ _ w => lv_ior X.1 X.2.1 hd (by rw [← zz_of (_ ||| _)]; exact w)) (fun h => h.tl.tl.cons (v := vi (zor a b)) (zI.tn _)) k
theorem zi_ixor (X : zX Γ own cc nL d) (hd : decode cc pc = .ok (.ixor, 1)) (k : zG Γ nL ce sl T ad (pc + 1) ρ (vi (zxor a b) :: st) μ) : zG Γ nL ce sl T ad pc ρ (vi b :: vi a :: st) μ :=
  X.step (fun _ _ _ w => lv_ixor X.1 X.2.1 hd (by rw [← zz_of (_ ^^^ _)]; exact w)) (fun h => h.tl.tl.cons (v := vi (zxor a b)) (zI.tn _)) k
theorem zi_ishl (X : zX Γ own cc nL d) (hd : decode cc pc = .ok (.ishl, 1)) (k : zG Γ nL ce sl T ad (pc + 1) ρ (vi (zshl a b) :: st) μ) : zG Γ nL ce sl T ad pc ρ (vi b :: vi a :: st) μ :=
  X.step (fun _ _ _ w => lv_ishl X.1 X.2.1 hd (by rw [← zz_of (_ <<< _)]; exact w)) (fun h => h.tl.tl.cons (v := vi (zshl a b)) (zI.tn _)) k
theorem zi_ishr (X : zX Γ own cc nL d) (hd : decode cc pc = .ok (.ishr, 1)) (k : zG Γ nL ce sl T ad (pc + 1) ρ (vi (zshr a b) :: st) μ) : zG Γ nL ce sl T ad pc ρ (vi b :: vi a :: st) μ :=
  X.step (fun _ _ _ w => lv_ishr X.1 X.2.1 hd (by rw [← zz_of (_ >>> _)]; exact w)) (fun h => h.tl.tl.cons (v := vi (zshr a b)) (zI.tn _)) k
theorem zi_iushr (X : zX Γ own cc nL d) (hd : decode cc pc = .ok (.iushr, 1)) (k : zG Γ nL ce sl T ad (pc + 1) ρ (vi (zush a b) :: st) μ) : zG Γ nL ce sl T ad pc ρ (vi b :: vi a :: st) μ :=
  X.step (fun _ _ _ w => lv_iushr X.1 X.2.1 hd (v := Int32.ofInt (zush a b)) (zz_of _).symm w) (fun h => h.tl.tl.cons (v := vi (zush a b)) (zI.tn _)) k
theorem zi_i2b (X : zX Γ own cc nL d) (hd : decode cc pc = .ok (.i2b, 1)) (k : zG Γ nL ce sl T ad (pc + 1) ρ (vi (zi2b a) :: st) μ) : zG Γ nL ce sl T ad pc ρ (vi a :: st) μ := by
  have e : (Int32.ofInt a).toInt8.toInt32 = Int32.ofInt (zi2b a) := by
    rw [← zz_of (Int32.ofInt a).toInt8.toInt32, Int8.toInt_toInt32]; rfl
  refine X.step (fun _ _ _ w => lv_i2b X.1 X.2.1 hd e w) (fun h => h.tl.cons (v := vi (zi2b a)) ?_) k
  have h1 := Int8.le_toInt (Int32.ofInt a).toInt8
  have h2 := Int8.toInt_lt (Int32.ofInt a).toInt8
  exact ⟨by unfold zi2b; omega, by unfold zi2b; omega⟩
theorem zI.L {n : Int} (h : zI n) : zL n := ⟨by have := h.1; omega, by have := h.2; omega⟩
theorem zi_i2l (X : zX Γ own cc nL d) (hd : decode cc pc = .ok (.i2l, 1)) (k : zG Γ nL ce sl T ad (pc + 1) ρ (vl a :: st) μ) : zG Γ nL ce sl T ad pc ρ (vi a :: st) μ := by
  intro H locs ls hP hD hS hL hW h1 h2
  have ha : zI a := h2.hd
  refine lv_i2l X.1 X.2.1 hd (v := Int64.ofInt a) ?_ (k H locs ls hP hD hS hL hW h1 (h2.tl.cons (v := vl a) ha.L))
  apply Int64.toInt.inj
  rw [Int32.toInt_toInt64, ha.r, ha.L.r]
theorem zi_l2i (X : zX Γ own cc nL d) (hd : decode cc pc = .ok (.l2i, 1)) (hr : zI a) (k : zG Γ nL ce sl T ad (pc + 1) ρ (vi a :: st) μ) : zG Γ nL ce sl T ad pc ρ (vl a :: st) μ := by
  intro H locs ls hP hD hS hL hW h1 h2
  refine lv_l2i X.1 X.2.1 hd (v := Int32.ofInt a) ?_ (k H locs ls hP hD hS hL hW h1 (h2.tl.cons (v := vi a) hr))
  apply Int32.toInt.inj
  rw [Int64.toInt_toInt32, hr.r, hr.L.r]
  have := hr.1; have := hr.2
  rw [Int.bmod_eq_of_le (by omega) (by omega)]
theorem zi_ladd (X : zX Γ own cc nL d) (hd : decode cc pc = .ok (.ladd, 1)) (hr : zL (a + b)) (k : zG Γ nL ce sl T ad (pc + 1) ρ (vl (a + b) :: st) μ) : zG Γ nL ce sl T ad pc ρ (vl b :: vl a :: st) μ :=
  X.step (fun _ _ _ w => lv_ladd X.1 X.2.1 hd (by rw [← Int64.ofInt_add]; exact w)) (fun h => h.tl.tl.cons (v := vl (a + b)) hr) k
theorem zi_lsub (X : zX Γ own cc nL d) (hd : decode cc pc = .ok (.lsub, 1)) (hr : zL (a - b)) (k : zG Γ nL ce sl T ad (pc + 1) ρ (vl (a - b) :: st) μ) : zG Γ nL ce sl T ad pc ρ (vl b :: vl a :: st) μ :=
  X.step (fun _ _ _ w => lv_lsub X.1 X.2.1 hd (by rw [← Int64.ofInt_sub]; exact w)) (fun h => h.tl.tl.cons (v := vl (a - b)) hr) k
theorem zi_lmul (X : zX Γ own cc nL d) (hd : decode cc pc = .ok (.lmul, 1)) (hr : zL (a * b)) (k : zG Γ nL ce sl T ad (pc + 1) ρ (vl (a * b) :: st) μ) : zG Γ nL ce sl T ad pc ρ (vl b :: vl a :: st) μ :=
  X.step (fun _ _ _ w => lv_lmul X.1 X.2.1 hd (by rw [← Int64.ofInt_mul]; exact w)) (fun h => h.tl.tl.cons (v := vl (a * b)) hr) k
theorem zL0 : zL 0 := ⟨by decide, by decide⟩
theorem zi_ldiv (X : zX Γ own cc nL d) (hd : decode cc pc = .ok (.ldiv, 1)) (h0 : b ≠ 0) (hr : zL (a.tdiv b)) (k : zG Γ nL ce sl T ad (pc + 1) ρ (vl (a.tdiv b) :: st) μ) : zG Γ nL ce sl T ad pc ρ (vl b :: vl a :: st) μ := by
  intro H locs ls hP hD hS hL hW h1 h2
  have hb : zL b := h2.hd
  have ha : zL a := h2.tl.hd
  refine lv_ldiv X.1 X.2.1 hd (fun e => h0 ((zL.eq hb zL0).mp e)) ?_
  have := k H locs ls hP hD hS hL hW h1 (h2.tl.tl.cons (v := vl (a.tdiv b)) hr)
  rw [List.map_cons, show zT Γ ad (vl (a.tdiv b)) = .long (Int64.ofInt (a.tdiv b)) from rfl, zz_ldiv ha hb] at this
  exact this
theorem zi_lrem (X : zX Γ own cc nL d) (hd : decode cc pc = .ok (.lrem, 1)) (h0 : b ≠ 0) (hr : zL (a.tmod b)) (k : zG Γ nL ce sl T ad (pc + 1) ρ (vl (a.tmod b) :: st) μ) : zG Γ nL ce sl T ad pc ρ (vl b :: vl a :: st) μ := by
  intro H locs ls hP hD hS hL hW h1 h2
  have hb : zL b := h2.hd
  have ha : zL a := h2.tl.hd
  refine lv_lrem X.1 X.2.1 hd (fun e => h0 ((zL.eq hb zL0).mp e)) ?_
  have := k H locs ls hP hD hS hL hW h1 (h2.tl.tl.cons (v := vl (a.tmod b)) hr)
  rw [List.map_cons, show zT Γ ad (vl (a.tmod b)) = .long (Int64.ofInt (a.tmod b)) from rfl, zz_tmod, Int64.ofInt_sub, Int64.ofInt_mul, zz_ldiv ha hb] at this
  exact this
def zcmp (a b : Int) : Int := if b < a then 1 else if a = b then 0 else -1
theorem zi_lcmp (X : zX Γ own cc nL d) (hd : decode cc pc = .ok (.lcmp, 1)) (k : zG Γ nL ce sl T ad (pc + 1) ρ (vi (zcmp a b) :: st) μ) : zG Γ nL ce sl T ad pc ρ (vl b :: vl a :: st) μ := by
  intro H locs ls hP hD hS hL hW h1 h2
  have hb : zL b := h2.hd
  have ha : zL a := h2.tl.hd
  have e : lg_cmp (Int64.ofInt a) (Int64.ofInt b) = Int32.ofInt (zcmp a b) := by
    unfold lg_cmp zcmp
    by_cases q : b < a
    · rw [if_pos q, if_pos ((zL.lt hb ha).mpr q)]; rfl
    · rw [if_neg q, if_neg (fun z => q ((zL.lt hb ha).mp z))]
      by_cases q2 : a = b
      · rw [if_pos q2, if_pos ((zL.eq ha hb).mpr q2)]; rfl
      · rw [if_neg q2, if_neg (fun z => q2 ((zL.eq ha hb).mp z))]; rfl
  refine W.lcmp X.1 X.2.1 hd ?_
  have := k H locs ls hP hD hS hL hW h1 (h2.tl.tl.cons (v := vi (zcmp a b)) (by show zI _; unfold zcmp zI; (repeat' split) <;> omega))
  rw [List.map_cons, show zT Γ ad (vi (zcmp a b)) = .int (Int32.ofInt (zcmp a b)) from rfl, ← e] at this
  exact this
theorem zi_dup (X : zX Γ own cc nL d) (hd : decode cc pc = .ok (.dup, 1)) (hc : zcat v = 1) (k : zG Γ nL ce sl T ad (pc + 1) ρ (v :: v :: st) μ) : zG Γ nL ce sl T ad pc ρ (v :: st) μ :=
  X.step (fun _ _ _ w => lv_dup X.1 X.2.1 hd (by rw [zt_cat]; exact hc) w) (fun h => h.cons h.hd) k
theorem zi_dup2 (X : zX Γ own cc nL d) (hd : decode cc pc = .ok (.dup2, 1)) (hc : zcat v = 1) (hw : zcat w = 1) (k : zG Γ nL ce sl T ad (pc + 1) ρ (v :: w :: v :: w :: st) μ) : zG Γ nL ce sl T ad pc ρ (v :: w :: st) μ :=
  X.step (fun _ _ _ q => lv_dup2_11 X.1 X.2.1 hd (by rw [zt_cat]; exact hc) (by rw [zt_cat]; exact hw) q) (fun h => (h.cons h.tl.hd).cons h.hd) k
theorem zi_pop (X : zX Γ own cc nL d) (hd : decode cc pc = .ok (.pop, 1)) (hc : zcat v = 1) (k : zG Γ nL ce sl T ad (pc + 1) ρ st μ) : zG Γ nL ce sl T ad pc ρ (v :: st) μ :=
  X.step (fun _ _ _ w => lv_pop X.1 X.2.1 hd (by rw [zt_cat]; exact hc) w) (fun h => h.tl) k
theorem zi_goto (X : zX Γ own cc nL d) (hd : decode cc pc = .ok (.goto off, 3)) (ht : (pc : Int) + off = (tgt : Int)) (k : zG Γ nL ce sl T ad tgt ρ st μ) : zG Γ nL ce sl T ad pc ρ st μ :=
  X.step (fun _ _ _ w => lv_goto X.1 X.2.1 hd ht w) (fun h => h) k
/-- a branch on two ints -/
theorem zX.br2 {c : Prop} (X : zX Γ own cc nL d) (h : zI a → zI b → ∀ (H : Heap) (locs : List Loc) (ls : Array Slot), (c → zWW Γ H locs ce sl (F0 (x_m Γ) tgt ls (st.map (zT Γ ad)))) → (¬ c → zWW Γ H locs ce sl (F0 (x_m Γ) pc' ls (st.map (zT Γ ad)))) → zWW Γ H locs ce sl (F0 (x_m Γ) pc ls ((vi b :: vi a :: st).map (zT Γ ad))))
    (kt : c → zG Γ nL ce sl T ad tgt ρ st μ) (kf : ¬ c → zG Γ nL ce sl T ad pc' ρ st μ) : zG Γ nL ce sl T ad pc ρ (vi b :: vi a :: st) μ :=
  fun H locs ls hP hD hS hL hW h1 h2 => h h2.tl.hd h2.hd H locs ls (fun q => kt q H locs ls hP hD hS hL hW h1 h2.tl.tl) (fun q => kf q H locs ls hP hD hS hL hW h1 h2.tl.tl)
theorem zX.br1 {c : Prop} (X : zX Γ own cc nL d) (h : zI a → ∀ (H : Heap) (locs : List Loc) (ls : Array Slot), (c → zWW Γ H locs ce sl (F0 (x_m Γ) tgt ls (st.map (zT Γ ad)))) → (¬ c → zWW Γ H locs ce sl (F0 (x_m Γ) pc' ls (st.map (zT Γ ad)))) → zWW Γ H locs ce sl (F0 (x_m Γ) pc ls ((vi a :: st).map (zT Γ ad))))
    (kt : c → zG Γ nL ce sl T ad tgt ρ st μ) (kf : ¬ c → zG Γ nL ce sl T ad pc' ρ st μ) : zG Γ nL ce sl T ad pc ρ (vi a :: st) μ :=
  fun H locs ls hP hD hS hL hW h1 h2 => h h2.hd H locs ls (fun q => kt q H locs ls hP hD hS hL hW h1 h2.tl) (fun q => kf q H locs ls hP hD hS hL hW h1 h2.tl)
theorem zj_eq (X : zX Γ own cc nL d) (hd : decode cc pc = .ok (.if_icmp .eq off, 3)) (ht : (pc : Int) + off = (tgt : Int)) (kt : a = b → zG Γ nL ce sl T ad tgt ρ st μ) (kf : ¬ a = b → zG Γ nL ce sl T ad (pc + 3) ρ st μ) : zG Γ nL ce sl T ad pc ρ (vi b :: vi a :: st) μ :=
  X.br2 (fun ha hb _ _ _ q r => lv_icmp_eq X.1 X.2.1 hd ht (fun z => q ((ha.eq hb).mp z)) (fun z => r (fun y => z ((ha.eq hb).mpr y)))) kt kf
theorem zj_ne (X : zX Γ own cc nL d) (hd : decode cc pc = .ok (.if_icmp .ne off, 3)) (ht : (pc : Int) + off = (tgt : Int)) (kt : ¬ a = b → zG Γ nL ce sl T ad tgt ρ st μ) (kf : a = b → zG Γ nL ce sl T ad (pc + 3) ρ st μ) : zG Γ nL ce sl T ad pc ρ (vi b :: vi a :: st) μ :=
  X.br2 (fun ha hb _ _ _ q r => lv_icmp_ne X.1 X.2.1 hd ht (fun z => q (fun y => z ((ha.eq hb).mpr y))) (fun z => r (fun y => y ((ha.eq hb).mp z)))) kt (fun q => kf (Classical.not_not.mp q))
theorem zj_lt (X : zX Γ own cc nL d) (hd : decode cc pc = .ok (.if_icmp .lt off, 3)) (ht : (pc : Int) + off = (tgt : Int)) (kt : a < b → zG Γ nL ce sl T ad tgt ρ st μ) (kf : ¬ a < b → zG Γ nL ce sl T ad (pc + 3) ρ st μ) : zG Γ nL ce sl T ad pc ρ (vi b :: vi a :: st) μ :=
  X.br2 (fun ha hb _ _ _ q r => lv_icmp_lt X.1 X.2.1 hd ht (fun z => q ((ha.lt hb).mp z)) (fun z => r (fun y => z ((ha.lt hb).mpr y)))) kt kf
theorem zj_ge (X : zX Γ own cc nL d) (hd : decode cc pc = .ok (.if_icmp .ge off, 3)) (ht : (pc : Int) + off = (tgt : Int)) (kt : b ≤ a → zG Γ nL ce sl T ad tgt ρ st μ) (kf : ¬ b ≤ a → zG Γ nL ce sl T ad (pc + 3) ρ st μ) : zG Γ nL ce sl T ad pc ρ (vi b :: vi a :: st) μ :=
  X.br2 (fun ha hb _ _ _ q r => lv_icmp_ge X.1 X.2.1 hd ht (fun z => q ((hb.le ha).mp z)) (fun z => r (fun y => z ((hb.le ha).mpr y)))) kt kf
theorem zj_gt (X : zX Γ own cc nL d) (hd : decode cc pc = .ok (.if_icmp .gt off, 3)) (ht : (pc : Int) + off = (tgt : Int)) (kt : b < a → zG Γ nL ce sl T ad tgt ρ st μ) (kf : ¬ b < a → zG Γ nL ce sl T ad (pc + 3) ρ st μ) : zG Γ nL ce sl T ad pc ρ (vi b :: vi a :: st) μ :=
  X.br2 (fun ha hb _ _ _ q r => lv_icmp_gt X.1 X.2.1 hd ht (fun z => q ((hb.lt ha).mp z)) (fun z => r (fun y => z ((hb.lt ha).mpr y)))) kt kf
theorem zj_le (X : zX Γ own cc nL d) (hd : decode cc pc = .ok (.if_icmp .le off, 3)) (ht : (pc : Int) + off = (tgt : Int)) (kt : a ≤ b → zG Γ nL ce sl T ad tgt ρ st μ) (kf : ¬ a ≤ b → zG Γ nL ce sl T ad (pc + 3) ρ st μ) : zG Γ nL ce sl T ad pc ρ (vi b :: vi a :: st) μ :=
  X.br2 (fun ha hb _ _ _ q r => lv_icmp_le X.1 X.2.1 hd ht (fun z => q ((ha.le hb).mp z)) (fun z => r (fun y => z ((ha.le hb).mpr y)))) kt kf
theorem zk_eq (X : zX Γ own cc nL d) (hd : decode cc pc = .ok (.ifCond .eq off, 3)) (ht : (pc : Int) + off = (tgt : Int)) (kt : a = 0 → zG Γ nL ce sl T ad tgt ρ st μ) (kf : ¬ a = 0 → zG Γ nL ce sl T ad (pc + 3) ρ st μ) : zG Γ nL ce sl T ad pc ρ (vi a :: st) μ :=
  X.br1 (fun ha _ _ _ q r => lv_if_eq X.1 X.2.1 hd ht (fun z => q ((ha.eq zI0).mp z)) (fun z => r (fun y => z ((ha.eq zI0).mpr y)))) kt kf
theorem zk_ne (X : zX Γ own cc nL d) (hd : decode cc pc = .ok (.ifCond .ne off, 3)) (ht : (pc : Int) + off = (tgt : Int)) (kt : ¬ a = 0 → zG Γ nL ce sl T ad tgt ρ st μ) (kf : a = 0 → zG Γ nL ce sl T ad (pc + 3) ρ st μ) : zG Γ nL ce sl T ad pc ρ (vi a :: st) μ :=
  X.br1 (fun ha _ _ _ q r => lv_if_ne X.1 X.2.1 hd ht (fun z => q (fun y => z ((ha.eq zI0).mpr y))) (fun z => r (fun y => y ((ha.eq zI0).mp z)))) kt (fun q => kf (Classical.not_not.mp q))
theorem zk_lt (X : zX Γ own cc nL d) (hd : decode cc pc = .ok (.ifCond .lt off, 3)) (ht : (pc : Int) + off = (tgt : Int)) (kt : a < 0 → zG Γ nL ce sl T ad tgt ρ st μ) (kf : ¬ a < 0 → zG Γ nL ce sl T ad (pc + 3) ρ st μ) : zG Γ nL ce sl T ad pc ρ (vi a :: st) μ :=
  X.br1 (fun ha _ _ _ q r => lv_if_lt X.1 X.2.1 hd ht (fun z => q ((ha.lt zI0).mp z)) (fun z => r (fun y => z ((ha.lt zI0).mpr y)))) kt kf
theorem zk_ge (X : zX Γ own cc nL d) (hd : decode cc pc = .ok (.ifCond .ge off, 3)) (ht : (pc : Int) + off = (tgt : Int)) (kt : 0 ≤ a → zG Γ nL ce sl T ad tgt ρ st μ) (kf : ¬ 0 ≤ a → zG Γ nL ce sl T ad (pc + 3) ρ st μ) : zG Γ nL ce sl T ad pc ρ (vi a :: st) μ :=
  X.br1 (fun ha _ _ _ q r => lv_if_ge X.1 X.2.1 hd ht (fun z => q ((zI0.le ha).mp z)) (fun z => r (fun y => z ((zI0.le ha).mpr y)))) kt kf
theorem zk_gt (X : zX Γ own cc nL d) (hd : decode cc pc = .ok (.ifCond .gt off, 3)) (ht : (pc : Int) + off = (tgt : Int)) (kt : 0 < a → zG Γ nL ce sl T ad tgt ρ st μ) (kf : ¬ 0 < a → zG Γ nL ce sl T ad (pc + 3) ρ st μ) : zG Γ nL ce sl T ad pc ρ (vi a :: st) μ :=
  X.br1 (fun ha _ _ _ q r => lv_if_gt X.1 X.2.1 hd ht (fun z => q ((zI0.lt ha).mp z)) (fun z => r (fun y => z ((zI0.lt ha).mpr y)))) kt kf
theorem zk_le (X : zX Γ own cc nL d) (hd : decode cc pc = .ok (.ifCond .le off, 3)) (ht : (pc : Int) + off = (tgt : Int)) (kt : a ≤ 0 → zG Γ nL ce sl T ad tgt ρ st μ) (kf : ¬ a ≤ 0 → zG Γ nL ce sl T ad (pc + 3) ρ st μ) : zG Γ nL ce sl T ad pc ρ (vi a :: st) μ :=
  X.br1 (fun ha _ _ _ q r => lv_if_le X.1 X.2.1 hd ht (fun z => q ((ha.le zI0).mp z)) (fun z => r (fun y => z ((ha.le zI0).mpr y)))) kt kf
theorem zi_switch (X : zX Γ own cc nL d) {dflt lo hi : Int} {offs : Array Int} {len : Nat} (hd : decode cc pc = .ok (.tableswitch dflt lo hi offs, len)) {dt : Nat} (hdt : (pc : Int) + dflt = (dt : Int)) {ts : List Nat} (hts : offs.toList.map (fun o => (pc : Int) + o) = ts.map (fun (t : Nat) => (t : Int)))
    (kin : ∀ t, lo ≤ a → a ≤ hi → ts[(a - lo).toNat]? = some t → zG Γ nL ce sl T ad t ρ st μ) (hlen : (ts.length : Int) = hi - lo + 1) (kout : (a < lo ∨ hi < a) → zG Γ nL ce sl T ad dt ρ st μ) : zG Γ nL ce sl T ad pc ρ (vi a :: st) μ := by
  intro H locs ls hP hD hS hL hW h1 h2
  have ha : zI a := h2.hd
  by_cases h : a < lo ∨ hi < a
  · exact lv_tableOut X.1 X.2.1 hd (by rw [ha.r]; exact h) hdt (kout h H locs ls hP hD hS hL hW h1 h2.tl)
  · have hj : (a - lo).toNat < ts.length := by omega
    have ht : ts[(a - lo).toNat]? = some ts[(a - lo).toNat] := List.getElem?_eq_getElem hj
    have h3 := congrArg (fun l => l[(a - lo).toNat]?) hts
    rw [List.getElem?_map, List.getElem?_map, ht] at h3
    cases ho : offs.toList[(a - lo).toNat]? with
    | none => rw [ho] at h3; cases h3
    | some o =>
      rw [ho] at h3
      have h4 : (pc : Int) + o = (ts[(a - lo).toNat] : Int) := by simpa using h3
      refine lv_tableIn X.1 X.2.1 hd (x := Int32.ofInt a) (off := o) (by rw [ha.r]; omega) (by rw [ha.r]; omega) (by rw [ha.r]; rw [← Array.getElem?_toList]; exact ho) h4 (kin _ (by omega) (by omega) ht H locs ls hP hD hS hL hW h1 h2.tl)
end ZJ
