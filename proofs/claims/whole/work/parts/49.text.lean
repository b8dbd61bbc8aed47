/-! texts: the JDK's own methods that tell their length and signs -/
def zTxs : List (List Nat) := [[100, 101, 112, 116, 104, 32, 103, 114, 111, 119, 115, 32, 115, 101, 108, 108, 115, 32, 98, 97, 114, 115], [108, 101, 110, 100, 32, 114, 101, 112, 97, 121, 32, 119, 97, 105, 116], [116, 111], [111, 102], [116, 105, 109, 101, 115], [105, 102], [111, 114], [97, 110, 100], [110, 111, 116], [111, 119, 110, 101, 114, 32, 118, 105, 115, 105, 116, 111, 114, 32, 111, 119, 101, 115, 32, 98, 97, 99, 107, 32, 114, 111, 111, 109, 115, 32, 119, 97, 114, 121, 32, 97, 109, 111, 117, 110, 116, 32, 97, 103, 101, 32, 100, 97, 121, 32, 109, 111, 111, 100], [100, 97, 121, 32, 100, 101, 98, 116, 115, 32, 100, 111, 110, 101, 32, 108, 97, 115, 116, 32, 112, 117, 114, 115, 101, 32, 111, 119, 101, 100]]
theorem zTxs_b : zSby = zTxs.map (fun l => l.map (fun n => Int32.ofNat n)) := by decide +kernel
theorem zTxs_l : zSlen = zTxs.map (fun l => l.length) := by decide +kernel
theorem zTxs_s : zTxs.all (fun l => l.all (fun n => decide (n < 128)) && decide (l.length < 1000)) = true := by decide +kernel
def zTc (x : Nat) (k : Int) : Int := ((zTxs.getD (x - 2) []).getD k.toNat 0 : Nat)
def zTl (x : Nat) : Int := ((zTxs.getD (x - 2) []).length : Nat)
def y_Sl : zMt := (⟨"java/lang/String", "length", "()I"⟩, prog_17_method_54_code, 1, some .int)
def y_Sc : zMt := (⟨"java/lang/String", "coder", "()B"⟩, prog_17_method_152_code, 1, some .byte)
def y_Sa : zMt := (⟨"java/lang/String", "charAt", "(I)C"⟩, prog_17_method_56_code, 2, some .char)
def y_Si : zMt := (⟨"java/lang/String", "isLatin1", "()Z"⟩, prog_17_method_154_code, 1, some .boolean)
def y_La : zMt := (⟨"java/lang/StringLatin1", "charAt", "([BI)C"⟩, prog_18_method_2_code, 2, some .char)
def y_Sk : zMt := (⟨"java/lang/String", "checkIndex", "(II)V"⟩, prog_17_method_155_code, 2, none)
def y_Pk : zMt := (⟨"jdk/internal/util/Preconditions", "checkIndex", "(IILjava/util/function/BiFunction;)I"⟩, prog_21_method_11_code, 3, some .int)
theorem d_Sl_0 : decode prog_17_method_54_code 0 = .ok (.aload_n 0, 1) := by decide +kernel
theorem d_Sl_1 : decode prog_17_method_54_code 1 = .ok (.getfield 9, 3) := by decide +kernel
theorem d_Sl_4 : decode prog_17_method_54_code 4 = .ok (.arraylength, 1) := by decide +kernel
theorem d_Sl_5 : decode prog_17_method_54_code 5 = .ok (.aload_n 0, 1) := by decide +kernel
theorem d_Sl_6 : decode prog_17_method_54_code 6 = .ok (.invokevirtual 335, 3) := by decide +kernel
theorem d_Sl_9 : decode prog_17_method_54_code 9 = .ok (.ishr, 1) := by decide +kernel
theorem d_Sl_10 : decode prog_17_method_54_code 10 = .ok (.ireturn, 1) := by decide +kernel
theorem d_Sc_0 : decode prog_17_method_152_code 0 = .ok (.getstatic 38, 3) := by decide +kernel
theorem d_Sc_3 : decode prog_17_method_152_code 3 = .ok (.ifCond .eq 10, 3) := by decide +kernel
theorem d_Sc_6 : decode prog_17_method_152_code 6 = .ok (.aload_n 0, 1) := by decide +kernel
theorem d_Sc_7 : decode prog_17_method_152_code 7 = .ok (.getfield 15, 3) := by decide +kernel
theorem d_Sc_10 : decode prog_17_method_152_code 10 = .ok (.goto 4, 3) := by decide +kernel
theorem d_Sc_13 : decode prog_17_method_152_code 13 = .ok (.iconst 1, 1) := by decide +kernel
theorem d_Sc_14 : decode prog_17_method_152_code 14 = .ok (.ireturn, 1) := by decide +kernel
theorem d_Si_0 : decode prog_17_method_154_code 0 = .ok (.getstatic 38, 3) := by decide +kernel
theorem d_Si_3 : decode prog_17_method_154_code 3 = .ok (.ifCond .eq 14, 3) := by decide +kernel
theorem d_Si_6 : decode prog_17_method_154_code 6 = .ok (.aload_n 0, 1) := by decide +kernel
theorem d_Si_7 : decode prog_17_method_154_code 7 = .ok (.getfield 15, 3) := by decide +kernel
theorem d_Si_10 : decode prog_17_method_154_code 10 = .ok (.ifCond .ne 7, 3) := by decide +kernel
theorem d_Si_13 : decode prog_17_method_154_code 13 = .ok (.iconst 1, 1) := by decide +kernel
theorem d_Si_14 : decode prog_17_method_154_code 14 = .ok (.goto 4, 3) := by decide +kernel
theorem d_Si_17 : decode prog_17_method_154_code 17 = .ok (.iconst 0, 1) := by decide +kernel
theorem d_Si_18 : decode prog_17_method_154_code 18 = .ok (.ireturn, 1) := by decide +kernel
theorem d_Sa_0 : decode prog_17_method_56_code 0 = .ok (.aload_n 0, 1) := by decide +kernel
theorem d_Sa_1 : decode prog_17_method_56_code 1 = .ok (.invokevirtual 492, 3) := by decide +kernel
theorem d_Sa_4 : decode prog_17_method_56_code 4 = .ok (.ifCond .eq 12, 3) := by decide +kernel
theorem d_Sa_7 : decode prog_17_method_56_code 7 = .ok (.aload_n 0, 1) := by decide +kernel
theorem d_Sa_8 : decode prog_17_method_56_code 8 = .ok (.getfield 9, 3) := by decide +kernel
theorem d_Sa_11 : decode prog_17_method_56_code 11 = .ok (.iload_n 1, 1) := by decide +kernel
theorem d_Sa_12 : decode prog_17_method_56_code 12 = .ok (.invokestatic 495, 3) := by decide +kernel
theorem d_Sa_15 : decode prog_17_method_56_code 15 = .ok (.ireturn, 1) := by decide +kernel
theorem d_La_0 : decode prog_18_method_2_code 0 = .ok (.iload_n 1, 1) := by decide +kernel
theorem d_La_1 : decode prog_18_method_2_code 1 = .ok (.aload_n 0, 1) := by decide +kernel
theorem d_La_2 : decode prog_18_method_2_code 2 = .ok (.arraylength, 1) := by decide +kernel
theorem d_La_3 : decode prog_18_method_2_code 3 = .ok (.invokestatic 9, 3) := by decide +kernel
theorem d_La_6 : decode prog_18_method_2_code 6 = .ok (.aload_n 0, 1) := by decide +kernel
theorem d_La_7 : decode prog_18_method_2_code 7 = .ok (.iload_n 1, 1) := by decide +kernel
theorem d_La_8 : decode prog_18_method_2_code 8 = .ok (.baload, 1) := by decide +kernel
theorem d_La_9 : decode prog_18_method_2_code 9 = .ok (.sipush 255, 3) := by decide +kernel
theorem d_La_12 : decode prog_18_method_2_code 12 = .ok (.iand, 1) := by decide +kernel
theorem d_La_13 : decode prog_18_method_2_code 13 = .ok (.i2c, 1) := by decide +kernel
theorem d_La_14 : decode prog_18_method_2_code 14 = .ok (.ireturn, 1) := by decide +kernel
theorem d_Sk_0 : decode prog_17_method_155_code 0 = .ok (.iload_n 0, 1) := by decide +kernel
theorem d_Sk_1 : decode prog_17_method_155_code 1 = .ok (.iload_n 1, 1) := by decide +kernel
theorem d_Sk_2 : decode prog_17_method_155_code 2 = .ok (.getstatic 1053, 3) := by decide +kernel
theorem d_Sk_5 : decode prog_17_method_155_code 5 = .ok (.invokestatic 1059, 3) := by decide +kernel
theorem d_Sk_8 : decode prog_17_method_155_code 8 = .ok (.pop, 1) := by decide +kernel
theorem d_Sk_9 : decode prog_17_method_155_code 9 = .ok (.return_, 1) := by decide +kernel
theorem d_Pk_0 : decode prog_21_method_11_code 0 = .ok (.iload_n 0, 1) := by decide +kernel
theorem d_Pk_1 : decode prog_21_method_11_code 1 = .ok (.ifCond .lt 8, 3) := by decide +kernel
theorem d_Pk_4 : decode prog_21_method_11_code 4 = .ok (.iload_n 0, 1) := by decide +kernel
theorem d_Pk_5 : decode prog_21_method_11_code 5 = .ok (.iload_n 1, 1) := by decide +kernel
theorem d_Pk_6 : decode prog_21_method_11_code 6 = .ok (.if_icmp .lt 10, 3) := by decide +kernel
theorem d_Pk_16 : decode prog_21_method_11_code 16 = .ok (.iload_n 0, 1) := by decide +kernel
theorem d_Pk_17 : decode prog_21_method_11_code 17 = .ok (.ireturn, 1) := by decide +kernel
theorem lk_Sl : zLkV "DebtDoors$Reader" 74 y_Sl 0 := ⟨(zTb_in 760 (by decide +kernel) (by decide +kernel)), (zTb_in 761 (by decide +kernel) (by decide +kernel)), (zTb_in 762 (by decide +kernel) (by decide +kernel)), (zTb_in 153 (by decide +kernel) (by decide +kernel)), (zTb_in 763 (by decide +kernel) (by decide +kernel)), ⟨by decide +kernel, by decide +kernel, by decide +kernel⟩, by decide +kernel⟩
theorem lk_Sc : zLkV "java/lang/String" 335 y_Sc 0 := ⟨(zTb_in 764 (by decide +kernel) (by decide +kernel)), (zTb_in 765 (by decide +kernel) (by decide +kernel)), (zTb_in 766 (by decide +kernel) (by decide +kernel)), (zTb_in 153 (by decide +kernel) (by decide +kernel)), (zTb_in 767 (by decide +kernel) (by decide +kernel)), ⟨by decide +kernel, by decide +kernel, by decide +kernel⟩, by decide +kernel⟩
theorem lk_Sa : zLkV "DebtDoors$Reader" 79 y_Sa 1 := ⟨(zTb_in 770 (by decide +kernel) (by decide +kernel)), (zTb_in 771 (by decide +kernel) (by decide +kernel)), (zTb_in 772 (by decide +kernel) (by decide +kernel)), (zTb_in 153 (by decide +kernel) (by decide +kernel)), (zTb_in 773 (by decide +kernel) (by decide +kernel)), ⟨by decide +kernel, by decide +kernel, by decide +kernel⟩, by decide +kernel⟩
theorem lk_Si : zLkV "java/lang/String" 492 y_Si 0 := ⟨(zTb_in 774 (by decide +kernel) (by decide +kernel)), (zTb_in 775 (by decide +kernel) (by decide +kernel)), (zTb_in 776 (by decide +kernel) (by decide +kernel)), (zTb_in 153 (by decide +kernel) (by decide +kernel)), (zTb_in 777 (by decide +kernel) (by decide +kernel)), ⟨by decide +kernel, by decide +kernel, by decide +kernel⟩, by decide +kernel⟩
theorem lk_La : zLkS "java/lang/String" 495 y_La 2 := ⟨(zTb_in 778 (by decide +kernel) (by decide +kernel)), (zTb_in 779 (by decide +kernel) (by decide +kernel)), (zTb_in 154 (by decide +kernel) (by decide +kernel)), (zTb_in 780 (by decide +kernel) (by decide +kernel)), ⟨by decide +kernel, by decide +kernel, by decide +kernel⟩, by decide +kernel⟩
theorem lk_Sk : zLkS "java/lang/StringLatin1" 9 y_Sk 2 := ⟨(zTb_in 781 (by decide +kernel) (by decide +kernel)), (zTb_in 782 (by decide +kernel) (by decide +kernel)), (zTb_in 153 (by decide +kernel) (by decide +kernel)), (zTb_in 783 (by decide +kernel) (by decide +kernel)), ⟨by decide +kernel, by decide +kernel, by decide +kernel⟩, by decide +kernel⟩
theorem lk_Pk : zLkS "java/lang/String" 1059 y_Pk 3 := ⟨(zTb_in 786 (by decide +kernel) (by decide +kernel)), (zTb_in 787 (by decide +kernel) (by decide +kernel)), (zTb_in 155 (by decide +kernel) (by decide +kernel)), (zTb_in 788 (by decide +kernel) (by decide +kernel)), ⟨by decide +kernel, by decide +kernel, by decide +kernel⟩, by decide +kernel⟩
theorem fk_co : Cond.fieldLink "java/lang/String" 38 "java/lang/String" "COMPACT_STRINGS" "Z" ∈ zTb := (zTb_in 768 (by decide +kernel) (by decide +kernel))
theorem fk_fm : Cond.fieldLink "java/lang/String" 1053 "jdk/internal/util/Preconditions" "SIOOBE_FORMATTER" "Ljava/util/function/BiFunction;" ∈ zTb := (zTb_in 784 (by decide +kernel) (by decide +kernel))
theorem fk_va : Cond.fieldLink "java/lang/String" 9 "java/lang/String" "value" "[B" ∈ zTb := (zTb_in 2081 (by decide +kernel) (by decide +kernel))
theorem fk_cd : Cond.fieldLink "java/lang/String" 15 "java/lang/String" "coder" "B" ∈ zTb := (zTb_in 2082 (by decide +kernel) (by decide +kernel))
theorem zTx_l (i : Nat) : zSlen.getD i 0 = (zTxs.getD i []).length := by
  rw [zTxs_l, List.getD_eq_getElem?_getD, List.getD_eq_getElem?_getD, List.getElem?_map]
  cases zTxs[i]? <;> rfl
theorem zTx_b (i j : Nat) : (zSby.getD i []).getD j 0 = Int32.ofNat ((zTxs.getD i []).getD j 0) := by
  rw [zTxs_b, List.getD_eq_getElem?_getD (l := List.map _ _), List.getD_eq_getElem?_getD (l := zTxs), List.getElem?_map]
  cases zTxs[i]? with
  | none => rfl
  | some l =>
    show (l.map _).getD j 0 = Int32.ofNat (l.getD j 0)
    rw [List.getD_eq_getElem?_getD, List.getD_eq_getElem?_getD, List.getElem?_map]
    cases l[j]? <;> rfl
theorem zTx_in (i j : Nat) : (zTxs.getD i []).getD j 0 < 128 ∧ (zTxs.getD i []).length < 1000 := by
  have h := List.all_eq_true.mp zTxs_s
  rw [List.getD_eq_getElem?_getD (l := zTxs)]
  cases e : zTxs[i]? with
  | none => exact ⟨by simp, by simp⟩
  | some l =>
    have h1 := h l (List.mem_of_getElem? e)
    rw [Bool.and_eq_true, decide_eq_true_eq] at h1
    simp only [Option.getD_some]
    refine ⟨?_, h1.2⟩
    rw [List.getD_eq_getElem?_getD]
    cases e2 : l[j]? with
    | none => simp
    | some z => simpa using List.all_eq_true.mp h1.1 z (List.mem_of_getElem? e2)
theorem zref_vx {x : Nat} (h : 0 < x) : zref (vx x) = true := by
  cases x with
  | zero => omega
  | succ x => rfl
section ZTX
variable {Γ : zCx} {own : String} {cc : ByteArray} {nL d d' ce sl mc ms : Nat} {T : List zSh} {ad : Nat → Nat} {pc ix x nA : Nat} {ρ st as : List zV} {μ : zMem} {n k : Int} {ret : Option FieldType} {Rp : Option zV → zMem → Prop} {y : zMt}
theorem zi_retN (X : zX Γ own cc nL d) (Y : zRt Γ ret mc ms T ad T Rp) (hd : decode cc pc = .ok (.ireturn, 1)) {ty : FieldType} (hr : ret = some ty) (hn : narrow ty (.int (Int32.ofInt n)) = .int (Int32.ofInt n)) (hRp : Rp (some (vi n)) μ) : zG Γ nL mc ms T ad pc ρ [vi n] μ := by
  intro H locs ls hP hD hS hL hW h1 h2
  have hQ := Y.1
  unfold zWW
  rw [hQ]
  exact W.zret X.1 X.2.1 (Y.2.1.trans hr) hn (fun t ht hw => zRt.post X (fun _ _ => rfl) hP hD hS hW (r := some (vi n)) (fun v hv => by cases hv; exact ⟨h2.hd, rfl, by intro h; cases h⟩) hRp t ht hw) hS.2.2 hd Y.2.2.1
theorem zXs (X : zX Γ own cc nL d) : zStr (x_G Γ) (x_s Γ) (x_s Γ).heap := X.2.2.2.2.2.1.2.2
theorem zi_compact (X : zX Γ own cc nL d) (ho : own = "java/lang/String") (hd : decode cc pc = .ok (.getstatic 38, 3)) (k : zG Γ nL ce sl T ad (pc + 3) ρ (vi 1 :: st) μ) : zG Γ nL ce sl T ad pc ρ st μ := by
  subst ho
  intro H locs ls hP hD hS hL hW h1 h2
  have := k H locs ls hP hD hS hL hW h1 (h2.cons (v := vi 1) (show zI 1 from ⟨by decide, by decide⟩))
  rw [List.map_cons, show zT Γ ad (vi 1) = .int 1 from rfl] at this
  exact va_gets X.1 X.2.1 (zXs X).2.2.1 hS X.2.2.2.1 (X.2.2.2.2.1 _ fk_co) (fun x h => h) hd this
theorem zi_coder (X : zX Γ own cc nL d) (ho : own = "java/lang/String") (hx : 2 ≤ x ∧ x < 13) (hd : decode cc pc = .ok (.getfield 15, 3)) (k : zG Γ nL ce sl T ad (pc + 3) ρ (vi 0 :: st) μ) : zG Γ nL ce sl T ad pc ρ (vx x :: st) μ := by
  subst ho
  intro H locs ls hP hD hS hL hW h1 h2
  have := k H locs ls hP hD hS hL hW h1 (h2.tl.cons (v := vi 0) zI0)
  rw [List.map_cons, show zT Γ ad (vi 0) = .int 0 from rfl] at this
  have hs := ((zXs X).1.1 (x - 2) (by omega)).2.1
  dsimp only at hs
  rw [show 2 + (x - 2) = x by omega] at hs
  exact vk_getf X.1 X.2.1 hs hS X.2.2.2.1 (X.2.2.2.2.1 _ fk_cd) (fun x h => h) hd this
theorem zi_value (X : zX Γ own cc nL d) (ho : own = "java/lang/String") (hx : 2 ≤ x ∧ x < 13) (hd : decode cc pc = .ok (.getfield 9, 3)) (k : zG Γ nL ce sl T ad (pc + 3) ρ (vx (x + 11) :: st) μ) : zG Γ nL ce sl T ad pc ρ (vx x :: st) μ := by
  subst ho
  intro H locs ls hP hD hS hL hW h1 h2
  have := k H locs ls hP hD hS hL hW h1 (h2.tl.cons (v := vx (x + 11)) trivial)
  have hs := ((zXs X).1.1 (x - 2) (by omega)).2.2.1
  dsimp only at hs
  rw [show 2 + (x - 2) = x by omega, show 13 + (x - 2) = x + 11 by omega] at hs
  exact vk_getf X.1 X.2.1 hs hS X.2.2.2.1 (X.2.2.2.2.1 _ fk_va) (fun x h => h) hd this
theorem zi_vlen (X : zX Γ own cc nL d) (hx : 2 ≤ x ∧ x < 13) (hd : decode cc pc = .ok (.arraylength, 1)) (k : zG Γ nL ce sl T ad (pc + 1) ρ (vi (zTl x) :: st) μ) : zG Γ nL ce sl T ad pc ρ (vx (x + 11) :: st) μ := by
  intro H locs ls hP hD hS hL hW h1 h2
  have hin := zTx_in (x - 2) 0
  have := k H locs ls hP hD hS hL hW h1 (h2.tl.cons (v := vi (zTl x)) (show zI (zTl x) by unfold zTl zI; omega))
  have hs := ((zXs X).1.1 (x - 2) (by omega)).2.2.2
  dsimp only at hs
  rw [show 13 + (x - 2) = x + 11 by omega, zTx_l] at hs
  exact va_tlen X.1 X.2.1 hs hS (v := Int32.ofInt (zTl x)) rfl hd this
theorem zi_vget (X : zX Γ own cc nL d) (hx : 2 ≤ x ∧ x < 13) (h0 : 0 ≤ n) (hn : n < zTl x) (hd : decode cc pc = .ok (.baload, 1)) (k : zG Γ nL ce sl T ad (pc + 1) ρ (vi (zTc x n) :: st) μ) : zG Γ nL ce sl T ad pc ρ (vi n :: vx (x + 11) :: st) μ := by
  intro H locs ls hP hD hS hL hW h1 h2
  have hin := zTx_in (x - 2) n.toNat
  have := k H locs ls hP hD hS hL hW h1 (h2.tl.tl.cons (v := vi (zTc x n)) (show zI (zTc x n) by unfold zTc zI; omega))
  have hs := ((zXs X).1.1 (x - 2) (by omega)).2.2.2
  have hn' : n < ((zTxs.getD (x - 2) []).length : Nat) := hn
  have hzn : zI n := ⟨by omega, by omega⟩
  have ht : (Int32.ofInt n).toNatClampNeg = n.toNat := by
    show (Int32.ofInt n).toInt.toNat = n.toNat
    rw [hzn.r]
  dsimp only at hs
  rw [show 13 + (x - 2) = x + 11 by omega, zTx_l] at hs
  refine va_tb X.1 X.2.1 hs hS (i := Int32.ofInt n) ?_ (v := .int (Int32.ofInt (zTc x n))) ?_ hd this
  · intro q
    rcases q with q | q
    · rw [show (0 : Int32) = Int32.ofInt 0 from rfl, zI.lt hzn zI0] at q
      omega
    · rw [ht] at q
      omega
  · rw [ht]
    show Value.int ((zSby.getD (x - 2) []).getD n.toNat 0) = _
    rw [zTx_b]
    rfl
theorem zi_i2c (X : zX Γ own cc nL d) (h0 : 0 ≤ n) (hn : n < 128) (hd : decode cc pc = .ok (.i2c, 1)) (k : zG Γ nL ce sl T ad (pc + 1) ρ (vi n :: st) μ) : zG Γ nL ce sl T ad pc ρ (vi n :: st) μ := by
  have key : (List.range 128).all (fun m => decide (((Int32.ofInt (m : Int)).toUInt32 % 65536).toInt32 = Int32.ofInt (m : Int))) = true := by decide +kernel
  have e : ((Int32.ofInt n).toUInt32 % 65536).toInt32 = Int32.ofInt n := by
    have := List.all_eq_true.mp key n.toNat (List.mem_range.mpr (by omega))
    rw [show ((n.toNat : Nat) : Int) = n by omega] at this
    simpa using this
  exact X.step (fun _ _ _ w => lv_i2c X.1 X.2.1 hd e w) (fun h => h) k
/-- behind a call's run, from any row of values -/
theorem zc_onW {stk : List Value} {vs : Array Value} (hok : zTok T = true) (X : zX Γ own cc nL d) {H : Heap} {locs : List Loc} {ls : Array Slot} (hS : va_S (zA (x_G Γ)) (x_s Γ).heap H locs) (hL : zLR ls nL (x_G Γ).2.2.1 ad ρ) (h1 : zWs ρ) (h2 : zWs st)
    (hr : va_Run (x_p Γ) (x_l Γ) (x_e Γ) (x_R Γ) (x_s Γ) (x_m Γ) (x_a Γ) (x_b Γ) (x_M Γ) (x_c Γ) H locs ce sl 0 0 (F0 (x_m Γ) pc ls stk) (st.map (zT Γ ad)) (zPost (x_G Γ) T ad T Rp vs) (zA (x_G Γ)))
    (kk : ∀ (r : Option zV) (μ' : zMem), Rp r μ' → zG Γ nL ce sl T ad (pc + 3) ρ (r.toList ++ st) μ') : zWW Γ H locs ce sl (F0 (x_m Γ) pc ls stk) := by
  intro U hU XU
  obtain ⟨v, st₀, t, U', L, h0, X', hLf, e1, e2, ⟨⟨r, ad', μ', hv, hRp, had, hP1, hD1, hE1, hW1, hsc⟩, hz, hkp⟩, stp⟩ := hr U hU XU
  cases hv
  rw [h0] at hz hkp
  rw [zw_ad (fun k sh hs => zE_ad hok had k sh hs) had] at hP1 hD1
  have hS' : va_S (zA (x_G Γ)) (x_s Γ).heap U'.heap (locs ++ L) := ⟨Nat.le_trans hS.1 (by rw [e1]; exact hz), fun q h1 h2 => by rw [e1, hkp q (Nat.lt_of_lt_of_le h1 hS.1) h2]; exact hS.2.1 q h1 h2, fun q hq => by
      rcases List.mem_append.mp hq with h | h
      · exact hS.2.2 q h
      · exact hLf q h⟩
  have hws : zWs (r.toList ++ st) := fun v hv => by
    rcases List.mem_append.mp hv with h | h
    · exact (hsc v (by simpa using h)).1
    · exact h2 v h
  obtain ⟨t2, a1, b1⟩ := kk r μ' hRp U'.heap (locs ++ L) ls (by rw [e1]; exact hP1) hD1 hS' hL hW1 h1 hws U' rfl X'
  refine ⟨t2, stp t2 ?_, b1⟩
  rw [List.map_append] at a1
  have hrl : (Option.map (zt (x_G Γ).2.2.1 ad') r).toList = r.toList.map (zT Γ ad) := by
    cases r with
    | none => rfl
    | some v =>
      obtain ⟨-, h8, h9⟩ := hsc v rfl
      rcases v with x | x | x | x
      · rfl
      · rfl
      · simp [zref] at h8
      · rfl
  rw [hrl]
  exact a1
/-- a text's method -/
theorem zi_Vx (X : zX Γ own cc nL d) (hok : zTok T = true) (hl : zLkV own ix y nA) (hc : y.1.cls = "java/lang/String") (hx : 2 ≤ x ∧ x < 13) (hd' : d' + 1 ≤ d) (hsp : zSp d' 0 0 y T (vx x :: as) μ T Rp) (hn : as.length = nA) (hst : zcs st ≤ 8) (hdg : decode cc pc = .ok (.invokevirtual ix, 3)) (hce : ce ≤ (x_R Γ).cells) (hsl : sl ≤ (x_R Γ).slots)
    (kk : ∀ (r : Option zV) (μ' : zMem), Rp r μ' → zG Γ nL ce sl T ad (pc + 3) ρ (r.toList ++ st) μ') : zG Γ nL ce sl T ad pc ρ (as.reverse ++ vx x :: st) μ := by
  intro H locs ls hP hD hS hL hW h1 h2
  obtain ⟨l1, l2, l3, l4, l5, l6, l7⟩ := hl
  have hgd : GoodIn zTb (wsV own ix y.1.cls y.1 (zws y)) := fun w hw => by
    unfold wsV at hw
    rcases List.mem_append.mp hw with hw | hw
    · simp only [List.mem_cons, List.not_mem_nil, or_false] at hw
      rcases hw with rfl | rfl | rfl | rfl
      · exact zg_in l1
      · exact zg_in l2
      · exact zg_in l3
      · exact zg_in l4
    · exact zws_good l5 w hw
  have hv : zWs (vx x :: as) := (zws_split h2).1.cons (v := vx x) trivial
  have hrv := vk_recv (zXs X).1 (i := x - 2) (by omega) hS
  rw [show 2 + (x - 2) = x by omega] at hrv
  refine zc_onW (vs := ((vx x :: as).map (zT Γ ad)).toArray) hok X hS hL h1 (zws_split h2).2.tl ?_ kk
  exact va_runV (b := (x_G Γ).2.2.1 x) (As := as.map (zT Γ ad)) (rest := st.map (zT Γ ad)) X.fix (hsp (x_l Γ) (x_G Γ) ad) (cwV nA X.2.2.2.2.1 hgd rfl rfl rfl ⟨rfl, l6⟩ (zroom X l7 hd')) ⟨zPre.blind, by rw [hc]; exact hrv, fun U hU hw => zpre (vs := vx x :: as) X hP hD hS hW hv U hU hw⟩ rfl (by rw [List.length_map]; exact hn) hL.1 (by show List.map _ _ = _; rw [List.map_append, List.map_reverse]; rfl) (by rw [zt_cs]; show 2 * 0 + _ ≤ 8; omega) hdg ⟨hce, hsl⟩
end ZTX
theorem q_Sc {x : Nat} {μ : zMem} (hx : 2 ≤ x ∧ x < 13) : zSp 1 0 0 y_Sc zT0 [vx x] μ zT0 (fun r μ' => r = some (vi 0) ∧ μ' = μ) :=
  zSp.of rfl (Nat.le_of_ble_eq_true rfl) (fun Γ ad X Y _ => zi_compact X rfl d_Sc_0 (zk_eq X d_Sc_3 (tgt := 13) (by decide) (fun h => absurd h (by decide)) (fun _ => zi_aloadn X d_Sc_6 rfl (v := vx x) rfl (zref_vx (by omega)) (zi_coder X rfl hx d_Sc_7 (zi_goto X d_Sc_10 (tgt := 14) (by decide) (zi_retN X Y d_Sc_14 rfl rfl ⟨rfl, rfl⟩))))))
theorem q_Si {x : Nat} {μ : zMem} (hx : 2 ≤ x ∧ x < 13) : zSp 1 0 0 y_Si zT0 [vx x] μ zT0 (fun r μ' => r = some (vi 1) ∧ μ' = μ) :=
  zSp.of rfl (Nat.le_of_ble_eq_true rfl) (fun Γ ad X Y _ => zi_compact X rfl d_Si_0 (zk_eq X d_Si_3 (tgt := 17) (by decide) (fun h => absurd h (by decide)) (fun _ => zi_aloadn X d_Si_6 rfl (v := vx x) rfl (zref_vx (by omega)) (zi_coder X rfl hx d_Si_7 (zk_ne X d_Si_10 (tgt := 17) (by decide) (fun h => absurd rfl h) (fun _ => zi_const X d_Si_13 ⟨by decide, by decide⟩ (zi_goto X d_Si_14 (tgt := 18) (by decide) (zi_retN X Y d_Si_18 rfl rfl ⟨rfl, rfl⟩))))))))
theorem zsh0 {n : Int} (h0 : 0 ≤ n) (h1 : n < 1000) : zshr n 0 = n := by
  obtain ⟨m, rfl⟩ := Int.eq_ofNat_of_zero_le h0
  have := zshr_n (a := m) (k := 0) (by omega) (by omega)
  simpa using this
theorem zTl_in (x : Nat) : 0 ≤ zTl x ∧ zTl x < 1000 := by
  have := zTx_in (x - 2) 0
  unfold zTl
  omega
theorem zTc_in (x : Nat) (k : Int) : 0 ≤ zTc x k ∧ zTc x k < 128 := by
  have := zTx_in (x - 2) k.toNat
  unfold zTc
  omega
theorem q_Sl {x : Nat} {μ : zMem} (hx : 2 ≤ x ∧ x < 13) : zSp 2 0 0 y_Sl zT0 [vx x] μ zT0 (fun r μ' => r = some (vi (zTl x)) ∧ μ' = μ) :=
  zSp.of rfl (Nat.le_of_ble_eq_true rfl) (fun Γ ad X Y _ => zi_aloadn X d_Sl_0 rfl (v := vx x) rfl (zref_vx (by omega)) (zi_value X rfl hx d_Sl_1 (zi_vlen X hx d_Sl_4 (zi_aloadn X d_Sl_5 rfl (v := vx x) rfl (zref_vx (by omega)) (zi_Vx (as := []) (st := [vi (zTl x)]) X zT0_ok lk_Sc rfl hx (by decide) (q_Sc hx) rfl (Nat.le_of_ble_eq_true rfl) d_Sl_6 (Nat.zero_le _) (Nat.zero_le _) (fun r μ' h => by
    obtain ⟨rfl, rfl⟩ := h
    exact zi_ishr X d_Sl_9 (by rw [zsh0 (zTl_in x).1 (zTl_in x).2]; exact zi_ireturn X Y d_Sl_10 rfl (Or.inl rfl) (fun _ _ => rfl) ⟨rfl, rfl⟩)))))))
/-- the JDK's test of a place: its third argument is any -/
theorem q_Pk {k n : Int} {v : Value} {μ : zMem} (hv : v = .null ∨ ∃ a, v = .ref a) (h0 : 0 ≤ k) (h1 : k < n) (hn : n < 1000) (l : Launch) (G : zG0) (ad : Nat → Nat) : Met l y_Pk.1 (zws y_Pk) ({ frames := 1, cells := 0, slots := 0, locals := 40 * 1 } : Room)
    (va_Pc [.int (Int32.ofInt k), .int (Int32.ofInt n), v] (fun U => G.2.2.2.2 ≤ U.heap.size ∧ va_P G.1 zCl (zw G.2.1 ad zT0 μ) U.heap ∧ va_D (zA G) (zw G.2.1 ad zT0 μ) ∧ zXt G U U.heap ∧ zWF zT0 μ)) (zPost G zT0 ad zT0 (fun r μ' => r = some (vi k) ∧ μ' = μ)) 0 0 (zA G) := by
  rcases hv with rfl | ⟨a, rfl⟩
  · refine Met.ofW (cc := y_Pk.2.1) (maxL := y_Pk.2.2.1) (ret := y_Pk.2.2.2) rfl rfl ?_
    intro p e s m args below meth c s₁ B hml hvv
    obtain ⟨rfl, h1', h2, h3, h4, h5⟩ := hvv
    have hts := atoms_spec (ws := zws y_Pk) B.pre
    have hown : s.vm.findClass y_Pk.1.cls = some m.cls := findClass_of_methodNamed B.named
    have hle := lv_entry [.int (Int32.ofInt k), .int (Int32.ofInt n), Value.null] (n := y_Pk.2.2.1) (Nat.le_of_ble_eq_true rfl)
    rw [lg_entry_eq]
    generalize (lg_sl [Value.int (Int32.ofInt k), .int (Int32.ofInt n), Value.null] ++ List.replicate (y_Pk.2.2.1 - (lg_sl [Value.int (Int32.ofInt k), .int (Int32.ofInt n), Value.null]).length) Slot.unset).toArray = ls at hle ⊢
    have hL : zLR ls 3 G.2.2.1 ad [vi k, vi n, vx 0] := ⟨hle.1, hle.2.1, fun i w hi hw => by
      match i, hi with
      | 0, hi => cases hi; exact hle.2.2 (0, .int (Int32.ofInt k)) (by simp [lv_args, Value.category])
      | 1, hi => cases hi; exact hle.2.2 (1, .int (Int32.ofInt n)) (by simp [lv_args, Value.category])
      | 2, hi => cases hi; exact absurd rfl hw⟩
    have hk : zI k := ⟨by omega, by omega⟩
    have hn' : zI n := ⟨by omega, by omega⟩
    have X : zX (p, l, e, { frames := 1, cells := 0, slots := 0, locals := 40 * 1 }, s, m, [Value.int (Int32.ofInt k), .int (Int32.ofInt n), Value.null].toArray, below, meth, c, MQ below (zPost G zT0 ad zT0 (fun r μ' => r = some (vi k) ∧ μ' = μ)) [Value.int (Int32.ofInt k), .int (Int32.ofInt n), Value.null].toArray s 0 0 (zA G), G) y_Pk.1.cls y_Pk.2.1 3 1 := ⟨B.exec, B.bytes, hml, hown, fun w hw => hts w (List.mem_cons_of_mem _ hw), h4, h1', Nat.le_refl _, Nat.le_refl _⟩
    have Y : zRt (p, l, e, { frames := 1, cells := 0, slots := 0, locals := 40 * 1 }, s, m, [Value.int (Int32.ofInt k), .int (Int32.ofInt n), Value.null].toArray, below, meth, c, MQ below (zPost G zT0 ad zT0 (fun r μ' => r = some (vi k) ∧ μ' = μ)) [Value.int (Int32.ofInt k), .int (Int32.ofInt n), Value.null].toArray s 0 0 (zA G), G) (some .int) 0 0 zT0 ad zT0 (fun r μ' => r = some (vi k) ∧ μ' = μ) := ⟨rfl, B.returns, B.notSynchronized, rfl, rfl⟩
    exact (zi_loadn X d_Pk_0 rfl (i := 0) rfl (zk_lt X d_Pk_1 (tgt := 9) (by decide) (fun q => absurd q (by omega)) (fun _ => zi_loadn X d_Pk_4 rfl (i := 0) rfl (zi_loadn X d_Pk_5 rfl (i := 1) rfl (zj_lt X d_Pk_6 (tgt := 16) (by decide) (fun _ => zi_loadn X d_Pk_16 rfl (i := 0) rfl (zi_ireturn X Y d_Pk_17 rfl (Or.inl rfl) (fun _ _ => rfl) ⟨rfl, rfl⟩)) (fun q => absurd h1 q))))) : zG _ 3 0 0 zT0 ad 0 [vi k, vi n, vx 0] [] μ) s.heap [] ls h2 h3 va_S.rf hL h5 (fun w hw => by
      simp only [List.mem_cons, List.not_mem_nil, or_false] at hw
      rcases hw with rfl | rfl | rfl
      · exact hk
      · exact hn'
      · exact trivial) (fun w hw => by cases hw)
  · refine Met.ofW (cc := y_Pk.2.1) (maxL := y_Pk.2.2.1) (ret := y_Pk.2.2.2) rfl rfl ?_
    intro p e s m args below meth c s₁ B hml hvv
    obtain ⟨rfl, h1', h2, h3, h4, h5⟩ := hvv
    have hts := atoms_spec (ws := zws y_Pk) B.pre
    have hown : s.vm.findClass y_Pk.1.cls = some m.cls := findClass_of_methodNamed B.named
    have hle := lv_entry [.int (Int32.ofInt k), .int (Int32.ofInt n), (Value.ref a)] (n := y_Pk.2.2.1) (Nat.le_of_ble_eq_true rfl)
    rw [lg_entry_eq]
    generalize (lg_sl [Value.int (Int32.ofInt k), .int (Int32.ofInt n), (Value.ref a)] ++ List.replicate (y_Pk.2.2.1 - (lg_sl [Value.int (Int32.ofInt k), .int (Int32.ofInt n), (Value.ref a)]).length) Slot.unset).toArray = ls at hle ⊢
    have hL : zLR ls 3 G.2.2.1 ad [vi k, vi n, vx 0] := ⟨hle.1, hle.2.1, fun i w hi hw => by
      match i, hi with
      | 0, hi => cases hi; exact hle.2.2 (0, .int (Int32.ofInt k)) (by simp [lv_args, Value.category])
      | 1, hi => cases hi; exact hle.2.2 (1, .int (Int32.ofInt n)) (by simp [lv_args, Value.category])
      | 2, hi => cases hi; exact absurd rfl hw⟩
    have hk : zI k := ⟨by omega, by omega⟩
    have hn' : zI n := ⟨by omega, by omega⟩
    have X : zX (p, l, e, { frames := 1, cells := 0, slots := 0, locals := 40 * 1 }, s, m, [Value.int (Int32.ofInt k), .int (Int32.ofInt n), (Value.ref a)].toArray, below, meth, c, MQ below (zPost G zT0 ad zT0 (fun r μ' => r = some (vi k) ∧ μ' = μ)) [Value.int (Int32.ofInt k), .int (Int32.ofInt n), (Value.ref a)].toArray s 0 0 (zA G), G) y_Pk.1.cls y_Pk.2.1 3 1 := ⟨B.exec, B.bytes, hml, hown, fun w hw => hts w (List.mem_cons_of_mem _ hw), h4, h1', Nat.le_refl _, Nat.le_refl _⟩
    have Y : zRt (p, l, e, { frames := 1, cells := 0, slots := 0, locals := 40 * 1 }, s, m, [Value.int (Int32.ofInt k), .int (Int32.ofInt n), (Value.ref a)].toArray, below, meth, c, MQ below (zPost G zT0 ad zT0 (fun r μ' => r = some (vi k) ∧ μ' = μ)) [Value.int (Int32.ofInt k), .int (Int32.ofInt n), (Value.ref a)].toArray s 0 0 (zA G), G) (some .int) 0 0 zT0 ad zT0 (fun r μ' => r = some (vi k) ∧ μ' = μ) := ⟨rfl, B.returns, B.notSynchronized, rfl, rfl⟩
    exact (zi_loadn X d_Pk_0 rfl (i := 0) rfl (zk_lt X d_Pk_1 (tgt := 9) (by decide) (fun q => absurd q (by omega)) (fun _ => zi_loadn X d_Pk_4 rfl (i := 0) rfl (zi_loadn X d_Pk_5 rfl (i := 1) rfl (zj_lt X d_Pk_6 (tgt := 16) (by decide) (fun _ => zi_loadn X d_Pk_16 rfl (i := 0) rfl (zi_ireturn X Y d_Pk_17 rfl (Or.inl rfl) (fun _ _ => rfl) ⟨rfl, rfl⟩)) (fun q => absurd h1 q))))) : zG _ 3 0 0 zT0 ad 0 [vi k, vi n, vx 0] [] μ) s.heap [] ls h2 h3 va_S.rf hL h5 (fun w hw => by
      simp only [List.mem_cons, List.not_mem_nil, or_false] at hw
      rcases hw with rfl | rfl | rfl
      · exact hk
      · exact hn'
      · exact trivial) (fun w hw => by cases hw)
theorem q_Sk {k n : Int} {μ : zMem} (h0 : 0 ≤ k) (h1 : k < n) (hn : n < 1000) : zSp 2 0 0 y_Sk zT0 [vi k, vi n] μ zT0 (fun r μ' => r = none ∧ μ' = μ) := by
  refine zSp.of rfl (Nat.le_of_ble_eq_true rfl) (fun Γ ad X Y _ => zi_loadn X d_Sk_0 rfl (i := 0) rfl (zi_loadn X d_Sk_1 rfl (i := 1) rfl ?_))
  intro H locs ls hP hD hS hL hW g1 g2
  obtain ⟨v, hZ, hnr, -⟩ := (zXs X).2.2.2
  refine va_gets X.1 X.2.1 hZ hS X.2.2.2.1 (X.2.2.2.2.1 _ fk_fm) (fun x h => h) d_Sk_2 ?_
  refine zc_onW (st := []) (vs := [Value.int (Int32.ofInt k), .int (Int32.ofInt n), v].toArray) (Rp := fun r μ' => r = some (vi k) ∧ μ' = μ) zT0_ok X hS hL g1 (fun w hw => by cases hw) ?_ (fun r μ' h => ?_)
  · obtain ⟨l1, l2, l4, l5, l6, l7⟩ := lk_Pk
    have hgd : GoodIn zTb (va_wsS "java/lang/String" 1059 y_Pk.1 (zws y_Pk)) := fun w hw => by
      unfold va_wsS at hw
      rcases List.mem_append.mp hw with hw | hw
      · simp only [List.mem_cons, List.not_mem_nil, or_false] at hw
        rcases hw with rfl | rfl | rfl
        · exact zg_in l1
        · exact zg_in l2
        · exact zg_in l4
      · exact zws_good l5 w hw
    refine va_runS (As := [Value.int (Int32.ofInt k), .int (Int32.ofInt n), v]) (rest := []) X.fix (q_Pk hnr h0 h1 hn (x_l Γ) (x_G Γ) ad) (va_cwS 3 X.2.2.2.2.1 hgd rfl rfl rfl l6 (zroom (d' := 1) X l7 (by decide))) ⟨?_, fun U hU hw => ?_⟩ rfl rfl hL.1 rfl (show 2 * 0 + 0 ≤ 8 from by decide) d_Sk_5 ⟨Nat.zero_le _, Nat.zero_le _⟩
    · exact fun a U g mk h => ⟨h.1, h.2.1, h.2.2.1, h.2.2.2.1, zXt.same (u := U) (U := U.calling g mk a) rfl h.2.2.2.2.1, h.2.2.2.2.2⟩
    · have hz := zpre (vs := []) X hP hD hS hW (fun w hw => by cases hw) U hU hw
      exact ⟨rfl, hz.2.1, hz.2.2.1, hz.2.2.2.1, hz.2.2.2.2.1, hz.2.2.2.2.2.1⟩
  · obtain ⟨rfl, rfl⟩ := h
    exact zi_pop X d_Sk_8 rfl (zi_return X Y d_Sk_9 rfl (fun _ _ => rfl) ⟨rfl, rfl⟩)
theorem zand255 {n : Int} (h0 : 0 ≤ n) (h1 : n < 128) : zand n 255 = n := by
  obtain ⟨m, rfl⟩ := Int.eq_ofNat_of_zero_le h0
  have key : (List.range 128).all (fun m => zand (m : Int) 255 == (m : Int)) = true := by decide +kernel
  have := List.all_eq_true.mp key m (List.mem_range.mpr (by omega))
  simpa using this
theorem q_La {x : Nat} {k : Int} {μ : zMem} (hx : 2 ≤ x ∧ x < 13) (h0 : 0 ≤ k) (h1 : k < zTl x) : zSp 3 0 0 y_La zT0 [vx (x + 11), vi k] μ zT0 (fun r μ' => r = some (vi (zTc x k)) ∧ μ' = μ) :=
  zSp.of rfl (Nat.le_of_ble_eq_true rfl) (fun Γ ad X Y _ => zi_loadn X d_La_0 rfl (i := 1) rfl (zi_aloadn X d_La_1 rfl (i := 0) (v := vx (x + 11)) rfl (zref_vx (by omega)) (zi_vlen X hx d_La_2 (zi_S (as := [vi k, vi (zTl x)]) (st := []) X zT0_ok lk_Sk (by decide) (q_Sk h0 h1 (zTl_in x).2) rfl (by decide) d_La_3 (Nat.zero_le _) (Nat.zero_le _) (fun r μ' h => by
    obtain ⟨rfl, rfl⟩ := h
    exact zi_aloadn X d_La_6 rfl (i := 0) (v := vx (x + 11)) rfl (zref_vx (by omega)) (zi_loadn X d_La_7 rfl (i := 1) rfl (zi_vget X hx h0 h1 d_La_8 (zi_sipush X d_La_9 rfl ⟨by decide, by decide⟩ (zi_iand X d_La_12 (by
      rw [zand255 (zTc_in x k).1 (zTc_in x k).2]
      exact zi_i2c X (zTc_in x k).1 (zTc_in x k).2 d_La_13 (zi_retN X Y d_La_14 rfl (by
        have key : (List.range 128).all (fun m => decide (narrow .char (.int (Int32.ofInt (m : Int))) = .int (Int32.ofInt (m : Int)))) = true := by decide +kernel
        have := List.all_eq_true.mp key (zTc x k).toNat (List.mem_range.mpr (by have := zTc_in x k; omega))
        rw [show (((zTc x k).toNat : Nat) : Int) = zTc x k by have := zTc_in x k; omega] at this
        simpa using this) ⟨rfl, rfl⟩)))))))))))
theorem q_Sa {x : Nat} {k : Int} {μ : zMem} (hx : 2 ≤ x ∧ x < 13) (h0 : 0 ≤ k) (h1 : k < zTl x) : zSp 4 0 0 y_Sa zT0 [vx x, vi k] μ zT0 (fun r μ' => r = some (vi (zTc x k)) ∧ μ' = μ) :=
  zSp.of rfl (Nat.le_of_ble_eq_true rfl) (fun Γ ad X Y _ => zi_aloadn X d_Sa_0 rfl (i := 0) (v := vx x) rfl (zref_vx (by omega)) (zi_Vx (as := []) (st := []) X zT0_ok lk_Si rfl hx (by decide) (q_Si hx) rfl (by decide) d_Sa_1 (Nat.zero_le _) (Nat.zero_le _) (fun r μ' h => by
    obtain ⟨rfl, rfl⟩ := h
    exact zk_eq X d_Sa_4 (tgt := 16) (by decide) (fun q => absurd q (by decide)) (fun _ => zi_aloadn X d_Sa_7 rfl (i := 0) (v := vx x) rfl (zref_vx (by omega)) (zi_value X rfl hx d_Sa_8 (zi_loadn X d_Sa_11 rfl (i := 1) rfl (zi_S (as := [vx (x + 11), vi k]) (st := []) X zT0_ok lk_La (by decide) (q_La hx h0 h1) rfl (by decide) d_Sa_12 (Nat.zero_le _) (Nat.zero_le _) (fun r μ' h => by
      obtain ⟨rfl, rfl⟩ := h
      exact zi_retN X Y d_Sa_15 rfl (by
        have key : (List.range 128).all (fun m => decide (narrow .char (.int (Int32.ofInt (m : Int))) = .int (Int32.ofInt (m : Int)))) = true := by decide +kernel
        have := List.all_eq_true.mp key (zTc x k).toNat (List.mem_range.mpr (by have := zTc_in x k; omega))
        rw [show (((zTc x k).toNat : Nat) : Int) = zTc x k by have := zTc_in x k; omega] at this
        simpa using this) ⟨rfl, rfl⟩))))))))
section ZTR
variable {M : zMi} {d b b' pc p1 p2 ix : Nat} {v1 : zEn → zMem → Int} {o1 o2 : zEn → zMem → Prop} {r : zEn → zMem → Nat}
theorem rTlen (h1 : RS M d b pc p1 r o1) (hb8 : b ≤ 8) (hd : 8 ≤ d) (hM : M.1 = "DebtDoors$Reader") (dec : decode M.2.1 p1 = .ok (.invokevirtual 74, 3)) : RE M d b pc (p1 + 3) (fun ρ μ => zTl (r ρ μ)) (fun ρ μ => o1 ρ μ ∧ 2 ≤ r ρ μ ∧ r ρ μ < 13) := fun Γ ad ρ st μ X hb o kk => h1 Γ ad ρ st μ X hb o.1 (zi_Vx (as := []) X zT0_ok (by rw [hM]; exact lk_Sl) rfl o.2 (Nat.le_trans (by decide) hd) (q_Sl o.2) rfl (Nat.le_trans hb hb8) dec (Nat.zero_le _) (Nat.zero_le _) (fun q μ' h => by
  obtain ⟨rfl, rfl⟩ := h
  exact kk))
theorem rTchr (h1 : RS M d b pc p1 r o1) (h2 : RE M d (b + 1) p1 p2 v1 o2) (hb8 : b ≤ 8) (hd : 8 ≤ d) (hM : M.1 = "DebtDoors$Reader") (dec : decode M.2.1 p2 = .ok (.invokevirtual 79, 3)) : RE M d b pc (p2 + 3) (fun ρ μ => zTc (r ρ μ) (v1 ρ μ)) (fun ρ μ => o1 ρ μ ∧ o2 ρ μ ∧ (2 ≤ r ρ μ ∧ r ρ μ < 13) ∧ 0 ≤ v1 ρ μ ∧ v1 ρ μ < zTl (r ρ μ)) := fun Γ ad ρ st μ X hb o kk => h1 Γ ad ρ st μ X hb o.1 (h2 Γ ad ρ _ μ X (zcs_c hb) o.2.1 (zi_Vx (as := [vi (v1 ρ μ)]) X zT0_ok (by rw [hM]; exact lk_Sa) rfl o.2.2.1 (Nat.le_trans (by decide) hd) (q_Sa o.2.2.1 o.2.2.2.1 o.2.2.2.2) rfl (Nat.le_trans hb hb8) dec (Nat.zero_le _) (Nat.zero_le _) (fun q μ' h => by
  obtain ⟨rfl, rfl⟩ := h
  exact kk)))
end ZTR

