theorem zI_d {n : Int} (h : (decide (-2147483648 ≤ n) && decide (n ≤ 2147483647)) = true) : zI n := by
  simp only [Bool.and_eq_true, decide_eq_true_eq] at h
  exact h
theorem zn_end {Γ : zCx} {nL n ce sl ce' sl' : Nat} {P Q R : List zSh} {ad0 : Nat → Nat} {μ : zMem} {Δ Δ' : List (Nat × Int × Int)} {pc : Nat} {ρ st : List zV} (h1 : Q = R) (h2 : Δ = Δ') (h3 : ce = ce') (h4 : sl = sl') (k : zH Γ nL n P ad0 μ ce' sl' R Δ' pc ρ st) : zH Γ nL n P ad0 μ ce sl Q Δ pc ρ st := by
  subst h1 h2 h3 h4
  exact k
theorem zn_inc {Γ : zCx} {own : String} {cc : ByteArray} {nL d n ce sl pc k : Nat} {P Q : List zSh} {ad0 : Nat → Nat} {μ : zMem} {Δ : List (Nat × Int × Int)} {st : List zV} {x c y : Int} (X : zX Γ own cc nL d) (hd : decode cc pc = .ok (.iinc 1 y, 3)) (hx : c = x + y) (hn : 1 < nL) (hz : zI c) (kk : zH Γ nL n P ad0 μ ce sl Q Δ (pc + 3) [vr k, vi c] st) : zH Γ nL n P ad0 μ ce sl Q Δ pc [vr k, vi x] st := fun ad hag => by
  subst hx
  refine zi_inc X hd (i := 1) ⟨?_, rfl⟩ hn rfl hz (kk ad hag)
  show 1 < 2
  decide
theorem fl_Le_9 : zFl "DebtDoors$Ledger" 9 1 0 := ⟨_, rfl, by decide, (zTb_in 179 (by decide +kernel) (by decide +kernel)), rfl⟩
theorem fl_Le_15 : zFl "DebtDoors$Ledger" 15 1 1 := ⟨_, rfl, by decide, (zTb_in 184 (by decide +kernel) (by decide +kernel)), rfl⟩
theorem fl_Le_18 : zFl "DebtDoors$Ledger" 18 1 2 := ⟨_, rfl, by decide, (zTb_in 189 (by decide +kernel) (by decide +kernel)), rfl⟩
theorem fl_Le_21 : zFl "DebtDoors$Ledger" 21 1 3 := ⟨_, rfl, by decide, (zTb_in 194 (by decide +kernel) (by decide +kernel)), rfl⟩
theorem fl_Le_24 : zFl "DebtDoors$Ledger" 24 1 4 := ⟨_, rfl, by decide, (zTb_in 198 (by decide +kernel) (by decide +kernel)), rfl⟩
def y_Le_init : zMt := (⟨"DebtDoors$Ledger", "<init>", "()V"⟩, prog_3_method_1_code, 1, none)
def R_Le_init : List zSh := [.inl (1, [.inr (some 1), .inr (some 2), .inr (some 3), .inr (some 4), .inr (some 5), .inl 0, .inl 0]),
  .inr (0, 7, []),
  .inr (0, 16, []),
  .inr (0, 16, []),
  .inr (0, 16, []),
  .inr (0, 16, [])]
def V_Le_init : List (Nat × Int × Int) := []
theorem d_Le_init_0 : decode prog_3_method_1_code 0 = .ok (.aload_n 0, 1) := by decide +kernel
theorem d_Le_init_1 : decode prog_3_method_1_code 1 = .ok (.invokespecial 3, 3) := by decide +kernel
theorem d_Le_init_4 : decode prog_3_method_1_code 4 = .ok (.aload_n 0, 1) := by decide +kernel
theorem d_Le_init_5 : decode prog_3_method_1_code 5 = .ok (.bipush 7, 2) := by decide +kernel
theorem d_Le_init_7 : decode prog_3_method_1_code 7 = .ok (.newarray .int, 2) := by decide +kernel
theorem d_Le_init_9 : decode prog_3_method_1_code 9 = .ok (.putfield 9, 3) := by decide +kernel
theorem d_Le_init_12 : decode prog_3_method_1_code 12 = .ok (.aload_n 0, 1) := by decide +kernel
theorem d_Le_init_13 : decode prog_3_method_1_code 13 = .ok (.bipush 16, 2) := by decide +kernel
theorem d_Le_init_15 : decode prog_3_method_1_code 15 = .ok (.newarray .int, 2) := by decide +kernel
theorem d_Le_init_17 : decode prog_3_method_1_code 17 = .ok (.putfield 15, 3) := by decide +kernel
theorem d_Le_init_20 : decode prog_3_method_1_code 20 = .ok (.aload_n 0, 1) := by decide +kernel
theorem d_Le_init_21 : decode prog_3_method_1_code 21 = .ok (.bipush 16, 2) := by decide +kernel
theorem d_Le_init_23 : decode prog_3_method_1_code 23 = .ok (.newarray .int, 2) := by decide +kernel
theorem d_Le_init_25 : decode prog_3_method_1_code 25 = .ok (.putfield 18, 3) := by decide +kernel
theorem d_Le_init_28 : decode prog_3_method_1_code 28 = .ok (.aload_n 0, 1) := by decide +kernel
theorem d_Le_init_29 : decode prog_3_method_1_code 29 = .ok (.bipush 16, 2) := by decide +kernel
theorem d_Le_init_31 : decode prog_3_method_1_code 31 = .ok (.newarray .int, 2) := by decide +kernel
theorem d_Le_init_33 : decode prog_3_method_1_code 33 = .ok (.putfield 21, 3) := by decide +kernel
theorem d_Le_init_36 : decode prog_3_method_1_code 36 = .ok (.aload_n 0, 1) := by decide +kernel
theorem d_Le_init_37 : decode prog_3_method_1_code 37 = .ok (.bipush 16, 2) := by decide +kernel
theorem d_Le_init_39 : decode prog_3_method_1_code 39 = .ok (.newarray .int, 2) := by decide +kernel
theorem d_Le_init_41 : decode prog_3_method_1_code 41 = .ok (.putfield 24, 3) := by decide +kernel
theorem d_Le_init_44 : decode prog_3_method_1_code 44 = .ok (.return_, 1) := by decide +kernel
theorem k_Le_init {d : Nat} (hd : 1 ≤ d) : zMk d 5 71 y_Le_init 1 [.inr none, .inr none, .inr none, .inr none, .inr none, .inl 0, .inl 0] R_Le_init V_Le_init := by
  refine zMk.of (k := 0) (by decide +kernel) ⟨by decide +kernel, rfl, rfl⟩ rfl (by decide) (fun Γ n P μ ad0 X hc hnm ret => ?_)
  have X : zX Γ "DebtDoors$Ledger" prog_3_method_1_code 1 d := X
  refine zn_aload0 (pc := 0) X d_Le_init_0 ?_
  refine zn_obj (pc := 1) X (zTb_in 178 (by decide +kernel) (by decide +kernel)) d_Le_init_1 (Nat.le_trans (Nat.le_of_ble_eq_true rfl) hd) (by decide) ?_
  refine zn_aload0 (pc := 4) X d_Le_init_4 ?_
  refine zn_bipush (pc := 5) X d_Le_init_5 rfl (zI_d rfl) ?_
  refine zn_newI (pc := 7) (ce := 0) (sl := 0) (m := 1) (N := 7) X hc d_Le_init_7 rfl (by decide +kernel) ?_
  refine zn_putR (pc := 9) X hc hnm fl_Le_9 rfl rfl rfl (fun _ => ⟨rfl, rfl⟩) d_Le_init_9 (by decide +kernel) ?_
  refine zn_aload0 (pc := 12) X d_Le_init_12 ?_
  refine zn_bipush (pc := 13) X d_Le_init_13 rfl (zI_d rfl) ?_
  refine zn_newI (pc := 15) (ce := 1) (sl := 7) (m := 2) (N := 16) X hc d_Le_init_15 rfl (by decide +kernel) ?_
  refine zn_putR (pc := 17) X hc hnm fl_Le_15 rfl rfl rfl (fun _ => ⟨rfl, rfl⟩) d_Le_init_17 (by decide +kernel) ?_
  refine zn_aload0 (pc := 20) X d_Le_init_20 ?_
  refine zn_bipush (pc := 21) X d_Le_init_21 rfl (zI_d rfl) ?_
  refine zn_newI (pc := 23) (ce := 2) (sl := 23) (m := 3) (N := 16) X hc d_Le_init_23 rfl (by decide +kernel) ?_
  refine zn_putR (pc := 25) X hc hnm fl_Le_18 rfl rfl rfl (fun _ => ⟨rfl, rfl⟩) d_Le_init_25 (by decide +kernel) ?_
  refine zn_aload0 (pc := 28) X d_Le_init_28 ?_
  refine zn_bipush (pc := 29) X d_Le_init_29 rfl (zI_d rfl) ?_
  refine zn_newI (pc := 31) (ce := 3) (sl := 39) (m := 4) (N := 16) X hc d_Le_init_31 rfl (by decide +kernel) ?_
  refine zn_putR (pc := 33) X hc hnm fl_Le_21 rfl rfl rfl (fun _ => ⟨rfl, rfl⟩) d_Le_init_33 (by decide +kernel) ?_
  refine zn_aload0 (pc := 36) X d_Le_init_36 ?_
  refine zn_bipush (pc := 37) X d_Le_init_37 rfl (zI_d rfl) ?_
  refine zn_newI (pc := 39) (ce := 4) (sl := 55) (m := 5) (N := 16) X hc d_Le_init_39 rfl (by decide +kernel) ?_
  refine zn_putR (pc := 41) X hc hnm fl_Le_24 rfl rfl rfl (fun _ => ⟨rfl, rfl⟩) d_Le_init_41 (by decide +kernel) ?_
  exact zn_end (by decide +kernel) (by decide +kernel) rfl rfl (ret d_Le_init_44)
theorem fl_Cl_9 : zFl "DebtDoors$Clearing" 9 0 0 := ⟨_, rfl, by decide, (zTb_in 499 (by decide +kernel) (by decide +kernel)), rfl⟩
theorem fl_Cl_15 : zFl "DebtDoors$Clearing" 15 0 1 := ⟨_, rfl, by decide, (zTb_in 500 (by decide +kernel) (by decide +kernel)), rfl⟩
theorem fl_Cl_18 : zFl "DebtDoors$Clearing" 18 0 2 := ⟨_, rfl, by decide, (zTb_in 501 (by decide +kernel) (by decide +kernel)), rfl⟩
theorem fl_Cl_21 : zFl "DebtDoors$Clearing" 21 0 3 := ⟨_, rfl, by decide, (zTb_in 502 (by decide +kernel) (by decide +kernel)), rfl⟩
def y_Cl_init : zMt := (⟨"DebtDoors$Clearing", "<init>", "()V"⟩, prog_2_method_1_code, 1, none)
def R_Cl_init : List zSh := [.inl (0, [.inr (some 1), .inr (some 2), .inr (some 3), .inr (some 4), .inl 0]),
  .inr (0, 7, []),
  .inr (0, 7, []),
  .inr (0, 128, []),
  .inr (0, 7, [])]
def V_Cl_init : List (Nat × Int × Int) := []
theorem d_Cl_init_0 : decode prog_2_method_1_code 0 = .ok (.aload_n 0, 1) := by decide +kernel
theorem d_Cl_init_1 : decode prog_2_method_1_code 1 = .ok (.invokespecial 3, 3) := by decide +kernel
theorem d_Cl_init_4 : decode prog_2_method_1_code 4 = .ok (.aload_n 0, 1) := by decide +kernel
theorem d_Cl_init_5 : decode prog_2_method_1_code 5 = .ok (.bipush 7, 2) := by decide +kernel
theorem d_Cl_init_7 : decode prog_2_method_1_code 7 = .ok (.newarray .int, 2) := by decide +kernel
theorem d_Cl_init_9 : decode prog_2_method_1_code 9 = .ok (.putfield 9, 3) := by decide +kernel
theorem d_Cl_init_12 : decode prog_2_method_1_code 12 = .ok (.aload_n 0, 1) := by decide +kernel
theorem d_Cl_init_13 : decode prog_2_method_1_code 13 = .ok (.bipush 7, 2) := by decide +kernel
theorem d_Cl_init_15 : decode prog_2_method_1_code 15 = .ok (.newarray .int, 2) := by decide +kernel
theorem d_Cl_init_17 : decode prog_2_method_1_code 17 = .ok (.putfield 15, 3) := by decide +kernel
theorem d_Cl_init_20 : decode prog_2_method_1_code 20 = .ok (.aload_n 0, 1) := by decide +kernel
theorem d_Cl_init_21 : decode prog_2_method_1_code 21 = .ok (.sipush 128, 3) := by decide +kernel
theorem d_Cl_init_24 : decode prog_2_method_1_code 24 = .ok (.newarray .int, 2) := by decide +kernel
theorem d_Cl_init_26 : decode prog_2_method_1_code 26 = .ok (.putfield 18, 3) := by decide +kernel
theorem d_Cl_init_29 : decode prog_2_method_1_code 29 = .ok (.aload_n 0, 1) := by decide +kernel
theorem d_Cl_init_30 : decode prog_2_method_1_code 30 = .ok (.bipush 7, 2) := by decide +kernel
theorem d_Cl_init_32 : decode prog_2_method_1_code 32 = .ok (.newarray .int, 2) := by decide +kernel
theorem d_Cl_init_34 : decode prog_2_method_1_code 34 = .ok (.putfield 21, 3) := by decide +kernel
theorem d_Cl_init_37 : decode prog_2_method_1_code 37 = .ok (.return_, 1) := by decide +kernel
theorem k_Cl_init {d : Nat} (hd : 1 ≤ d) : zMk d 4 149 y_Cl_init 0 [.inr none, .inr none, .inr none, .inr none, .inl 0] R_Cl_init V_Cl_init := by
  refine zMk.of (k := 0) (by decide +kernel) ⟨by decide +kernel, rfl, rfl⟩ rfl (by decide) (fun Γ n P μ ad0 X hc hnm ret => ?_)
  have X : zX Γ "DebtDoors$Clearing" prog_2_method_1_code 1 d := X
  refine zn_aload0 (pc := 0) X d_Cl_init_0 ?_
  refine zn_obj (pc := 1) X (zTb_in 498 (by decide +kernel) (by decide +kernel)) d_Cl_init_1 (Nat.le_trans (Nat.le_of_ble_eq_true rfl) hd) (by decide) ?_
  refine zn_aload0 (pc := 4) X d_Cl_init_4 ?_
  refine zn_bipush (pc := 5) X d_Cl_init_5 rfl (zI_d rfl) ?_
  refine zn_newI (pc := 7) (ce := 0) (sl := 0) (m := 1) (N := 7) X hc d_Cl_init_7 rfl (by decide +kernel) ?_
  refine zn_putR (pc := 9) X hc hnm fl_Cl_9 rfl rfl rfl (fun _ => ⟨rfl, rfl⟩) d_Cl_init_9 (by decide +kernel) ?_
  refine zn_aload0 (pc := 12) X d_Cl_init_12 ?_
  refine zn_bipush (pc := 13) X d_Cl_init_13 rfl (zI_d rfl) ?_
  refine zn_newI (pc := 15) (ce := 1) (sl := 7) (m := 2) (N := 7) X hc d_Cl_init_15 rfl (by decide +kernel) ?_
  refine zn_putR (pc := 17) X hc hnm fl_Cl_15 rfl rfl rfl (fun _ => ⟨rfl, rfl⟩) d_Cl_init_17 (by decide +kernel) ?_
  refine zn_aload0 (pc := 20) X d_Cl_init_20 ?_
  refine zn_sipush (pc := 21) X d_Cl_init_21 rfl (zI_d rfl) ?_
  refine zn_newI (pc := 24) (ce := 2) (sl := 14) (m := 3) (N := 128) X hc d_Cl_init_24 rfl (by decide +kernel) ?_
  refine zn_putR (pc := 26) X hc hnm fl_Cl_18 rfl rfl rfl (fun _ => ⟨rfl, rfl⟩) d_Cl_init_26 (by decide +kernel) ?_
  refine zn_aload0 (pc := 29) X d_Cl_init_29 ?_
  refine zn_bipush (pc := 30) X d_Cl_init_30 rfl (zI_d rfl) ?_
  refine zn_newI (pc := 32) (ce := 3) (sl := 142) (m := 4) (N := 7) X hc d_Cl_init_32 rfl (by decide +kernel) ?_
  refine zn_putR (pc := 34) X hc hnm fl_Cl_21 rfl rfl rfl (fun _ => ⟨rfl, rfl⟩) d_Cl_init_34 (by decide +kernel) ?_
  exact zn_end (by decide +kernel) (by decide +kernel) rfl rfl (ret d_Cl_init_37)
theorem fl_Ln_9 : zFl "DebtDoors$Lendings" 9 2 0 := ⟨_, rfl, by decide, (zTb_in 398 (by decide +kernel) (by decide +kernel)), rfl⟩
theorem fl_Ln_15 : zFl "DebtDoors$Lendings" 15 2 1 := ⟨_, rfl, by decide, (zTb_in 399 (by decide +kernel) (by decide +kernel)), rfl⟩
theorem fl_Ln_18 : zFl "DebtDoors$Lendings" 18 2 2 := ⟨_, rfl, by decide, (zTb_in 400 (by decide +kernel) (by decide +kernel)), rfl⟩
theorem fl_Ln_21 : zFl "DebtDoors$Lendings" 21 2 3 := ⟨_, rfl, by decide, (zTb_in 401 (by decide +kernel) (by decide +kernel)), rfl⟩
theorem fl_Ln_24 : zFl "DebtDoors$Lendings" 24 2 4 := ⟨_, rfl, by decide, (zTb_in 402 (by decide +kernel) (by decide +kernel)), rfl⟩
def y_Ln_init : zMt := (⟨"DebtDoors$Lendings", "<init>", "()V"⟩, prog_4_method_1_code, 1, none)
def R_Ln_init : List zSh := [.inl (2, [.inr (some 1), .inr (some 2), .inr (some 3), .inr (some 4), .inr (some 5), .inl 0, .inl 0]),
  .inr (0, 8, []),
  .inr (0, 8, []),
  .inr (0, 8, []),
  .inr (0, 8, []),
  .inr (0, 256, [])]
def V_Ln_init : List (Nat × Int × Int) := []
theorem d_Ln_init_0 : decode prog_4_method_1_code 0 = .ok (.aload_n 0, 1) := by decide +kernel
theorem d_Ln_init_1 : decode prog_4_method_1_code 1 = .ok (.invokespecial 3, 3) := by decide +kernel
theorem d_Ln_init_4 : decode prog_4_method_1_code 4 = .ok (.aload_n 0, 1) := by decide +kernel
theorem d_Ln_init_5 : decode prog_4_method_1_code 5 = .ok (.bipush 8, 2) := by decide +kernel
theorem d_Ln_init_7 : decode prog_4_method_1_code 7 = .ok (.newarray .int, 2) := by decide +kernel
theorem d_Ln_init_9 : decode prog_4_method_1_code 9 = .ok (.putfield 9, 3) := by decide +kernel
theorem d_Ln_init_12 : decode prog_4_method_1_code 12 = .ok (.aload_n 0, 1) := by decide +kernel
theorem d_Ln_init_13 : decode prog_4_method_1_code 13 = .ok (.bipush 8, 2) := by decide +kernel
theorem d_Ln_init_15 : decode prog_4_method_1_code 15 = .ok (.newarray .int, 2) := by decide +kernel
theorem d_Ln_init_17 : decode prog_4_method_1_code 17 = .ok (.putfield 15, 3) := by decide +kernel
theorem d_Ln_init_20 : decode prog_4_method_1_code 20 = .ok (.aload_n 0, 1) := by decide +kernel
theorem d_Ln_init_21 : decode prog_4_method_1_code 21 = .ok (.bipush 8, 2) := by decide +kernel
theorem d_Ln_init_23 : decode prog_4_method_1_code 23 = .ok (.newarray .int, 2) := by decide +kernel
theorem d_Ln_init_25 : decode prog_4_method_1_code 25 = .ok (.putfield 18, 3) := by decide +kernel
theorem d_Ln_init_28 : decode prog_4_method_1_code 28 = .ok (.aload_n 0, 1) := by decide +kernel
theorem d_Ln_init_29 : decode prog_4_method_1_code 29 = .ok (.bipush 8, 2) := by decide +kernel
theorem d_Ln_init_31 : decode prog_4_method_1_code 31 = .ok (.newarray .int, 2) := by decide +kernel
theorem d_Ln_init_33 : decode prog_4_method_1_code 33 = .ok (.putfield 21, 3) := by decide +kernel
theorem d_Ln_init_36 : decode prog_4_method_1_code 36 = .ok (.aload_n 0, 1) := by decide +kernel
theorem d_Ln_init_37 : decode prog_4_method_1_code 37 = .ok (.sipush 256, 3) := by decide +kernel
theorem d_Ln_init_40 : decode prog_4_method_1_code 40 = .ok (.newarray .int, 2) := by decide +kernel
theorem d_Ln_init_42 : decode prog_4_method_1_code 42 = .ok (.putfield 24, 3) := by decide +kernel
theorem d_Ln_init_45 : decode prog_4_method_1_code 45 = .ok (.return_, 1) := by decide +kernel
theorem k_Ln_init {d : Nat} (hd : 1 ≤ d) : zMk d 5 288 y_Ln_init 2 [.inr none, .inr none, .inr none, .inr none, .inr none, .inl 0, .inl 0] R_Ln_init V_Ln_init := by
  refine zMk.of (k := 0) (by decide +kernel) ⟨by decide +kernel, rfl, rfl⟩ rfl (by decide) (fun Γ n P μ ad0 X hc hnm ret => ?_)
  have X : zX Γ "DebtDoors$Lendings" prog_4_method_1_code 1 d := X
  refine zn_aload0 (pc := 0) X d_Ln_init_0 ?_
  refine zn_obj (pc := 1) X (zTb_in 397 (by decide +kernel) (by decide +kernel)) d_Ln_init_1 (Nat.le_trans (Nat.le_of_ble_eq_true rfl) hd) (by decide) ?_
  refine zn_aload0 (pc := 4) X d_Ln_init_4 ?_
  refine zn_bipush (pc := 5) X d_Ln_init_5 rfl (zI_d rfl) ?_
  refine zn_newI (pc := 7) (ce := 0) (sl := 0) (m := 1) (N := 8) X hc d_Ln_init_7 rfl (by decide +kernel) ?_
  refine zn_putR (pc := 9) X hc hnm fl_Ln_9 rfl rfl rfl (fun _ => ⟨rfl, rfl⟩) d_Ln_init_9 (by decide +kernel) ?_
  refine zn_aload0 (pc := 12) X d_Ln_init_12 ?_
  refine zn_bipush (pc := 13) X d_Ln_init_13 rfl (zI_d rfl) ?_
  refine zn_newI (pc := 15) (ce := 1) (sl := 8) (m := 2) (N := 8) X hc d_Ln_init_15 rfl (by decide +kernel) ?_
  refine zn_putR (pc := 17) X hc hnm fl_Ln_15 rfl rfl rfl (fun _ => ⟨rfl, rfl⟩) d_Ln_init_17 (by decide +kernel) ?_
  refine zn_aload0 (pc := 20) X d_Ln_init_20 ?_
  refine zn_bipush (pc := 21) X d_Ln_init_21 rfl (zI_d rfl) ?_
  refine zn_newI (pc := 23) (ce := 2) (sl := 16) (m := 3) (N := 8) X hc d_Ln_init_23 rfl (by decide +kernel) ?_
  refine zn_putR (pc := 25) X hc hnm fl_Ln_18 rfl rfl rfl (fun _ => ⟨rfl, rfl⟩) d_Ln_init_25 (by decide +kernel) ?_
  refine zn_aload0 (pc := 28) X d_Ln_init_28 ?_
  refine zn_bipush (pc := 29) X d_Ln_init_29 rfl (zI_d rfl) ?_
  refine zn_newI (pc := 31) (ce := 3) (sl := 24) (m := 4) (N := 8) X hc d_Ln_init_31 rfl (by decide +kernel) ?_
  refine zn_putR (pc := 33) X hc hnm fl_Ln_21 rfl rfl rfl (fun _ => ⟨rfl, rfl⟩) d_Ln_init_33 (by decide +kernel) ?_
  refine zn_aload0 (pc := 36) X d_Ln_init_36 ?_
  refine zn_sipush (pc := 37) X d_Ln_init_37 rfl (zI_d rfl) ?_
  refine zn_newI (pc := 40) (ce := 4) (sl := 32) (m := 5) (N := 256) X hc d_Ln_init_40 rfl (by decide +kernel) ?_
  refine zn_putR (pc := 42) X hc hnm fl_Ln_24 rfl rfl rfl (fun _ => ⟨rfl, rfl⟩) d_Ln_init_42 (by decide +kernel) ?_
  exact zn_end (by decide +kernel) (by decide +kernel) rfl rfl (ret d_Ln_init_45)
theorem fl_Ma_9 : zFl "DebtDoors$Machine" 9 3 0 := ⟨_, rfl, by decide, (zTb_in 373 (by decide +kernel) (by decide +kernel)), rfl⟩
theorem fl_Ma_15 : zFl "DebtDoors$Machine" 15 3 1 := ⟨_, rfl, by decide, (zTb_in 376 (by decide +kernel) (by decide +kernel)), rfl⟩
def y_Ma_init : zMt := (⟨"DebtDoors$Machine", "<init>", "()V"⟩, prog_5_method_1_code, 1, none)
def R_Ma_init : List zSh := [.inl (3, [.inr (some 1), .inr (some 2), .inl 1]),
  .inr (0, 60, []),
  .inr (0, 64, [])]
def V_Ma_init : List (Nat × Int × Int) := []
theorem d_Ma_init_0 : decode prog_5_method_1_code 0 = .ok (.aload_n 0, 1) := by decide +kernel
theorem d_Ma_init_1 : decode prog_5_method_1_code 1 = .ok (.invokespecial 3, 3) := by decide +kernel
theorem d_Ma_init_4 : decode prog_5_method_1_code 4 = .ok (.aload_n 0, 1) := by decide +kernel
theorem d_Ma_init_5 : decode prog_5_method_1_code 5 = .ok (.bipush 60, 2) := by decide +kernel
theorem d_Ma_init_7 : decode prog_5_method_1_code 7 = .ok (.newarray .int, 2) := by decide +kernel
theorem d_Ma_init_9 : decode prog_5_method_1_code 9 = .ok (.putfield 9, 3) := by decide +kernel
theorem d_Ma_init_12 : decode prog_5_method_1_code 12 = .ok (.aload_n 0, 1) := by decide +kernel
theorem d_Ma_init_13 : decode prog_5_method_1_code 13 = .ok (.bipush 64, 2) := by decide +kernel
theorem d_Ma_init_15 : decode prog_5_method_1_code 15 = .ok (.newarray .int, 2) := by decide +kernel
theorem d_Ma_init_17 : decode prog_5_method_1_code 17 = .ok (.putfield 15, 3) := by decide +kernel
theorem d_Ma_init_20 : decode prog_5_method_1_code 20 = .ok (.return_, 1) := by decide +kernel
theorem k_Ma_init {d : Nat} (hd : 1 ≤ d) : zMk d 2 124 y_Ma_init 3 [.inr none, .inr none, .inl 1] R_Ma_init V_Ma_init := by
  refine zMk.of (k := 0) (by decide +kernel) ⟨by decide +kernel, rfl, rfl⟩ rfl (by decide) (fun Γ n P μ ad0 X hc hnm ret => ?_)
  have X : zX Γ "DebtDoors$Machine" prog_5_method_1_code 1 d := X
  refine zn_aload0 (pc := 0) X d_Ma_init_0 ?_
  refine zn_obj (pc := 1) X (zTb_in 372 (by decide +kernel) (by decide +kernel)) d_Ma_init_1 (Nat.le_trans (Nat.le_of_ble_eq_true rfl) hd) (by decide) ?_
  refine zn_aload0 (pc := 4) X d_Ma_init_4 ?_
  refine zn_bipush (pc := 5) X d_Ma_init_5 rfl (zI_d rfl) ?_
  refine zn_newI (pc := 7) (ce := 0) (sl := 0) (m := 1) (N := 60) X hc d_Ma_init_7 rfl (by decide +kernel) ?_
  refine zn_putR (pc := 9) X hc hnm fl_Ma_9 rfl rfl rfl (fun _ => ⟨rfl, rfl⟩) d_Ma_init_9 (by decide +kernel) ?_
  refine zn_aload0 (pc := 12) X d_Ma_init_12 ?_
  refine zn_bipush (pc := 13) X d_Ma_init_13 rfl (zI_d rfl) ?_
  refine zn_newI (pc := 15) (ce := 1) (sl := 60) (m := 2) (N := 64) X hc d_Ma_init_15 rfl (by decide +kernel) ?_
  refine zn_putR (pc := 17) X hc hnm fl_Ma_15 rfl rfl rfl (fun _ => ⟨rfl, rfl⟩) d_Ma_init_17 (by decide +kernel) ?_
  exact zn_end (by decide +kernel) (by decide +kernel) rfl rfl (ret d_Ma_init_20)
theorem fl_Mo_11 : zFl "DebtDoors$Month" 11 4 0 := ⟨_, rfl, by decide, (zTb_in 523 (by decide +kernel) (by decide +kernel)), rfl⟩
def y_Mo_init : zMt := (⟨"DebtDoors$Month", "<init>", "()V"⟩, prog_6_method_1_code, 1, none)
def R_Mo_init : List zSh := [.inl (4, [.inr (some 1), .inl 0, .inl 0]),
  .inr (0, 21, [])]
def V_Mo_init : List (Nat × Int × Int) := []
theorem d_Mo_init_0 : decode prog_6_method_1_code 0 = .ok (.aload_n 0, 1) := by decide +kernel
theorem d_Mo_init_1 : decode prog_6_method_1_code 1 = .ok (.invokespecial 3, 3) := by decide +kernel
theorem d_Mo_init_4 : decode prog_6_method_1_code 4 = .ok (.aload_n 0, 1) := by decide +kernel
theorem d_Mo_init_5 : decode prog_6_method_1_code 5 = .ok (.bipush 21, 2) := by decide +kernel
theorem d_Mo_init_7 : decode prog_6_method_1_code 7 = .ok (.newarray .int, 2) := by decide +kernel
theorem d_Mo_init_9 : decode prog_6_method_1_code 9 = .ok (.putfield 11, 3) := by decide +kernel
theorem d_Mo_init_12 : decode prog_6_method_1_code 12 = .ok (.return_, 1) := by decide +kernel
theorem k_Mo_init {d : Nat} (hd : 1 ≤ d) : zMk d 1 21 y_Mo_init 4 [.inr none, .inl 0, .inl 0] R_Mo_init V_Mo_init := by
  refine zMk.of (k := 0) (by decide +kernel) ⟨by decide +kernel, rfl, rfl⟩ rfl (by decide) (fun Γ n P μ ad0 X hc hnm ret => ?_)
  have X : zX Γ "DebtDoors$Month" prog_6_method_1_code 1 d := X
  refine zn_aload0 (pc := 0) X d_Mo_init_0 ?_
  refine zn_obj (pc := 1) X (zTb_in 522 (by decide +kernel) (by decide +kernel)) d_Mo_init_1 (Nat.le_trans (Nat.le_of_ble_eq_true rfl) hd) (by decide) ?_
  refine zn_aload0 (pc := 4) X d_Mo_init_4 ?_
  refine zn_bipush (pc := 5) X d_Mo_init_5 rfl (zI_d rfl) ?_
  refine zn_newI (pc := 7) (ce := 0) (sl := 0) (m := 1) (N := 21) X hc d_Mo_init_7 rfl (by decide +kernel) ?_
  refine zn_putR (pc := 9) X hc hnm fl_Mo_11 rfl rfl rfl (fun _ => ⟨rfl, rfl⟩) d_Mo_init_9 (by decide +kernel) ?_
  exact zn_end (by decide +kernel) (by decide +kernel) rfl rfl (ret d_Mo_init_12)
theorem fl_Pl_9 : zFl "DebtDoors$Plan" 9 5 0 := ⟨_, rfl, by decide, (zTb_in 428 (by decide +kernel) (by decide +kernel)), rfl⟩
theorem fl_Pl_15 : zFl "DebtDoors$Plan" 15 5 1 := ⟨_, rfl, by decide, (zTb_in 429 (by decide +kernel) (by decide +kernel)), rfl⟩
theorem fl_Pl_18 : zFl "DebtDoors$Plan" 18 5 2 := ⟨_, rfl, by decide, (zTb_in 430 (by decide +kernel) (by decide +kernel)), rfl⟩
theorem fl_Pl_21 : zFl "DebtDoors$Plan" 21 5 3 := ⟨_, rfl, by decide, (zTb_in 431 (by decide +kernel) (by decide +kernel)), rfl⟩
theorem fl_Pl_24 : zFl "DebtDoors$Plan" 24 5 4 := ⟨_, rfl, by decide, (zTb_in 432 (by decide +kernel) (by decide +kernel)), rfl⟩
theorem fl_Pl_28 : zFl "DebtDoors$Plan" 28 5 5 := ⟨_, rfl, by decide, (zTb_in 433 (by decide +kernel) (by decide +kernel)), rfl⟩
theorem fl_Pl_31 : zFl "DebtDoors$Plan" 31 5 6 := ⟨_, rfl, by decide, (zTb_in 434 (by decide +kernel) (by decide +kernel)), rfl⟩
theorem fl_Pl_34 : zFl "DebtDoors$Plan" 34 5 8 := ⟨_, rfl, by decide, (zTb_in 436 (by decide +kernel) (by decide +kernel)), rfl⟩
def y_Pl_init : zMt := (⟨"DebtDoors$Plan", "<init>", "()V"⟩, prog_7_method_1_code, 1, none)
def R_Pl_init : List zSh := [.inl (5, [.inr (some 1), .inr (some 2), .inr (some 3), .inr (some 4), .inr (some 5), .inr (some 6), .inr (some 7), .inl 1, .inr (some 8)]),
  .inr (0, 49, []),
  .inr (0, 7, []),
  .inr (0, 8, []),
  .inr (0, 8, []),
  .inr (2, 256, []),
  .inr (0, 256, []),
  .inr (0, 2048, []),
  .inr (0, 8, [])]
def V_Pl_init : List (Nat × Int × Int) := []
theorem d_Pl_init_0 : decode prog_7_method_1_code 0 = .ok (.aload_n 0, 1) := by decide +kernel
theorem d_Pl_init_1 : decode prog_7_method_1_code 1 = .ok (.invokespecial 3, 3) := by decide +kernel
theorem d_Pl_init_4 : decode prog_7_method_1_code 4 = .ok (.aload_n 0, 1) := by decide +kernel
theorem d_Pl_init_5 : decode prog_7_method_1_code 5 = .ok (.bipush 49, 2) := by decide +kernel
theorem d_Pl_init_7 : decode prog_7_method_1_code 7 = .ok (.newarray .int, 2) := by decide +kernel
theorem d_Pl_init_9 : decode prog_7_method_1_code 9 = .ok (.putfield 9, 3) := by decide +kernel
theorem d_Pl_init_12 : decode prog_7_method_1_code 12 = .ok (.aload_n 0, 1) := by decide +kernel
theorem d_Pl_init_13 : decode prog_7_method_1_code 13 = .ok (.bipush 7, 2) := by decide +kernel
theorem d_Pl_init_15 : decode prog_7_method_1_code 15 = .ok (.newarray .int, 2) := by decide +kernel
theorem d_Pl_init_17 : decode prog_7_method_1_code 17 = .ok (.putfield 15, 3) := by decide +kernel
theorem d_Pl_init_20 : decode prog_7_method_1_code 20 = .ok (.aload_n 0, 1) := by decide +kernel
theorem d_Pl_init_21 : decode prog_7_method_1_code 21 = .ok (.bipush 8, 2) := by decide +kernel
theorem d_Pl_init_23 : decode prog_7_method_1_code 23 = .ok (.newarray .int, 2) := by decide +kernel
theorem d_Pl_init_25 : decode prog_7_method_1_code 25 = .ok (.putfield 18, 3) := by decide +kernel
theorem d_Pl_init_28 : decode prog_7_method_1_code 28 = .ok (.aload_n 0, 1) := by decide +kernel
theorem d_Pl_init_29 : decode prog_7_method_1_code 29 = .ok (.bipush 8, 2) := by decide +kernel
theorem d_Pl_init_31 : decode prog_7_method_1_code 31 = .ok (.newarray .int, 2) := by decide +kernel
theorem d_Pl_init_33 : decode prog_7_method_1_code 33 = .ok (.putfield 21, 3) := by decide +kernel
theorem d_Pl_init_36 : decode prog_7_method_1_code 36 = .ok (.aload_n 0, 1) := by decide +kernel
theorem d_Pl_init_37 : decode prog_7_method_1_code 37 = .ok (.sipush 256, 3) := by decide +kernel
theorem d_Pl_init_40 : decode prog_7_method_1_code 40 = .ok (.newarray .boolean, 2) := by decide +kernel
theorem d_Pl_init_42 : decode prog_7_method_1_code 42 = .ok (.putfield 24, 3) := by decide +kernel
theorem d_Pl_init_45 : decode prog_7_method_1_code 45 = .ok (.aload_n 0, 1) := by decide +kernel
theorem d_Pl_init_46 : decode prog_7_method_1_code 46 = .ok (.sipush 256, 3) := by decide +kernel
theorem d_Pl_init_49 : decode prog_7_method_1_code 49 = .ok (.newarray .int, 2) := by decide +kernel
theorem d_Pl_init_51 : decode prog_7_method_1_code 51 = .ok (.putfield 28, 3) := by decide +kernel
theorem d_Pl_init_54 : decode prog_7_method_1_code 54 = .ok (.aload_n 0, 1) := by decide +kernel
theorem d_Pl_init_55 : decode prog_7_method_1_code 55 = .ok (.sipush 2048, 3) := by decide +kernel
theorem d_Pl_init_58 : decode prog_7_method_1_code 58 = .ok (.newarray .int, 2) := by decide +kernel
theorem d_Pl_init_60 : decode prog_7_method_1_code 60 = .ok (.putfield 31, 3) := by decide +kernel
theorem d_Pl_init_63 : decode prog_7_method_1_code 63 = .ok (.aload_n 0, 1) := by decide +kernel
theorem d_Pl_init_64 : decode prog_7_method_1_code 64 = .ok (.bipush 8, 2) := by decide +kernel
theorem d_Pl_init_66 : decode prog_7_method_1_code 66 = .ok (.newarray .int, 2) := by decide +kernel
theorem d_Pl_init_68 : decode prog_7_method_1_code 68 = .ok (.putfield 34, 3) := by decide +kernel
theorem d_Pl_init_71 : decode prog_7_method_1_code 71 = .ok (.return_, 1) := by decide +kernel
theorem k_Pl_init {d : Nat} (hd : 1 ≤ d) : zMk d 8 2640 y_Pl_init 5 [.inr none, .inr none, .inr none, .inr none, .inr none, .inr none, .inr none, .inl 1, .inr none] R_Pl_init V_Pl_init := by
  refine zMk.of (k := 0) (by decide +kernel) ⟨by decide +kernel, rfl, rfl⟩ rfl (by decide) (fun Γ n P μ ad0 X hc hnm ret => ?_)
  have X : zX Γ "DebtDoors$Plan" prog_7_method_1_code 1 d := X
  refine zn_aload0 (pc := 0) X d_Pl_init_0 ?_
  refine zn_obj (pc := 1) X (zTb_in 427 (by decide +kernel) (by decide +kernel)) d_Pl_init_1 (Nat.le_trans (Nat.le_of_ble_eq_true rfl) hd) (by decide) ?_
  refine zn_aload0 (pc := 4) X d_Pl_init_4 ?_
  refine zn_bipush (pc := 5) X d_Pl_init_5 rfl (zI_d rfl) ?_
  refine zn_newI (pc := 7) (ce := 0) (sl := 0) (m := 1) (N := 49) X hc d_Pl_init_7 rfl (by decide +kernel) ?_
  refine zn_putR (pc := 9) X hc hnm fl_Pl_9 rfl rfl rfl (fun _ => ⟨rfl, rfl⟩) d_Pl_init_9 (by decide +kernel) ?_
  refine zn_aload0 (pc := 12) X d_Pl_init_12 ?_
  refine zn_bipush (pc := 13) X d_Pl_init_13 rfl (zI_d rfl) ?_
  refine zn_newI (pc := 15) (ce := 1) (sl := 49) (m := 2) (N := 7) X hc d_Pl_init_15 rfl (by decide +kernel) ?_
  refine zn_putR (pc := 17) X hc hnm fl_Pl_15 rfl rfl rfl (fun _ => ⟨rfl, rfl⟩) d_Pl_init_17 (by decide +kernel) ?_
  refine zn_aload0 (pc := 20) X d_Pl_init_20 ?_
  refine zn_bipush (pc := 21) X d_Pl_init_21 rfl (zI_d rfl) ?_
  refine zn_newI (pc := 23) (ce := 2) (sl := 56) (m := 3) (N := 8) X hc d_Pl_init_23 rfl (by decide +kernel) ?_
  refine zn_putR (pc := 25) X hc hnm fl_Pl_18 rfl rfl rfl (fun _ => ⟨rfl, rfl⟩) d_Pl_init_25 (by decide +kernel) ?_
  refine zn_aload0 (pc := 28) X d_Pl_init_28 ?_
  refine zn_bipush (pc := 29) X d_Pl_init_29 rfl (zI_d rfl) ?_
  refine zn_newI (pc := 31) (ce := 3) (sl := 64) (m := 4) (N := 8) X hc d_Pl_init_31 rfl (by decide +kernel) ?_
  refine zn_putR (pc := 33) X hc hnm fl_Pl_21 rfl rfl rfl (fun _ => ⟨rfl, rfl⟩) d_Pl_init_33 (by decide +kernel) ?_
  refine zn_aload0 (pc := 36) X d_Pl_init_36 ?_
  refine zn_sipush (pc := 37) X d_Pl_init_37 rfl (zI_d rfl) ?_
  refine zn_newZ (pc := 40) (ce := 4) (sl := 72) (m := 5) (N := 256) X hc d_Pl_init_40 rfl (by decide +kernel) ?_
  refine zn_putR (pc := 42) X hc hnm fl_Pl_24 rfl rfl rfl (fun _ => ⟨rfl, rfl⟩) d_Pl_init_42 (by decide +kernel) ?_
  refine zn_aload0 (pc := 45) X d_Pl_init_45 ?_
  refine zn_sipush (pc := 46) X d_Pl_init_46 rfl (zI_d rfl) ?_
  refine zn_newI (pc := 49) (ce := 5) (sl := 328) (m := 6) (N := 256) X hc d_Pl_init_49 rfl (by decide +kernel) ?_
  refine zn_putR (pc := 51) X hc hnm fl_Pl_28 rfl rfl rfl (fun _ => ⟨rfl, rfl⟩) d_Pl_init_51 (by decide +kernel) ?_
  refine zn_aload0 (pc := 54) X d_Pl_init_54 ?_
  refine zn_sipush (pc := 55) X d_Pl_init_55 rfl (zI_d rfl) ?_
  refine zn_newI (pc := 58) (ce := 6) (sl := 584) (m := 7) (N := 2048) X hc d_Pl_init_58 rfl (by decide +kernel) ?_
  refine zn_putR (pc := 60) X hc hnm fl_Pl_31 rfl rfl rfl (fun _ => ⟨rfl, rfl⟩) d_Pl_init_60 (by decide +kernel) ?_
  refine zn_aload0 (pc := 63) X d_Pl_init_63 ?_
  refine zn_bipush (pc := 64) X d_Pl_init_64 rfl (zI_d rfl) ?_
  refine zn_newI (pc := 66) (ce := 7) (sl := 2632) (m := 8) (N := 8) X hc d_Pl_init_66 rfl (by decide +kernel) ?_
  refine zn_putR (pc := 68) X hc hnm fl_Pl_34 rfl rfl rfl (fun _ => ⟨rfl, rfl⟩) d_Pl_init_68 (by decide +kernel) ?_
  exact zn_end (by decide +kernel) (by decide +kernel) rfl rfl (ret d_Pl_init_71)
theorem fl_Re_9 : zFl "DebtDoors$Reader" 9 6 0 := ⟨_, rfl, by decide, (zTb_in 323 (by decide +kernel) (by decide +kernel)), rfl⟩
theorem fl_Re_15 : zFl "DebtDoors$Reader" 15 6 1 := ⟨_, rfl, by decide, (zTb_in 325 (by decide +kernel) (by decide +kernel)), rfl⟩
theorem fl_Re_18 : zFl "DebtDoors$Reader" 18 6 3 := ⟨_, rfl, by decide, (zTb_in 329 (by decide +kernel) (by decide +kernel)), rfl⟩
theorem fp_6_3 : zFp 6 3 0 := ⟨_, rfl, rfl, rfl, by decide⟩
def y_Re_init : zMt := (⟨"DebtDoors$Reader", "<init>", "()V"⟩, prog_8_method_1_code, 1, none)
def R_Re_init : List zSh := [.inl (6, [.inr (some 1), .inr (some 2), .inl 0, .inl 0, .inl 1, .inl 0, .inl 0, .inl 0, .inl 0, .inl 0, .inl 0]),
  .inr (0, 400, []),
  .inr (0, 385, [])]
def V_Re_init : List (Nat × Int × Int) := [(0, 3, (-1))]
theorem d_Re_init_0 : decode prog_8_method_1_code 0 = .ok (.aload_n 0, 1) := by decide +kernel
theorem d_Re_init_1 : decode prog_8_method_1_code 1 = .ok (.invokespecial 3, 3) := by decide +kernel
theorem d_Re_init_4 : decode prog_8_method_1_code 4 = .ok (.aload_n 0, 1) := by decide +kernel
theorem d_Re_init_5 : decode prog_8_method_1_code 5 = .ok (.sipush 400, 3) := by decide +kernel
theorem d_Re_init_8 : decode prog_8_method_1_code 8 = .ok (.newarray .int, 2) := by decide +kernel
theorem d_Re_init_10 : decode prog_8_method_1_code 10 = .ok (.putfield 9, 3) := by decide +kernel
theorem d_Re_init_13 : decode prog_8_method_1_code 13 = .ok (.aload_n 0, 1) := by decide +kernel
theorem d_Re_init_14 : decode prog_8_method_1_code 14 = .ok (.sipush 385, 3) := by decide +kernel
theorem d_Re_init_17 : decode prog_8_method_1_code 17 = .ok (.newarray .int, 2) := by decide +kernel
theorem d_Re_init_19 : decode prog_8_method_1_code 19 = .ok (.putfield 15, 3) := by decide +kernel
theorem d_Re_init_22 : decode prog_8_method_1_code 22 = .ok (.aload_n 0, 1) := by decide +kernel
theorem d_Re_init_23 : decode prog_8_method_1_code 23 = .ok (.iconst (-1), 1) := by decide +kernel
theorem d_Re_init_24 : decode prog_8_method_1_code 24 = .ok (.putfield 18, 3) := by decide +kernel
theorem d_Re_init_27 : decode prog_8_method_1_code 27 = .ok (.return_, 1) := by decide +kernel
theorem k_Re_init {d : Nat} (hd : 1 ≤ d) : zMk d 2 785 y_Re_init 6 [.inr none, .inr none, .inl 0, .inl 0, .inl 1, .inl 0, .inl 0, .inl 0, .inl 0, .inl 0, .inl 0] R_Re_init V_Re_init := by
  refine zMk.of (k := 0) (by decide +kernel) ⟨by decide +kernel, rfl, rfl⟩ rfl (by decide) (fun Γ n P μ ad0 X hc hnm ret => ?_)
  have X : zX Γ "DebtDoors$Reader" prog_8_method_1_code 1 d := X
  refine zn_aload0 (pc := 0) X d_Re_init_0 ?_
  refine zn_obj (pc := 1) X (zTb_in 322 (by decide +kernel) (by decide +kernel)) d_Re_init_1 (Nat.le_trans (Nat.le_of_ble_eq_true rfl) hd) (by decide) ?_
  refine zn_aload0 (pc := 4) X d_Re_init_4 ?_
  refine zn_sipush (pc := 5) X d_Re_init_5 rfl (zI_d rfl) ?_
  refine zn_newI (pc := 8) (ce := 0) (sl := 0) (m := 1) (N := 400) X hc d_Re_init_8 rfl (by decide +kernel) ?_
  refine zn_putR (pc := 10) X hc hnm fl_Re_9 rfl rfl rfl (fun _ => ⟨rfl, rfl⟩) d_Re_init_10 (by decide +kernel) ?_
  refine zn_aload0 (pc := 13) X d_Re_init_13 ?_
  refine zn_sipush (pc := 14) X d_Re_init_14 rfl (zI_d rfl) ?_
  refine zn_newI (pc := 17) (ce := 1) (sl := 400) (m := 2) (N := 385) X hc d_Re_init_17 rfl (by decide +kernel) ?_
  refine zn_putR (pc := 19) X hc hnm fl_Re_15 rfl rfl rfl (fun _ => ⟨rfl, rfl⟩) d_Re_init_19 (by decide +kernel) ?_
  refine zn_aload0 (pc := 22) X d_Re_init_22 ?_
  refine zn_const (pc := 23) X d_Re_init_23 (zI_d rfl) ?_
  refine zn_putI (pc := 24) X hc fl_Re_18 fp_6_3 d_Re_init_24 (by decide +kernel) ?_
  exact zn_end (by decide +kernel) (by decide +kernel) rfl rfl (ret d_Re_init_27)
theorem li_Ru_11 : zLkI "DebtDoors$Rules" 11 y_Ma_init 0 := ⟨Or.inl ⟨"DebtDoors", List.mem_of_getElem? (i := 369) (by decide +kernel)⟩, (zTb_in 370 (by decide +kernel) (by decide +kernel)), rfl, (zTb_in 145 (by decide +kernel) (by decide +kernel)), (zTb_in 371 (by decide +kernel) (by decide +kernel)), by decide +kernel, by decide +kernel, rfl⟩
theorem fl_Ru_12 : zFl "DebtDoors$Rules" 12 7 0 := ⟨_, rfl, by decide, (zTb_in 387 (by decide +kernel) (by decide +kernel)), rfl⟩
def y_Ru_init : zMt := (⟨"DebtDoors$Rules", "<init>", "()V"⟩, prog_9_method_1_code, 1, none)
def R_Ru_init : List zSh := [.inl (7, [.inr (some 1)]),
  .inl (3, [.inr (some 2), .inr (some 3), .inl 1]),
  .inr (0, 60, []),
  .inr (0, 64, [])]
def V_Ru_init : List (Nat × Int × Int) := []
theorem d_Ru_init_0 : decode prog_9_method_1_code 0 = .ok (.aload_n 0, 1) := by decide +kernel
theorem d_Ru_init_1 : decode prog_9_method_1_code 1 = .ok (.invokespecial 3, 3) := by decide +kernel
theorem d_Ru_init_4 : decode prog_9_method_1_code 4 = .ok (.aload_n 0, 1) := by decide +kernel
theorem d_Ru_init_5 : decode prog_9_method_1_code 5 = .ok (.new 9, 3) := by decide +kernel
theorem d_Ru_init_8 : decode prog_9_method_1_code 8 = .ok (.dup, 1) := by decide +kernel
theorem d_Ru_init_9 : decode prog_9_method_1_code 9 = .ok (.invokespecial 11, 3) := by decide +kernel
theorem d_Ru_init_12 : decode prog_9_method_1_code 12 = .ok (.putfield 12, 3) := by decide +kernel
theorem d_Ru_init_15 : decode prog_9_method_1_code 15 = .ok (.return_, 1) := by decide +kernel
theorem k_Ru_init {d : Nat} (hd : 2 ≤ d) : zMk d 3 127 y_Ru_init 7 [.inr none] R_Ru_init V_Ru_init := by
  refine zMk.of (k := 0) (by decide +kernel) ⟨by decide +kernel, rfl, rfl⟩ rfl (by decide) (fun Γ n P μ ad0 X hc hnm ret => ?_)
  have X : zX Γ "DebtDoors$Rules" prog_9_method_1_code 1 d := X
  refine zn_aload0 (pc := 0) X d_Ru_init_0 ?_
  refine zn_obj (pc := 1) X (zTb_in 366 (by decide +kernel) (by decide +kernel)) d_Ru_init_1 (Nat.le_trans (Nat.le_of_ble_eq_true rfl) hd) (by decide) ?_
  refine zn_aload0 (pc := 4) X d_Ru_init_4 ?_
  refine zn_new (pc := 5) (ce := 0) (sl := 0) (m := 1) (k := 3) (ci := 3) (fs := [.inr none, .inr none, .inl 1]) X hc d_Ru_init_5 rfl (zTb_in 367 (by decide +kernel) (by decide +kernel)) (zTb_in 368 (by decide +kernel) (by decide +kernel)) (zTb_in 145 (by decide +kernel) (by decide +kernel)) ⟨by decide +kernel, by decide +kernel, rfl⟩ (by decide +kernel) ?_
  refine zn_dup (pc := 8) X d_Ru_init_8 ?_
  refine zn_init (pc := 9) (ce := 1) (sl := 3) (m := 1) X hc li_Ru_11 (Nat.le_trans (Nat.le_of_ble_eq_true rfl) hd) (k_Ma_init (d := 1) (by decide)) d_Ru_init_9 (by decide +kernel) (by decide +kernel) ?_
  refine zn_putR (pc := 12) X hc hnm fl_Ru_12 rfl rfl rfl (fun _ => ⟨rfl, rfl⟩) d_Ru_init_12 (by decide +kernel) ?_
  exact zn_end (by decide +kernel) (by decide +kernel) rfl rfl (ret d_Ru_init_15)
theorem fl_Th_9 : zFl "DebtDoors$Theft" 9 8 0 := ⟨_, rfl, by decide, (zTb_in 463 (by decide +kernel) (by decide +kernel)), rfl⟩
theorem fl_Th_15 : zFl "DebtDoors$Theft" 15 8 1 := ⟨_, rfl, by decide, (zTb_in 464 (by decide +kernel) (by decide +kernel)), rfl⟩
def y_Th_init : zMt := (⟨"DebtDoors$Theft", "<init>", "()V"⟩, prog_10_method_1_code, 1, none)
def R_Th_init : List zSh := [.inl (8, [.inr (some 1), .inr (some 2), .inl 0, .inl 0, .inl 0, .inl 0, .inl 1, .inl 0, .inl 0]),
  .inr (0, 16, []),
  .inr (0, 16, [])]
def V_Th_init : List (Nat × Int × Int) := []
theorem d_Th_init_0 : decode prog_10_method_1_code 0 = .ok (.aload_n 0, 1) := by decide +kernel
theorem d_Th_init_1 : decode prog_10_method_1_code 1 = .ok (.invokespecial 3, 3) := by decide +kernel
theorem d_Th_init_4 : decode prog_10_method_1_code 4 = .ok (.aload_n 0, 1) := by decide +kernel
theorem d_Th_init_5 : decode prog_10_method_1_code 5 = .ok (.bipush 16, 2) := by decide +kernel
theorem d_Th_init_7 : decode prog_10_method_1_code 7 = .ok (.newarray .int, 2) := by decide +kernel
theorem d_Th_init_9 : decode prog_10_method_1_code 9 = .ok (.putfield 9, 3) := by decide +kernel
theorem d_Th_init_12 : decode prog_10_method_1_code 12 = .ok (.aload_n 0, 1) := by decide +kernel
theorem d_Th_init_13 : decode prog_10_method_1_code 13 = .ok (.bipush 16, 2) := by decide +kernel
theorem d_Th_init_15 : decode prog_10_method_1_code 15 = .ok (.newarray .int, 2) := by decide +kernel
theorem d_Th_init_17 : decode prog_10_method_1_code 17 = .ok (.putfield 15, 3) := by decide +kernel
theorem d_Th_init_20 : decode prog_10_method_1_code 20 = .ok (.return_, 1) := by decide +kernel
theorem k_Th_init {d : Nat} (hd : 1 ≤ d) : zMk d 2 32 y_Th_init 8 [.inr none, .inr none, .inl 0, .inl 0, .inl 0, .inl 0, .inl 1, .inl 0, .inl 0] R_Th_init V_Th_init := by
  refine zMk.of (k := 0) (by decide +kernel) ⟨by decide +kernel, rfl, rfl⟩ rfl (by decide) (fun Γ n P μ ad0 X hc hnm ret => ?_)
  have X : zX Γ "DebtDoors$Theft" prog_10_method_1_code 1 d := X
  refine zn_aload0 (pc := 0) X d_Th_init_0 ?_
  refine zn_obj (pc := 1) X (zTb_in 462 (by decide +kernel) (by decide +kernel)) d_Th_init_1 (Nat.le_trans (Nat.le_of_ble_eq_true rfl) hd) (by decide) ?_
  refine zn_aload0 (pc := 4) X d_Th_init_4 ?_
  refine zn_bipush (pc := 5) X d_Th_init_5 rfl (zI_d rfl) ?_
  refine zn_newI (pc := 7) (ce := 0) (sl := 0) (m := 1) (N := 16) X hc d_Th_init_7 rfl (by decide +kernel) ?_
  refine zn_putR (pc := 9) X hc hnm fl_Th_9 rfl rfl rfl (fun _ => ⟨rfl, rfl⟩) d_Th_init_9 (by decide +kernel) ?_
  refine zn_aload0 (pc := 12) X d_Th_init_12 ?_
  refine zn_bipush (pc := 13) X d_Th_init_13 rfl (zI_d rfl) ?_
  refine zn_newI (pc := 15) (ce := 1) (sl := 16) (m := 2) (N := 16) X hc d_Th_init_15 rfl (by decide +kernel) ?_
  refine zn_putR (pc := 17) X hc hnm fl_Th_15 rfl rfl rfl (fun _ => ⟨rfl, rfl⟩) d_Th_init_17 (by decide +kernel) ?_
  exact zn_end (by decide +kernel) (by decide +kernel) rfl rfl (ret d_Th_init_20)
theorem li_To_11 : zLkI "DebtDoors$Town" 11 y_Le_init 0 := ⟨Or.inl ⟨"DebtDoors", List.mem_of_getElem? (i := 175) (by decide +kernel)⟩, (zTb_in 176 (by decide +kernel) (by decide +kernel)), rfl, (zTb_in 141 (by decide +kernel) (by decide +kernel)), (zTb_in 177 (by decide +kernel) (by decide +kernel)), by decide +kernel, by decide +kernel, rfl⟩
theorem fl_To_12 : zFl "DebtDoors$Town" 12 9 0 := ⟨_, rfl, by decide, (zTb_in 226 (by decide +kernel) (by decide +kernel)), rfl⟩
theorem fl_To_18 : zFl "DebtDoors$Town" 18 9 1 := ⟨_, rfl, by decide, (zTb_in 232 (by decide +kernel) (by decide +kernel)), rfl⟩
theorem fl_To_22 : zFl "DebtDoors$Town" 22 9 2 := ⟨_, rfl, by decide, (zTb_in 235 (by decide +kernel) (by decide +kernel)), rfl⟩
theorem fl_To_27 : zFl "DebtDoors$Town" 27 9 3 := ⟨_, rfl, by decide, (zTb_in 238 (by decide +kernel) (by decide +kernel)), rfl⟩
theorem fl_To_30 : zFl "DebtDoors$Town" 30 9 4 := ⟨_, rfl, by decide, (zTb_in 242 (by decide +kernel) (by decide +kernel)), rfl⟩
theorem fl_To_33 : zFl "DebtDoors$Town" 33 9 5 := ⟨_, rfl, by decide, (zTb_in 244 (by decide +kernel) (by decide +kernel)), rfl⟩
theorem fl_To_36 : zFl "DebtDoors$Town" 36 9 11 := ⟨_, rfl, by decide, (zTb_in 262 (by decide +kernel) (by decide +kernel)), rfl⟩
theorem fp_9_11 : zFp 9 11 0 := ⟨_, rfl, rfl, rfl, by decide⟩
def y_To_init : zMt := (⟨"DebtDoors$Town", "<init>", "()V"⟩, prog_11_method_1_code, 1, none)
def R_To_init : List zSh := [.inl (9, [.inr (some 1), .inr (some 7), .inr (some 8), .inr (some 9), .inr (some 18), .inr (some 27), .inl 0, .inl 0, .inl 0, .inl 0, .inl 0, .inl 0]),
  .inl (1, [.inr (some 2), .inr (some 3), .inr (some 4), .inr (some 5), .inr (some 6), .inl 0, .inl 0]),
  .inr (0, 7, []),
  .inr (0, 16, []),
  .inr (0, 16, []),
  .inr (0, 16, []),
  .inr (0, 16, []),
  .inr (0, 7, []),
  .inr (0, 7, []),
  .inr (4, 8, [some 10, some 11, some 12, some 13, some 14, some 15, some 16, some 17]),
  .inr (0, 4, []),
  .inr (0, 4, []),
  .inr (0, 4, []),
  .inr (0, 4, []),
  .inr (0, 4, []),
  .inr (0, 4, []),
  .inr (0, 4, []),
  .inr (0, 4, []),
  .inr (4, 8, [some 19, some 20, some 21, some 22, some 23, some 24, some 25, some 26]),
  .inr (0, 4, []),
  .inr (0, 4, []),
  .inr (0, 4, []),
  .inr (0, 4, []),
  .inr (0, 4, []),
  .inr (0, 4, []),
  .inr (0, 4, []),
  .inr (0, 4, []),
  .inr (4, 6, [some 28, some 29, some 30, some 31, some 32, some 33]),
  .inr (0, 385, []),
  .inr (0, 385, []),
  .inr (0, 385, []),
  .inr (0, 385, []),
  .inr (0, 385, []),
  .inr (0, 385, [])]
def V_To_init : List (Nat × Int × Int) := [(0, 11, (-1))]
theorem d_To_init_0 : decode prog_11_method_1_code 0 = .ok (.aload_n 0, 1) := by decide +kernel
theorem d_To_init_1 : decode prog_11_method_1_code 1 = .ok (.invokespecial 3, 3) := by decide +kernel
theorem d_To_init_4 : decode prog_11_method_1_code 4 = .ok (.aload_n 0, 1) := by decide +kernel
theorem d_To_init_5 : decode prog_11_method_1_code 5 = .ok (.new 9, 3) := by decide +kernel
theorem d_To_init_8 : decode prog_11_method_1_code 8 = .ok (.dup, 1) := by decide +kernel
theorem d_To_init_9 : decode prog_11_method_1_code 9 = .ok (.invokespecial 11, 3) := by decide +kernel
theorem d_To_init_12 : decode prog_11_method_1_code 12 = .ok (.putfield 12, 3) := by decide +kernel
theorem d_To_init_15 : decode prog_11_method_1_code 15 = .ok (.aload_n 0, 1) := by decide +kernel
theorem d_To_init_16 : decode prog_11_method_1_code 16 = .ok (.bipush 7, 2) := by decide +kernel
theorem d_To_init_18 : decode prog_11_method_1_code 18 = .ok (.newarray .int, 2) := by decide +kernel
theorem d_To_init_20 : decode prog_11_method_1_code 20 = .ok (.putfield 18, 3) := by decide +kernel
theorem d_To_init_23 : decode prog_11_method_1_code 23 = .ok (.aload_n 0, 1) := by decide +kernel
theorem d_To_init_24 : decode prog_11_method_1_code 24 = .ok (.bipush 7, 2) := by decide +kernel
theorem d_To_init_26 : decode prog_11_method_1_code 26 = .ok (.newarray .int, 2) := by decide +kernel
theorem d_To_init_28 : decode prog_11_method_1_code 28 = .ok (.putfield 22, 3) := by decide +kernel
theorem d_To_init_31 : decode prog_11_method_1_code 31 = .ok (.aload_n 0, 1) := by decide +kernel
theorem d_To_init_32 : decode prog_11_method_1_code 32 = .ok (.bipush 8, 2) := by decide +kernel
theorem d_To_init_34 : decode prog_11_method_1_code 34 = .ok (.iconst 4, 1) := by decide +kernel
theorem d_To_init_35 : decode prog_11_method_1_code 35 = .ok (.multianewarray 25 2, 4) := by decide +kernel
theorem d_To_init_39 : decode prog_11_method_1_code 39 = .ok (.putfield 27, 3) := by decide +kernel
theorem d_To_init_42 : decode prog_11_method_1_code 42 = .ok (.aload_n 0, 1) := by decide +kernel
theorem d_To_init_43 : decode prog_11_method_1_code 43 = .ok (.bipush 8, 2) := by decide +kernel
theorem d_To_init_45 : decode prog_11_method_1_code 45 = .ok (.iconst 4, 1) := by decide +kernel
theorem d_To_init_46 : decode prog_11_method_1_code 46 = .ok (.multianewarray 25 2, 4) := by decide +kernel
theorem d_To_init_50 : decode prog_11_method_1_code 50 = .ok (.putfield 30, 3) := by decide +kernel
theorem d_To_init_53 : decode prog_11_method_1_code 53 = .ok (.aload_n 0, 1) := by decide +kernel
theorem d_To_init_54 : decode prog_11_method_1_code 54 = .ok (.bipush 6, 2) := by decide +kernel
theorem d_To_init_56 : decode prog_11_method_1_code 56 = .ok (.sipush 385, 3) := by decide +kernel
theorem d_To_init_59 : decode prog_11_method_1_code 59 = .ok (.multianewarray 25 2, 4) := by decide +kernel
theorem d_To_init_63 : decode prog_11_method_1_code 63 = .ok (.putfield 33, 3) := by decide +kernel
theorem d_To_init_66 : decode prog_11_method_1_code 66 = .ok (.aload_n 0, 1) := by decide +kernel
theorem d_To_init_67 : decode prog_11_method_1_code 67 = .ok (.iconst (-1), 1) := by decide +kernel
theorem d_To_init_68 : decode prog_11_method_1_code 68 = .ok (.putfield 36, 3) := by decide +kernel
theorem d_To_init_71 : decode prog_11_method_1_code 71 = .ok (.return_, 1) := by decide +kernel
theorem k_To_init {d : Nat} (hd : 2 ≤ d) : zMk d 33 2488 y_To_init 9 [.inr none, .inr none, .inr none, .inr none, .inr none, .inr none, .inl 0, .inl 0, .inl 0, .inl 0, .inl 0, .inl 0] R_To_init V_To_init := by
  refine zMk.of (k := 0) (by decide +kernel) ⟨by decide +kernel, rfl, rfl⟩ rfl (by decide) (fun Γ n P μ ad0 X hc hnm ret => ?_)
  have X : zX Γ "DebtDoors$Town" prog_11_method_1_code 1 d := X
  refine zn_aload0 (pc := 0) X d_To_init_0 ?_
  refine zn_obj (pc := 1) X (zTb_in 172 (by decide +kernel) (by decide +kernel)) d_To_init_1 (Nat.le_trans (Nat.le_of_ble_eq_true rfl) hd) (by decide) ?_
  refine zn_aload0 (pc := 4) X d_To_init_4 ?_
  refine zn_new (pc := 5) (ce := 0) (sl := 0) (m := 1) (k := 7) (ci := 1) (fs := [.inr none, .inr none, .inr none, .inr none, .inr none, .inl 0, .inl 0]) X hc d_To_init_5 rfl (zTb_in 173 (by decide +kernel) (by decide +kernel)) (zTb_in 174 (by decide +kernel) (by decide +kernel)) (zTb_in 141 (by decide +kernel) (by decide +kernel)) ⟨by decide +kernel, by decide +kernel, rfl⟩ (by decide +kernel) ?_
  refine zn_dup (pc := 8) X d_To_init_8 ?_
  refine zn_init (pc := 9) (ce := 1) (sl := 7) (m := 1) X hc li_To_11 (Nat.le_trans (Nat.le_of_ble_eq_true rfl) hd) (k_Le_init (d := 1) (by decide)) d_To_init_9 (by decide +kernel) (by decide +kernel) ?_
  refine zn_putR (pc := 12) X hc hnm fl_To_12 rfl rfl rfl (fun _ => ⟨rfl, rfl⟩) d_To_init_12 (by decide +kernel) ?_
  refine zn_aload0 (pc := 15) X d_To_init_15 ?_
  refine zn_bipush (pc := 16) X d_To_init_16 rfl (zI_d rfl) ?_
  refine zn_newI (pc := 18) (ce := 6) (sl := 78) (m := 7) (N := 7) X hc d_To_init_18 rfl (by decide +kernel) ?_
  refine zn_putR (pc := 20) X hc hnm fl_To_18 rfl rfl rfl (fun _ => ⟨rfl, rfl⟩) d_To_init_20 (by decide +kernel) ?_
  refine zn_aload0 (pc := 23) X d_To_init_23 ?_
  refine zn_bipush (pc := 24) X d_To_init_24 rfl (zI_d rfl) ?_
  refine zn_newI (pc := 26) (ce := 7) (sl := 85) (m := 8) (N := 7) X hc d_To_init_26 rfl (by decide +kernel) ?_
  refine zn_putR (pc := 28) X hc hnm fl_To_22 rfl rfl rfl (fun _ => ⟨rfl, rfl⟩) d_To_init_28 (by decide +kernel) ?_
  refine zn_aload0 (pc := 31) X d_To_init_31 ?_
  refine zn_bipush (pc := 32) X d_To_init_32 rfl (zI_d rfl) ?_
  refine zn_const (pc := 34) X d_To_init_34 (zI_d rfl) ?_
  refine zn_mnew (pc := 35) (ce := 8) (sl := 92) (m := 9) (N := 8) (K := 4) X hc d_To_init_35 (zTb_in 224 (by decide +kernel) (by decide +kernel)) rfl rfl (by decide +kernel) ?_
  refine zn_putR (pc := 39) X hc hnm fl_To_27 rfl rfl rfl (fun _ => ⟨rfl, rfl⟩) d_To_init_39 (by decide +kernel) ?_
  refine zn_aload0 (pc := 42) X d_To_init_42 ?_
  refine zn_bipush (pc := 43) X d_To_init_43 rfl (zI_d rfl) ?_
  refine zn_const (pc := 45) X d_To_init_45 (zI_d rfl) ?_
  refine zn_mnew (pc := 46) (ce := 17) (sl := 132) (m := 18) (N := 8) (K := 4) X hc d_To_init_46 (zTb_in 224 (by decide +kernel) (by decide +kernel)) rfl rfl (by decide +kernel) ?_
  refine zn_putR (pc := 50) X hc hnm fl_To_30 rfl rfl rfl (fun _ => ⟨rfl, rfl⟩) d_To_init_50 (by decide +kernel) ?_
  refine zn_aload0 (pc := 53) X d_To_init_53 ?_
  refine zn_bipush (pc := 54) X d_To_init_54 rfl (zI_d rfl) ?_
  refine zn_sipush (pc := 56) X d_To_init_56 rfl (zI_d rfl) ?_
  refine zn_mnew (pc := 59) (ce := 26) (sl := 172) (m := 27) (N := 6) (K := 385) X hc d_To_init_59 (zTb_in 224 (by decide +kernel) (by decide +kernel)) rfl rfl (by decide +kernel) ?_
  refine zn_putR (pc := 63) X hc hnm fl_To_33 rfl rfl rfl (fun _ => ⟨rfl, rfl⟩) d_To_init_63 (by decide +kernel) ?_
  refine zn_aload0 (pc := 66) X d_To_init_66 ?_
  refine zn_const (pc := 67) X d_To_init_67 (zI_d rfl) ?_
  refine zn_putI (pc := 68) X hc fl_To_36 fp_9_11 d_To_init_68 (by decide +kernel) ?_
  exact zn_end (by decide +kernel) (by decide +kernel) rfl rfl (ret d_To_init_71)
theorem fl_Un_13 : zFl "DebtDoors$Undo" 13 10 0 := ⟨_, rfl, by decide, (zTb_in 302 (by decide +kernel) (by decide +kernel)), rfl⟩
theorem fl_Un_17 : zFl "DebtDoors$Undo" 17 10 1 := ⟨_, rfl, by decide, (zTb_in 303 (by decide +kernel) (by decide +kernel)), rfl⟩
theorem li_Un_21 : zLkI "DebtDoors$Undo" 21 y_Le_init 0 := ⟨Or.inl ⟨"DebtDoors", List.mem_of_getElem? (i := 301) (by decide +kernel)⟩, (zTb_in 176 (by decide +kernel) (by decide +kernel)), rfl, (zTb_in 141 (by decide +kernel) (by decide +kernel)), (zTb_in 177 (by decide +kernel) (by decide +kernel)), by decide +kernel, by decide +kernel, rfl⟩
def y_Un_init : zMt := (⟨"DebtDoors$Undo", "<init>", "()V"⟩, prog_12_method_1_code, 2, none)
def R_Un_init : List zSh := [.inl (10, [.inr (some 1), .inr (some 2), .inl 0, .inl 0]),
  .inr (6, 17, [some 3, some 9, some 15, some 21, some 27, some 33, some 39, some 45, some 51, some 57, some 63, some 69, some 75, some 81, some 87, some 93, some 99]),
  .inr (0, 17, []),
  .inl (1, [.inr (some 4), .inr (some 5), .inr (some 6), .inr (some 7), .inr (some 8), .inl 0, .inl 0]),
  .inr (0, 7, []),
  .inr (0, 16, []),
  .inr (0, 16, []),
  .inr (0, 16, []),
  .inr (0, 16, []),
  .inl (1, [.inr (some 10), .inr (some 11), .inr (some 12), .inr (some 13), .inr (some 14), .inl 0, .inl 0]),
  .inr (0, 7, []),
  .inr (0, 16, []),
  .inr (0, 16, []),
  .inr (0, 16, []),
  .inr (0, 16, []),
  .inl (1, [.inr (some 16), .inr (some 17), .inr (some 18), .inr (some 19), .inr (some 20), .inl 0, .inl 0]),
  .inr (0, 7, []),
  .inr (0, 16, []),
  .inr (0, 16, []),
  .inr (0, 16, []),
  .inr (0, 16, []),
  .inl (1, [.inr (some 22), .inr (some 23), .inr (some 24), .inr (some 25), .inr (some 26), .inl 0, .inl 0]),
  .inr (0, 7, []),
  .inr (0, 16, []),
  .inr (0, 16, []),
  .inr (0, 16, []),
  .inr (0, 16, []),
  .inl (1, [.inr (some 28), .inr (some 29), .inr (some 30), .inr (some 31), .inr (some 32), .inl 0, .inl 0]),
  .inr (0, 7, []),
  .inr (0, 16, []),
  .inr (0, 16, []),
  .inr (0, 16, []),
  .inr (0, 16, []),
  .inl (1, [.inr (some 34), .inr (some 35), .inr (some 36), .inr (some 37), .inr (some 38), .inl 0, .inl 0]),
  .inr (0, 7, []),
  .inr (0, 16, []),
  .inr (0, 16, []),
  .inr (0, 16, []),
  .inr (0, 16, []),
  .inl (1, [.inr (some 40), .inr (some 41), .inr (some 42), .inr (some 43), .inr (some 44), .inl 0, .inl 0]),
  .inr (0, 7, []),
  .inr (0, 16, []),
  .inr (0, 16, []),
  .inr (0, 16, []),
  .inr (0, 16, []),
  .inl (1, [.inr (some 46), .inr (some 47), .inr (some 48), .inr (some 49), .inr (some 50), .inl 0, .inl 0]),
  .inr (0, 7, []),
  .inr (0, 16, []),
  .inr (0, 16, []),
  .inr (0, 16, []),
  .inr (0, 16, []),
  .inl (1, [.inr (some 52), .inr (some 53), .inr (some 54), .inr (some 55), .inr (some 56), .inl 0, .inl 0]),
  .inr (0, 7, []),
  .inr (0, 16, []),
  .inr (0, 16, []),
  .inr (0, 16, []),
  .inr (0, 16, []),
  .inl (1, [.inr (some 58), .inr (some 59), .inr (some 60), .inr (some 61), .inr (some 62), .inl 0, .inl 0]),
  .inr (0, 7, []),
  .inr (0, 16, []),
  .inr (0, 16, []),
  .inr (0, 16, []),
  .inr (0, 16, []),
  .inl (1, [.inr (some 64), .inr (some 65), .inr (some 66), .inr (some 67), .inr (some 68), .inl 0, .inl 0]),
  .inr (0, 7, []),
  .inr (0, 16, []),
  .inr (0, 16, []),
  .inr (0, 16, []),
  .inr (0, 16, []),
  .inl (1, [.inr (some 70), .inr (some 71), .inr (some 72), .inr (some 73), .inr (some 74), .inl 0, .inl 0]),
  .inr (0, 7, []),
  .inr (0, 16, []),
  .inr (0, 16, []),
  .inr (0, 16, []),
  .inr (0, 16, []),
  .inl (1, [.inr (some 76), .inr (some 77), .inr (some 78), .inr (some 79), .inr (some 80), .inl 0, .inl 0]),
  .inr (0, 7, []),
  .inr (0, 16, []),
  .inr (0, 16, []),
  .inr (0, 16, []),
  .inr (0, 16, []),
  .inl (1, [.inr (some 82), .inr (some 83), .inr (some 84), .inr (some 85), .inr (some 86), .inl 0, .inl 0]),
  .inr (0, 7, []),
  .inr (0, 16, []),
  .inr (0, 16, []),
  .inr (0, 16, []),
  .inr (0, 16, []),
  .inl (1, [.inr (some 88), .inr (some 89), .inr (some 90), .inr (some 91), .inr (some 92), .inl 0, .inl 0]),
  .inr (0, 7, []),
  .inr (0, 16, []),
  .inr (0, 16, []),
  .inr (0, 16, []),
  .inr (0, 16, []),
  .inl (1, [.inr (some 94), .inr (some 95), .inr (some 96), .inr (some 97), .inr (some 98), .inl 0, .inl 0]),
  .inr (0, 7, []),
  .inr (0, 16, []),
  .inr (0, 16, []),
  .inr (0, 16, []),
  .inr (0, 16, []),
  .inl (1, [.inr (some 100), .inr (some 101), .inr (some 102), .inr (some 103), .inr (some 104), .inl 0, .inl 0]),
  .inr (0, 7, []),
  .inr (0, 16, []),
  .inr (0, 16, []),
  .inr (0, 16, []),
  .inr (0, 16, [])]
def V_Un_init : List (Nat × Int × Int) := []
theorem d_Un_init_0 : decode prog_12_method_1_code 0 = .ok (.aload_n 0, 1) := by decide +kernel
theorem d_Un_init_1 : decode prog_12_method_1_code 1 = .ok (.invokespecial 3, 3) := by decide +kernel
theorem d_Un_init_4 : decode prog_12_method_1_code 4 = .ok (.aload_n 0, 1) := by decide +kernel
theorem d_Un_init_5 : decode prog_12_method_1_code 5 = .ok (.bipush 17, 2) := by decide +kernel
theorem d_Un_init_7 : decode prog_12_method_1_code 7 = .ok (.anewarray 11, 3) := by decide +kernel
theorem d_Un_init_10 : decode prog_12_method_1_code 10 = .ok (.putfield 13, 3) := by decide +kernel
theorem d_Un_init_13 : decode prog_12_method_1_code 13 = .ok (.aload_n 0, 1) := by decide +kernel
theorem d_Un_init_14 : decode prog_12_method_1_code 14 = .ok (.bipush 17, 2) := by decide +kernel
theorem d_Un_init_16 : decode prog_12_method_1_code 16 = .ok (.newarray .int, 2) := by decide +kernel
theorem d_Un_init_18 : decode prog_12_method_1_code 18 = .ok (.putfield 17, 3) := by decide +kernel
theorem d_Un_init_21 : decode prog_12_method_1_code 21 = .ok (.iconst 0, 1) := by decide +kernel
theorem d_Un_init_22 : decode prog_12_method_1_code 22 = .ok (.istore_n 1, 1) := by decide +kernel
theorem d_Un_init_23 : decode prog_12_method_1_code 23 = .ok (.iload_n 1, 1) := by decide +kernel
theorem d_Un_init_24 : decode prog_12_method_1_code 24 = .ok (.bipush 17, 2) := by decide +kernel
theorem d_Un_init_26 : decode prog_12_method_1_code 26 = .ok (.if_icmp .ge 22, 3) := by decide +kernel
theorem d_Un_init_29 : decode prog_12_method_1_code 29 = .ok (.aload_n 0, 1) := by decide +kernel
theorem d_Un_init_30 : decode prog_12_method_1_code 30 = .ok (.getfield 13, 3) := by decide +kernel
theorem d_Un_init_33 : decode prog_12_method_1_code 33 = .ok (.iload_n 1, 1) := by decide +kernel
theorem d_Un_init_34 : decode prog_12_method_1_code 34 = .ok (.new 11, 3) := by decide +kernel
theorem d_Un_init_37 : decode prog_12_method_1_code 37 = .ok (.dup, 1) := by decide +kernel
theorem d_Un_init_38 : decode prog_12_method_1_code 38 = .ok (.invokespecial 21, 3) := by decide +kernel
theorem d_Un_init_41 : decode prog_12_method_1_code 41 = .ok (.aastore, 1) := by decide +kernel
theorem d_Un_init_42 : decode prog_12_method_1_code 42 = .ok (.iinc 1 1, 3) := by decide +kernel
theorem d_Un_init_45 : decode prog_12_method_1_code 45 = .ok (.goto (-22), 3) := by decide +kernel
theorem d_Un_init_48 : decode prog_12_method_1_code 48 = .ok (.return_, 1) := by decide +kernel
def R_Un_init_1 : List zSh := [.inl (10, [.inr (some 1), .inr (some 2), .inl 0, .inl 0]),
  .inr (6, 17, [some 3, some 9, some 15, some 21, none, none, none, none, none, none, none, none, none, none, none, none, none]),
  .inr (0, 17, []),
  .inl (1, [.inr (some 4), .inr (some 5), .inr (some 6), .inr (some 7), .inr (some 8), .inl 0, .inl 0]),
  .inr (0, 7, []),
  .inr (0, 16, []),
  .inr (0, 16, []),
  .inr (0, 16, []),
  .inr (0, 16, []),
  .inl (1, [.inr (some 10), .inr (some 11), .inr (some 12), .inr (some 13), .inr (some 14), .inl 0, .inl 0]),
  .inr (0, 7, []),
  .inr (0, 16, []),
  .inr (0, 16, []),
  .inr (0, 16, []),
  .inr (0, 16, []),
  .inl (1, [.inr (some 16), .inr (some 17), .inr (some 18), .inr (some 19), .inr (some 20), .inl 0, .inl 0]),
  .inr (0, 7, []),
  .inr (0, 16, []),
  .inr (0, 16, []),
  .inr (0, 16, []),
  .inr (0, 16, []),
  .inl (1, [.inr (some 22), .inr (some 23), .inr (some 24), .inr (some 25), .inr (some 26), .inl 0, .inl 0]),
  .inr (0, 7, []),
  .inr (0, 16, []),
  .inr (0, 16, []),
  .inr (0, 16, []),
  .inr (0, 16, [])]
def V_Un_init_1 : List (Nat × Int × Int) := []
def R_Un_init_2 : List zSh := [.inl (10, [.inr (some 1), .inr (some 2), .inl 0, .inl 0]),
  .inr (6, 17, [some 3, some 9, some 15, some 21, some 27, some 33, some 39, some 45, some 51, none, none, none, none, none, none, none, none]),
  .inr (0, 17, []),
  .inl (1, [.inr (some 4), .inr (some 5), .inr (some 6), .inr (some 7), .inr (some 8), .inl 0, .inl 0]),
  .inr (0, 7, []),
  .inr (0, 16, []),
  .inr (0, 16, []),
  .inr (0, 16, []),
  .inr (0, 16, []),
  .inl (1, [.inr (some 10), .inr (some 11), .inr (some 12), .inr (some 13), .inr (some 14), .inl 0, .inl 0]),
  .inr (0, 7, []),
  .inr (0, 16, []),
  .inr (0, 16, []),
  .inr (0, 16, []),
  .inr (0, 16, []),
  .inl (1, [.inr (some 16), .inr (some 17), .inr (some 18), .inr (some 19), .inr (some 20), .inl 0, .inl 0]),
  .inr (0, 7, []),
  .inr (0, 16, []),
  .inr (0, 16, []),
  .inr (0, 16, []),
  .inr (0, 16, []),
  .inl (1, [.inr (some 22), .inr (some 23), .inr (some 24), .inr (some 25), .inr (some 26), .inl 0, .inl 0]),
  .inr (0, 7, []),
  .inr (0, 16, []),
  .inr (0, 16, []),
  .inr (0, 16, []),
  .inr (0, 16, []),
  .inl (1, [.inr (some 28), .inr (some 29), .inr (some 30), .inr (some 31), .inr (some 32), .inl 0, .inl 0]),
  .inr (0, 7, []),
  .inr (0, 16, []),
  .inr (0, 16, []),
  .inr (0, 16, []),
  .inr (0, 16, []),
  .inl (1, [.inr (some 34), .inr (some 35), .inr (some 36), .inr (some 37), .inr (some 38), .inl 0, .inl 0]),
  .inr (0, 7, []),
  .inr (0, 16, []),
  .inr (0, 16, []),
  .inr (0, 16, []),
  .inr (0, 16, []),
  .inl (1, [.inr (some 40), .inr (some 41), .inr (some 42), .inr (some 43), .inr (some 44), .inl 0, .inl 0]),
  .inr (0, 7, []),
  .inr (0, 16, []),
  .inr (0, 16, []),
  .inr (0, 16, []),
  .inr (0, 16, []),
  .inl (1, [.inr (some 46), .inr (some 47), .inr (some 48), .inr (some 49), .inr (some 50), .inl 0, .inl 0]),
  .inr (0, 7, []),
  .inr (0, 16, []),
  .inr (0, 16, []),
  .inr (0, 16, []),
  .inr (0, 16, []),
  .inl (1, [.inr (some 52), .inr (some 53), .inr (some 54), .inr (some 55), .inr (some 56), .inl 0, .inl 0]),
  .inr (0, 7, []),
  .inr (0, 16, []),
  .inr (0, 16, []),
  .inr (0, 16, []),
  .inr (0, 16, [])]
def V_Un_init_2 : List (Nat × Int × Int) := []
def R_Un_init_3 : List zSh := [.inl (10, [.inr (some 1), .inr (some 2), .inl 0, .inl 0]),
  .inr (6, 17, [some 3, some 9, some 15, some 21, some 27, some 33, some 39, some 45, some 51, some 57, some 63, some 69, some 75, some 81, none, none, none]),
  .inr (0, 17, []),
  .inl (1, [.inr (some 4), .inr (some 5), .inr (some 6), .inr (some 7), .inr (some 8), .inl 0, .inl 0]),
  .inr (0, 7, []),
  .inr (0, 16, []),
  .inr (0, 16, []),
  .inr (0, 16, []),
  .inr (0, 16, []),
  .inl (1, [.inr (some 10), .inr (some 11), .inr (some 12), .inr (some 13), .inr (some 14), .inl 0, .inl 0]),
  .inr (0, 7, []),
  .inr (0, 16, []),
  .inr (0, 16, []),
  .inr (0, 16, []),
  .inr (0, 16, []),
  .inl (1, [.inr (some 16), .inr (some 17), .inr (some 18), .inr (some 19), .inr (some 20), .inl 0, .inl 0]),
  .inr (0, 7, []),
  .inr (0, 16, []),
  .inr (0, 16, []),
  .inr (0, 16, []),
  .inr (0, 16, []),
  .inl (1, [.inr (some 22), .inr (some 23), .inr (some 24), .inr (some 25), .inr (some 26), .inl 0, .inl 0]),
  .inr (0, 7, []),
  .inr (0, 16, []),
  .inr (0, 16, []),
  .inr (0, 16, []),
  .inr (0, 16, []),
  .inl (1, [.inr (some 28), .inr (some 29), .inr (some 30), .inr (some 31), .inr (some 32), .inl 0, .inl 0]),
  .inr (0, 7, []),
  .inr (0, 16, []),
  .inr (0, 16, []),
  .inr (0, 16, []),
  .inr (0, 16, []),
  .inl (1, [.inr (some 34), .inr (some 35), .inr (some 36), .inr (some 37), .inr (some 38), .inl 0, .inl 0]),
  .inr (0, 7, []),
  .inr (0, 16, []),
  .inr (0, 16, []),
  .inr (0, 16, []),
  .inr (0, 16, []),
  .inl (1, [.inr (some 40), .inr (some 41), .inr (some 42), .inr (some 43), .inr (some 44), .inl 0, .inl 0]),
  .inr (0, 7, []),
  .inr (0, 16, []),
  .inr (0, 16, []),
  .inr (0, 16, []),
  .inr (0, 16, []),
  .inl (1, [.inr (some 46), .inr (some 47), .inr (some 48), .inr (some 49), .inr (some 50), .inl 0, .inl 0]),
  .inr (0, 7, []),
  .inr (0, 16, []),
  .inr (0, 16, []),
  .inr (0, 16, []),
  .inr (0, 16, []),
  .inl (1, [.inr (some 52), .inr (some 53), .inr (some 54), .inr (some 55), .inr (some 56), .inl 0, .inl 0]),
  .inr (0, 7, []),
  .inr (0, 16, []),
  .inr (0, 16, []),
  .inr (0, 16, []),
  .inr (0, 16, []),
  .inl (1, [.inr (some 58), .inr (some 59), .inr (some 60), .inr (some 61), .inr (some 62), .inl 0, .inl 0]),
  .inr (0, 7, []),
  .inr (0, 16, []),
  .inr (0, 16, []),
  .inr (0, 16, []),
  .inr (0, 16, []),
  .inl (1, [.inr (some 64), .inr (some 65), .inr (some 66), .inr (some 67), .inr (some 68), .inl 0, .inl 0]),
  .inr (0, 7, []),
  .inr (0, 16, []),
  .inr (0, 16, []),
  .inr (0, 16, []),
  .inr (0, 16, []),
  .inl (1, [.inr (some 70), .inr (some 71), .inr (some 72), .inr (some 73), .inr (some 74), .inl 0, .inl 0]),
  .inr (0, 7, []),
  .inr (0, 16, []),
  .inr (0, 16, []),
  .inr (0, 16, []),
  .inr (0, 16, []),
  .inl (1, [.inr (some 76), .inr (some 77), .inr (some 78), .inr (some 79), .inr (some 80), .inl 0, .inl 0]),
  .inr (0, 7, []),
  .inr (0, 16, []),
  .inr (0, 16, []),
  .inr (0, 16, []),
  .inr (0, 16, []),
  .inl (1, [.inr (some 82), .inr (some 83), .inr (some 84), .inr (some 85), .inr (some 86), .inl 0, .inl 0]),
  .inr (0, 7, []),
  .inr (0, 16, []),
  .inr (0, 16, []),
  .inr (0, 16, []),
  .inr (0, 16, [])]
def V_Un_init_3 : List (Nat × Int × Int) := []
theorem k_Un_init_0 {d mc ms : Nat} (hd : 2 ≤ d) (hm : mc = 104) (hs : ms = 1360) {Γ : zCx} {n : Nat} {P : List zSh} {μ : zMem} {ad0 : Nat → Nat} (X : zX Γ "DebtDoors$Undo" prog_12_method_1_code 2 d) (hc : zHc Γ n P μ mc ms) (hnm : (x_M Γ).name = "<init>") (kk : zH Γ 2 n P ad0 μ 26 346 R_Un_init_1 V_Un_init_1 23 [vr 0, vi 4] []) : zH Γ 2 n P ad0 μ 0 0 [.inl (10, [.inr none, .inr none, .inl 0, .inl 0])] [] 0 [vr 0, vx 0] [] := by
  subst hm
  subst hs
  refine zn_aload0 (pc := 0) X d_Un_init_0 ?_
  refine zn_obj (pc := 1) X (zTb_in 298 (by decide +kernel) (by decide +kernel)) d_Un_init_1 (Nat.le_trans (Nat.le_of_ble_eq_true rfl) hd) (by decide) ?_
  refine zn_aload0 (pc := 4) X d_Un_init_4 ?_
  refine zn_bipush (pc := 5) X d_Un_init_5 rfl (zI_d rfl) ?_
  refine zn_anew (pc := 7) (ce := 0) (sl := 0) (m := 1) (N := 17) (t := 6) X hc (Or.inr rfl) d_Un_init_7 (fun _ => rfl) rfl (zTb_in 299 (by decide +kernel) (by decide +kernel)) rfl (by decide +kernel) ?_
  refine zn_putR (pc := 10) X hc hnm fl_Un_13 rfl rfl rfl (fun _ => ⟨rfl, rfl⟩) d_Un_init_10 (by decide +kernel) ?_
  refine zn_aload0 (pc := 13) X d_Un_init_13 ?_
  refine zn_bipush (pc := 14) X d_Un_init_14 rfl (zI_d rfl) ?_
  refine zn_newI (pc := 16) (ce := 1) (sl := 17) (m := 2) (N := 17) X hc d_Un_init_16 rfl (by decide +kernel) ?_
  refine zn_putR (pc := 18) X hc hnm fl_Un_17 rfl rfl rfl (fun _ => ⟨rfl, rfl⟩) d_Un_init_18 (by decide +kernel) ?_
  refine zn_const (pc := 21) X d_Un_init_21 (zI_d rfl) ?_
  refine zn_store1 (pc := 22) X d_Un_init_22 (by decide) (Or.inl rfl) ?_
  refine zn_load1 (pc := 23) X d_Un_init_23 ?_
  refine zn_bipush (pc := 24) X d_Un_init_24 rfl (zI_d rfl) ?_
  refine zn_ngt (pc := 26) (tgt := 48) X d_Un_init_26 (by decide) (by decide) ?_
  refine zn_aload0 (pc := 29) X d_Un_init_29 ?_
  refine zn_getR (pc := 30) (m := 1) X hc fl_Un_13 d_Un_init_30 (by decide +kernel) ?_
  refine zn_load1 (pc := 33) X d_Un_init_33 ?_
  refine zn_new (pc := 34) (ce := 2) (sl := 34) (m := 3) (k := 7) (ci := 1) (fs := [.inr none, .inr none, .inr none, .inr none, .inr none, .inl 0, .inl 0]) X hc d_Un_init_34 rfl (zTb_in 299 (by decide +kernel) (by decide +kernel)) (zTb_in 174 (by decide +kernel) (by decide +kernel)) (zTb_in 141 (by decide +kernel) (by decide +kernel)) ⟨by decide +kernel, by decide +kernel, rfl⟩ (by decide +kernel) ?_
  refine zn_dup (pc := 37) X d_Un_init_37 ?_
  refine zn_init (pc := 38) (ce := 3) (sl := 41) (m := 3) X hc li_Un_21 (Nat.le_trans (Nat.le_of_ble_eq_true rfl) hd) (k_Le_init (d := 1) (by decide)) d_Un_init_38 (by decide +kernel) (by decide +kernel) ?_
  refine zn_aast (pc := 41) (t := 6) (ci := 1) (j := 0) X hc (fun _ => rfl) rfl rfl d_Un_init_41 rfl (by decide +kernel) ?_
  refine zn_inc (pc := 42) (x := 0) (c := 1) X d_Un_init_42 rfl (by decide) (zI_d rfl) ?_
  refine zn_goto (pc := 45) (tgt := 23) X d_Un_init_45 (by decide) ?_
  refine zn_load1 (pc := 23) X d_Un_init_23 ?_
  refine zn_bipush (pc := 24) X d_Un_init_24 rfl (zI_d rfl) ?_
  refine zn_ngt (pc := 26) (tgt := 48) X d_Un_init_26 (by decide) (by decide) ?_
  refine zn_aload0 (pc := 29) X d_Un_init_29 ?_
  refine zn_getR (pc := 30) (m := 1) X hc fl_Un_13 d_Un_init_30 (by decide +kernel) ?_
  refine zn_load1 (pc := 33) X d_Un_init_33 ?_
  refine zn_new (pc := 34) (ce := 8) (sl := 112) (m := 9) (k := 7) (ci := 1) (fs := [.inr none, .inr none, .inr none, .inr none, .inr none, .inl 0, .inl 0]) X hc d_Un_init_34 rfl (zTb_in 299 (by decide +kernel) (by decide +kernel)) (zTb_in 174 (by decide +kernel) (by decide +kernel)) (zTb_in 141 (by decide +kernel) (by decide +kernel)) ⟨by decide +kernel, by decide +kernel, rfl⟩ (by decide +kernel) ?_
  refine zn_dup (pc := 37) X d_Un_init_37 ?_
  refine zn_init (pc := 38) (ce := 9) (sl := 119) (m := 9) X hc li_Un_21 (Nat.le_trans (Nat.le_of_ble_eq_true rfl) hd) (k_Le_init (d := 1) (by decide)) d_Un_init_38 (by decide +kernel) (by decide +kernel) ?_
  refine zn_aast (pc := 41) (t := 6) (ci := 1) (j := 1) X hc (fun _ => rfl) rfl rfl d_Un_init_41 rfl (by decide +kernel) ?_
  refine zn_inc (pc := 42) (x := 1) (c := 2) X d_Un_init_42 rfl (by decide) (zI_d rfl) ?_
  refine zn_goto (pc := 45) (tgt := 23) X d_Un_init_45 (by decide) ?_
  refine zn_load1 (pc := 23) X d_Un_init_23 ?_
  refine zn_bipush (pc := 24) X d_Un_init_24 rfl (zI_d rfl) ?_
  refine zn_ngt (pc := 26) (tgt := 48) X d_Un_init_26 (by decide) (by decide) ?_
  refine zn_aload0 (pc := 29) X d_Un_init_29 ?_
  refine zn_getR (pc := 30) (m := 1) X hc fl_Un_13 d_Un_init_30 (by decide +kernel) ?_
  refine zn_load1 (pc := 33) X d_Un_init_33 ?_
  refine zn_new (pc := 34) (ce := 14) (sl := 190) (m := 15) (k := 7) (ci := 1) (fs := [.inr none, .inr none, .inr none, .inr none, .inr none, .inl 0, .inl 0]) X hc d_Un_init_34 rfl (zTb_in 299 (by decide +kernel) (by decide +kernel)) (zTb_in 174 (by decide +kernel) (by decide +kernel)) (zTb_in 141 (by decide +kernel) (by decide +kernel)) ⟨by decide +kernel, by decide +kernel, rfl⟩ (by decide +kernel) ?_
  refine zn_dup (pc := 37) X d_Un_init_37 ?_
  refine zn_init (pc := 38) (ce := 15) (sl := 197) (m := 15) X hc li_Un_21 (Nat.le_trans (Nat.le_of_ble_eq_true rfl) hd) (k_Le_init (d := 1) (by decide)) d_Un_init_38 (by decide +kernel) (by decide +kernel) ?_
  refine zn_aast (pc := 41) (t := 6) (ci := 1) (j := 2) X hc (fun _ => rfl) rfl rfl d_Un_init_41 rfl (by decide +kernel) ?_
  refine zn_inc (pc := 42) (x := 2) (c := 3) X d_Un_init_42 rfl (by decide) (zI_d rfl) ?_
  refine zn_goto (pc := 45) (tgt := 23) X d_Un_init_45 (by decide) ?_
  refine zn_load1 (pc := 23) X d_Un_init_23 ?_
  refine zn_bipush (pc := 24) X d_Un_init_24 rfl (zI_d rfl) ?_
  refine zn_ngt (pc := 26) (tgt := 48) X d_Un_init_26 (by decide) (by decide) ?_
  refine zn_aload0 (pc := 29) X d_Un_init_29 ?_
  refine zn_getR (pc := 30) (m := 1) X hc fl_Un_13 d_Un_init_30 (by decide +kernel) ?_
  refine zn_load1 (pc := 33) X d_Un_init_33 ?_
  refine zn_new (pc := 34) (ce := 20) (sl := 268) (m := 21) (k := 7) (ci := 1) (fs := [.inr none, .inr none, .inr none, .inr none, .inr none, .inl 0, .inl 0]) X hc d_Un_init_34 rfl (zTb_in 299 (by decide +kernel) (by decide +kernel)) (zTb_in 174 (by decide +kernel) (by decide +kernel)) (zTb_in 141 (by decide +kernel) (by decide +kernel)) ⟨by decide +kernel, by decide +kernel, rfl⟩ (by decide +kernel) ?_
  refine zn_dup (pc := 37) X d_Un_init_37 ?_
  refine zn_init (pc := 38) (ce := 21) (sl := 275) (m := 21) X hc li_Un_21 (Nat.le_trans (Nat.le_of_ble_eq_true rfl) hd) (k_Le_init (d := 1) (by decide)) d_Un_init_38 (by decide +kernel) (by decide +kernel) ?_
  refine zn_aast (pc := 41) (t := 6) (ci := 1) (j := 3) X hc (fun _ => rfl) rfl rfl d_Un_init_41 rfl (by decide +kernel) ?_
  refine zn_inc (pc := 42) (x := 3) (c := 4) X d_Un_init_42 rfl (by decide) (zI_d rfl) ?_
  refine zn_goto (pc := 45) (tgt := 23) X d_Un_init_45 (by decide) ?_
  exact zn_end (by decide +kernel) (by decide +kernel) rfl rfl kk
theorem k_Un_init_1 {d mc ms : Nat} (hd : 2 ≤ d) (hm : mc = 104) (hs : ms = 1360) {Γ : zCx} {n : Nat} {P : List zSh} {μ : zMem} {ad0 : Nat → Nat} (X : zX Γ "DebtDoors$Undo" prog_12_method_1_code 2 d) (hc : zHc Γ n P μ mc ms) (hnm : (x_M Γ).name = "<init>") (kk : zH Γ 2 n P ad0 μ 56 736 R_Un_init_2 V_Un_init_2 23 [vr 0, vi 9] []) : zH Γ 2 n P ad0 μ 26 346 R_Un_init_1 V_Un_init_1 23 [vr 0, vi 4] [] := by
  subst hm
  subst hs
  refine zn_load1 (pc := 23) X d_Un_init_23 ?_
  refine zn_bipush (pc := 24) X d_Un_init_24 rfl (zI_d rfl) ?_
  refine zn_ngt (pc := 26) (tgt := 48) X d_Un_init_26 (by decide) (by decide) ?_
  refine zn_aload0 (pc := 29) X d_Un_init_29 ?_
  refine zn_getR (pc := 30) (m := 1) X hc fl_Un_13 d_Un_init_30 (by decide +kernel) ?_
  refine zn_load1 (pc := 33) X d_Un_init_33 ?_
  refine zn_new (pc := 34) (ce := 26) (sl := 346) (m := 27) (k := 7) (ci := 1) (fs := [.inr none, .inr none, .inr none, .inr none, .inr none, .inl 0, .inl 0]) X hc d_Un_init_34 rfl (zTb_in 299 (by decide +kernel) (by decide +kernel)) (zTb_in 174 (by decide +kernel) (by decide +kernel)) (zTb_in 141 (by decide +kernel) (by decide +kernel)) ⟨by decide +kernel, by decide +kernel, rfl⟩ (by decide +kernel) ?_
  refine zn_dup (pc := 37) X d_Un_init_37 ?_
  refine zn_init (pc := 38) (ce := 27) (sl := 353) (m := 27) X hc li_Un_21 (Nat.le_trans (Nat.le_of_ble_eq_true rfl) hd) (k_Le_init (d := 1) (by decide)) d_Un_init_38 (by decide +kernel) (by decide +kernel) ?_
  refine zn_aast (pc := 41) (t := 6) (ci := 1) (j := 4) X hc (fun _ => rfl) rfl rfl d_Un_init_41 rfl (by decide +kernel) ?_
  refine zn_inc (pc := 42) (x := 4) (c := 5) X d_Un_init_42 rfl (by decide) (zI_d rfl) ?_
  refine zn_goto (pc := 45) (tgt := 23) X d_Un_init_45 (by decide) ?_
  refine zn_load1 (pc := 23) X d_Un_init_23 ?_
  refine zn_bipush (pc := 24) X d_Un_init_24 rfl (zI_d rfl) ?_
  refine zn_ngt (pc := 26) (tgt := 48) X d_Un_init_26 (by decide) (by decide) ?_
  refine zn_aload0 (pc := 29) X d_Un_init_29 ?_
  refine zn_getR (pc := 30) (m := 1) X hc fl_Un_13 d_Un_init_30 (by decide +kernel) ?_
  refine zn_load1 (pc := 33) X d_Un_init_33 ?_
  refine zn_new (pc := 34) (ce := 32) (sl := 424) (m := 33) (k := 7) (ci := 1) (fs := [.inr none, .inr none, .inr none, .inr none, .inr none, .inl 0, .inl 0]) X hc d_Un_init_34 rfl (zTb_in 299 (by decide +kernel) (by decide +kernel)) (zTb_in 174 (by decide +kernel) (by decide +kernel)) (zTb_in 141 (by decide +kernel) (by decide +kernel)) ⟨by decide +kernel, by decide +kernel, rfl⟩ (by decide +kernel) ?_
  refine zn_dup (pc := 37) X d_Un_init_37 ?_
  refine zn_init (pc := 38) (ce := 33) (sl := 431) (m := 33) X hc li_Un_21 (Nat.le_trans (Nat.le_of_ble_eq_true rfl) hd) (k_Le_init (d := 1) (by decide)) d_Un_init_38 (by decide +kernel) (by decide +kernel) ?_
  refine zn_aast (pc := 41) (t := 6) (ci := 1) (j := 5) X hc (fun _ => rfl) rfl rfl d_Un_init_41 rfl (by decide +kernel) ?_
  refine zn_inc (pc := 42) (x := 5) (c := 6) X d_Un_init_42 rfl (by decide) (zI_d rfl) ?_
  refine zn_goto (pc := 45) (tgt := 23) X d_Un_init_45 (by decide) ?_
  refine zn_load1 (pc := 23) X d_Un_init_23 ?_
  refine zn_bipush (pc := 24) X d_Un_init_24 rfl (zI_d rfl) ?_
  refine zn_ngt (pc := 26) (tgt := 48) X d_Un_init_26 (by decide) (by decide) ?_
  refine zn_aload0 (pc := 29) X d_Un_init_29 ?_
  refine zn_getR (pc := 30) (m := 1) X hc fl_Un_13 d_Un_init_30 (by decide +kernel) ?_
  refine zn_load1 (pc := 33) X d_Un_init_33 ?_
  refine zn_new (pc := 34) (ce := 38) (sl := 502) (m := 39) (k := 7) (ci := 1) (fs := [.inr none, .inr none, .inr none, .inr none, .inr none, .inl 0, .inl 0]) X hc d_Un_init_34 rfl (zTb_in 299 (by decide +kernel) (by decide +kernel)) (zTb_in 174 (by decide +kernel) (by decide +kernel)) (zTb_in 141 (by decide +kernel) (by decide +kernel)) ⟨by decide +kernel, by decide +kernel, rfl⟩ (by decide +kernel) ?_
  refine zn_dup (pc := 37) X d_Un_init_37 ?_
  refine zn_init (pc := 38) (ce := 39) (sl := 509) (m := 39) X hc li_Un_21 (Nat.le_trans (Nat.le_of_ble_eq_true rfl) hd) (k_Le_init (d := 1) (by decide)) d_Un_init_38 (by decide +kernel) (by decide +kernel) ?_
  refine zn_aast (pc := 41) (t := 6) (ci := 1) (j := 6) X hc (fun _ => rfl) rfl rfl d_Un_init_41 rfl (by decide +kernel) ?_
  refine zn_inc (pc := 42) (x := 6) (c := 7) X d_Un_init_42 rfl (by decide) (zI_d rfl) ?_
  refine zn_goto (pc := 45) (tgt := 23) X d_Un_init_45 (by decide) ?_
  refine zn_load1 (pc := 23) X d_Un_init_23 ?_
  refine zn_bipush (pc := 24) X d_Un_init_24 rfl (zI_d rfl) ?_
  refine zn_ngt (pc := 26) (tgt := 48) X d_Un_init_26 (by decide) (by decide) ?_
  refine zn_aload0 (pc := 29) X d_Un_init_29 ?_
  refine zn_getR (pc := 30) (m := 1) X hc fl_Un_13 d_Un_init_30 (by decide +kernel) ?_
  refine zn_load1 (pc := 33) X d_Un_init_33 ?_
  refine zn_new (pc := 34) (ce := 44) (sl := 580) (m := 45) (k := 7) (ci := 1) (fs := [.inr none, .inr none, .inr none, .inr none, .inr none, .inl 0, .inl 0]) X hc d_Un_init_34 rfl (zTb_in 299 (by decide +kernel) (by decide +kernel)) (zTb_in 174 (by decide +kernel) (by decide +kernel)) (zTb_in 141 (by decide +kernel) (by decide +kernel)) ⟨by decide +kernel, by decide +kernel, rfl⟩ (by decide +kernel) ?_
  refine zn_dup (pc := 37) X d_Un_init_37 ?_
  refine zn_init (pc := 38) (ce := 45) (sl := 587) (m := 45) X hc li_Un_21 (Nat.le_trans (Nat.le_of_ble_eq_true rfl) hd) (k_Le_init (d := 1) (by decide)) d_Un_init_38 (by decide +kernel) (by decide +kernel) ?_
  refine zn_aast (pc := 41) (t := 6) (ci := 1) (j := 7) X hc (fun _ => rfl) rfl rfl d_Un_init_41 rfl (by decide +kernel) ?_
  refine zn_inc (pc := 42) (x := 7) (c := 8) X d_Un_init_42 rfl (by decide) (zI_d rfl) ?_
  refine zn_goto (pc := 45) (tgt := 23) X d_Un_init_45 (by decide) ?_
  refine zn_load1 (pc := 23) X d_Un_init_23 ?_
  refine zn_bipush (pc := 24) X d_Un_init_24 rfl (zI_d rfl) ?_
  refine zn_ngt (pc := 26) (tgt := 48) X d_Un_init_26 (by decide) (by decide) ?_
  refine zn_aload0 (pc := 29) X d_Un_init_29 ?_
  refine zn_getR (pc := 30) (m := 1) X hc fl_Un_13 d_Un_init_30 (by decide +kernel) ?_
  refine zn_load1 (pc := 33) X d_Un_init_33 ?_
  refine zn_new (pc := 34) (ce := 50) (sl := 658) (m := 51) (k := 7) (ci := 1) (fs := [.inr none, .inr none, .inr none, .inr none, .inr none, .inl 0, .inl 0]) X hc d_Un_init_34 rfl (zTb_in 299 (by decide +kernel) (by decide +kernel)) (zTb_in 174 (by decide +kernel) (by decide +kernel)) (zTb_in 141 (by decide +kernel) (by decide +kernel)) ⟨by decide +kernel, by decide +kernel, rfl⟩ (by decide +kernel) ?_
  refine zn_dup (pc := 37) X d_Un_init_37 ?_
  refine zn_init (pc := 38) (ce := 51) (sl := 665) (m := 51) X hc li_Un_21 (Nat.le_trans (Nat.le_of_ble_eq_true rfl) hd) (k_Le_init (d := 1) (by decide)) d_Un_init_38 (by decide +kernel) (by decide +kernel) ?_
  refine zn_aast (pc := 41) (t := 6) (ci := 1) (j := 8) X hc (fun _ => rfl) rfl rfl d_Un_init_41 rfl (by decide +kernel) ?_
  refine zn_inc (pc := 42) (x := 8) (c := 9) X d_Un_init_42 rfl (by decide) (zI_d rfl) ?_
  refine zn_goto (pc := 45) (tgt := 23) X d_Un_init_45 (by decide) ?_
  exact zn_end (by decide +kernel) (by decide +kernel) rfl rfl kk
theorem k_Un_init_2 {d mc ms : Nat} (hd : 2 ≤ d) (hm : mc = 104) (hs : ms = 1360) {Γ : zCx} {n : Nat} {P : List zSh} {μ : zMem} {ad0 : Nat → Nat} (X : zX Γ "DebtDoors$Undo" prog_12_method_1_code 2 d) (hc : zHc Γ n P μ mc ms) (hnm : (x_M Γ).name = "<init>") (kk : zH Γ 2 n P ad0 μ 86 1126 R_Un_init_3 V_Un_init_3 23 [vr 0, vi 14] []) : zH Γ 2 n P ad0 μ 56 736 R_Un_init_2 V_Un_init_2 23 [vr 0, vi 9] [] := by
  subst hm
  subst hs
  refine zn_load1 (pc := 23) X d_Un_init_23 ?_
  refine zn_bipush (pc := 24) X d_Un_init_24 rfl (zI_d rfl) ?_
  refine zn_ngt (pc := 26) (tgt := 48) X d_Un_init_26 (by decide) (by decide) ?_
  refine zn_aload0 (pc := 29) X d_Un_init_29 ?_
  refine zn_getR (pc := 30) (m := 1) X hc fl_Un_13 d_Un_init_30 (by decide +kernel) ?_
  refine zn_load1 (pc := 33) X d_Un_init_33 ?_
  refine zn_new (pc := 34) (ce := 56) (sl := 736) (m := 57) (k := 7) (ci := 1) (fs := [.inr none, .inr none, .inr none, .inr none, .inr none, .inl 0, .inl 0]) X hc d_Un_init_34 rfl (zTb_in 299 (by decide +kernel) (by decide +kernel)) (zTb_in 174 (by decide +kernel) (by decide +kernel)) (zTb_in 141 (by decide +kernel) (by decide +kernel)) ⟨by decide +kernel, by decide +kernel, rfl⟩ (by decide +kernel) ?_
  refine zn_dup (pc := 37) X d_Un_init_37 ?_
  refine zn_init (pc := 38) (ce := 57) (sl := 743) (m := 57) X hc li_Un_21 (Nat.le_trans (Nat.le_of_ble_eq_true rfl) hd) (k_Le_init (d := 1) (by decide)) d_Un_init_38 (by decide +kernel) (by decide +kernel) ?_
  refine zn_aast (pc := 41) (t := 6) (ci := 1) (j := 9) X hc (fun _ => rfl) rfl rfl d_Un_init_41 rfl (by decide +kernel) ?_
  refine zn_inc (pc := 42) (x := 9) (c := 10) X d_Un_init_42 rfl (by decide) (zI_d rfl) ?_
  refine zn_goto (pc := 45) (tgt := 23) X d_Un_init_45 (by decide) ?_
  refine zn_load1 (pc := 23) X d_Un_init_23 ?_
  refine zn_bipush (pc := 24) X d_Un_init_24 rfl (zI_d rfl) ?_
  refine zn_ngt (pc := 26) (tgt := 48) X d_Un_init_26 (by decide) (by decide) ?_
  refine zn_aload0 (pc := 29) X d_Un_init_29 ?_
  refine zn_getR (pc := 30) (m := 1) X hc fl_Un_13 d_Un_init_30 (by decide +kernel) ?_
  refine zn_load1 (pc := 33) X d_Un_init_33 ?_
  refine zn_new (pc := 34) (ce := 62) (sl := 814) (m := 63) (k := 7) (ci := 1) (fs := [.inr none, .inr none, .inr none, .inr none, .inr none, .inl 0, .inl 0]) X hc d_Un_init_34 rfl (zTb_in 299 (by decide +kernel) (by decide +kernel)) (zTb_in 174 (by decide +kernel) (by decide +kernel)) (zTb_in 141 (by decide +kernel) (by decide +kernel)) ⟨by decide +kernel, by decide +kernel, rfl⟩ (by decide +kernel) ?_
  refine zn_dup (pc := 37) X d_Un_init_37 ?_
  refine zn_init (pc := 38) (ce := 63) (sl := 821) (m := 63) X hc li_Un_21 (Nat.le_trans (Nat.le_of_ble_eq_true rfl) hd) (k_Le_init (d := 1) (by decide)) d_Un_init_38 (by decide +kernel) (by decide +kernel) ?_
  refine zn_aast (pc := 41) (t := 6) (ci := 1) (j := 10) X hc (fun _ => rfl) rfl rfl d_Un_init_41 rfl (by decide +kernel) ?_
  refine zn_inc (pc := 42) (x := 10) (c := 11) X d_Un_init_42 rfl (by decide) (zI_d rfl) ?_
  refine zn_goto (pc := 45) (tgt := 23) X d_Un_init_45 (by decide) ?_
  refine zn_load1 (pc := 23) X d_Un_init_23 ?_
  refine zn_bipush (pc := 24) X d_Un_init_24 rfl (zI_d rfl) ?_
  refine zn_ngt (pc := 26) (tgt := 48) X d_Un_init_26 (by decide) (by decide) ?_
  refine zn_aload0 (pc := 29) X d_Un_init_29 ?_
  refine zn_getR (pc := 30) (m := 1) X hc fl_Un_13 d_Un_init_30 (by decide +kernel) ?_
  refine zn_load1 (pc := 33) X d_Un_init_33 ?_
  refine zn_new (pc := 34) (ce := 68) (sl := 892) (m := 69) (k := 7) (ci := 1) (fs := [.inr none, .inr none, .inr none, .inr none, .inr none, .inl 0, .inl 0]) X hc d_Un_init_34 rfl (zTb_in 299 (by decide +kernel) (by decide +kernel)) (zTb_in 174 (by decide +kernel) (by decide +kernel)) (zTb_in 141 (by decide +kernel) (by decide +kernel)) ⟨by decide +kernel, by decide +kernel, rfl⟩ (by decide +kernel) ?_
  refine zn_dup (pc := 37) X d_Un_init_37 ?_
  refine zn_init (pc := 38) (ce := 69) (sl := 899) (m := 69) X hc li_Un_21 (Nat.le_trans (Nat.le_of_ble_eq_true rfl) hd) (k_Le_init (d := 1) (by decide)) d_Un_init_38 (by decide +kernel) (by decide +kernel) ?_
  refine zn_aast (pc := 41) (t := 6) (ci := 1) (j := 11) X hc (fun _ => rfl) rfl rfl d_Un_init_41 rfl (by decide +kernel) ?_
  refine zn_inc (pc := 42) (x := 11) (c := 12) X d_Un_init_42 rfl (by decide) (zI_d rfl) ?_
  refine zn_goto (pc := 45) (tgt := 23) X d_Un_init_45 (by decide) ?_
  refine zn_load1 (pc := 23) X d_Un_init_23 ?_
  refine zn_bipush (pc := 24) X d_Un_init_24 rfl (zI_d rfl) ?_
  refine zn_ngt (pc := 26) (tgt := 48) X d_Un_init_26 (by decide) (by decide) ?_
  refine zn_aload0 (pc := 29) X d_Un_init_29 ?_
  refine zn_getR (pc := 30) (m := 1) X hc fl_Un_13 d_Un_init_30 (by decide +kernel) ?_
  refine zn_load1 (pc := 33) X d_Un_init_33 ?_
  refine zn_new (pc := 34) (ce := 74) (sl := 970) (m := 75) (k := 7) (ci := 1) (fs := [.inr none, .inr none, .inr none, .inr none, .inr none, .inl 0, .inl 0]) X hc d_Un_init_34 rfl (zTb_in 299 (by decide +kernel) (by decide +kernel)) (zTb_in 174 (by decide +kernel) (by decide +kernel)) (zTb_in 141 (by decide +kernel) (by decide +kernel)) ⟨by decide +kernel, by decide +kernel, rfl⟩ (by decide +kernel) ?_
  refine zn_dup (pc := 37) X d_Un_init_37 ?_
  refine zn_init (pc := 38) (ce := 75) (sl := 977) (m := 75) X hc li_Un_21 (Nat.le_trans (Nat.le_of_ble_eq_true rfl) hd) (k_Le_init (d := 1) (by decide)) d_Un_init_38 (by decide +kernel) (by decide +kernel) ?_
  refine zn_aast (pc := 41) (t := 6) (ci := 1) (j := 12) X hc (fun _ => rfl) rfl rfl d_Un_init_41 rfl (by decide +kernel) ?_
  refine zn_inc (pc := 42) (x := 12) (c := 13) X d_Un_init_42 rfl (by decide) (zI_d rfl) ?_
  refine zn_goto (pc := 45) (tgt := 23) X d_Un_init_45 (by decide) ?_
  refine zn_load1 (pc := 23) X d_Un_init_23 ?_
  refine zn_bipush (pc := 24) X d_Un_init_24 rfl (zI_d rfl) ?_
  refine zn_ngt (pc := 26) (tgt := 48) X d_Un_init_26 (by decide) (by decide) ?_
  refine zn_aload0 (pc := 29) X d_Un_init_29 ?_
  refine zn_getR (pc := 30) (m := 1) X hc fl_Un_13 d_Un_init_30 (by decide +kernel) ?_
  refine zn_load1 (pc := 33) X d_Un_init_33 ?_
  refine zn_new (pc := 34) (ce := 80) (sl := 1048) (m := 81) (k := 7) (ci := 1) (fs := [.inr none, .inr none, .inr none, .inr none, .inr none, .inl 0, .inl 0]) X hc d_Un_init_34 rfl (zTb_in 299 (by decide +kernel) (by decide +kernel)) (zTb_in 174 (by decide +kernel) (by decide +kernel)) (zTb_in 141 (by decide +kernel) (by decide +kernel)) ⟨by decide +kernel, by decide +kernel, rfl⟩ (by decide +kernel) ?_
  refine zn_dup (pc := 37) X d_Un_init_37 ?_
  refine zn_init (pc := 38) (ce := 81) (sl := 1055) (m := 81) X hc li_Un_21 (Nat.le_trans (Nat.le_of_ble_eq_true rfl) hd) (k_Le_init (d := 1) (by decide)) d_Un_init_38 (by decide +kernel) (by decide +kernel) ?_
  refine zn_aast (pc := 41) (t := 6) (ci := 1) (j := 13) X hc (fun _ => rfl) rfl rfl d_Un_init_41 rfl (by decide +kernel) ?_
  refine zn_inc (pc := 42) (x := 13) (c := 14) X d_Un_init_42 rfl (by decide) (zI_d rfl) ?_
  refine zn_goto (pc := 45) (tgt := 23) X d_Un_init_45 (by decide) ?_
  exact zn_end (by decide +kernel) (by decide +kernel) rfl rfl kk
theorem k_Un_init {d : Nat} (hd : 2 ≤ d) : zMk d 104 1360 y_Un_init 10 [.inr none, .inr none, .inl 0, .inl 0] R_Un_init V_Un_init := by
  refine zMk.of (k := 1) (by decide +kernel) ⟨by decide +kernel, rfl, rfl⟩ rfl (by decide) (fun Γ n P μ ad0 X hc hnm ret => ?_)
  have X : zX Γ "DebtDoors$Undo" prog_12_method_1_code 2 d := X
  refine k_Un_init_0 hd rfl rfl X hc hnm ?_
  refine k_Un_init_1 hd rfl rfl X hc hnm ?_
  refine k_Un_init_2 hd rfl rfl X hc hnm ?_
  refine zn_load1 (pc := 23) X d_Un_init_23 ?_
  refine zn_bipush (pc := 24) X d_Un_init_24 rfl (zI_d rfl) ?_
  refine zn_ngt (pc := 26) (tgt := 48) X d_Un_init_26 (by decide) (by decide) ?_
  refine zn_aload0 (pc := 29) X d_Un_init_29 ?_
  refine zn_getR (pc := 30) (m := 1) X hc fl_Un_13 d_Un_init_30 (by decide +kernel) ?_
  refine zn_load1 (pc := 33) X d_Un_init_33 ?_
  refine zn_new (pc := 34) (ce := 86) (sl := 1126) (m := 87) (k := 7) (ci := 1) (fs := [.inr none, .inr none, .inr none, .inr none, .inr none, .inl 0, .inl 0]) X hc d_Un_init_34 rfl (zTb_in 299 (by decide +kernel) (by decide +kernel)) (zTb_in 174 (by decide +kernel) (by decide +kernel)) (zTb_in 141 (by decide +kernel) (by decide +kernel)) ⟨by decide +kernel, by decide +kernel, rfl⟩ (by decide +kernel) ?_
  refine zn_dup (pc := 37) X d_Un_init_37 ?_
  refine zn_init (pc := 38) (ce := 87) (sl := 1133) (m := 87) X hc li_Un_21 (Nat.le_trans (Nat.le_of_ble_eq_true rfl) hd) (k_Le_init (d := 1) (by decide)) d_Un_init_38 (by decide +kernel) (by decide +kernel) ?_
  refine zn_aast (pc := 41) (t := 6) (ci := 1) (j := 14) X hc (fun _ => rfl) rfl rfl d_Un_init_41 rfl (by decide +kernel) ?_
  refine zn_inc (pc := 42) (x := 14) (c := 15) X d_Un_init_42 rfl (by decide) (zI_d rfl) ?_
  refine zn_goto (pc := 45) (tgt := 23) X d_Un_init_45 (by decide) ?_
  refine zn_load1 (pc := 23) X d_Un_init_23 ?_
  refine zn_bipush (pc := 24) X d_Un_init_24 rfl (zI_d rfl) ?_
  refine zn_ngt (pc := 26) (tgt := 48) X d_Un_init_26 (by decide) (by decide) ?_
  refine zn_aload0 (pc := 29) X d_Un_init_29 ?_
  refine zn_getR (pc := 30) (m := 1) X hc fl_Un_13 d_Un_init_30 (by decide +kernel) ?_
  refine zn_load1 (pc := 33) X d_Un_init_33 ?_
  refine zn_new (pc := 34) (ce := 92) (sl := 1204) (m := 93) (k := 7) (ci := 1) (fs := [.inr none, .inr none, .inr none, .inr none, .inr none, .inl 0, .inl 0]) X hc d_Un_init_34 rfl (zTb_in 299 (by decide +kernel) (by decide +kernel)) (zTb_in 174 (by decide +kernel) (by decide +kernel)) (zTb_in 141 (by decide +kernel) (by decide +kernel)) ⟨by decide +kernel, by decide +kernel, rfl⟩ (by decide +kernel) ?_
  refine zn_dup (pc := 37) X d_Un_init_37 ?_
  refine zn_init (pc := 38) (ce := 93) (sl := 1211) (m := 93) X hc li_Un_21 (Nat.le_trans (Nat.le_of_ble_eq_true rfl) hd) (k_Le_init (d := 1) (by decide)) d_Un_init_38 (by decide +kernel) (by decide +kernel) ?_
  refine zn_aast (pc := 41) (t := 6) (ci := 1) (j := 15) X hc (fun _ => rfl) rfl rfl d_Un_init_41 rfl (by decide +kernel) ?_
  refine zn_inc (pc := 42) (x := 15) (c := 16) X d_Un_init_42 rfl (by decide) (zI_d rfl) ?_
  refine zn_goto (pc := 45) (tgt := 23) X d_Un_init_45 (by decide) ?_
  refine zn_load1 (pc := 23) X d_Un_init_23 ?_
  refine zn_bipush (pc := 24) X d_Un_init_24 rfl (zI_d rfl) ?_
  refine zn_ngt (pc := 26) (tgt := 48) X d_Un_init_26 (by decide) (by decide) ?_
  refine zn_aload0 (pc := 29) X d_Un_init_29 ?_
  refine zn_getR (pc := 30) (m := 1) X hc fl_Un_13 d_Un_init_30 (by decide +kernel) ?_
  refine zn_load1 (pc := 33) X d_Un_init_33 ?_
  refine zn_new (pc := 34) (ce := 98) (sl := 1282) (m := 99) (k := 7) (ci := 1) (fs := [.inr none, .inr none, .inr none, .inr none, .inr none, .inl 0, .inl 0]) X hc d_Un_init_34 rfl (zTb_in 299 (by decide +kernel) (by decide +kernel)) (zTb_in 174 (by decide +kernel) (by decide +kernel)) (zTb_in 141 (by decide +kernel) (by decide +kernel)) ⟨by decide +kernel, by decide +kernel, rfl⟩ (by decide +kernel) ?_
  refine zn_dup (pc := 37) X d_Un_init_37 ?_
  refine zn_init (pc := 38) (ce := 99) (sl := 1289) (m := 99) X hc li_Un_21 (Nat.le_trans (Nat.le_of_ble_eq_true rfl) hd) (k_Le_init (d := 1) (by decide)) d_Un_init_38 (by decide +kernel) (by decide +kernel) ?_
  refine zn_aast (pc := 41) (t := 6) (ci := 1) (j := 16) X hc (fun _ => rfl) rfl rfl d_Un_init_41 rfl (by decide +kernel) ?_
  refine zn_inc (pc := 42) (x := 16) (c := 17) X d_Un_init_42 rfl (by decide) (zI_d rfl) ?_
  refine zn_goto (pc := 45) (tgt := 23) X d_Un_init_45 (by decide) ?_
  refine zn_load1 (pc := 23) X d_Un_init_23 ?_
  refine zn_bipush (pc := 24) X d_Un_init_24 rfl (zI_d rfl) ?_
  refine zn_ge (pc := 26) (tgt := 48) X d_Un_init_26 (by decide) (by decide) ?_
  exact zn_end (by decide +kernel) (by decide +kernel) rfl rfl (ret d_Un_init_48)

