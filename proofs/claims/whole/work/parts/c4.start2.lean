/-! the memory at the law's start: both hold the same -/
theorem zmd_off {n : Nat} {μ : zMem} {c : Nat} : ∀ l : List (Nat × Int × Int), (∀ x, x ∈ l → c ≠ n + x.1) → zmd n μ l c = μ c
  | [], _ => rfl
  | (k, j, v) :: l, h => by
    show zm (zmd n μ l) (n + k) j v c = μ c
    rw [zm_off c (h _ List.mem_cons_self)]
    exact zmd_off l (fun x hx => h x (List.mem_cons_of_mem _ hx))
def lwWs (m : Nat) : List (Nat × Int × Int) := (List.range m).reverse.map (fun (i : Nat) => (6, (i : Int), wTab i))
theorem lwWs_s (m : Nat) : lwWs (m + 1) = (6, (m : Int), wTab m) :: lwWs m := by
  unfold lwWs
  rw [List.range_succ, List.reverse_append, List.reverse_singleton, List.singleton_append, List.map_cons]
set_option maxRecDepth 20000 in
theorem lwV_M : V_M_init = (2, 156, (-1)) :: (0, 47, (-1)) :: (0, 12, (-1)) :: lwWs 147 := by decide +kernel
theorem lwWs_at (n : Nat) (μ : zMem) : ∀ (m : Nat) (j : Int), 0 ≤ j → j < m → zmd n μ (lwWs m) (n + 6) j = wTab j
  | 0, j, h0, h1 => absurd h1 (by omega)
  | m + 1, j, h0, h1 => by
    rw [lwWs_s]
    show zm (zmd n μ (lwWs m)) (n + 6) m (wTab m) (n + 6) j = wTab j
    by_cases e : j = (m : Int)
    · rw [e, zm_s]
    · rw [zm_j e]
      exact lwWs_at n μ m j h0 (by omega)
theorem lwWs_off (n : Nat) (μ : zMem) (m c : Nat) (h : c ≠ n + 6) : zmd n μ (lwWs m) c = μ c := zmd_off _ (fun x hx => by
  unfold lwWs at hx
  obtain ⟨i, _, rfl⟩ := List.mem_map.mp hx
  exact h)
def lw0 : zMem := fun _ _ => 0
def lw1 : zMem := zmd 0 lw0 V_D_init
def lwM : zMem := zmd 355 lw1 V_M_init
theorem lw1_e : lw1 = zm (zm (zm (zm (zm (zm lw0 1 11 (-1)) 36 11 (-1)) 70 11 (-1)) 321 3 (-1)) 0 17 (-1)) 0 19 (-1) := rfl
theorem lwM_e : lwM = zm (zm (zm (zmd 355 lw1 (lwWs 147)) 355 12 (-1)) 355 47 (-1)) 357 156 (-1) := by
  unfold lwM
  rw [lwV_M]
  rfl
theorem lwM_t (i : Int) (h0 : 0 ≤ i) (h1 : i < 147) : lwM 361 i = wTab i := by
  rw [lwM_e, zm_o (by omega), zm_o (by omega), zm_o (by omega)]
  exact lwWs_at 355 lw1 147 i h0 (by omega)
def lwB (c : Nat) (j : Int) : Prop := c = 361 ∨ (c = 357 ∧ j = 156) ∨ (c = 355 ∧ (j = 47 ∨ j = 12)) ∨ (c = 0 ∧ (j = 19 ∨ j = 17)) ∨ (c = 321 ∧ j = 3) ∨ ((c = 70 ∨ c = 36 ∨ c = 1) ∧ j = 11)
theorem lwM_o {c : Nat} {j : Int} (h : ¬ lwB c j) : lwM c j = 0 := by
  unfold lwB at h
  rw [lwM_e, zm_o (by omega), zm_o (by omega), zm_o (by omega), lwWs_off _ _ _ _ (by omega), lw1_e, zm_o (by omega), zm_o (by omega), zm_o (by omega), zm_o (by omega), zm_o (by omega), zm_o (by omega)]
  rfl
theorem lwM_47 : lwM 355 47 = -1 := by
  rw [lwM_e, zm_o (by omega), zm_s]
theorem lwM_12 : lwM 355 12 = -1 := by
  rw [lwM_e, zm_o (by omega), zm_o (by omega), zm_s]
theorem lwM_156 : lwM 357 156 = -1 := by
  rw [lwM_e, zm_s]
theorem lwM_1 {c : Nat} (h : c < 355) : lwM c = lw1 c := by
  rw [lwM_e, zm_off c (by omega), zm_off c (by omega), zm_off c (by omega), lwWs_off _ _ _ _ (by omega)]
theorem lwM_17 : lwM 0 17 = -1 := by
  rw [lwM_1 (by decide), lw1_e, zm_o (by omega), zm_s]
theorem lwM_3 : lwM 321 3 = -1 := by
  rw [lwM_1 (by decide), lw1_e, zm_o (by omega), zm_o (by omega), zm_s]
theorem lwM_11 : lwM 1 11 = -1 := by
  rw [lwM_1 (by decide), lw1_e, zm_o (by omega), zm_o (by omega), zm_o (by omega), zm_o (by omega), zm_o (by omega), zm_s]
theorem lw0_T : TJ lwM (lwM 357) := by
  refine ⟨?_, ?_, ?_, ?_, ?_, ?_, ?_, ?_, ?_, ?_⟩
  · unfold TP
    rw [lwM_o (c := 1) (j := 6) (by unfold lwB; omega), lwM_o (c := 357) (j := 152) (by unfold lwB; omega)]
    decide
  · refine ⟨fun i a b => ?_, fun i a b => ?_⟩
    · rw [lwM_o (by unfold lwB; omega)]
      decide
    · rw [lwM_o (by unfold lwB; omega), lwM_o (by unfold lwB; omega)]
  · intro i a b
    rw [lwM_o (c := 8) (by unfold lwB; omega), lwM_o (c := 9) (by unfold lwB; omega), lwM_o (c := 357) (by unfold lwB; omega), lwM_o (c := 357) (by unfold lwB; omega)]
    decide
  · have e1 : lwM 2 5 = 0 := lwM_o (by unfold lwB; omega)
    have e2 : lwM 357 71 = 0 := lwM_o (by unfold lwB; omega)
    refine ⟨⟨by rw [e1]; decide, fun j a b => absurd b (by rw [e1]; omega)⟩, by rw [e1, e2], ?_⟩
    unfold dbM dbD
    show tL (lwM 357 71).toNat _ = tL (lwM 2 5).toNat _
    rw [e1, e2, Int.toNat_zero]
    unfold tL
    rw [List.range_zero, List.map_nil, List.map_nil]
  · unfold TY
    rw [lwM_o (c := 2) (j := 6) (by unfold lwB; omega), lwM_o (c := 357) (j := 72) (by unfold lwB; omega)]
    decide
  · unfold TO
    rw [lwM_o (c := 1) (j := 7) (by unfold lwB; omega), lwM_o (c := 357) (j := 151) (by unfold lwB; omega)]
    decide
  · have e1 : lwM 1 8 = 0 := lwM_o (by unfold lwB; omega)
    refine ⟨by rw [e1]; decide, by rw [e1]; exact lwM_o (by unfold lwB; omega), fun i a b => absurd b (by rw [e1]; omega)⟩
  · have e1 : lwM 1 9 = 0 := lwM_o (by unfold lwB; omega)
    refine ⟨by rw [e1]; decide, by rw [e1]; exact lwM_o (by unfold lwB; omega), fun i a b => absurd b (by rw [e1]; omega)⟩
  · have e1 : lwM 1 10 = 0 := lwM_o (by unfold lwB; omega)
    refine ⟨by rw [e1]; decide, by rw [e1]; exact lwM_o (by unfold lwB; omega), fun i a b => absurd b (by rw [e1]; omega)⟩
  · unfold TF
    rw [lwM_11, lwM_156, lwM_o (c := 1) (j := 10) (by unfold lwB; omega)]
    decide
theorem lw0_J : JJ 0 lwM lwM := by
  refine ⟨lw0_T, ?_, ?_, ?_, ?_, ?_, ?_⟩
  · have e1 : lwM 111 3 = 0 := lwM_o (by unfold lwB; omega)
    have e2 : lwM 355 28 = 0 := lwM_o (by unfold lwB; omega)
    have e3 : lwM 111 2 = 0 := lwM_o (by unfold lwB; omega)
    refine ⟨by rw [e1, e3]; decide, by rw [e1, e2], fun s a b => ?_, ?_⟩
    · rw [lwM_o (by unfold lwB slC; omega)]
      decide
    · have f1 : unD lwM 111 = [] := by
        unfold unD
        rw [e1, Int.toNat_zero]
        unfold tL
        rw [List.range_zero, List.map_nil]
      have f2 : unM lwM = [] := by
        unfold unM
        rw [e2, Int.toNat_zero]
        unfold tL
        rw [List.range_zero, List.map_nil]
      rw [f1, f2]
      exact ⟨rfl, fun i x r h => by cases h⟩
  · intro k hk
    have e1 : lwM 104 k = 0 := lwM_o (by unfold lwB; omega)
    exact ⟨by rw [e1]; exact lwM_o (by unfold lwB; omega), Or.inl e1⟩
  · refine ⟨0, lwM_o (by unfold lwB; omega), lwM_o (by unfold lwB; omega), by decide, fun i a b => ?_, by rw [lwM_12, lwM_3], fun i a b => lwM_t i a b⟩
    rw [lwM_o (c := 322) (by unfold lwB; omega), lwM_o (c := 362) (by unfold lwB; omega)]
    decide
  · refine ⟨?_, ?_, ?_, fun i a b => ?_⟩
    · rw [lwM_o (c := 355) (j := 0) (by unfold lwB; omega), lwM_o (c := 0) (j := 15) (by unfold lwB; omega)]
    · rw [lwM_o (c := 355) (j := 6) (by unfold lwB; omega), lwM_o (c := 0) (j := 16) (by unfold lwB; omega)]
    · rw [lwM_47, lwM_17]
    · rw [lwM_o (c := 356) (by unfold lwB; omega), lwM_o (c := 354) (by unfold lwB; omega)]
      decide
  · have e1 : lwM 351 2 = 0 := lwM_o (by unfold lwB; omega)
    exact ⟨by rw [e1]; decide, by rw [e1]; exact lwM_o (by unfold lwB; omega), fun p a b => absurd b (by rw [e1]; omega)⟩
  · intro i a b
    rw [lwM_o (by unfold lwB; omega)]
    decide

