/-! pieces that all proofs use -/
theorem zf01 : ((0 : Int) = 1) = False := by simp
theorem zf10 : ((1 : Int) = 0) = False := by simp
theorem zSwk_c {M : zMi} {ret : Option FieldType} {d pn pb pk t : Nat} {ts : List Nat} {s : zKo → zKo → zKo → zRo → zKo} {l : List (zKo → zKo → zKo → zRo → zKo)} (h1 : SS M ret d t pn pb pk s) (h2 : zSwk M ret d pn pb pk ts l) : zSwk M ret d pn pb pk (t :: ts) (s :: l) := ⟨h1, h2⟩
theorem zSwk_n {M : zMi} {ret : Option FieldType} {d pn pb pk : Nat} : zSwk M ret d pn pb pk [] [] := trivial
theorem zbe {b : Bool} {P : Prop} {h : Decidable P} : (b = decide P) = (b = true ↔ P) := by by_cases q : P <;> simp [q]
theorem zSw_c {lo a : Int} {s e : zKo → zKo → zKo → zRo → zKo} {l : List (zKo → zKo → zKo → zRo → zKo)} {N B C : zKo} {R : zRo} {ρ : zEn} {μ : zMem} : zSw lo (s :: l) e a N B C R ρ μ = if a = lo then s N B C R ρ μ else zSw (lo + 1) l e a N B C R ρ μ := by
  rw [zSw]
  split <;> rfl
theorem zSw_n {lo a : Int} {e : zKo → zKo → zKo → zRo → zKo} {N B C : zKo} {R : zRo} {ρ : zEn} {μ : zMem} : zSw lo [] e a N B C R ρ μ = e N B C R ρ μ := rfl
noncomputable def zbp (p : Prop) : Int := @ite Int p (Classical.propDecidable p) 1 0
theorem zbt {p : Prop} (h : p) : zbp p = 1 := by unfold zbp; rw [if_pos h]
theorem zbf {p : Prop} (h : ¬ p) : zbp p = 0 := by unfold zbp; rw [if_neg h]
theorem zb2_p {b : Bool} : zb2 b = zbp (b = true) := by cases b <;> simp [zb2, zbp]
theorem zbp_0 {p : Prop} : (zbp p = 0) = ¬ p := by unfold zbp; split <;> simp_all
theorem zbp_1 {p : Prop} : (zbp p = 1) = p := by unfold zbp; split <;> simp_all
theorem zbp_inj {p q : Prop} : (zbp p = zbp q) = (p ↔ q) := by unfold zbp; split <;> split <;> simp_all
theorem zbp_01 {p : Prop} : (zbp p = 0 ∨ zbp p = 1) = True := by unfold zbp; split <;> simp_all
theorem zbp_F : zbp False = 0 := zbf id
theorem zbp_T : zbp True = 1 := zbt trivial
noncomputable def zit (p : Prop) (a b : Int) : Int := @ite Int p (Classical.propDecidable p) a b
theorem zit_e {p : Prop} {h : Decidable p} {a b : Int} : @ite Int p h a b = zit p a b := by
  unfold zit
  by_cases q : p
  · rw [if_pos q, if_pos q]
  · rw [if_neg q, if_neg q]
theorem zit_t {p : Prop} {a b : Int} (h : p) : zit p a b = a := by unfold zit; rw [if_pos h]
theorem zit_f {p : Prop} {a b : Int} (h : ¬ p) : zit p a b = b := by unfold zit; rw [if_neg h]
theorem zit_T {a b : Int} : zit True a b = a := zit_t trivial
theorem zit_F {a b : Int} : zit False a b = b := zit_f id
theorem zm_r {μ : zMem} {k a : Nat} {j v i : Int} : zm μ k j v a i = zit (a = k) (zit (i = j) v (μ a i)) (μ a i) := by
  unfold zm zit
  by_cases h1 : a = k <;> by_cases h2 : i = j <;> simp [h1, h2]
theorem zI_e (n : Int) : zI n = (-2147483648 ≤ n ∧ n ≤ 2147483647) := rfl
theorem zx1 {P : Int → Prop} {n : Int} : (∃ m, some (vi n) = some (vi m) ∧ P m) = P n := by
  apply propext
  constructor
  · rintro ⟨m, h, p⟩
    cases h
    exact p
  · exact fun p => ⟨n, rfl, p⟩
theorem zx2 {P : Int → Prop} {n : Int} : (∃ m, some (vl n) = some (vl m) ∧ P m) = P n := by
  apply propext
  constructor
  · rintro ⟨m, h, p⟩
    cases h
    exact p
  · exact fun p => ⟨n, rfl, p⟩
theorem zdf {p : Prop} {h : Decidable p} : (decide p = false) = ¬ p := by by_cases q : p <;> simp [q]
theorem zdt {p : Prop} {h : Decidable p} : (decide p = true) = p := by by_cases q : p <;> simp [q]
theorem zfree_cz (v w : zV) (ρ : zEn) : zfree (v :: w :: ρ) (0 + 1) = (zlong (some v) = false) := by simp [zfree]
theorem zLoop.mk {xc : (Bool → zMem → Prop) → zEn → zMem → Prop} {xb xs : zKo → zKo → zKo → zRo → zKo} {N : zKo} {R : zRo} {ρ : zEn} {μ : zMem} (I : Nat → zKo) (m : Nat) (h0 : I m ρ μ)
    (h : ∀ m ρ μ, I m ρ μ → xc (fun q μ1 => if q = true then xb (fun ρ2 μ2 => xs (fun ρ3 μ3 => ∃ m', m' < m ∧ I m' ρ3 μ3) zFo zFo R ρ2 μ2) N (fun ρ2 μ2 => xs (fun ρ3 μ3 => ∃ m', m' < m ∧ I m' ρ3 μ3) zFo zFo R ρ2 μ2) R ρ μ1 else N ρ μ1) ρ μ) : zLoop xc xb xs N R ρ μ := ⟨I, ⟨m, h0⟩, h⟩
/-- a counting loop: what holds at each count -/
theorem zLoop.up {xc : (Bool → zMem → Prop) → zEn → zMem → Prop} {xb xs : zKo → zKo → zKo → zRo → zKo} {N : zKo} {R : zRo} {ρ : zEn} {μ : zMem} (n : Nat) (I : Nat → zKo) (h0 : I 0 ρ μ)
    (h : ∀ j ρ μ, j ≤ n → I j ρ μ → xc (fun q μ1 => if q = true then xb (fun ρ2 μ2 => xs (fun ρ3 μ3 => ∃ m', m' < n - j ∧ ∃ j', m' = n - j' ∧ j' ≤ n ∧ I j' ρ3 μ3) zFo zFo R ρ2 μ2) N (fun ρ2 μ2 => xs (fun ρ3 μ3 => ∃ m', m' < n - j ∧ ∃ j', m' = n - j' ∧ j' ≤ n ∧ I j' ρ3 μ3) zFo zFo R ρ2 μ2) R ρ μ1 else N ρ μ1) ρ μ) : zLoop xc xb xs N R ρ μ :=
  zLoop.mk (fun m ρ μ => ∃ j, m = n - j ∧ j ≤ n ∧ I j ρ μ) n ⟨0, rfl, Nat.zero_le _, h0⟩ (fun m ρ μ hm => by obtain ⟨j, rfl, hj, hI⟩ := hm; exact h j ρ μ hj hI)
theorem znx {n j : Nat} {P : Nat → Prop} (h : j < n) (p : P (j + 1)) : ∃ m', m' < n - j ∧ ∃ j', m' = n - j' ∧ j' ≤ n ∧ P j' := ⟨_, by omega, j + 1, rfl, h, p⟩
theorem zif {c A B : Prop} {h : Decidable c} (a : c → A) (b : ¬ c → B) : @ite Prop c h A B := by
  by_cases q : c
  · rw [if_pos q]; exact a q
  · rw [if_neg q]; exact b q
theorem zI_s {n : Int} (h1 : -1000000000 ≤ n) (h2 : n ≤ 1000000000) : zI n := ⟨by omega, by omega⟩
/-! ledgers -/
def zledB (q : Nat) : Bool := (zptr q 0 == q + 1 && zptr q 1 == q + 2 && zptr q 2 == q + 3 && zptr q 3 == q + 4 && zptr q 4 == q + 5) && (zkd (q + 1) == 0 && zkd (q + 2) == 0 && zkd (q + 3) == 0 && zkd (q + 4) == 0 && zkd (q + 5) == 0) && (zln (q + 1) == 7 && zln (q + 2) == 16 && zln (q + 3) == 16 && zln (q + 4) == 16 && zln (q + 5) == 16) && Nat.blt (q + 5) 355
theorem zled_all : (List.range 387).all (fun q => !zO 1 q || zledB q) = true := by decide +kernel
theorem zT0_len : zT0.length = 387 := by decide +kernel
theorem zO_lt {ci q : Nat} (h : zO ci q = true) : q < 387 := by
  obtain ⟨fs, e⟩ := zO_of h
  have h1 := (List.getElem?_eq_some_iff.mp e).1
  rw [zT0_len] at h1
  exact h1
theorem zled {q : Nat} (h : zO 1 q = true) : (zptr q 0 = q + 1 ∧ zptr q 1 = q + 2 ∧ zptr q 2 = q + 3 ∧ zptr q 3 = q + 4 ∧ zptr q 4 = q + 5) ∧ (zkd (q + 1) = 0 ∧ zkd (q + 2) = 0 ∧ zkd (q + 3) = 0 ∧ zkd (q + 4) = 0 ∧ zkd (q + 5) = 0) ∧ (zln (q + 1) = 7 ∧ zln (q + 2) = 16 ∧ zln (q + 3) = 16 ∧ zln (q + 4) = 16 ∧ zln (q + 5) = 16) ∧ q + 5 < 355 := by
  have h1 := List.all_eq_true.mp zled_all q (List.mem_range.mpr (zO_lt h))
  rw [h] at h1
  have h2 : zledB q = true := by simpa using h1
  unfold zledB at h2
  simp only [Bool.and_eq_true, beq_iff_eq, Nat.blt_eq] at h2
  obtain ⟨⟨⟨⟨⟨⟨⟨a1, a2⟩, a3⟩, a4⟩, a5⟩, ⟨⟨⟨⟨b1, b2⟩, b3⟩, b4⟩, b5⟩⟩, ⟨⟨⟨⟨c1, c2⟩, c3⟩, c4⟩, c5⟩⟩, e⟩ := h2
  exact ⟨⟨a1, a2, a3, a4, a5⟩, ⟨b1, b2, b3, b4, b5⟩, ⟨c1, c2, c3, c4, c5⟩, e⟩

