/-! orders: what both sides run -/
noncomputable def ordW (Z : Zt) (A : Lg) (dn ls i : Int) : Int := zit (i = 0) A.2.2 (zit (i = 1) (A.2.1.length : Int) (zit (i = 2) dn (zit (i = 3) ls (zit (i < 11) (zit (i - 4 < Z.1) (puA A (i - 4)) (-1)) (owL ((i - 11) / 7) ((i - 11) % 7) A.2.1)))))
noncomputable def fillO (Z : Zt) (A : Lg) (dn ls : Int) (w : Int → Int) : Int → Int := fun i => zit (0 ≤ i ∧ i < 60) (ordW Z A dn ls i) (w i)
theorem fillO_E {Z : Zt} {A : Lg} {dn ls : Int} {w f : Int → Int} (h : wE w f) : fillO Z A dn ls f = fillO Z A dn ls w := by
  funext i
  unfold fillO
  by_cases c : 0 ≤ i ∧ i < 60
  · rw [zit_t c, zit_t c]
  · rw [zit_f c, zit_f c, h i (by omega)]
theorem ordW_b {Z : Zt} {A : Lg} {dn ls : Int} (hA : okA A) (hd : 0 ≤ dn ∧ dn ≤ 1000) (hl : -1 ≤ ls ∧ ls ≤ 1000000) {i : Int} (h0 : 0 ≤ i) : -1000000 ≤ ordW Z A dn ls i ∧ ordW Z A dn ls i ≤ 1000000 := by
  have h1 := hA.2.1.1
  have h2 := hA.2.2
  have h3 := owA (a := (i - 11) / 7) (b := (i - 11) % 7) hA
  by_cases c : 4 ≤ i ∧ i < 11
  · have h4 := hA.1 (i - 4) (by omega) (by omega)
    unfold ordW puA zit
    repeat' split
    all_goals omega
  · unfold ordW zit
    repeat' split
    all_goals omega
theorem fillO_b {Z : Zt} {A : Lg} {dn ls : Int} {w : Int → Int} (hA : okA A) (hd : 0 ≤ dn ∧ dn ≤ 1000) (hl : -1 ≤ ls ∧ ls ≤ 1000000) : bW (fillO Z A dn ls w) := by
  intro i i0 i1
  unfold fillO
  rw [zit_t ⟨i0, i1⟩]
  exact ordW_b hA hd hl i0
/-! one order -/
noncomputable def orV (cl : Cls) (W : Int → Int) (k : Nat) : Option Int := if k = 0 then cl.2.2.2.1 W else if k = 1 then cl.2.2.2.2.1 W else cl.2.2.2.2.2.1 W
noncomputable def orG (cl : Cls) (W : Int → Int) (k : Nat) : Int := (orV cl W k).getD 0
def orB (cl : Cls) (W : Int → Int) : Prop := orV cl W 0 = none ∨ orV cl W 1 = none ∨ orV cl W 2 = none
noncomputable def orC (Z : Zt) (F : Option (List Cls)) (A : Lg) (cl : Cls) (W : Int → Int) : Int := zit (cl.1 = 2) (zit (A.2.2 < 999) (grw Z F W A A.2.1.length).2 (-3)) (zit (orB cl W) (-3) (zit (cl.1 = 1) (payA Z A (orG cl W 0) (orG cl W 1) (orG cl W 2)) (lendA Z A (orG cl W 0) (orG cl W 1) (orG cl W 2))))
noncomputable def orA (Z : Zt) (F : Option (List Cls)) (A : Lg) (cl : Cls) (W : Int → Int) : Lg := if cl.1 = 2 then (grw Z F W A A.2.1.length).1 else if cl.1 = 1 then pdA A (orG cl W 0) (orG cl W 1) (payA Z A (orG cl W 0) (orG cl W 1) (orG cl W 2)) else ldA A (orG cl W 0) (orG cl W 1) (orG cl W 2)
noncomputable def orK (cl : Cls) : Int := zit (cl.1 = 2) 4 (zit (cl.1 = 1) 1 0)
/-- ledger, what can be undone, done, last, words -/
abbrev OrS : Type := Lg × List (Lg × Int) × Int × Int × (Int → Int)
noncomputable def orW (Z : Zt) (x : OrS) : Int → Int := fillO Z x.1 x.2.2.1 x.2.2.2.1 x.2.2.2.2
noncomputable def orR (Z : Zt) (F : Option (List Cls)) (cl : Cls) (x : OrS) : Int × OrS :=
  if hlT cl.2.2.2.2.2.2 (orW Z x) = true then
    (if orC Z F x.1 cl (orW Z x) < 0 then (orC Z F x.1 cl (orW Z x), (x.1, x.2.1, x.2.2.1, x.2.2.2.1, orW Z x))
     else (0, (orA Z F x.1 cl (orW Z x), kpD x.2.1 (x.1, orK cl), x.2.2.1 + 1, zit (cl.1 = 2) x.2.2.2.1 (orC Z F x.1 cl (orW Z x)), orW Z x)))
  else (0, (x.1, x.2.1, x.2.2.1, x.2.2.2.1, orW Z x))
noncomputable def orI (Z : Zt) (F : Option (List Cls)) (cl : Cls) (x : OrS) : Nat → Int × OrS
  | 0 => (0, x)
  | k + 1 => if (orI Z F cl x k).1 < 0 then orI Z F cl x k else orR Z F cl (orI Z F cl x k).2
noncomputable def orL (Z : Zt) (F : Option (List Cls)) (cls : List Cls) (x : OrS) : Nat → Int × OrS
  | 0 => (0, x)
  | j + 1 => if (orL Z F cls x j).1 < 0 then orL Z F cls x j else orI Z F (cls.getD j (0, 0, (0, 0, 0, 0, 0), (fun _ => none, fun _ => none, fun _ => none, none))) (orL Z F cls x j).2 (cls.getD j (0, 0, (0, 0, 0, 0, 0), (fun _ => none, fun _ => none, fun _ => none, none))).2.1.toNat
/-- what holds of a state of orders: done at most so many -/
def okO2 (n : Nat) (x : OrS) : Prop := okA x.1 ∧ (0 ≤ x.2.2.1 ∧ x.2.2.1 ≤ n) ∧ -1 ≤ x.2.2.2.1 ∧ x.2.2.2.1 ≤ 1000000
theorem orC_in {Z : Zt} {F : Option (List Cls)} {A : Lg} {cl : Cls} {W : Int → Int} (hZ : okZ Z) (hA : okA A) : -5 ≤ orC Z F A cl W ∧ orC Z F A cl W ≤ 160000 ∧ (cl.1 ≠ 2 → orC Z F A cl W ≤ 9999) ∧ (0 ≤ orC Z F A cl W → okA (orA Z F A cl W)) := by
  unfold orC orA
  by_cases c : cl.1 = 2
  · rw [zit_t c, if_pos c]
    by_cases c1 : A.2.2 < 999
    · have h1 := grw_ok (Z := Z) (F := F) (w := W) hA c1 _ (Int.le_refl _)
      have h2 := hA.2.1.1
      rw [zit_t c1]
      exact ⟨by omega, by omega, fun q => absurd c q, fun _ => h1.1⟩
    · rw [zit_f c1]
      exact ⟨by decide, by decide, fun _ => by decide, fun q => absurd q (by decide)⟩
  · rw [zit_f c, if_neg c]
    by_cases c1 : orB cl W
    · rw [zit_t c1]
      exact ⟨by decide, by decide, fun _ => by decide, fun q => absurd q (by decide)⟩
    rw [zit_f c1]
    by_cases c2 : cl.1 = 1
    · rw [zit_t c2, if_pos c2]
      by_cases c3 : 0 ≤ payA Z A (orG cl W 0) (orG cl W 1) (orG cl W 2)
      · have h1 := payC_0 c3
        have h2 := pdA_ok hZ hA c3
        rw [← payA_m c3] at h2
        have h3 : payA Z A (orG cl W 0) (orG cl W 1) (orG cl W 2) ≤ 9999 := by
          rw [payA_m c3]
          unfold muchC
          have := h1.1
          omega
        exact ⟨by omega, by omega, fun _ => h3, fun _ => h2⟩
      · have h4 : -5 ≤ payA Z A (orG cl W 0) (orG cl W 1) (orG cl W 2) := by
          unfold payA payC zit
          repeat' split
          all_goals omega
        exact ⟨h4, by omega, fun _ => by omega, fun q => absurd q c3⟩
    · rw [zit_f c2, if_neg c2]
      by_cases c3 : 0 ≤ lendA Z A (orG cl W 0) (orG cl W 1) (orG cl W 2)
      · have h1 := lendC_0 c3
        have h3 : lendA Z A (orG cl W 0) (orG cl W 1) (orG cl W 2) = orG cl W 2 := h1.2.2.2.2.2
        exact ⟨by omega, by omega, fun _ => by omega, fun _ => ldA_ok hZ hA c3⟩
      · have h4 : -5 ≤ lendA Z A (orG cl W 0) (orG cl W 1) (orG cl W 2) := by
          unfold lendA lendC zit
          repeat' split
          all_goals omega
        exact ⟨h4, by omega, fun _ => by omega, fun q => absurd q c3⟩
theorem orR_ok {Z : Zt} {F : Option (List Cls)} {cl : Cls} {x : OrS} {n : Nat} (hZ : okZ Z) (hx : okO2 n x) : (-5 ≤ (orR Z F cl x).1 ∧ (orR Z F cl x).1 ≤ 0) ∧ okO2 (n + 1) (orR Z F cl x).2 := by
  obtain ⟨h1, h2, h3, h4⟩ := hx
  obtain ⟨c1, c2, c3, c4⟩ := orC_in (F := F) (cl := cl) (W := orW Z x) hZ h1
  unfold orR
  split
  · split
    · exact ⟨⟨by omega, by show orC Z F x.1 cl (orW Z x) ≤ 0; omega⟩, h1, by show 0 ≤ x.2.2.1 ∧ x.2.2.1 ≤ _; omega, by show -1 ≤ x.2.2.2.1 ∧ x.2.2.2.1 ≤ 1000000; omega⟩
    · refine ⟨⟨by show (-5:Int) ≤ 0; decide, by show (0:Int) ≤ 0; decide⟩, c4 (by omega), by show 0 ≤ x.2.2.1 + 1 ∧ x.2.2.1 + 1 ≤ _; omega, ?_⟩
      show -1 ≤ zit (cl.1 = 2) x.2.2.2.1 (orC Z F x.1 cl (orW Z x)) ∧ zit (cl.1 = 2) x.2.2.2.1 (orC Z F x.1 cl (orW Z x)) ≤ 1000000
      unfold zit
      split <;> omega
  · exact ⟨⟨by show (-5:Int) ≤ 0; decide, by show (0:Int) ≤ 0; decide⟩, h1, by show 0 ≤ x.2.2.1 ∧ x.2.2.1 ≤ _; omega, by show -1 ≤ x.2.2.2.1 ∧ x.2.2.2.1 ≤ 1000000; omega⟩
theorem orI_ok {Z : Zt} {F : Option (List Cls)} {cl : Cls} {x : OrS} {n : Nat} (hZ : okZ Z) (hx : okO2 n x) : ∀ k : Nat, (-5 ≤ (orI Z F cl x k).1 ∧ (orI Z F cl x k).1 ≤ 0) ∧ okO2 (n + k) (orI Z F cl x k).2
  | 0 => ⟨⟨by show (-5:Int) ≤ 0; decide, by show (0:Int) ≤ 0; decide⟩, hx⟩
  | k + 1 => by
    obtain ⟨i1, i2⟩ := orI_ok (F := F) (cl := cl) hZ hx k
    rw [orI]
    split
    · exact ⟨i1, i2.1, by have := i2.2.1; omega, i2.2.2⟩
    · exact orR_ok hZ i2

