/-! sums and tests, in all their brackets -/
theorem ct_S {B : Int → Int} {n : Nat} {o : Bool} (hB : okB B n) : ∀ k : Nat, k ≤ 8 → CT (15 + 3 * k) y_Re_sum [vi (8 - (k : Int))] B n o (lvS o (cT B n) (vT B n) k)
  | 0, _ => by
    have hG := PG_part (o := o) (v := vT B n) (S := none) (fun u hu => cT_N (B := B) (n := n) u hu) (fun s h => by cases h)
    refine q_Re_sum (d := 15) (dp := 14) (by decide) (by decide) hB (PG_row (fun u hu => cT_N u hu) rfl hG) ?_
    refine q_Re_term (d := 14) (dp := 13) (by decide) (by decide) hB hG ?_
    exact q_Re_part (d := 13) (ds := 0) (by decide) (by decide) ⟨by decide, by decide⟩ hB (fun _ => rfl) (fun s h => by cases h)
  | k + 1, hk => by
    have ih := ct_S (o := o) hB k (by omega)
    have hG := PG_part (o := o) (v := vT B n) (S := some (lvS o (cT B n) (vT B n) k)) (fun u hu => cT_N (B := B) (n := n) u hu) (fun s h => by cases h; exact PG_S (fun u hu => cT_N u hu) k)
    rw [lvS]
    refine q_Re_sum (d := 15 + 3 * (k + 1)) (dp := 14 + 3 * (k + 1)) (by omega) (by omega) hB (PG_row (fun u hu => cT_N u hu) rfl hG) ?_
    refine q_Re_term (d := 14 + 3 * (k + 1)) (dp := 13 + 3 * (k + 1)) (by omega) (by omega) hB hG ?_
    refine q_Re_part (d := 13 + 3 * (k + 1)) (ds := 15 + 3 * k) (by omega) (by omega) (by omega) hB (fun h => by cases h) (fun s h => ?_)
    cases h
    refine ⟨by omega, ?_⟩
    rw [show (8 - ((k + 1 : Nat) : Int) + 1) = 8 - (k : Int) by omega]
    exact ih
theorem ct_T {B : Int → Int} {n : Nat} {o : Bool} (hB : okB B n) : ∀ k : Nat, k ≤ 8 → CT (20 + 3 * k) y_Re_test [vi (8 - (k : Int))] B n o (lvT o (cT B n) (vT B n) k)
  | 0, _ => by
    have hS := ct_S (o := o) hB 0 (by omega)
    have hGS := PG_S (o := o) (v := vT B n) (fun u hu => cT_N (B := B) (n := n) u hu) 0
    have hG := PG_plain (T := none) (fun u hu => cT_N (B := B) (n := n) u hu) hGS (fun q h => by cases h)
    refine q_Re_test (d := 20) (dp := 19) (by decide) (by decide) hB (PG_row (fun u hu => cT_N u hu) rfl hG) ?_
    refine q_Re_both (d := 19) (dp := 18) (by decide) (by decide) hB hG ?_
    exact q_Re_plain (d := 18) (ds := 15) (dt := 0) (by decide) (by decide) (by decide) ⟨by decide, by decide⟩ hB hGS (fun q h => by cases h) hS (fun _ => rfl) (fun q h => by cases h)
  | k + 1, hk => by
    have ih := ct_T (o := o) hB k (by omega)
    have hS := ct_S (o := o) hB (k + 1) (by omega)
    have hGS := PG_S (o := o) (v := vT B n) (fun u hu => cT_N (B := B) (n := n) u hu) (k + 1)
    have hG := PG_plain (T := some (lvT o (cT B n) (vT B n) k)) (fun u hu => cT_N (B := B) (n := n) u hu) hGS (fun q h => by cases h; exact PG_T (fun u hu => cT_N u hu) k)
    rw [lvT]
    refine q_Re_test (d := 20 + 3 * (k + 1)) (dp := 19 + 3 * (k + 1)) (by omega) (by omega) hB (PG_row (fun u hu => cT_N u hu) rfl hG) ?_
    refine q_Re_both (d := 19 + 3 * (k + 1)) (dp := 18 + 3 * (k + 1)) (by omega) (by omega) hB hG ?_
    refine q_Re_plain (d := 18 + 3 * (k + 1)) (ds := 15 + 3 * (k + 1)) (dt := 20 + 3 * k) (by omega) (by omega) (by omega) (by omega) hB hGS (fun q h => by cases h; exact PG_T (fun u hu => cT_N u hu) k) hS (fun h => by cases h) (fun q h => ?_)
    cases h
    refine ⟨by omega, ?_⟩
    rw [show (8 - ((k + 1 : Nat) : Int) + 1) = 8 - (k : Int) by omega]
    exact ih

