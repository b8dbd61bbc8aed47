/-! the reference goes along sums and tests in all their brackets -/
theorem est_S {Q : zTk} {o : Bool} {b : Int} {W : Int → Int} (hQ : okK Q) : ∀ k : Nat, ECT ESm (8 + 3 * k) y_M_sumOf Q o b W (lvS o Q.1 Q.2.1 k)
  | 0 => by
    have hG := PG_part (o := o) (v := Q.2.1) (S := none) hQ.2.1 (fun s h => by cases h)
    refine q_M_sumOf (d := 8) (dp := 7) (by decide) (by decide) hQ (PG_row hQ.2.1 rfl hG) ?_
    refine q_M_termOf (d := 7) (dp := 6) (by decide) (by decide) hQ hG ?_
    exact q_M_partOf (d := 6) (ds := 0) (by decide) (by decide) hQ (fun s h => by cases h)
  | k + 1 => by
    have ih := est_S (o := o) (b := b) (W := W) hQ k
    have hG := PG_part (o := o) (v := Q.2.1) (S := some (lvS o Q.1 Q.2.1 k)) hQ.2.1 (fun s h => by cases h; exact PG_S hQ.2.1 k)
    rw [lvS]
    refine q_M_sumOf (d := 8 + 3 * (k + 1)) (dp := 7 + 3 * (k + 1)) (by omega) (by omega) hQ (PG_row hQ.2.1 rfl hG) ?_
    refine q_M_termOf (d := 7 + 3 * (k + 1)) (dp := 6 + 3 * (k + 1)) (by omega) (by omega) hQ hG ?_
    refine q_M_partOf (d := 6 + 3 * (k + 1)) (ds := 8 + 3 * k) (by omega) (by omega) hQ (fun s h => ?_)
    cases h
    exact ⟨PG_S hQ.2.1 k, ih⟩
theorem est_T {Q : zTk} {o : Bool} {b : Int} {W : Int → Int} (hQ : okK Q) : ∀ k : Nat, ECT ETs (12 + 4 * k) y_M_testOf Q o b W (lvT o Q.1 Q.2.1 k)
  | 0 => by
    have hS := est_S (o := o) (b := b) (W := W) hQ 0
    have hGS := PG_S (o := o) (v := Q.2.1) hQ.2.1 0
    have hG := PG_plain (T := none) hQ.2.1 hGS (fun q h => by cases h)
    refine q_M_testOf (d := 12) (dp := 11) (by decide) (by decide) hQ (PG_row hQ.2.1 rfl hG) ?_
    refine q_M_bothOf (d := 11) (dp := 10) (by decide) (by decide) hQ hG ?_
    refine q_M_plainOf (d := 10) (dp := 9) (by decide) (by decide) hQ ?_
    exact q_M_positiveOf (d := 9) (ds := 8) (dt := 0) (by decide) (by decide) (by decide) hQ hGS hS (fun q h => by cases h)
  | k + 1 => by
    have ih := est_T (o := o) (b := b) (W := W) hQ k
    have hS := est_S (o := o) (b := b) (W := W) hQ (k + 1)
    have hGS := PG_S (o := o) (v := Q.2.1) hQ.2.1 (k + 1)
    have hG := PG_plain (T := some (lvT o Q.1 Q.2.1 k)) hQ.2.1 hGS (fun q h => by cases h; exact PG_T hQ.2.1 k)
    rw [lvT]
    refine q_M_testOf (d := 12 + 4 * (k + 1)) (dp := 11 + 4 * (k + 1)) (by omega) (by omega) hQ (PG_row hQ.2.1 rfl hG) ?_
    refine q_M_bothOf (d := 11 + 4 * (k + 1)) (dp := 10 + 4 * (k + 1)) (by omega) (by omega) hQ hG ?_
    refine q_M_plainOf (d := 10 + 4 * (k + 1)) (dp := 9 + 4 * (k + 1)) (by omega) (by omega) hQ ?_
    refine q_M_positiveOf (d := 9 + 4 * (k + 1)) (ds := 8 + 3 * (k + 1)) (dt := 12 + 4 * k) (by omega) (by omega) (by omega) hQ hGS hS (fun q h => ?_)
    cases h
    exact ⟨PG_T hQ.2.1 k, ih⟩
/-- a sum, a test at its call -/
theorem es_w {d : Nat} (hd : 33 ≤ d) {Q : zTk} {o : Bool} {b live br : Int} {W : Int → Int} (hQ : okK Q) {t l w t1 l1 : Nat} {m : Mn} {c : List Int} {μ : zMem} {K : zRo} (hlv : live = 0 ∨ live = 1) (hbr : br = 0 ∨ br = 1) (h : Ev Q o b W μ) (hg : μ 355 20 = b + t) (h22 : μ 355 22 = br) (hl : l ≤ 50) (ht : t ≤ Q.2.2.2) (hp : lvS o Q.1 Q.2.1 8 t l w = (t1, some (l1, m, c))) (hk : ∀ μ', μ' 355 20 = b + t1 → μ' 355 22 = evB live br (m W) → FE μ μ' → (-1000000000 ≤ evV live br (m W) ∧ evV live br (m W) ≤ 1000000000) → K (some (vl (evV live br (m W)))) μ') : zCw d y_M_sumOf [vr 355, vi live] μ K :=
  zCw.use (est_S hQ 8 μ live br t l w t1 l1 m c hlv hbr h hg h22 hl ht hp) hd (fun q μ' e => by
    obtain ⟨rfl, e1, e2, e3, e4⟩ := e
    exact hk μ' e2 e3 e4 e1)
theorem et_w {d : Nat} (hd : 45 ≤ d) {Q : zTk} {o : Bool} {b live br : Int} {W : Int → Int} (hQ : okK Q) {t l w t1 l1 : Nat} {m : Mn} {c : List Int} {μ : zMem} {K : zRo} (hlv : live = 0 ∨ live = 1) (hbr : br = 0 ∨ br = 1) (h : Ev Q o b W μ) (hg : μ 355 20 = b + t) (h22 : μ 355 22 = br) (hl : l ≤ 50) (ht : t ≤ Q.2.2.2) (hp : lvT o Q.1 Q.2.1 8 t l w = (t1, some (l1, m, c))) (hk : ∀ (x : Int) μ', (x = 0 ∨ x = 1) → (live = 1 → br = 0 → ∀ y, m W = some y → y = x) → μ' 355 20 = b + t1 → μ' 355 22 = evB live br (m W) → FE μ μ' → K (some (vi x)) μ') : zCw d y_M_testOf [vr 355, vi live] μ K :=
  zCw.use (est_T hQ 8 μ live br t l w t1 l1 m c hlv hbr h hg h22 hl ht hp) hd (fun q μ' e => by
    obtain ⟨x, rfl, e1, e2, e3, e4, e5⟩ := e
    exact hk x μ' e1 e2 e3 e4 e5)

