section RV
variable {M : zMi} {d b b' b'' pc p1 p2 p3 pc' tt ff mm tgt i k ci kd ix pn pb pk : Nat} {ret : Option FieldType} {n off : Int} {v v1 v2 v3 : zEn → zMem → Int} {o o1 o2 o3 : zEn → zMem → Prop} {r r1 : zEn → zMem → Nat} {c c1 c2 c3 : zEn → zMem → Bool} {vs : zEn → zMem → List zV}
  {y1 y2 : (Int → zMem → Prop) → zEn → zMem → Prop} {xc xc1 xc2 : (Bool → zMem → Prop) → zEn → zMem → Prop} {xa : (List zV → zMem → Prop) → zEn → zMem → Prop} {s1 s2 s3 : zKo → zKo → zKo → zRo → zKo}
/-- a jump on two ints, on one -/
def zJ2 (op : ClassFile.Cond) (f : Int → Int → Bool) : Prop := ∀ (M : zMi) (d : Nat) (Γ : zCx) (ad : Nat → Nat) (pc tgt : Nat) (off : Int) (ρ : zEn) (st : List zV) (μ : zMem) (a b : Int), zXo M Γ d → decode M.2.1 pc = .ok (.if_icmp op off, 3) → (pc : Int) + off = (tgt : Int) → (f a b = true → zGo M Γ ad tgt ρ st μ) → (f a b = false → zGo M Γ ad (pc + 3) ρ st μ) → zGo M Γ ad pc ρ (vi b :: vi a :: st) μ
def zJ1 (op : ClassFile.Cond) (f : Int → Bool) : Prop := ∀ (M : zMi) (d : Nat) (Γ : zCx) (ad : Nat → Nat) (pc tgt : Nat) (off : Int) (ρ : zEn) (st : List zV) (μ : zMem) (a : Int), zXo M Γ d → decode M.2.1 pc = .ok (.ifCond op off, 3) → (pc : Int) + off = (tgt : Int) → (f a = true → zGo M Γ ad tgt ρ st μ) → (f a = false → zGo M Γ ad (pc + 3) ρ st μ) → zGo M Γ ad pc ρ (vi a :: st) μ
theorem j_eq : zJ2 .eq (fun a b => decide (a = b)) := fun _ _ _ _ _ _ _ _ _ _ _ _ X dec ht kt kf => zj_eq X dec ht (fun h => kt (decide_eq_true h)) (fun h => kf (decide_eq_false h))
theorem j_ne : zJ2 .ne (fun a b => !decide (a = b)) := fun _ _ _ _ _ _ _ _ _ _ _ _ X dec ht kt kf => zj_ne X dec ht (fun h => kt (by simp [h])) (fun h => kf (by simp [h]))
theorem j_lt : zJ2 .lt (fun a b => decide (a < b)) := fun _ _ _ _ _ _ _ _ _ _ _ _ X dec ht kt kf => zj_lt X dec ht (fun h => kt (decide_eq_true h)) (fun h => kf (decide_eq_false h))
theorem j_ge : zJ2 .ge (fun a b => decide (b ≤ a)) := fun _ _ _ _ _ _ _ _ _ _ _ _ X dec ht kt kf => zj_ge X dec ht (fun h => kt (decide_eq_true h)) (fun h => kf (decide_eq_false h))
theorem j_gt : zJ2 .gt (fun a b => decide (b < a)) := fun _ _ _ _ _ _ _ _ _ _ _ _ X dec ht kt kf => zj_gt X dec ht (fun h => kt (decide_eq_true h)) (fun h => kf (decide_eq_false h))
theorem j_le : zJ2 .le (fun a b => decide (a ≤ b)) := fun _ _ _ _ _ _ _ _ _ _ _ _ X dec ht kt kf => zj_le X dec ht (fun h => kt (decide_eq_true h)) (fun h => kf (decide_eq_false h))
theorem k_eq : zJ1 .eq (fun a => decide (a = 0)) := fun _ _ _ _ _ _ _ _ _ _ _ X dec ht kt kf => zk_eq X dec ht (fun h => kt (decide_eq_true h)) (fun h => kf (decide_eq_false h))
theorem k_ne : zJ1 .ne (fun a => !decide (a = 0)) := fun _ _ _ _ _ _ _ _ _ _ _ X dec ht kt kf => zk_ne X dec ht (fun h => kt (by simp [h])) (fun h => kf (by simp [h]))
theorem k_lt : zJ1 .lt (fun a => decide (a < 0)) := fun _ _ _ _ _ _ _ _ _ _ _ X dec ht kt kf => zk_lt X dec ht (fun h => kt (decide_eq_true h)) (fun h => kf (decide_eq_false h))
theorem k_ge : zJ1 .ge (fun a => decide (0 ≤ a)) := fun _ _ _ _ _ _ _ _ _ _ _ X dec ht kt kf => zk_ge X dec ht (fun h => kt (decide_eq_true h)) (fun h => kf (decide_eq_false h))
theorem k_gt : zJ1 .gt (fun a => decide (0 < a)) := fun _ _ _ _ _ _ _ _ _ _ _ X dec ht kt kf => zk_gt X dec ht (fun h => kt (decide_eq_true h)) (fun h => kf (decide_eq_false h))
theorem k_le : zJ1 .le (fun a => decide (a ≤ 0)) := fun _ _ _ _ _ _ _ _ _ _ _ X dec ht kt kf => zk_le X dec ht (fun h => kt (decide_eq_true h)) (fun h => kf (decide_eq_false h))
theorem rJ2 {op : ClassFile.Cond} {f : Int → Int → Bool} (h : zJ2 op f) (h1 : RE M d b pc p1 v1 o1) (h2 : RE M d (b + 1) p1 p2 v2 o2) (dec : decode M.2.1 p2 = .ok (.if_icmp op off, 3)) (ht : (p2 : Int) + off = (tgt : Int)) : RC M d b pc tgt (p2 + 3) (fun ρ μ => f (v1 ρ μ) (v2 ρ μ)) (fun ρ μ => o1 ρ μ ∧ o2 ρ μ) :=
  fun Γ ad ρ st μ X hb o kt kf => h1 Γ ad ρ st μ X hb o.1 (h2 Γ ad ρ _ μ X (zcs_c hb) o.2 (h M d Γ ad p2 tgt off ρ st μ _ _ X dec ht kt kf))
theorem rJ1 {op : ClassFile.Cond} {f : Int → Bool} (h : zJ1 op f) (h1 : RE M d b pc p1 v1 o1) (dec : decode M.2.1 p1 = .ok (.ifCond op off, 3)) (ht : (p1 : Int) + off = (tgt : Int)) : RC M d b pc tgt (p1 + 3) (fun ρ μ => f (v1 ρ μ)) o1 :=
  fun Γ ad ρ st μ X hb o kt kf => h1 Γ ad ρ st μ X hb o (h M d Γ ad p1 tgt off ρ st μ _ X dec ht kt kf)
theorem xJ2 {op : ClassFile.Cond} {f : Int → Int → Bool} (h : zJ2 op f) (h1 : XE M d b pc p1 y1) (h2 : XE M d (b + 1) p1 p2 y2) (dec : decode M.2.1 p2 = .ok (.if_icmp op off, 3)) (ht : (p2 : Int) + off = (tgt : Int)) : XC M d b pc tgt (p2 + 3) (fun K ρ μ => y1 (fun a μ1 => y2 (fun e μ2 => K (f a e) μ2) ρ μ1) ρ μ) :=
  fun Γ ad ρ st μ K X hb hx kt kf => h1 Γ ad ρ st μ _ X hb hx (fun a μ1 h3 => h2 Γ ad ρ _ μ1 _ X (zcs_c hb) h3 (fun e μ2 h4 => h M d Γ ad p2 tgt off ρ st μ2 _ _ X dec ht (fun q => kt μ2 (by rw [← q]; exact h4)) (fun q => kf μ2 (by rw [← q]; exact h4))))
theorem xJ1 {op : ClassFile.Cond} {f : Int → Bool} (h : zJ1 op f) (h1 : XE M d b pc p1 y1) (dec : decode M.2.1 p1 = .ok (.ifCond op off, 3)) (ht : (p1 : Int) + off = (tgt : Int)) : XC M d b pc tgt (p1 + 3) (fun K ρ μ => y1 (fun a μ1 => K (f a) μ1) ρ μ) :=
  fun Γ ad ρ st μ K X hb hx kt kf => h1 Γ ad ρ st μ _ X hb hx (fun a μ1 h3 => h M d Γ ad p1 tgt off ρ st μ1 _ X dec ht (fun q => kt μ1 (by rw [← q]; exact h3)) (fun q => kf μ1 (by rw [← q]; exact h3)))
theorem rNot (h : RC M d b pc tt ff c o) : RC M d b pc ff tt (fun ρ μ => !c ρ μ) o := fun Γ ad ρ st μ X hb ho kt kf => h Γ ad ρ st μ X hb ho (fun e => kf (by simp [e])) (fun e => kt (by simp [e]))
theorem xNot (h : XC M d b pc tt ff xc) : XC M d b pc ff tt (fun K ρ μ => xc (fun q μ1 => K (!q) μ1) ρ μ) := fun Γ ad ρ st μ K X hb hx kt kf => h Γ ad ρ st μ _ X hb hx (fun μ' e => kf μ' e) (fun μ' e => kt μ' e)
theorem rAnd (h1 : RC M d b pc mm ff c1 o1) (h2 : RC M d b mm tt ff c2 o2) : RC M d b pc tt ff (fun ρ μ => c1 ρ μ && c2 ρ μ) (fun ρ μ => o1 ρ μ ∧ (c1 ρ μ = true → o2 ρ μ)) :=
  fun Γ ad ρ st μ X hb o kt kf => h1 Γ ad ρ st μ X hb o.1 (fun e => h2 Γ ad ρ st μ X hb (o.2 e) (fun e2 => kt (by simp [e, e2])) (fun e2 => kf (by simp [e2]))) (fun e => kf (by simp [e]))
theorem rOr (h1 : RC M d b pc tt mm c1 o1) (h2 : RC M d b mm tt ff c2 o2) : RC M d b pc tt ff (fun ρ μ => c1 ρ μ || c2 ρ μ) (fun ρ μ => o1 ρ μ ∧ (c1 ρ μ = false → o2 ρ μ)) :=
  fun Γ ad ρ st μ X hb o kt kf => h1 Γ ad ρ st μ X hb o.1 (fun e => kt (by simp [e])) (fun e => h2 Γ ad ρ st μ X hb (o.2 e) (fun e2 => kt (by simp [e2])) (fun e2 => kf (by simp [e, e2])))
theorem xAnd (h1 : XC M d b pc mm ff xc1) (h2 : XC M d b mm tt ff xc2) : XC M d b pc tt ff (fun K ρ μ => xc1 (fun q μ1 => if q = true then xc2 K ρ μ1 else K false μ1) ρ μ) :=
  fun Γ ad ρ st μ K X hb hx kt kf => h1 Γ ad ρ st μ _ X hb hx (fun μ1 e => h2 Γ ad ρ st μ1 K X hb (by simpa using e) kt kf) (fun μ1 e => kf μ1 (by simpa using e))
theorem xOr (h1 : XC M d b pc tt mm xc1) (h2 : XC M d b mm tt ff xc2) : XC M d b pc tt ff (fun K ρ μ => xc1 (fun q μ1 => if q = true then K true μ1 else xc2 K ρ μ1) ρ μ) :=
  fun Γ ad ρ st μ K X hb hx kt kf => h1 Γ ad ρ st μ _ X hb hx (fun μ1 e => kt μ1 (by simpa using e)) (fun μ1 e => h2 Γ ad ρ st μ1 K X hb (by simpa using e) kt kf)
/-- a condition by a choice of conditions -/
theorem rTc (h0 : RC M d b pc mm p1 c1 o1) (h1 : RC M d b mm tt ff c2 o2) (h2 : RC M d b p1 tt ff c3 o3) : RC M d b pc tt ff (fun ρ μ => if c1 ρ μ = true then c2 ρ μ else c3 ρ μ) (fun ρ μ => o1 ρ μ ∧ (c1 ρ μ = true → o2 ρ μ) ∧ (c1 ρ μ = false → o3 ρ μ)) :=
  fun Γ ad ρ st μ X hb o kt kf => h0 Γ ad ρ st μ X hb o.1 (fun e => h1 Γ ad ρ st μ X hb (o.2.1 e) (fun e2 => kt (by simp [e, e2])) (fun e2 => kf (by simp [e, e2]))) (fun e => h2 Γ ad ρ st μ X hb (o.2.2 e) (fun e2 => kt (by simp [e, e2])) (fun e2 => kf (by simp [e, e2])))
theorem xTc {xc3 : (Bool → zMem → Prop) → zEn → zMem → Prop} (h0 : XC M d b pc mm p1 xc1) (h1 : XC M d b mm tt ff xc2) (h2 : XC M d b p1 tt ff xc3) : XC M d b pc tt ff (fun K ρ μ => xc1 (fun q μ1 => if q = true then xc2 K ρ μ1 else xc3 K ρ μ1) ρ μ) :=
  fun Γ ad ρ st μ K X hb hx kt kf => h0 Γ ad ρ st μ _ X hb hx (fun μ1 e => h1 Γ ad ρ st μ1 K X hb (by simpa using e) kt kf) (fun μ1 e => h2 Γ ad ρ st μ1 K X hb (by simpa using e) kt kf)
def zb2 (q : Bool) : Int := if q = true then 1 else 0
/-- a condition as a number -/
theorem rMat (h : RC M d b pc tt ff c o) (d1 : decode M.2.1 tt = .ok (.iconst 1, 1)) (d2 : decode M.2.1 (tt + 1) = .ok (.goto off, 3)) (ht : ((tt + 1 : Nat) : Int) + off = ((ff + 1 : Nat) : Int)) (d3 : decode M.2.1 ff = .ok (.iconst 0, 1)) : RE M d b pc (ff + 1) (fun ρ μ => zb2 (c ρ μ)) o :=
  fun Γ ad ρ st μ X hb ho k => h Γ ad ρ st μ X hb ho (fun e => zi_const X d1 ⟨by decide, by decide⟩ (zi_goto X d2 ht (by simpa [zb2, e] using k))) (fun e => zi_const X d3 ⟨by decide, by decide⟩ (by simpa [zb2, e] using k))
theorem xMat (h : XC M d b pc tt ff xc) (d1 : decode M.2.1 tt = .ok (.iconst 1, 1)) (d2 : decode M.2.1 (tt + 1) = .ok (.goto off, 3)) (ht : ((tt + 1 : Nat) : Int) + off = ((ff + 1 : Nat) : Int)) (d3 : decode M.2.1 ff = .ok (.iconst 0, 1)) : XE M d b pc (ff + 1) (fun K ρ μ => xc (fun q μ1 => K (zb2 q) μ1) ρ μ) :=
  fun Γ ad ρ st μ K X hb hx kk => h Γ ad ρ st μ _ X hb hx (fun μ1 e => zi_const X d1 ⟨by decide, by decide⟩ (zi_goto X d2 ht (kk _ μ1 e))) (fun μ1 e => zi_const X d3 ⟨by decide, by decide⟩ (kk _ μ1 e))
/-- a choice -/
theorem rT (h0 : RC M d b pc tt ff c o) (h1 : RE M d b tt p1 v1 o1) (dg : decode M.2.1 p1 = .ok (.goto off, 3)) (ht : (p1 : Int) + off = (p2 : Int)) (h2 : RE M d b ff p2 v2 o2) : RE M d b pc p2 (fun ρ μ => if c ρ μ = true then v1 ρ μ else v2 ρ μ) (fun ρ μ => o ρ μ ∧ (c ρ μ = true → o1 ρ μ) ∧ (c ρ μ = false → o2 ρ μ)) :=
  fun Γ ad ρ st μ X hb ho k => h0 Γ ad ρ st μ X hb ho.1 (fun e => h1 Γ ad ρ st μ X hb (ho.2.1 e) (zi_goto X dg ht (by simpa [e] using k))) (fun e => h2 Γ ad ρ st μ X hb (ho.2.2 e) (by simpa [e] using k))
theorem rTl (h0 : RC M d b pc tt ff c o) (h1 : RL M d b tt p1 v1 o1) (dg : decode M.2.1 p1 = .ok (.goto off, 3)) (ht : (p1 : Int) + off = (p2 : Int)) (h2 : RL M d b ff p2 v2 o2) : RL M d b pc p2 (fun ρ μ => if c ρ μ = true then v1 ρ μ else v2 ρ μ) (fun ρ μ => o ρ μ ∧ (c ρ μ = true → o1 ρ μ) ∧ (c ρ μ = false → o2 ρ μ)) :=
  fun Γ ad ρ st μ X hb ho k => h0 Γ ad ρ st μ X hb ho.1 (fun e => h1 Γ ad ρ st μ X hb (ho.2.1 e) (zi_goto X dg ht (by simpa [e] using k))) (fun e => h2 Γ ad ρ st μ X hb (ho.2.2 e) (by simpa [e] using k))
theorem xT (h0 : XC M d b pc tt ff xc) (h1 : XE M d b tt p1 y1) (dg : decode M.2.1 p1 = .ok (.goto off, 3)) (ht : (p1 : Int) + off = (p2 : Int)) (h2 : XE M d b ff p2 y2) : XE M d b pc p2 (fun K ρ μ => xc (fun q μ1 => if q = true then y1 K ρ μ1 else y2 K ρ μ1) ρ μ) :=
  fun Γ ad ρ st μ K X hb hx kk => h0 Γ ad ρ st μ _ X hb hx (fun μ1 e => h1 Γ ad ρ st μ1 K X hb (by simpa using e) (fun q μ2 h => zi_goto X dg ht (kk q μ2 h))) (fun μ1 e => h2 Γ ad ρ st μ1 K X hb (by simpa using e) kk)
theorem xTl (h0 : XC M d b pc tt ff xc) (h1 : XL M d b tt p1 y1) (dg : decode M.2.1 p1 = .ok (.goto off, 3)) (ht : (p1 : Int) + off = (p2 : Int)) (h2 : XL M d b ff p2 y2) : XL M d b pc p2 (fun K ρ μ => xc (fun q μ1 => if q = true then y1 K ρ μ1 else y2 K ρ μ1) ρ μ) :=
  fun Γ ad ρ st μ K X hb hx kk => h0 Γ ad ρ st μ _ X hb hx (fun μ1 e => h1 Γ ad ρ st μ1 K X hb (by simpa using e) (fun q μ2 h => zi_goto X dg ht (kk q μ2 h))) (fun μ1 e => h2 Γ ad ρ st μ1 K X hb (by simpa using e) kk)
theorem rT2 (h0 : RC M d b pc tt ff c o) (h1 : RE M d b tt p2 v1 o1) (h2 : RE M d b ff p2 v2 o2) : RE M d b pc p2 (fun ρ μ => if c ρ μ = true then v1 ρ μ else v2 ρ μ) (fun ρ μ => o ρ μ ∧ (c ρ μ = true → o1 ρ μ) ∧ (c ρ μ = false → o2 ρ μ)) :=
  fun Γ ad ρ st μ X hb ho k => h0 Γ ad ρ st μ X hb ho.1 (fun e => h1 Γ ad ρ st μ X hb (ho.2.1 e) (by simpa [e] using k)) (fun e => h2 Γ ad ρ st μ X hb (ho.2.2 e) (by simpa [e] using k))
theorem rT2l (h0 : RC M d b pc tt ff c o) (h1 : RL M d b tt p2 v1 o1) (h2 : RL M d b ff p2 v2 o2) : RL M d b pc p2 (fun ρ μ => if c ρ μ = true then v1 ρ μ else v2 ρ μ) (fun ρ μ => o ρ μ ∧ (c ρ μ = true → o1 ρ μ) ∧ (c ρ μ = false → o2 ρ μ)) :=
  fun Γ ad ρ st μ X hb ho k => h0 Γ ad ρ st μ X hb ho.1 (fun e => h1 Γ ad ρ st μ X hb (ho.2.1 e) (by simpa [e] using k)) (fun e => h2 Γ ad ρ st μ X hb (ho.2.2 e) (by simpa [e] using k))
/-- a condition's truth as a number -/
theorem rTb (h0 : RC M d b pc tt ff c o) (h1 : RE M d b tt p2 (fun _ _ => 1) (fun _ _ => True)) (h2 : RE M d b ff p2 (fun _ _ => 0) (fun _ _ => True)) : RE M d b pc p2 (fun ρ μ => zb2 (c ρ μ)) o :=
  fun Γ ad ρ st μ X hb ho k => h0 Γ ad ρ st μ X hb ho (fun e => h1 Γ ad ρ st μ X hb trivial (by simpa [zb2, e] using k)) (fun e => h2 Γ ad ρ st μ X hb trivial (by simpa [zb2, e] using k))
theorem xTb (h0 : XC M d b pc tt ff xc) (h1 : RE M d b tt p2 (fun _ _ => 1) (fun _ _ => True)) (h2 : RE M d b ff p2 (fun _ _ => 0) (fun _ _ => True)) : XE M d b pc p2 (fun K ρ μ => xc (fun q μ1 => K (zb2 q) μ1) ρ μ) :=
  fun Γ ad ρ st μ K X hb hx kk => h0 Γ ad ρ st μ _ X hb hx (fun μ1 e => h1 Γ ad ρ st μ1 X hb trivial (kk _ _ e)) (fun μ1 e => h2 Γ ad ρ st μ1 X hb trivial (kk _ _ e))
theorem xT2 (h0 : XC M d b pc tt ff xc) (h1 : XE M d b tt p2 y1) (h2 : XE M d b ff p2 y2) : XE M d b pc p2 (fun K ρ μ => xc (fun q μ1 => if q = true then y1 K ρ μ1 else y2 K ρ μ1) ρ μ) :=
  fun Γ ad ρ st μ K X hb hx kk => h0 Γ ad ρ st μ _ X hb hx (fun μ1 e => h1 Γ ad ρ st μ1 K X hb (by simpa using e) kk) (fun μ1 e => h2 Γ ad ρ st μ1 K X hb (by simpa using e) kk)
theorem xT2l (h0 : XC M d b pc tt ff xc) (h1 : XL M d b tt p2 y1) (h2 : XL M d b ff p2 y2) : XL M d b pc p2 (fun K ρ μ => xc (fun q μ1 => if q = true then y1 K ρ μ1 else y2 K ρ μ1) ρ μ) :=
  fun Γ ad ρ st μ K X hb hx kk => h0 Γ ad ρ st μ _ X hb hx (fun μ1 e => h1 Γ ad ρ st μ1 K X hb (by simpa using e) kk) (fun μ1 e => h2 Γ ad ρ st μ1 K X hb (by simpa using e) kk)
/-- arguments, one behind the other -/
theorem rA0 : RA M d b b pc pc (fun _ _ => []) (fun _ _ => True) := fun Γ ad ρ st μ X hb _ k => k hb
theorem rAi (h1 : RA M d b b' pc p1 vs o1) (h2 : RE M d b' p1 p2 v2 o2) : RA M d b (b' + 1) pc p2 (fun ρ μ => vs ρ μ ++ [vi (v2 ρ μ)]) (fun ρ μ => o1 ρ μ ∧ o2 ρ μ) :=
  fun Γ ad ρ st μ X hb o k => h1 Γ ad ρ st μ X hb o.1 (fun hb2 => h2 Γ ad ρ _ μ X hb2 o.2 (by have := k; rw [List.reverse_append] at this; exact this (zcs_c (v := vi (v2 ρ μ)) hb2)))
theorem rAL (h1 : RA M d b b' pc p1 vs o1) (h2 : RL M d b' p1 p2 v2 o2) : RA M d b (b' + 2) pc p2 (fun ρ μ => vs ρ μ ++ [vl (v2 ρ μ)]) (fun ρ μ => o1 ρ μ ∧ o2 ρ μ) :=
  fun Γ ad ρ st μ X hb o k => h1 Γ ad ρ st μ X hb o.1 (fun hb2 => h2 Γ ad ρ _ μ X hb2 o.2 (by have := k; rw [List.reverse_append] at this; exact this (zcs_c (v := vl (v2 ρ μ)) hb2)))
theorem rAr (h1 : RA M d b b' pc p1 vs o1) (h2 : RR M d b' p1 p2 r o2) : RA M d b (b' + 1) pc p2 (fun ρ μ => vs ρ μ ++ [vr (r ρ μ)]) (fun ρ μ => o1 ρ μ ∧ o2 ρ μ) :=
  fun Γ ad ρ st μ X hb o k => h1 Γ ad ρ st μ X hb o.1 (fun hb2 => h2 Γ ad ρ _ μ X hb2 o.2 (by have := k; rw [List.reverse_append] at this; exact this (zcs_c (v := vr (r ρ μ)) hb2)))
theorem rAs (h1 : RA M d b b' pc p1 vs o1) (h2 : RS M d b' p1 p2 r o2) : RA M d b (b' + 1) pc p2 (fun ρ μ => vs ρ μ ++ [vx (r ρ μ)]) (fun ρ μ => o1 ρ μ ∧ o2 ρ μ) :=
  fun Γ ad ρ st μ X hb o k => h1 Γ ad ρ st μ X hb o.1 (fun hb2 => h2 Γ ad ρ _ μ X hb2 o.2 (by have := k; rw [List.reverse_append] at this; exact this (zcs_c (v := vx (r ρ μ)) hb2)))
theorem xAi (h1 : XA M d b b' pc p1 xa) (h2 : XE M d b' p1 p2 y2) : XA M d b (b' + 1) pc p2 (fun K ρ μ => xa (fun as μ1 => y2 (fun q μ2 => K (as ++ [vi q]) μ2) ρ μ1) ρ μ) :=
  fun Γ ad ρ st μ K X hb hx kk => h1 Γ ad ρ st μ _ X hb hx (fun as μ1 h3 hb2 => h2 Γ ad ρ _ μ1 _ X hb2 h3 (fun q μ2 h4 => by have := kk _ _ h4; rw [List.reverse_append] at this; exact this (zcs_c (v := vi q) hb2)))
theorem xAL (h1 : XA M d b b' pc p1 xa) (h2 : XL M d b' p1 p2 y2) : XA M d b (b' + 2) pc p2 (fun K ρ μ => xa (fun as μ1 => y2 (fun q μ2 => K (as ++ [vl q]) μ2) ρ μ1) ρ μ) :=
  fun Γ ad ρ st μ K X hb hx kk => h1 Γ ad ρ st μ _ X hb hx (fun as μ1 h3 hb2 => h2 Γ ad ρ _ μ1 _ X hb2 h3 (fun q μ2 h4 => by have := kk _ _ h4; rw [List.reverse_append] at this; exact this (zcs_c (v := vl q) hb2)))
theorem xAr (h1 : XA M d b b' pc p1 xa) (h2 : RR M d b' p1 p2 r o2) : XA M d b (b' + 1) pc p2 (fun K ρ μ => xa (fun as μ1 => o2 ρ μ1 ∧ K (as ++ [vr (r ρ μ1)]) μ1) ρ μ) :=
  fun Γ ad ρ st μ K X hb hx kk => h1 Γ ad ρ st μ _ X hb hx (fun as μ1 h3 hb2 => h2 Γ ad ρ _ μ1 X hb2 h3.1 (by have := kk _ _ h3.2; rw [List.reverse_append] at this; exact this (zcs_c (v := vr (r ρ μ1)) hb2)))
/-- a call by its contract: 'zCw d y as μ K' -/
def zCw (d : Nat) (y : zMt) (as : List zV) (μ : zMem) (K : Option zV → zMem → Prop) : Prop := ∃ (d' : Nat) (Rq : zRo), d' + 1 ≤ d ∧ zSp d' 0 0 y zT0 as μ zT0 Rq ∧ ∀ q μ', Rq q μ' → K q μ'
/-- an object's method: the type's place and name -/
def zLv (own : String) (ix : Nat) (y : zMt) (nA ci : Nat) : Prop := zLkV own ix y nA ∧ ∃ r, zCl[ci]? = some r ∧ r.1 = y.1.cls
def zRecv (ci nA : Nat) : List zV → Prop
  | .inr (.inr (.inl q)) :: as => zO ci q = true ∧ as.length = nA
  | _ => False
theorem zGo_V {y : zMt} {nA : Nat} {Γ : zCx} {ad : Nat → Nat} {ρ : zEn} {st as : List zV} {μ : zMem} {Rq : zRo} {d' : Nat} (hl : zLv M.1 ix y nA ci) (X : zXo M Γ d) (hd : d' + 1 ≤ d) (hsp : zSp d' 0 0 y zT0 as μ zT0 Rq) (hr : zRecv ci nA as) (hb : zcs st ≤ 8) (dec : decode M.2.1 pc = .ok (.invokevirtual ix, 3)) (kk : ∀ q μ', Rq q μ' → zGo M Γ ad (pc + 3) ρ (q.toList ++ st) μ') : zGo M Γ ad pc ρ (as.reverse ++ st) μ := by
  match as, hr with
  | .inr (.inr (.inl q)) :: as, hr =>
    obtain ⟨l1, r0, l2, l3⟩ := hl
    obtain ⟨fs, e⟩ := zO_of hr.1
    have e2 : (vr q :: as).reverse ++ st = as.reverse ++ vr q :: st := by simp
    rw [e2]
    exact zi_V X zT0_ok l1 hd hsp e l2 l3 hr.2 hb dec (Nat.zero_le _) (Nat.zero_le _) kk
  | [], hr => exact hr.elim
  | .inl _ :: _, hr => exact hr.elim
  | .inr (.inl _) :: _, hr => exact hr.elim
  | .inr (.inr (.inr _)) :: _, hr => exact hr.elim
theorem xV {y : zMt} {nA : Nat} (hl : zLv M.1 ix y nA ci) (ha : XA M d b b' pc p1 xa) (hb8 : b ≤ 8) (dec : decode M.2.1 p1 = .ok (.invokevirtual ix, 3)) : XE M d b pc (p1 + 3) (fun K ρ μ => xa (fun as μ1 => zRecv ci nA as ∧ zCw d y as μ1 (fun q μ2 => ∃ n, q = some (vi n) ∧ K n μ2)) ρ μ) :=
  fun Γ ad ρ st μ K X hb hx kk => ha Γ ad ρ st μ _ X hb hx (fun as μ1 h _ => by
    obtain ⟨h1, d', Rq, h2, h3, h4⟩ := h
    exact zGo_V hl X h2 h3 h1 (Nat.le_trans hb hb8) dec (fun q μ' hq => by obtain ⟨n, rfl, hK⟩ := h4 q μ' hq; exact kk n μ' hK))
theorem xVL {y : zMt} {nA : Nat} (hl : zLv M.1 ix y nA ci) (ha : XA M d b b' pc p1 xa) (hb8 : b ≤ 8) (dec : decode M.2.1 p1 = .ok (.invokevirtual ix, 3)) : XL M d b pc (p1 + 3) (fun K ρ μ => xa (fun as μ1 => zRecv ci nA as ∧ zCw d y as μ1 (fun q μ2 => ∃ n, q = some (vl n) ∧ K n μ2)) ρ μ) :=
  fun Γ ad ρ st μ K X hb hx kk => ha Γ ad ρ st μ _ X hb hx (fun as μ1 h _ => by
    obtain ⟨h1, d', Rq, h2, h3, h4⟩ := h
    exact zGo_V hl X h2 h3 h1 (Nat.le_trans hb hb8) dec (fun q μ' hq => by obtain ⟨n, rfl, hK⟩ := h4 q μ' hq; exact kk n μ' hK))
theorem xVv {y : zMt} {nA : Nat} (hl : zLv M.1 ix y nA ci) (ha : XA M d b b' pc p1 xa) (hb8 : b ≤ 8) (dec : decode M.2.1 p1 = .ok (.invokevirtual ix, 3)) : XV M d b pc (p1 + 3) (fun K ρ μ => xa (fun as μ1 => zRecv ci nA as ∧ zCw d y as μ1 (fun q μ2 => q = none ∧ K μ2)) ρ μ) :=
  fun Γ ad ρ st μ K X hb hx kk => ha Γ ad ρ st μ _ X hb hx (fun as μ1 h _ => by
    obtain ⟨h1, d', Rq, h2, h3, h4⟩ := h
    exact zGo_V hl X h2 h3 h1 (Nat.le_trans hb hb8) dec (fun q μ' hq => by obtain ⟨rfl, hK⟩ := h4 q μ' hq; exact kk μ' hK))
/-- a static one, of the own type or of the host's -/
def zLs (own : String) (ix : Nat) (y : zMt) (nA : Nat) : Prop := zLkS own ix y nA ∨ zLkN own ix y nA
theorem zGo_S {y : zMt} {nA : Nat} {Γ : zCx} {ad : Nat → Nat} {ρ : zEn} {st as : List zV} {μ : zMem} {Rq : zRo} {d' : Nat} (hl : zLs M.1 ix y nA) (X : zXo M Γ d) (hd : d' + 1 ≤ d) (hsp : zSp d' 0 0 y zT0 as μ zT0 Rq) (hr : as.length = nA) (hb : zcs st ≤ 8) (dec : decode M.2.1 pc = .ok (.invokestatic ix, 3)) (kk : ∀ q μ', Rq q μ' → zGo M Γ ad (pc + 3) ρ (q.toList ++ st) μ') : zGo M Γ ad pc ρ (as.reverse ++ st) μ := by
  rcases hl with hl | hl
  · exact zi_S X zT0_ok hl hd hsp hr hb dec (Nat.zero_le _) (Nat.zero_le _) kk
  · exact zi_N X zT0_ok hl hd hsp hr hb dec (Nat.zero_le _) (Nat.zero_le _) kk
theorem xS {y : zMt} {nA : Nat} (hl : zLs M.1 ix y nA) (ha : XA M d b b' pc p1 xa) (hb8 : b ≤ 8) (dec : decode M.2.1 p1 = .ok (.invokestatic ix, 3)) : XE M d b pc (p1 + 3) (fun K ρ μ => xa (fun as μ1 => as.length = nA ∧ zCw d y as μ1 (fun q μ2 => ∃ n, q = some (vi n) ∧ K n μ2)) ρ μ) :=
  fun Γ ad ρ st μ K X hb hx kk => ha Γ ad ρ st μ _ X hb hx (fun as μ1 h _ => by
    obtain ⟨h1, d', Rq, h2, h3, h4⟩ := h
    exact zGo_S hl X h2 h3 h1 (Nat.le_trans hb hb8) dec (fun q μ' hq => by obtain ⟨n, rfl, hK⟩ := h4 q μ' hq; exact kk n μ' hK))
theorem xSL {y : zMt} {nA : Nat} (hl : zLs M.1 ix y nA) (ha : XA M d b b' pc p1 xa) (hb8 : b ≤ 8) (dec : decode M.2.1 p1 = .ok (.invokestatic ix, 3)) : XL M d b pc (p1 + 3) (fun K ρ μ => xa (fun as μ1 => as.length = nA ∧ zCw d y as μ1 (fun q μ2 => ∃ n, q = some (vl n) ∧ K n μ2)) ρ μ) :=
  fun Γ ad ρ st μ K X hb hx kk => ha Γ ad ρ st μ _ X hb hx (fun as μ1 h _ => by
    obtain ⟨h1, d', Rq, h2, h3, h4⟩ := h
    exact zGo_S hl X h2 h3 h1 (Nat.le_trans hb hb8) dec (fun q μ' hq => by obtain ⟨n, rfl, hK⟩ := h4 q μ' hq; exact kk n μ' hK))
theorem xSv {y : zMt} {nA : Nat} (hl : zLs M.1 ix y nA) (ha : XA M d b b' pc p1 xa) (hb8 : b ≤ 8) (dec : decode M.2.1 p1 = .ok (.invokestatic ix, 3)) : XV M d b pc (p1 + 3) (fun K ρ μ => xa (fun as μ1 => as.length = nA ∧ zCw d y as μ1 (fun q μ2 => q = none ∧ K μ2)) ρ μ) :=
  fun Γ ad ρ st μ K X hb hx kk => ha Γ ad ρ st μ _ X hb hx (fun as μ1 h _ => by
    obtain ⟨h1, d', Rq, h2, h3, h4⟩ := h
    exact zGo_S hl X h2 h3 h1 (Nat.le_trans hb hb8) dec (fun q μ' hq => by obtain ⟨rfl, hK⟩ := h4 q μ' hq; exact kk μ' hK))
/-- calls that only tell: by a value and what they ask -/
def zPu (y : zMt) (dy : Nat) (f : List zV → zMem → Int) (g : List zV → zMem → Prop) : Prop := ∀ as μ, g as μ → zSp dy 0 0 y zT0 as μ zT0 (fun q μ' => q = some (vi (f as μ)) ∧ μ' = μ)
theorem rV {y : zMt} {nA dy : Nat} {f : List zV → zMem → Int} {g : List zV → zMem → Prop} (hp : zPu y dy f g) (hdy : dy + 1 ≤ d) (hl : zLv M.1 ix y nA ci) (ha : RA M d b b' pc p1 vs o1) (hb8 : b ≤ 8) (dec : decode M.2.1 p1 = .ok (.invokevirtual ix, 3)) : RE M d b pc (p1 + 3) (fun ρ μ => f (vs ρ μ) μ) (fun ρ μ => o1 ρ μ ∧ zRecv ci nA (vs ρ μ) ∧ g (vs ρ μ) μ) :=
  fun Γ ad ρ st μ X hb o kk => ha Γ ad ρ st μ X hb o.1 (fun _ => zGo_V hl X hdy (hp _ _ o.2.2) o.2.1 (Nat.le_trans hb hb8) dec (fun q μ' hq => by obtain ⟨rfl, rfl⟩ := hq; exact kk))
theorem rS {y : zMt} {nA dy : Nat} {f : List zV → zMem → Int} {g : List zV → zMem → Prop} (hp : zPu y dy f g) (hdy : dy + 1 ≤ d) (hl : zLs M.1 ix y nA) (ha : RA M d b b' pc p1 vs o1) (hb8 : b ≤ 8) (dec : decode M.2.1 p1 = .ok (.invokestatic ix, 3)) : RE M d b pc (p1 + 3) (fun ρ μ => f (vs ρ μ) μ) (fun ρ μ => o1 ρ μ ∧ (vs ρ μ).length = nA ∧ g (vs ρ μ) μ) :=
  fun Γ ad ρ st μ X hb o kk => ha Γ ad ρ st μ X hb o.1 (fun _ => zGo_S hl X hdy (hp _ _ o.2.2) o.2.1 (Nat.le_trans hb hb8) dec (fun q μ' hq => by obtain ⟨rfl, rfl⟩ := hq; exact kk))
theorem rMin (hl : Cond.methodLink M.1 ix Lib.Math.min.name ∈ zTb) (h1 : RE M d b pc p1 v1 o1) (h2 : RE M d (b + 1) p1 p2 v2 o2) (hb8 : b ≤ 8) (hd : 3 ≤ d) (dec : decode M.2.1 p2 = .ok (.invokestatic ix, 3)) : RE M d b pc (p2 + 3) (fun ρ μ => min (v1 ρ μ) (v2 ρ μ)) (fun ρ μ => o1 ρ μ ∧ o2 ρ μ) :=
  fun Γ ad ρ st μ X hb o k => h1 Γ ad ρ st μ X hb o.1 (h2 Γ ad ρ _ μ X (zcs_c hb) o.2 (zi_min X hl dec hd (Nat.le_trans hb hb8) (Nat.zero_le _) (Nat.zero_le _) k))
theorem rMax (hl : Cond.methodLink M.1 ix Lib.Math.max.name ∈ zTb) (h1 : RE M d b pc p1 v1 o1) (h2 : RE M d (b + 1) p1 p2 v2 o2) (hb8 : b ≤ 8) (hd : 3 ≤ d) (dec : decode M.2.1 p2 = .ok (.invokestatic ix, 3)) : RE M d b pc (p2 + 3) (fun ρ μ => max (v1 ρ μ) (v2 ρ μ)) (fun ρ μ => o1 ρ μ ∧ o2 ρ μ) :=
  fun Γ ad ρ st μ X hb o k => h1 Γ ad ρ st μ X hb o.1 (h2 Γ ad ρ _ μ X (zcs_c hb) o.2 (zi_max X hl dec hd (Nat.le_trans hb hb8) (Nat.zero_le _) (Nat.zero_le _) k))
theorem xMax (hl : Cond.methodLink M.1 ix Lib.Math.max.name ∈ zTb) (h1 : XE M d b pc p1 y1) (h2 : XE M d (b + 1) p1 p2 y2) (hb8 : b ≤ 8) (hd : 3 ≤ d) (dec : decode M.2.1 p2 = .ok (.invokestatic ix, 3)) : XE M d b pc (p2 + 3) (fun K ρ μ => y1 (fun a μ1 => y2 (fun e μ2 => K (max a e) μ2) ρ μ1) ρ μ) :=
  fun Γ ad ρ st μ K X hb hx kk => h1 Γ ad ρ st μ _ X hb hx (fun a μ1 h3 => h2 Γ ad ρ _ μ1 _ X (zcs_c hb) h3 (fun e μ2 h4 => zi_max X hl dec hd (Nat.le_trans hb hb8) (Nat.zero_le _) (Nat.zero_le _) (kk _ _ h4)))
end RV
