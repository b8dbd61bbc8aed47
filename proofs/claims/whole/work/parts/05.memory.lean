/-- a field's link: the type ci's field k is what the entry ix of 'own' names -/
def zFl (own : String) (ix ci k : Nat) : Prop := ∃ q, zCl[ci]? = some q ∧ k < q.2.2 ∧ Cond.fieldLink own ix q.1 (q.2.1 k).2.1 (q.2.1 k).2.2.1 ∈ zTb ∧ (q.2.1 k).1 = q.1
/-- .. that may be written: not final, of a kind (0 int, 1 boolean) -/
def zFp (ci k kd : Nat) : Prop := ∃ q, zCl[ci]? = some q ∧ (q.2.1 k).2.2.2 = false ∧ zTy ci k = (if kd = 0 then .int else .boolean) ∧ kd ≤ 1
theorem zz_ix {j : Int} (h0 : 0 ≤ j) (h : zI j) : (Int32.ofInt j).toNatClampNeg = j.toNat := by
  show (Int32.ofInt j).toInt.toNat = j.toNat
  rw [h.r]
theorem zz_in {j : Int} {n : Nat} (h0 : 0 ≤ j) (h1 : j < n) (h : zI j) : vp_in (Int32.ofInt j) n := vp_in_iff.mpr (by rw [h.r]; exact ⟨h0, h1⟩)
theorem zz_tys (aT : Nat → ClassId) : ∀ t, t < 7 → ∃ ty, (zTys aT)[t]? = some (aT t, ty)
  | 0, _ => ⟨_, rfl⟩
  | 1, _ => ⟨_, rfl⟩
  | 2, _ => ⟨_, rfl⟩
  | 3, _ => ⟨_, rfl⟩
  | 4, _ => ⟨_, rfl⟩
  | 5, _ => ⟨_, rfl⟩
  | 6, _ => ⟨_, rfl⟩
  | n + 7, h => by omega
theorem zWF.set {T : List zSh} {μ : zMem} {q : Nat} {j v : Int} (hW : zWF T μ) (h : ∀ sh, T[q]? = some sh → zOk sh j v) : zWF T (zm μ q j v) := by
  intro k sh hk i
  unfold zm
  by_cases e : k = q ∧ i = j
  · rw [if_pos e]
    obtain ⟨rfl, rfl⟩ := e
    exact h sh hk
  · rw [if_neg e]
    exact hW k sh hk i
theorem zm_off {μ : zMem} {q : Nat} {j v : Int} : ∀ i, i ≠ q → zm μ q j v i = μ i := fun i hi => by
  funext x
  simp [zm, hi]
section ZM
variable {Γ : zCx} {own : String} {cc : ByteArray} {nL d ce sl : Nat} {T : List zSh} {ad : Nat → Nat} {pc pc' tgt i q ix ci k kd n : Nat} {ρ st st' : List zV} {μ : zMem} {a b j x off : Int} {v w : zV} {fs : List zF} {rs : List (Option Nat)}
theorem zWF.obj (hW : zWF T μ) (hT : T[q]? = some (.inl (ci, fs))) (j : Int) : zI (μ q j) := by
  have h : zOk (.inl (ci, fs)) j (μ q j) := hW q _ hT j
  unfold zOk at h
  dsimp only at h
  split at h
  · rcases h with h | h <;> rw [h] <;> exact ⟨by decide, by decide⟩
  · exact h
theorem zi_getI (X : zX Γ own cc nL d) (hl : zFl own ix ci k) (hd : decode cc pc = .ok (.getfield ix, 3)) (hT : T[q]? = some (.inl (ci, fs))) (hf : fs[k]? = some (.inl kd)) (kk : zG Γ nL ce sl T ad (pc + 3) ρ (vi (μ q k) :: st) μ) : zG Γ nL ce sl T ad pc ρ (vr q :: st) μ := by
  obtain ⟨⟨C, Tt, N⟩, h1, h2, h3, h4⟩ := hl
  obtain ⟨g1, g2, g3⟩ := zClOk ci _ h1
  intro H locs ls hP hD hS hL hW h5 h6
  refine va_get (cl := zCl) (ci := ci) X.1 X.2.1 X.2.2.2.2.1 g1 X.2.2.2.1 X.2.2.2.2.2.1.1 hP q (zw_get hT) h1 k h2 (X.2.2.2.2.1 _ h3) (fun y hy => by rw [← h4]; exact hy) (v := .int (Int32.ofInt (μ q k))) ?_ hd (kk H locs ls hP hD hS hL hW h5 (h6.tl.cons (v := vi (μ q k)) (hW.obj hT k)))
  rw [List.getElem?_mapIdx, hf]
  rfl
theorem zi_getR (X : zX Γ own cc nL d) (hl : zFl own ix ci k) (hd : decode cc pc = .ok (.getfield ix, 3)) (hT : T[q]? = some (.inl (ci, fs))) (hf : fs[k]? = some (.inr (some n))) (kk : zG Γ nL ce sl T ad (pc + 3) ρ (vr n :: st) μ) : zG Γ nL ce sl T ad pc ρ (vr q :: st) μ := by
  obtain ⟨⟨C, Tt, N⟩, h1, h2, h3, h4⟩ := hl
  obtain ⟨g1, g2, g3⟩ := zClOk ci _ h1
  intro H locs ls hP hD hS hL hW h5 h6
  refine va_get (cl := zCl) (ci := ci) X.1 X.2.1 X.2.2.2.2.1 g1 X.2.2.2.1 X.2.2.2.2.2.1.1 hP q (zw_get hT) h1 k h2 (X.2.2.2.2.1 _ h3) (fun y hy => by rw [← h4]; exact hy) (v := .ref (ad n)) ?_ hd (kk H locs ls hP hD hS hL hW h5 (h6.tl.cons (v := vr n) trivial))
  rw [List.getElem?_mapIdx, hf]
  rfl
theorem zEF_set {ad : Nat → Nat} {f : Int → Int} {x : Int} (hf : fs[k]? = some (.inl kd)) : (fs.mapIdx (fun (j : Nat) y => zEF ad (f j) y)).set k (.int (Int32.ofInt x)) = fs.mapIdx (fun (j : Nat) y => zEF ad (if (j : Int) = k then x else f j) y) := by
  apply List.ext_getElem?
  intro i
  rw [List.getElem?_set, List.getElem?_mapIdx, List.getElem?_mapIdx]
  by_cases e : k = i
  · subst e
    rw [if_pos rfl, hf, if_pos (by rw [List.length_mapIdx]; exact (List.getElem?_eq_some_iff.mp hf).1)]
    simp [zEF]
  · rw [if_neg e]
    have : ¬ (i : Int) = k := by omega
    simp [this]
theorem zi_putI (X : zX Γ own cc nL d) (hl : zFl own ix ci k) (hp : zFp ci k kd) (hd : decode cc pc = .ok (.putfield ix, 3)) (hT : T[q]? = some (.inl (ci, fs))) (hf : fs[k]? = some (.inl kd)) (hx : kd = 1 → x = 0 ∨ x = 1) (kk : zG Γ nL ce sl T ad (pc + 3) ρ st (zm μ q k x)) : zG Γ nL ce sl T ad pc ρ (vi x :: vr q :: st) μ := by
  obtain ⟨⟨C, Tt, N⟩, h1, h2, h3, h4⟩ := hl
  obtain ⟨qq, p1, p2, p3, p4⟩ := hp
  cases h1.symm.trans p1
  obtain ⟨g1, g2, g3⟩ := zClOk ci _ h1
  intro H locs ls hP hD hS hL hW h5 h6
  have hxI : zI x := h6.hd
  have hn : narrow (zTy ci k) (.int (Int32.ofInt x)) = .int (Int32.ofInt x) ∧ fits (zTy ci k) (.int (Int32.ofInt x)) = true := by
    rw [p3]
    by_cases hk : kd = 0
    · rw [if_pos hk]; exact ⟨rfl, rfl⟩
    · rw [if_neg hk]
      rcases hx (by omega) with rfl | rfl <;> exact ⟨rfl, rfl⟩
  have hlen : k < (fs.mapIdx (fun (j : Nat) y => zEF ad (μ q j) y)).length := by rw [List.length_mapIdx]; exact (List.getElem?_eq_some_iff.mp hf).1
  refine va_put (cl := zCl) (ci := ci) (v := .int (Int32.ofInt x)) X.1 X.2.1 X.2.2.2.2.1 g1 (zTy ci) g2 g3 X.2.2.2.1 X.2.2.2.2.2.1.1 hP hD hS q (zw_get hT) h1 k h2 (X.2.2.2.2.1 _ h3) (fun y hy => by rw [← h4]; exact hy) p2 (g2 k h2) hn.1 hn.2 hlen hd (fun H1 locs1 hP1 hD1 hS1 => ?_)
  have e : (zw (x_G Γ).2.1 ad T μ).set q (ad q, .inr (ci, (fs.mapIdx (fun (j : Nat) y => zEF ad (μ q j) y)).set k (.int (Int32.ofInt x)))) = zw (x_G Γ).2.1 ad T (zm μ q k x) := by
    refine zw_set (sh := .inl (ci, fs)) hT rfl (fun _ _ => rfl) zm_off ?_
    rw [zEF_set hf]
    show _ = Sum.inr (ci, fs.mapIdx (fun (j : Nat) y => zEF ad (zm μ q k x q j) y))
    simp [zm]
  rw [e] at hP1 hD1
  refine kk H1 locs1 ls hP1 hD1 hS1 hL (hW.set (fun sh hsh => ?_)) h5 h6.tl.tl
  rw [hT] at hsh
  cases hsh
  unfold zOk
  dsimp only
  split
  · next hh =>
    have : kd = 1 := by
      have h9 : fs[((k : Int)).toNat]? = some (.inl 1) := hh
      rw [Int.toNat_natCast, hf] at h9
      cases h9; rfl
    exact hx this
  · exact hxI
theorem zi_iald (X : zX Γ own cc nL d) (hd : decode cc pc = .ok (.iaload, 1)) (hT : T[q]? = some (.inr (0, n, rs))) (h0 : 0 ≤ j) (h1 : j < n) (kk : zG Γ nL ce sl T ad (pc + 1) ρ (vi (μ q j) :: st) μ) : zG Γ nL ce sl T ad pc ρ (vi j :: vr q :: st) μ := by
  intro H locs ls hP hD hS hL hW h5 h6
  have hj : zI j := h6.hd
  refine va_iald X.1 X.2.1 X.2.2.2.2.2.1.1 hP q 0 (f := fun i => Int32.ofInt (μ q i)) (n := n) (cA := (x_G Γ).2.1 0) (zw_get hT) rfl (zz_in h0 h1 hj) hd ?_
  rw [zz_ix h0 hj]
  have := kk H locs ls hP hD hS hL hW h5 (h6.tl.tl.cons (v := vi (μ q j)) (hW q _ hT j))
  rw [List.map_cons, show zT Γ ad (vi (μ q j)) = .int (Int32.ofInt (μ q j)) from rfl] at this
  rw [show ((j.toNat : Nat) : Int) = j by omega]
  exact this
theorem zi_bald (X : zX Γ own cc nL d) (hd : decode cc pc = .ok (.baload, 1)) (hT : T[q]? = some (.inr (1, n, rs))) (h0 : 0 ≤ j) (h1 : j < n) (kk : zG Γ nL ce sl T ad (pc + 1) ρ (vi (μ q j) :: st) μ) : zG Γ nL ce sl T ad pc ρ (vi j :: vr q :: st) μ := by
  intro H locs ls hP hD hS hL hW h5 h6
  have hj : zI j := h6.hd
  refine va_bald X.1 X.2.1 X.2.2.2.2.2.1.1 hP q 1 (f := fun i => Int32.ofInt (μ q i)) (n := n) (cA := (x_G Γ).2.1 1) (zw_get hT) rfl (zz_in h0 h1 hj) hd ?_
  rw [zz_ix h0 hj]
  have hw : -128 ≤ μ q j ∧ μ q j ≤ 127 := hW q _ hT j
  have := kk H locs ls hP hD hS hL hW h5 (h6.tl.tl.cons (v := vi (μ q j)) ⟨by have := hw.1; show _ ≤ _; omega, by have := hw.2; show _ ≤ _; omega⟩)
  rw [List.map_cons, show zT Γ ad (vi (μ q j)) = .int (Int32.ofInt (μ q j)) from rfl] at this
  rw [show ((j.toNat : Nat) : Int) = j by omega]
  exact this
theorem zi_zald (X : zX Γ own cc nL d) (hd : decode cc pc = .ok (.baload, 1)) (hT : T[q]? = some (.inr (2, n, rs))) (h0 : 0 ≤ j) (h1 : j < n) (kk : zG Γ nL ce sl T ad (pc + 1) ρ (vi (μ q j) :: st) μ) : zG Γ nL ce sl T ad pc ρ (vi j :: vr q :: st) μ := by
  intro H locs ls hP hD hS hL hW h5 h6
  have hj : zI j := h6.hd
  refine va_zald X.1 X.2.1 X.2.2.2.2.2.1.1 hP q 2 (f := fun i => Int32.ofInt (μ q i)) (n := n) (cA := (x_G Γ).2.1 2) (zw_get hT) rfl (zz_in h0 h1 hj) hd ?_
  rw [zz_ix h0 hj]
  have hw : μ q j = 0 ∨ μ q j = 1 := hW q _ hT j
  have := kk H locs ls hP hD hS hL hW h5 (h6.tl.tl.cons (v := vi (μ q j)) (by rcases hw with h | h <;> rw [h] <;> exact ⟨by decide, by decide⟩))
  rw [List.map_cons, show zT Γ ad (vi (μ q j)) = .int (Int32.ofInt (μ q j)) from rfl] at this
  rw [show ((j.toNat : Nat) : Int) = j by omega]
  exact this
theorem zi_lald (X : zX Γ own cc nL d) (hd : decode cc pc = .ok (.laload, 1)) (hT : T[q]? = some (.inr (3, n, rs))) (h0 : 0 ≤ j) (h1 : j < n) (kk : zG Γ nL ce sl T ad (pc + 1) ρ (vl (μ q j) :: st) μ) : zG Γ nL ce sl T ad pc ρ (vi j :: vr q :: st) μ := by
  intro H locs ls hP hD hS hL hW h5 h6
  have hj : zI j := h6.hd
  refine va_lald X.1 X.2.1 X.2.2.2.2.2.1.1 hP q 3 (f := fun i => Int64.ofInt (μ q i)) (n := n) (cA := (x_G Γ).2.1 3) (zw_get hT) rfl (zz_in h0 h1 hj) hd ?_
  rw [zz_ix h0 hj]
  have := kk H locs ls hP hD hS hL hW h5 (h6.tl.tl.cons (v := vl (μ q j)) (hW q _ hT j))
  rw [List.map_cons, show zT Γ ad (vl (μ q j)) = .long (Int64.ofInt (μ q j)) from rfl] at this
  rw [show ((j.toNat : Nat) : Int) = j by omega]
  exact this
theorem zi_aald {t m : Nat} (X : zX Γ own cc nL d) (hd : decode cc pc = .ok (.aaload, 1)) (hT : T[q]? = some (.inr (t, n, rs))) (ht : 4 ≤ t) (ht2 : t < 7) (h0 : 0 ≤ j) (h1 : j < n) (hr : rs[j.toNat]? = some (some m)) (kk : zG Γ nL ce sl T ad (pc + 1) ρ (vr m :: st) μ) : zG Γ nL ce sl T ad pc ρ (vi j :: vr q :: st) μ := by
  intro H locs ls hP hD hS hL hW h5 h6
  have hj : zI j := h6.hd
  have hin := zz_in h0 h1 hj
  have hlt : (Int32.ofInt j).toNatClampNeg < n := by rw [zz_ix h0 hj]; omega
  have ht3 : ∃ ty : FieldType, ty.isReference = true ∧ (zTys (x_G Γ).2.1)[t]? = some ((x_G Γ).2.1 t, ty) := by
    rcases (show t = 4 ∨ t = 5 ∨ t = 6 by omega) with rfl | rfl | rfl <;> exact ⟨_, rfl, rfl⟩
  obtain ⟨ty, hty, htt⟩ := ht3
  have hP0 := hP q _ (zw_get hT)
  have hc : zE (x_G Γ).2.1 ad (μ q) (.inr (t, n, rs)) = .inl ((x_G Γ).2.1 t, n, .inr (.inr (.inr (.inr (fun i => (rs.getD i none).map ad))))) := by
    show Sum.inl (_, _, zEA ad (μ q) t rs) = _
    unfold zEA
    rw [if_neg (by omega), if_neg (by omega)]
  rw [hc] at hP0
  refine W.aald (v := va_rf ((rs.getD (Int32.ofInt j).toNatClampNeg none).map ad)) (ty := ty) X.1 X.2.1 hP0 ((X.2.2.2.2.2.1.1.2 t _ htt).1 n (fun i => va_rf ((rs.getD i none).map ad))) hty (fun z => by cases z) (by show ¬ (_ ∨ (arrV _ _ _).slots.size ≤ _); rw [arrV_size]; exact hin) (by show (arrV _ _ _).slots[_]? = _; rw [arrV_read _ _ hlt]) rfl rfl hd ?_
  have := kk H locs ls hP hD hS hL hW h5 (h6.tl.tl.cons (v := vr m) trivial)
  rw [zz_ix h0 hj, List.getD_eq_getElem?_getD, hr]
  exact this
/-- a store into a row: what the kit's row gives is the new memory's world -/
theorem zw_row {t : Nat} {g : Nat → Int32} (hT : T[q]? = some (.inr (t, n, rs))) (ht : t ≤ 2) (h0 : 0 ≤ j) (hg : ∀ i : Nat, g i = if i = j.toNat then Int32.ofInt x else Int32.ofInt (μ q i)) : (zw (x_G Γ).2.1 ad T μ).set q (ad q, .inl ((x_G Γ).2.1 t, n, .inl g)) = zw (x_G Γ).2.1 ad T (zm μ q j x) := by
  refine zw_set (sh := .inr (t, n, rs)) hT rfl (fun _ _ => rfl) zm_off ?_
  show _ = Sum.inl (_, _, zEA ad (zm μ q j x q) t rs)
  unfold zEA
  rw [if_pos ht]
  congr 4
  funext i
  rw [hg i]
  unfold zm
  by_cases e : i = j.toNat
  · rw [if_pos e, if_pos ⟨rfl, by omega⟩]
  · rw [if_neg e, if_neg (fun h => e (by omega))]
theorem zi_iast (X : zX Γ own cc nL d) (hd : decode cc pc = .ok (.iastore, 1)) (hT : T[q]? = some (.inr (0, n, rs))) (h0 : 0 ≤ j) (h1 : j < n) (kk : zG Γ nL ce sl T ad (pc + 1) ρ st (zm μ q j x)) : zG Γ nL ce sl T ad pc ρ (vi x :: vi j :: vr q :: st) μ := by
  intro H locs ls hP hD hS hL hW h5 h6
  have hx : zI x := h6.hd
  have hj : zI j := h6.tl.hd
  refine va_iast X.1 X.2.1 X.2.2.2.2.2.1.1 hP hD hS q 0 (f := fun i => Int32.ofInt (μ q i)) (n := n) (cA := (x_G Γ).2.1 0) (zw_get hT) rfl (zz_in h0 h1 hj) hd (fun H1 locs1 hP1 hD1 hS1 => ?_)
  have e := zw_row (Γ := Γ) (ad := ad) (μ := μ) (x := x) (g := upd (fun i => Int32.ofInt (μ q i)) (Int32.ofInt j).toNatClampNeg (Int32.ofInt x)) hT (by decide) h0 (fun i => by rw [zz_ix h0 hj]; rfl)
  rw [e] at hP1 hD1
  refine kk H1 locs1 ls hP1 hD1 hS1 hL (hW.set (fun sh hsh => ?_)) h5 h6.tl.tl.tl
  rw [hT] at hsh
  cases hsh
  exact hx
theorem zi_bast (X : zX Γ own cc nL d) (hd : decode cc pc = .ok (.bastore, 1)) (hT : T[q]? = some (.inr (1, n, rs))) (h0 : 0 ≤ j) (h1 : j < n) (hx : -128 ≤ x ∧ x ≤ 127) (kk : zG Γ nL ce sl T ad (pc + 1) ρ st (zm μ q j x)) : zG Γ nL ce sl T ad pc ρ (vi x :: vi j :: vr q :: st) μ := by
  intro H locs ls hP hD hS hL hW h5 h6
  have hxI : zI x := h6.hd
  have hj : zI j := h6.tl.hd
  refine va_bast X.1 X.2.1 X.2.2.2.2.2.1.1 hP hD hS q 1 (f := fun i => Int32.ofInt (μ q i)) (n := n) (cA := (x_G Γ).2.1 1) (zw_get hT) rfl (zz_in h0 h1 hj) hd (fun H1 locs1 hP1 hD1 hS1 => ?_)
  have hb : vp_nar .byte (Int32.ofInt x) = Int32.ofInt x := by
    rw [vp_nar_byte]
    apply Int32.toInt.inj
    rw [Int8.toInt_toInt32, Int32.toInt_toInt8, hxI.r, Int.bmod_eq_of_le (by omega) (by omega)]
  rw [hb] at hP1 hD1
  have e := zw_row (Γ := Γ) (ad := ad) (μ := μ) (x := x) (g := upd (fun i => Int32.ofInt (μ q i)) (Int32.ofInt j).toNatClampNeg (Int32.ofInt x)) hT (by decide) h0 (fun i => by rw [zz_ix h0 hj]; rfl)
  rw [e] at hP1 hD1
  refine kk H1 locs1 ls hP1 hD1 hS1 hL (hW.set (fun sh hsh => ?_)) h5 h6.tl.tl.tl
  rw [hT] at hsh
  cases hsh
  exact hx
theorem zi_zast (X : zX Γ own cc nL d) (hd : decode cc pc = .ok (.bastore, 1)) (hT : T[q]? = some (.inr (2, n, rs))) (h0 : 0 ≤ j) (h1 : j < n) (hx : x = 0 ∨ x = 1) (kk : zG Γ nL ce sl T ad (pc + 1) ρ st (zm μ q j x)) : zG Γ nL ce sl T ad pc ρ (vi x :: vi j :: vr q :: st) μ := by
  intro H locs ls hP hD hS hL hW h5 h6
  have hj : zI j := h6.tl.hd
  refine va_zast X.1 X.2.1 X.2.2.2.2.2.1.1 hP hD hS q 2 (f := fun i => Int32.ofInt (μ q i)) (n := n) (cA := (x_G Γ).2.1 2) (zw_get hT) rfl (zz_in h0 h1 hj) hd (fun H1 locs1 hP1 hD1 hS1 => ?_)
  have hb : vp_nar .boolean (Int32.ofInt x) = Int32.ofInt x := by rcases hx with rfl | rfl <;> rfl
  rw [hb] at hP1 hD1
  have e := zw_row (Γ := Γ) (ad := ad) (μ := μ) (x := x) (g := upd (fun i => Int32.ofInt (μ q i)) (Int32.ofInt j).toNatClampNeg (Int32.ofInt x)) hT (by decide) h0 (fun i => by rw [zz_ix h0 hj]; rfl)
  rw [e] at hP1 hD1
  refine kk H1 locs1 ls hP1 hD1 hS1 hL (hW.set (fun sh hsh => ?_)) h5 h6.tl.tl.tl
  rw [hT] at hsh
  cases hsh
  exact hx
theorem zi_last (X : zX Γ own cc nL d) (hd : decode cc pc = .ok (.lastore, 1)) (hT : T[q]? = some (.inr (3, n, rs))) (h0 : 0 ≤ j) (h1 : j < n) (kk : zG Γ nL ce sl T ad (pc + 1) ρ st (zm μ q j x)) : zG Γ nL ce sl T ad pc ρ (vl x :: vi j :: vr q :: st) μ := by
  intro H locs ls hP hD hS hL hW h5 h6
  have hx : zL x := h6.hd
  have hj : zI j := h6.tl.hd
  refine va_last X.1 X.2.1 X.2.2.2.2.2.1.1 hP hD hS q 3 (f := fun i => Int64.ofInt (μ q i)) (n := n) (cA := (x_G Γ).2.1 3) (zw_get hT) rfl (zz_in h0 h1 hj) hd (fun H1 locs1 hP1 hD1 hS1 => ?_)
  have e : (zw (x_G Γ).2.1 ad T μ).set q (ad q, .inl ((x_G Γ).2.1 3, n, .inr (.inl (vp_updL (fun i => Int64.ofInt (μ q i)) (Int32.ofInt j).toNatClampNeg (Int64.ofInt x))))) = zw (x_G Γ).2.1 ad T (zm μ q j x) := by
    refine zw_set (sh := .inr (3, n, rs)) hT rfl (fun _ _ => rfl) zm_off ?_
    show _ = Sum.inl ((x_G Γ).2.1 3, n, Sum.inr (Sum.inl (fun i : Nat => Int64.ofInt (zm μ q j x q i))))
    congr 5
    funext i
    rw [zz_ix h0 hj]
    unfold vp_updL zm
    by_cases e : i = j.toNat
    · rw [if_pos e, if_pos ⟨rfl, by omega⟩]
    · rw [if_neg e, if_neg (fun h => e (by omega))]
  rw [e] at hP1 hD1
  refine kk H1 locs1 ls hP1 hD1 hS1 hL (hW.set (fun sh hsh => ?_)) h5 h6.tl.tl.tl
  rw [hT] at hsh
  cases hsh
  exact hx
theorem zi_alen {t : Nat} (X : zX Γ own cc nL d) (hd : decode cc pc = .ok (.arraylength, 1)) (hT : T[q]? = some (.inr (t, n, rs))) (ht : t < 7) (hn : zI n) (kk : zG Γ nL ce sl T ad (pc + 1) ρ (vi n :: st) μ) : zG Γ nL ce sl T ad pc ρ (vr q :: st) μ := by
  intro H locs ls hP hD hS hL hW h5 h6
  obtain ⟨ty, hty⟩ := zz_tys (x_G Γ).2.1 t ht
  exact va_alen X.1 X.2.1 X.2.2.2.2.2.1.1 hP q t (zw_get hT) hty (v := Int32.ofInt n) rfl hd (kk H locs ls hP hD hS hL hW h5 (h6.tl.cons (v := vi n) hn))
/-- a row's part copied -/
def zcp (μ : zMem) (q0 : Nat) (sp : Int) (q1 : Nat) (dp len : Int) : zMem := fun a i => if a = q1 ∧ dp ≤ i ∧ i < dp + len then μ q0 (sp + (i - dp)) else μ a i
theorem zi_copy {q0 q1 n0 n1 : Nat} {r0 r1 : List (Option Nat)} {sp dp len : Int} (X : zX Γ own cc nL d) (hl : Cond.methodLink own ix arraycopyName ∈ zTb) (hd : decode cc pc = .ok (.invokestatic ix, 3)) (hT0 : T[q0]? = some (.inr (0, n0, r0))) (hT1 : T[q1]? = some (.inr (0, n1, r1))) (h1 : 0 ≤ sp) (h2 : 0 ≤ dp) (h3 : 0 ≤ len) (h4 : sp + len ≤ n0) (h5 : dp + len ≤ n1) (hdp : 3 ≤ d) (hst : zcs st ≤ 8) (kk : zG Γ nL ce sl T ad (pc + 3) ρ st (zcp μ q0 sp q1 dp len)) : zG Γ nL ce sl T ad pc ρ (vi len :: vi dp :: vr q1 :: vi sp :: vr q0 :: st) μ := by
  intro H locs ls hP hD hS hL hW h6 h7
  have e3 : zI len := h7.hd
  have e2 : zI dp := h7.tl.hd
  have e1 : zI sp := h7.tl.tl.tl.hd
  have hts := X.2.2.2.2.1
  refine va_copyi X.1 X.2.1 (X.2.2.1.trans hL.1.symm) X.2.2.2.1 (hts _ hl) (hts _ (zTb_in (w := .native arraycopyName) 902 (by decide +kernel) (by decide +kernel))) (hts _ (zTb_in (w := .static arraycopyName) 901 (by decide +kernel) (by decide +kernel))) (hts _ (zTb_in (w := .initialized "java/lang/System") 157 (by decide +kernel) (by decide +kernel))) X.2.2.2.2.2.1.1 hP hD hS q0 q1 0 0 (f := fun i => Int32.ofInt (μ q0 i)) (g := fun i => Int32.ofInt (μ q1 i)) (zw_get hT0) (zw_get hT1) rfl rfl rfl (ty := .int) (fun z => by have := (zI.lt e1 zI0).mp z; omega) (fun z => by have := (zI.lt e2 zI0).mp z; omega) (fun z => by have := (zI.lt e3 zI0).mp z; omega) (by rw [zz_ix h1 e1, zz_ix h3 e3]; omega) (by rw [zz_ix h2 e2, zz_ix h3 e3]; omega) (fun _ _ => rfl) (by have := X.2.2.2.2.2.2.2.1; omega) (by rw [zt_cs]; have := X.2.2.2.2.2.2.2.2; have e9 : nativeFrameWords "java/lang/System" "arraycopy" 5 + 11 ≤ 80 := (by decide +kernel); omega) hd (fun H1 locs1 hP1 hD1 hS1 => ?_)
  have e : (zw (x_G Γ).2.1 ad T μ).set q1 (ad q1, .inl ((x_G Γ).2.1 0, n1, .inl (va_cpy (fun i => Int32.ofInt (μ q0 i)) (fun i => Int32.ofInt (μ q1 i)) (Int32.ofInt sp).toNatClampNeg (Int32.ofInt dp).toNatClampNeg (Int32.ofInt len).toNatClampNeg))) = zw (x_G Γ).2.1 ad T (zcp μ q0 sp q1 dp len) := by
    refine zw_set (sh := .inr (0, n1, r1)) hT1 rfl (fun _ _ => rfl) (fun i hi => by funext y; simp [zcp, hi]) ?_
    show _ = Sum.inl ((x_G Γ).2.1 0, n1, Sum.inl (fun i : Nat => Int32.ofInt (zcp μ q0 sp q1 dp len q1 i)))
    congr 4
    funext i
    rw [zz_ix h1 e1, zz_ix h2 e2, zz_ix h3 e3]
    unfold va_cpy zcp
    by_cases e : dp.toNat ≤ i ∧ i < dp.toNat + len.toNat
    · rw [if_pos e, if_pos ⟨rfl, by omega, by omega⟩]
      show Int32.ofInt (μ q0 ((sp.toNat + (i - dp.toNat) : Nat) : Int)) = _
      rw [show ((sp.toNat + (i - dp.toNat) : Nat) : Int) = sp + (i - dp) by omega]
    · rw [if_neg e, if_neg (fun h => e ⟨by omega, by omega⟩)]
  rw [e] at hP1 hD1
  refine kk H1 locs1 ls hP1 hD1 hS1 hL (fun k sh hk i => ?_) h6 h7.tl.tl.tl.tl.tl
  unfold zcp
  by_cases e : k = q1 ∧ dp ≤ i ∧ i < dp + len
  · rw [if_pos e]
    obtain ⟨rfl, -, -⟩ := e
    rw [hT1] at hk
    cases hk
    exact hW q0 _ hT0 _
  · rw [if_neg e]
    exact hW k sh hk i
theorem zi_min (X : zX Γ own cc nL d) (hl : Cond.methodLink own ix Lib.Math.min.name ∈ zTb) (hd : decode cc pc = .ok (.invokestatic ix, 3)) (hdp : 3 ≤ d) (hst : zcs st ≤ 8) (hce : ce ≤ (x_R Γ).cells) (hsl : sl ≤ (x_R Γ).slots) (kk : zG Γ nL ce sl T ad (pc + 3) ρ (vi (min a b) :: st) μ) : zG Γ nL ce sl T ad pc ρ (vi b :: vi a :: st) μ := by
  intro H locs ls hP hD hS hL hW h6 h7
  have hb : zI b := h7.hd
  have ha : zI a := h7.tl.hd
  have hts := X.2.2.2.2.1
  have em : zI (min a b) := by unfold zI at *; omega
  refine va_mmin X.1 X.2.1 (X.2.2.1.trans hL.1.symm) X.2.2.2.1 (hts _ hl) (hts _ (zTb_in (w := .static Lib.Math.min.name) 697 (by decide +kernel) (by decide +kernel))) (hts _ (zTb_in (w := .initialized "java/lang/Math") 152 (by decide +kernel) (by decide +kernel))) (hts _ (zTb_in (w := .code Lib.Math.min.name Lib.Math.min.code 2 (some .int)) 698 (by decide +kernel) (by decide +kernel))) (by have := X.2.2.2.2.2.2.2.1; omega) (by rw [zt_cs]; have := X.2.2.2.2.2.2.2.2; omega) hce hsl hd ?_
  have := kk H locs ls hP hD hS hL hW h6 (h7.tl.tl.cons (v := vi (min a b)) em)
  rw [List.map_cons, show zT Γ ad (vi (min a b)) = .int (Int32.ofInt (min a b)) from rfl] at this
  rw [show (if Int32.ofInt b < Int32.ofInt a then Int32.ofInt b else Int32.ofInt a) = Int32.ofInt (min a b) from ?_]
  · exact this
  · by_cases q : b < a
    · rw [if_pos ((zI.lt hb ha).mpr q), Int.min_eq_right (by omega)]
    · rw [if_neg (fun z => q ((zI.lt hb ha).mp z)), Int.min_eq_left (by omega)]
theorem zi_max (X : zX Γ own cc nL d) (hl : Cond.methodLink own ix Lib.Math.max.name ∈ zTb) (hd : decode cc pc = .ok (.invokestatic ix, 3)) (hdp : 3 ≤ d) (hst : zcs st ≤ 8) (hce : ce ≤ (x_R Γ).cells) (hsl : sl ≤ (x_R Γ).slots) (kk : zG Γ nL ce sl T ad (pc + 3) ρ (vi (max a b) :: st) μ) : zG Γ nL ce sl T ad pc ρ (vi b :: vi a :: st) μ := by
  intro H locs ls hP hD hS hL hW h6 h7
  have hb : zI b := h7.hd
  have ha : zI a := h7.tl.hd
  have hts := X.2.2.2.2.1
  have em : zI (max a b) := by unfold zI at *; omega
  refine va_mmax X.1 X.2.1 (X.2.2.1.trans hL.1.symm) X.2.2.2.1 (hts _ hl) (hts _ (zTb_in (w := .static Lib.Math.max.name) 684 (by decide +kernel) (by decide +kernel))) (hts _ (zTb_in (w := .initialized "java/lang/Math") 152 (by decide +kernel) (by decide +kernel))) (hts _ (zTb_in (w := .code Lib.Math.max.name Lib.Math.max.code 2 (some .int)) 685 (by decide +kernel) (by decide +kernel))) (by have := X.2.2.2.2.2.2.2.1; omega) (by rw [zt_cs]; have := X.2.2.2.2.2.2.2.2; omega) hce hsl hd ?_
  have := kk H locs ls hP hD hS hL hW h6 (h7.tl.tl.cons (v := vi (max a b)) em)
  rw [List.map_cons, show zT Γ ad (vi (max a b)) = .int (Int32.ofInt (max a b)) from rfl] at this
  rw [show (if Int32.ofInt a < Int32.ofInt b then Int32.ofInt b else Int32.ofInt a) = Int32.ofInt (max a b) from ?_]
  · exact this
  · by_cases q : a < b
    · rw [if_pos ((zI.lt ha hb).mpr q), Int.max_eq_right (by omega)]
    · rw [if_neg (fun z => q ((zI.lt ha hb).mp z)), Int.max_eq_left (by omega)]
end ZM
