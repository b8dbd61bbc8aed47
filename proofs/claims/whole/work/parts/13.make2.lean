def zblank (ci : Nat) : List zF := match zCl[ci]? with
  | some r => (List.range r.2.2).map (fun j => match zNk ci j with
    | some kd => .inl kd
    | none => .inr none)
  | none => []
theorem zblank_all : (List.range 13).all (fun ci => match zCl[ci]? with
  | some r => (List.range r.2.2).all (fun j => match zTy ci j with
    | .int => true
    | .boolean => true
    | t => decide (defaultValue t = .null))
  | none => true) = true := by decide +kernel
theorem zblank_ok {ci : Nat} {r : vw_C} (ad : Nat → Nat) (h : zCl[ci]? = some r) : (zblank ci).length = r.2.2 ∧ ∀ j, j < r.2.2 → defaultValue (zTy ci j) = vp_V ((zblank ci).mapIdx (fun (_ : Nat) x => zEF ad 0 x)) j := by
  have hci : ci < 13 := (List.getElem?_eq_some_iff.mp h).1
  have h1 := List.all_eq_true.mp zblank_all ci (List.mem_range.mpr hci)
  rw [h] at h1
  have e : zblank ci = (List.range r.2.2).map (fun j => match zNk ci j with
    | some kd => .inl kd
    | none => .inr none) := by unfold zblank; rw [h]
  refine ⟨by rw [e]; simp, fun j hj => ?_⟩
  have h2 := List.all_eq_true.mp h1 j (List.mem_range.mpr hj)
  unfold vp_V
  rw [List.getD_eq_getElem?_getD, List.getElem?_mapIdx, e, List.getElem?_map, List.getElem?_range hj]
  dsimp only [Option.map_some, Option.getD_some]
  unfold zNk
  cases ht : zTy ci j <;> rw [ht] at h2 <;> dsimp only <;> first | rfl | (simp only [decide_eq_true_eq] at h2; exact h2)
section ZO
variable {Γ : zCx} {own : String} {cc : ByteArray} {nL d ce sl : Nat} {T : List zSh} {ad : Nat → Nat} {pc ix q ci k t m : Nat} {ρ st : List zV} {μ : zMem} {n j : Int} {fs : List zF} {rs : List (Option Nat)}
theorem zi_new {r : vw_C} (X : zX Γ own cc nL d) (hd : decode cc pc = .ok (.new ix, 3)) (hci : zCl[ci]? = some r) (hl : Cond.classLink own ix r.1 ∈ zTb) (hin : Cond.instantiable r.1 r.2.2 ∈ zTb) (hini : Cond.initialized r.1 ∈ zTb) (hok : zTok T = true) (hρ : zin T.length ρ) (hst : zin T.length st) (hz : ∀ j, μ T.length j = 0) (hce : ce + 1 ≤ (x_R Γ).cells) (hsl : sl + r.2.2 ≤ (x_R Γ).slots)
    (kk : ∀ q, zG Γ nL (ce + 1) (sl + r.2.2) (T ++ [.inl (ci, zblank ci)]) (va_up ad T.length q) (pc + 3) ρ (vr T.length :: st) μ) : zG Γ nL ce sl T ad pc ρ st μ := by
  obtain ⟨g1, g2, g3⟩ := zClOk ci _ hci
  obtain ⟨C, Tt, N⟩ := r
  obtain ⟨b1, b2⟩ := zblank_ok ad hci
  intro H locs ls hP hD hS hL hW h1 h2
  have hA : ∀ q, (x_s Γ).heap.size ≤ q → zA (x_G Γ) q := fun q hq => Nat.le_trans X.2.2.2.2.2.2.1 hq
  have hts := X.2.2.2.2.1
  refine va_new (ci := ci) (fs := (zblank ci).mapIdx (fun (_ : Nat) x => zEF ad 0 x)) X.1 X.2.1 hts g1 (zTy ci) g2 X.2.2.2.1 (hts _ hl) (hts _ hin) (hts _ hini) X.2.2.2.2.2.1.1 hP hD hS hA hci b2 hce hsl hd (fun q H1 hP1 hD1 hS1 => ?_)
  have hE : (Sum.inr (ci, (zblank ci).mapIdx (fun (_ : Nat) x => zEF ad 0 x)) : va_E) = zE (x_G Γ).2.1 (va_up ad T.length q) (μ T.length) (.inl (ci, zblank ci)) := by
    show Sum.inr (ci, _) = Sum.inr (ci, _)
    congr 2
    apply List.ext_getElem?
    intro i
    rw [List.getElem?_mapIdx, List.getElem?_mapIdx, hz]
    unfold zblank
    rw [hci]
    dsimp only
    rw [List.getElem?_map]
    cases (List.range N)[i]? with
    | none => rfl
    | some x =>
      dsimp only [Option.map_some]
      cases zNk ci x <;> rfl
  rw [zw_push hok hE] at hP1 hD1
  have := kk q H1 locs ls hP1 hD1 hS1 (hL.up hρ) (hW.push (fun j => by rw [hz j]; unfold zOk; dsimp only; split; exact Or.inl rfl; exact zI0)) h1 (h2.cons (v := vr T.length) trivial)
  rw [List.map_cons, zmap_up hst, show zT Γ (va_up ad T.length q) (vr T.length) = .ref q from congrArg Value.ref (va_up_self ad T.length q)] at this
  exact this
theorem zi_anew {C : String} (X : zX Γ own cc nL d) (hC0 : C = "DebtDoors$Town" ∨ C = "DebtDoors$Ledger") (hd : decode cc pc = .ok (.anewarray ix, 3)) (hC : (zTys (x_G Γ).2.1)[t]? = some ((x_G Γ).2.1 t, .object C)) (ht : 4 ≤ t) (ht7 : t < 7) (hl : Cond.classLink own ix C ∈ zTb) (hok : zTok T = true) (hρ : zin T.length ρ) (hst : zin T.length st) (h0 : 0 ≤ n) (hn : n ≤ 100000) (hz : ∀ j, μ T.length j = 0) (hce : ce + 1 ≤ (x_R Γ).cells) (hsl : sl + n.toNat ≤ (x_R Γ).slots)
    (kk : ∀ q, zG Γ nL (ce + 1) (sl + n.toNat) (T ++ [.inr (t, n.toNat, List.replicate n.toNat none)]) (va_up ad T.length q) (pc + 3) ρ (vr T.length :: st) μ) : zG Γ nL ce sl T ad pc ρ (vi n :: st) μ := by
  intro H locs ls hP hD hS hL hW h1 h2
  have hnI : zI n := h2.hd
  have hA : ∀ q, (x_s Γ).heap.size ≤ q → zA (x_G Γ) q := fun q hq => Nat.le_trans X.2.2.2.2.2.2.1 hq
  have hov : va_AO C (x_s Γ) := by
    obtain ⟨-, -, -, -, -, v, -, -, h8⟩ := X.2.2.2.2.2.1
    rcases hC0 with rfl | rfl
    · exact h8.1
    · exact h8.2.1
  refine va_newq X.1 X.2.1 X.2.2.2.1 (X.2.2.2.2.1 _ hl) hov X.2.2.2.2.2.1.1 hP hD hS hA (n := Int32.ofInt n) (N' := n.toNat) (fun z => by have := (zI.lt hnI zI0).mp z; omega) (zz_ix h0 hnI) (by omega) hce hsl hd (fun q cA H1 hK1 hP1 hD1 hS1 => ?_)
  have hca : cA = (x_G Γ).2.1 t := by
    obtain ⟨kA, comp, -, -, -, e1⟩ := (hK1.2 7 (cA, .object C) rfl).2
    obtain ⟨kB, comp2, -, -, -, e2⟩ := (X.2.2.2.2.2.1.1.2 t _ hC).2
    exact Option.some.inj (e1.symm.trans e2)
  subst hca
  have hE : (Sum.inl ((x_G Γ).2.1 t, n.toNat, .inr (.inr (.inr (.inr (fun _ => none))))) : va_E) = zE (x_G Γ).2.1 (va_up ad T.length q) (μ T.length) (.inr (t, n.toNat, List.replicate n.toNat none)) := by
    show Sum.inl (_, _, _) = Sum.inl (_, _, zEA _ _ t _)
    congr 3
    unfold zEA
    rw [if_neg (by omega), if_neg (by omega)]
    congr 4
    funext i
    rw [List.getD_eq_getElem?_getD, List.getElem?_replicate]
    split <;> rfl
  rw [zw_push hok hE] at hP1 hD1
  have := kk q H1 locs ls hP1 hD1 hS1 (hL.up hρ) (hW.push (fun j => by rw [hz j]; unfold zOk; dsimp only; rw [if_neg (by omega), if_neg (by omega), if_neg (by omega), if_neg (by omega)]; trivial)) h1 (h2.tl.cons (v := vr T.length) trivial)
  rw [List.map_cons, zmap_up hst, show zT Γ (va_up ad T.length q) (vr T.length) = .ref q from congrArg Value.ref (va_up_self ad T.length q)] at this
  exact this
theorem zWF.alter {sh sh' : zSh} (hW : zWF T μ) (hq : T[q]? = some sh) (h : ∀ j n, zOk sh j n → zOk sh' j n) : zWF (T.set q sh') μ := by
  intro k s hk j
  rw [List.getElem?_set] at hk
  by_cases e : q = k
  · subst e
    rw [if_pos rfl, if_pos (List.getElem?_eq_some_iff.mp hq).1] at hk
    cases hk
    exact h j _ (hW q _ hq j)
  · rw [if_neg e] at hk
    exact hW k s hk j
theorem zi_putR {r : vw_C} (X : zX Γ own cc nL d) (hnm : (x_M Γ).name = "<init>") (hl : zFl own ix ci k) (hci : zCl[ci]? = some r) (hfin : (r.2.1 k).2.2.2 = true) (hown : r.1 = own) (hty : ∀ a, narrow (zTy ci k) (.ref a) = .ref a ∧ fits (zTy ci k) (.ref a) = true) (hd : decode cc pc = .ok (.putfield ix, 3)) (hT : T[q]? = some (.inl (ci, fs))) (hf : fs[k]? = some (.inr none)) (kk : zG Γ nL ce sl (T.set q (.inl (ci, fs.set k (.inr (some m))))) ad (pc + 3) ρ st μ) : zG Γ nL ce sl T ad pc ρ (vr m :: vr q :: st) μ := by
  obtain ⟨⟨C, Tt, N⟩, h1, h2, h3, h4⟩ := hl
  cases hci.symm.trans h1
  obtain ⟨g1, g2, g3⟩ := zClOk ci _ h1
  intro H locs ls hP hD hS hL hW h5 h6
  have hlen : k < (fs.mapIdx (fun (j : Nat) y => zEF ad (μ q j) y)).length := by rw [List.length_mapIdx]; exact (List.getElem?_eq_some_iff.mp hf).1
  refine va_putF (cl := zCl) (ci := ci) (v := .ref (ad m)) X.1 X.2.1 X.2.2.2.2.1 g1 (zTy ci) g2 g3 X.2.2.2.1 X.2.2.2.2.2.1.1 hP hD hS q (zw_get hT) h1 k h2 (X.2.2.2.2.1 _ h3) (fun y hy => by rw [← h4]; exact hy) hfin hnm (h4.trans hown) (g2 k h2) (hty _).1 (hty _).2 hlen hd (fun H1 locs1 hP1 hD1 hS1 => ?_)
  have hq : q < T.length := (List.getElem?_eq_some_iff.mp hT).1
  have e : (zw (x_G Γ).2.1 ad T μ).set q (ad q, .inr (ci, (fs.mapIdx (fun (j : Nat) y => zEF ad (μ q j) y)).set k (.ref (ad m)))) = zw (x_G Γ).2.1 ad (T.set q (.inl (ci, fs.set k (.inr (some m))))) μ := by
    refine zw_set (sh := .inl (ci, fs.set k (.inr (some m)))) (by rw [List.getElem?_set, if_pos rfl, if_pos hq]) (by rw [List.length_set]) (fun i hi => by rw [List.getElem?_set, if_neg (fun z => hi z.symm)]) (fun _ _ => rfl) ?_
    show Sum.inr (ci, _) = Sum.inr (ci, (fs.set k (.inr (some m))).mapIdx (fun (j : Nat) y => zEF ad (μ q j) y))
    congr 2
    apply List.ext_getElem?
    intro i
    rw [List.getElem?_set, List.getElem?_mapIdx, List.getElem?_mapIdx, List.getElem?_set]
    by_cases e : k = i
    · subst e
      rw [if_pos rfl, if_pos hlen, if_pos rfl, if_pos (List.getElem?_eq_some_iff.mp hf).1]
      rfl
    · rw [if_neg e, if_neg e]
  rw [e] at hP1 hD1
  refine kk H1 locs1 ls hP1 hD1 hS1 hL (hW.alter hT (fun i x hx => ?_)) h5 h6.tl.tl
  unfold zOk at hx ⊢
  dsimp only at hx ⊢
  rw [List.getElem?_set]
  by_cases e2 : k = i.toNat
  · rw [if_pos e2, if_pos (List.getElem?_eq_some_iff.mp hf).1]
    rw [← e2, hf] at hx
    simpa using hx
  · rw [if_neg e2]
    exact hx
theorem zi_aast {r : vw_C} {n0 : Nat} (X : zX Γ own cc nL d) (hC : (zTys (x_G Γ).2.1)[t]? = some ((x_G Γ).2.1 t, .object r.1)) (ht : 4 ≤ t) (hci : zCl[ci]? = some r) (hd : decode cc pc = .ok (.aastore, 1)) (hT : T[q]? = some (.inr (t, n0, rs))) (hrs : rs.length = n0) (hm : T[m]? = some (.inl (ci, fs))) (h0 : 0 ≤ j) (h1 : j < n0) (kk : zG Γ nL ce sl (T.set q (.inr (t, n0, rs.set j.toNat (some m)))) ad (pc + 1) ρ st μ) : zG Γ nL ce sl T ad pc ρ (vr m :: vi j :: vr q :: st) μ := by
  intro H locs ls hP hD hS hL hW h5 h6
  have hj : zI j := h6.tl.hd
  have hc : zE (x_G Γ).2.1 ad (μ q) (.inr (t, n0, rs)) = .inl ((x_G Γ).2.1 t, n0, .inr (.inr (.inr (.inr (fun i => (rs.getD i none).map ad))))) := by
    show Sum.inl (_, _, zEA ad (μ q) t rs) = _
    unfold zEA
    rw [if_neg (by omega), if_neg (by omega)]
  have hw := zw_get (aT := (x_G Γ).2.1) (ad := ad) (μ := μ) hT
  rw [hc] at hw
  have hq : q < T.length := (List.getElem?_eq_some_iff.mp hT).1
  refine va_astq X.1 X.2.1 X.2.2.2.2.2.1.1 hP hD hS q t m ci hw hC (zw_get hm) hci (zz_in h0 h1 hj) hd (fun H1 locs1 hP1 hD1 hS1 => ?_)
  have e : (zw (x_G Γ).2.1 ad T μ).set q (ad q, .inl ((x_G Γ).2.1 t, n0, .inr (.inr (.inr (.inr (va_up (fun i => (rs.getD i none).map ad) (Int32.ofInt j).toNatClampNeg (some (ad m)))))))) = zw (x_G Γ).2.1 ad (T.set q (.inr (t, n0, rs.set j.toNat (some m)))) μ := by
    refine zw_set (sh := .inr (t, n0, rs.set j.toNat (some m))) (by rw [List.getElem?_set, if_pos rfl, if_pos hq]) (by rw [List.length_set]) (fun i hi => by rw [List.getElem?_set, if_neg (fun z => hi z.symm)]) (fun _ _ => rfl) ?_
    show _ = Sum.inl (_, _, zEA ad (μ q) t _)
    unfold zEA
    rw [if_neg (by omega), if_neg (by omega), zz_ix h0 hj]
    congr 7
    funext i
    unfold va_up
    dsimp only
    rw [List.getD_eq_getElem?_getD, List.getD_eq_getElem?_getD, List.getElem?_set]
    by_cases e : i = j.toNat
    · rw [if_pos e, if_pos e.symm, if_pos (by omega)]; rfl
    · rw [if_neg e, if_neg (fun z => e z.symm)]
  rw [e] at hP1 hD1
  refine kk H1 locs1 ls hP1 hD1 hS1 hL (hW.alter hT (fun i x hx => ?_)) h5 h6.tl.tl.tl
  exact hx
/-- Object's maker -/
theorem zi_obj (X : zX Γ own cc nL d) (hl : Cond.methodLink own ix Lib.objectInit ∈ zTb) (hd : decode cc pc = .ok (.invokespecial ix, 3)) (hdp : 1 ≤ d) (hst : zcs st ≤ 8) (kk : zG Γ nL ce sl T ad (pc + 3) ρ st μ) : zG Γ nL ce sl T ad pc ρ (vr q :: st) μ := by
  intro H locs ls hP hD hS hL hW h5 h6
  have hts := X.2.2.2.2.1
  have h8 := X.2.2.2.2.2.2.2.1
  have h9 := X.2.2.2.2.2.2.2.2
  refine W.objInit X.1 X.2.1 X.2.2.2.1 (hts _ hl) (hts _ (zTb_in 165 (by decide +kernel) (by decide +kernel))) (hts _ (zTb_in 166 (by decide +kernel) (by decide +kernel))) rfl (by rw [X.2.2.1]; exact hL.1) rfl hd (by omega) (by rw [zt_cs]; show 2 * 0 + _ + 12 ≤ _; omega) ?_
  exact kk H locs ls hP hD hS hL hW h5 h6.tl
end ZO

