/-- a method: its name, bytes, places, what it returns -/
abbrev zMt : Type := MethodName × ByteArray × Nat × Option FieldType
def zws (y : zMt) : List Cond := .code y.1 y.2.1 y.2.2.1 y.2.2.2 :: zTb
def zPre (G : zG0) (T : List zSh) (ad : Nat → Nat) (μ : zMem) (vs : List zV) : Array Value → State → Prop := va_Pc (vs.map (zt G.2.2.1 ad)) (fun U => G.2.2.2.2 ≤ U.heap.size ∧ va_P G.1 zCl (zw G.2.1 ad T μ) U.heap ∧ va_D (zA G) (zw G.2.1 ad T μ) ∧ zXt G U U.heap ∧ zWF T μ ∧ zWs vs)
def zPost (G : zG0) (T : List zSh) (ad : Nat → Nat) (T' : List zSh) (Rp : Option zV → zMem → Prop) : Array Value → State → Outcome → State → Prop := fun _ st oc t =>
  (∃ (r : Option zV) (ad' : Nat → Nat) (μ' : zMem), oc = .returned (r.map (zt G.2.2.1 ad')) ∧ Rp r μ' ∧ (∀ k, k < T.length → ad' k = ad k) ∧ va_P G.1 zCl (zw G.2.1 ad' T' μ') t.heap ∧ va_D (zA G) (zw G.2.1 ad' T' μ') ∧ zXt G t t.heap ∧ zWF T' μ' ∧ ∀ v, r = some v → zWv v ∧ zref v = false ∧ v ≠ vx 0) ∧ va_F (zA G) st t
/-- a method's contract: depth, cells and their parts that it makes; forms, arguments and memory ahead; forms and answer and memory behind -/
def zSp (d mc ms : Nat) (y : zMt) (T : List zSh) (vs : List zV) (μ : zMem) (T' : List zSh) (Rp : Option zV → zMem → Prop) : Prop :=
  ∀ (l : Launch) (G : zG0) (ad : Nat → Nat), Met l y.1 (zws y) ({ frames := d, cells := mc, slots := ms, locals := 40 * d } : Room) (zPre G T ad μ vs) (zPost G T ad T' Rp) mc ms (zA G)
theorem zSp.imp {d mc ms : Nat} {y : zMt} {T T' : List zSh} {vs : List zV} {μ : zMem} {Rp Rp' : Option zV → zMem → Prop} (h : zSp d mc ms y T vs μ T' Rp) (hi : ∀ r μ', Rp r μ' → Rp' r μ') : zSp d mc ms y T vs μ T' Rp' := by
  intro l G ad
  have := h l G ad
  unfold Met at this ⊢
  refine MetFree.mono this (fun _ _ h => h) (fun _ _ _ _ _ h => h) ?_
  rintro a st o t - ⟨⟨⟨r, ad', μ', h1, h2, h3⟩, h4⟩, h5⟩
  exact ⟨⟨⟨r, ad', μ', h1, hi _ _ h2, h3⟩, h4⟩, h5⟩
theorem zPre.blind {G : zG0} {T : List zSh} {ad : Nat → Nat} {μ : zMem} {vs : List zV} : FrameBlind (zPre G T ad μ vs) := fun a U g mk h =>
  ⟨h.1, h.2.1, h.2.2.1, h.2.2.2.1, zXt.same (u := U) (U := U.calling g mk a) rfl h.2.2.2.2.1, h.2.2.2.2.2⟩
theorem zTb_good {w : Cond} (h : w ∈ zTb) : (w.onTables && w.keeps) = true ∨ ∃ ty, w = .arrayClass ty := good_of_word (List.mem_filter.mp h).2
theorem zws_good {y : zMt} (hc : Cond.code y.1 y.2.1 y.2.2.1 y.2.2.2 ∈ zTb) : GoodIn zTb (zws y) := fun w hw => by
  rcases List.mem_cons.mp hw with rfl | hw
  · exact ⟨hc, zTb_good hc⟩
  · exact ⟨hw, zTb_good hw⟩
/-- the places at a method's start -/
def zent (vs : List zV) : List zV := vs.flatMap (fun v => if zcat v = 2 then [v, vx 0] else [v])
def zenv (vs : List zV) (nL : Nat) : List zV := zent vs ++ List.replicate (nL - (zent vs).length) (vx 0)
theorem zent_len (ex ad : Nat → Nat) (vs : List zV) : (lg_sl (vs.map (zt ex ad))).length = (zent vs).length := by
  induction vs with
  | nil => rfl
  | cons v vs ih =>
    unfold lg_sl zent at ih ⊢
    rw [List.map_cons, List.flatMap_cons, List.flatMap_cons, List.length_append, List.length_append, ih, zt_cat]
    split <;> rfl
theorem zent_args (ex ad : Nat → Nat) : ∀ (vs : List zV) (i0 i : Nat) (v : zV), (zent vs)[i]? = some v → v ≠ vx 0 → (i0 + i, zt ex ad v) ∈ lv_args i0 (vs.map (zt ex ad)) := by
  intro vs
  induction vs with
  | nil => intro i0 i v h; simp [zent] at h
  | cons u vs ih =>
    intro i0 i v h hv
    unfold zent at h
    rw [List.flatMap_cons] at h
    rw [List.map_cons, lv_args, zt_cat]
    by_cases hc : zcat u = 2
    · rw [if_pos hc] at h ⊢
      match i, h with
      | 0, h => cases h; exact List.mem_cons_self
      | 1, h => cases h; exact absurd rfl hv
      | i + 2, h =>
        have := ih (i0 + 2) i v h hv
        rw [show i0 + (i + 2) = i0 + 2 + i by omega]
        exact List.mem_cons_of_mem _ this
    · rw [if_neg hc] at h ⊢
      match i, h with
      | 0, h => cases h; exact List.mem_cons_self
      | i + 1, h =>
        have := ih (i0 + 1) i v h hv
        rw [show i0 + (i + 1) = i0 + 1 + i by omega]
        exact List.mem_cons_of_mem _ this
theorem zLR.entry {ex ad : Nat → Nat} {vs : List zV} {ls : Array Slot} {nL : Nat} (h : lv_has ls nL (lv_args 0 (vs.map (zt ex ad)))) : zLR ls nL ex ad (zenv vs nL) := by
  refine ⟨h.1, h.2.1, fun i v hi hv => ?_⟩
  unfold zenv at hi
  by_cases hl : i < (zent vs).length
  · rw [List.getElem?_append_left hl] at hi
    have := h.2.2 _ (zent_args ex ad vs 0 i v hi hv)
    rwa [Nat.zero_add] at this
  · rw [List.getElem?_append_right (by omega), List.getElem?_replicate] at hi
    split at hi
    · cases hi; exact absurd rfl hv
    · cases hi
theorem zWs.env {vs : List zV} {nL : Nat} (h : zWs vs) : zWs (zenv vs nL) := by
  intro v hv
  unfold zenv at hv
  rcases List.mem_append.mp hv with hv | hv
  · unfold zent at hv
    obtain ⟨u, hu, hv⟩ := List.mem_flatMap.mp hv
    split at hv
    · rcases List.mem_cons.mp hv with rfl | hv
      · exact h _ hu
      · rw [List.mem_singleton.mp hv]; trivial
    · rw [List.mem_singleton.mp hv]; exact h _ hu
  · rw [(List.mem_replicate.mp hv).2]; trivial
/-- what a walk's goal is: the contract's end -/
def zRt (Γ : zCx) (ret : Option FieldType) (mc ms : Nat) (T : List zSh) (ad : Nat → Nat) (T' : List zSh) (Rp : Option zV → zMem → Prop) : Prop :=
  x_Q Γ = MQ (x_b Γ) (zPost (x_G Γ) T ad T' Rp) (x_a Γ) (x_s Γ) mc ms (zA (x_G Γ)) ∧ (x_M Γ).sig.returnType = ret ∧ (x_M Γ).locks = false ∧ (x_R Γ).cells = mc ∧ (x_R Γ).slots = ms
theorem zSp.of {d mc ms : Nat} {y : zMt} {T T' : List zSh} {vs : List zV} {μ : zMem} {Rp : Option zV → zMem → Prop} (hpl : plainName y.1.cls = true) (hl : (zent vs).length ≤ y.2.2.1)
    (body : ∀ (Γ : zCx) (ad : Nat → Nat), zX Γ y.1.cls y.2.1 y.2.2.1 d → zRt Γ y.2.2.2 mc ms T ad T' Rp → (x_M Γ).name = y.1.name → zG Γ y.2.2.1 0 0 T ad 0 (zenv vs y.2.2.1) [] μ) : zSp d mc ms y T vs μ T' Rp := by
  intro l G ad
  refine Met.ofW (cc := y.2.1) (maxL := y.2.2.1) (ret := y.2.2.2) hpl rfl ?_
  intro p e s m args below meth c s₁ B hml hv
  obtain ⟨rfl, h1, h2, h3, h4, h5, h6⟩ := hv
  have hts := atoms_spec (ws := zws y) B.pre
  have hown : s.vm.findClass y.1.cls = some m.cls := findClass_of_methodNamed B.named
  have hnm := (name_of_methodNamed B.named B.method).1
  have hle := lv_entry (vs.map (zt G.2.2.1 ad)) (n := y.2.2.1) (by rw [zent_len]; exact hl)
  rw [lg_entry_eq]
  generalize (lg_sl (vs.map (zt G.2.2.1 ad)) ++ List.replicate (y.2.2.1 - (lg_sl (vs.map (zt G.2.2.1 ad))).length) Slot.unset).toArray = ls at hle ⊢
  exact body (p, l, e, { frames := d, cells := mc, slots := ms, locals := 40 * d }, s, m, (vs.map (zt G.2.2.1 ad)).toArray, below, meth, c, MQ below (zPost G T ad T' Rp) (vs.map (zt G.2.2.1 ad)).toArray s mc ms (zA G), G) ad
    ⟨B.exec, B.bytes, hml, hown, fun w hw => hts w (List.mem_cons_of_mem _ hw), h4, h1, Nat.le_refl _, Nat.le_refl _⟩ ⟨rfl, B.returns, B.notSynchronized, rfl, rfl⟩ hnm s.heap [] ls h2 h3 va_S.rf (zLR.entry hle) h5 h6.env (fun v hv => by cases hv)
section ZR
variable {Γ : zCx} {own : String} {cc : ByteArray} {nL d ce sl mc ms : Nat} {T T' : List zSh} {ad ad' : Nat → Nat} {pc ix : Nat} {ρ st : List zV} {μ : zMem} {n : Int} {ret : Option FieldType} {Rp : Option zV → zMem → Prop}
theorem zRt.post (X : zX Γ own cc nL d) {H : Heap} {locs : List Loc} {r : Option zV} (had : ∀ k, k < T.length → ad' k = ad k) (hP : va_P (x_G Γ).1 zCl (zw (x_G Γ).2.1 ad' T' μ) H) (hD : va_D (zA (x_G Γ)) (zw (x_G Γ).2.1 ad' T' μ)) (hS : va_S (zA (x_G Γ)) (x_s Γ).heap H locs) (hW : zWF T' μ) (hr : ∀ v, r = some v → zWv v ∧ zref v = false ∧ v ≠ vx 0) (hRp : Rp r μ) (t : State) (ht : t.heap = H) (hw : (x_s Γ).WarmedH t.vm) :
    zPost (x_G Γ) T ad T' Rp (x_a Γ) (x_s Γ) (.returned (r.map (zT Γ ad'))) t := by
  have hE : zXt (x_G Γ) t t.heap := by
    have h1 := zXt.warm hw X.2.2.2.2.2.1
    refine zXt.kept h1 (fun a ha hn => ?_)
    rw [ht]
    exact hS.2.1 a ha hn
  exact ⟨⟨r, ad', μ, rfl, hRp, had, by rw [ht]; exact hP, hD, hE, hW, hr⟩, hS.F ht⟩
theorem zi_ireturn (X : zX Γ own cc nL d) (Y : zRt Γ ret mc ms T ad T' Rp) (hd : decode cc pc = .ok (.ireturn, 1)) {ty : FieldType} (hr : ret = some ty) (hty : ty = .int ∨ (ty = .boolean ∧ (n = 0 ∨ n = 1))) (had : ∀ k, k < T.length → ad' k = ad k) (hRp : Rp (some (vi n)) μ) : zG Γ nL mc ms T' ad' pc ρ [vi n] μ := by
  intro H locs ls hP hD hS hL hW h1 h2
  have hn : narrow ty (.int (Int32.ofInt n)) = .int (Int32.ofInt n) := by
    rcases hty with rfl | ⟨rfl, rfl | rfl⟩ <;> rfl
  have hQ := Y.1
  unfold zWW
  rw [hQ]
  exact W.zret X.1 X.2.1 (Y.2.1.trans hr) hn (fun t ht hw => zRt.post X had hP hD hS hW (r := some (vi n)) (fun v hv => by cases hv; exact ⟨h2.hd, rfl, by intro h; cases h⟩) hRp t ht hw) hS.2.2 hd Y.2.2.1
theorem zi_lreturn (X : zX Γ own cc nL d) (Y : zRt Γ ret mc ms T ad T' Rp) (hd : decode cc pc = .ok (.lreturn, 1)) (hr : ret = some .long) (had : ∀ k, k < T.length → ad' k = ad k) (hRp : Rp (some (vl n)) μ) : zG Γ nL mc ms T' ad' pc ρ [vl n] μ := by
  intro H locs ls hP hD hS hL hW h1 h2
  have hQ := Y.1
  unfold zWW
  rw [hQ]
  exact W.lret X.1 X.2.1 (Y.2.1.trans hr) (fun t ht hw => zRt.post X had hP hD hS hW (r := some (vl n)) (fun v hv => by cases hv; exact ⟨h2.hd, rfl, by intro h; cases h⟩) hRp t ht hw) hS.2.2 hd Y.2.2.1
theorem zi_return (X : zX Γ own cc nL d) (Y : zRt Γ ret mc ms T ad T' Rp) (hd : decode cc pc = .ok (.return_, 1)) (hr : ret = none) (had : ∀ k, k < T.length → ad' k = ad k) (hRp : Rp none μ) : zG Γ nL mc ms T' ad' pc ρ [] μ := by
  intro H locs ls hP hD hS hL hW h1 h2
  have hQ := Y.1
  unfold zWW
  rw [hQ]
  exact W.vret X.1 X.2.1 (Y.2.1.trans hr) (fun t ht hw => zRt.post X had hP hD hS hW (r := none) (fun v hv => by cases hv) hRp t ht hw) hS.2.2 hd Y.2.2.1
end ZR
/-- a call's link: of an object's method by its own type's entry; a static one; those of a nest mate -/
def zLkV (own : String) (ix : Nat) (y : zMt) (n : Nat) : Prop := Cond.methodLink own ix y.1 ∈ zTb ∧ Cond.instanceMethod y.1 ∈ zTb ∧ Cond.selects y.1.cls y.1 y.1 ∈ zTb ∧ Cond.initialized y.1.cls ∈ zTb ∧ Cond.code y.1 y.2.1 y.2.2.1 y.2.2.2 ∈ zTb ∧ (y.1.cls ≠ "java/lang/invoke/MethodHandle" ∧ y.1.cls ≠ "java/lang/invoke/VarHandle" ∧ (parseMethodDescriptor y.1.desc).map (fun d => d.parameters.length) = some n) ∧ y.2.2.1 ≤ 20
def zLkS (own : String) (ix : Nat) (y : zMt) (n : Nat) : Prop := Cond.methodLink own ix y.1 ∈ zTb ∧ Cond.static y.1 ∈ zTb ∧ Cond.initialized y.1.cls ∈ zTb ∧ Cond.code y.1 y.2.1 y.2.2.1 y.2.2.2 ∈ zTb ∧ (y.1.cls ≠ "java/lang/invoke/MethodHandle" ∧ y.1.cls ≠ "java/lang/invoke/VarHandle" ∧ (parseMethodDescriptor y.1.desc).map (fun d => d.parameters.length) = some n) ∧ y.2.2.1 ≤ 20
def zLkN (own : String) (ix : Nat) (y : zMt) (n : Nat) : Prop := (∃ host, Cond.methodLinkNest own ix y.1 host ∈ lw_tbl) ∧ Cond.static y.1 ∈ zTb ∧ Cond.initialized y.1.cls ∈ zTb ∧ Cond.code y.1 y.2.1 y.2.2.1 y.2.2.2 ∈ zTb ∧ (y.1.cls ≠ "java/lang/invoke/MethodHandle" ∧ y.1.cls ≠ "java/lang/invoke/VarHandle" ∧ (parseMethodDescriptor y.1.desc).map (fun d => d.parameters.length) = some n) ∧ y.2.2.1 ≤ 20
def zLkI (own : String) (ix : Nat) (y : zMt) (n : Nat) : Prop := ((∃ host, Cond.methodLinkNest own ix y.1 host ∈ lw_tbl) ∨ Cond.methodLink own ix y.1 ∈ zTb) ∧ Cond.instanceMethod y.1 ∈ zTb ∧ y.1.name = "<init>" ∧ Cond.initialized y.1.cls ∈ zTb ∧ Cond.code y.1 y.2.1 y.2.2.1 y.2.2.2 ∈ zTb ∧ (y.1.cls ≠ "java/lang/invoke/MethodHandle" ∧ y.1.cls ≠ "java/lang/invoke/VarHandle" ∧ (parseMethodDescriptor y.1.desc).map (fun d => d.parameters.length) = some n) ∧ y.2.2.1 ≤ 20 ∧ y.2.2.2 = none
section ZC
variable {Γ : zCx} {own : String} {cc : ByteArray} {nL d d' ce sl mc ms : Nat} {T T' : List zSh} {ad : Nat → Nat} {pc ix q nA : Nat} {ρ st as : List zV} {μ : zMem} {Rp : Option zV → zMem → Prop} {y : zMt}
/-- behind a call's run -/
theorem zc_on {vs st0 : List zV} {free : Addr → Prop} (hfree : free = zA (x_G Γ)) (X : zX Γ own cc nL d) {H : Heap} {locs : List Loc} {ls : Array Slot} (hS : va_S (zA (x_G Γ)) (x_s Γ).heap H locs) (hL : zLR ls nL (x_G Γ).2.2.1 ad ρ) (h1 : zWs ρ) (h2 : zWs st)
    (hr : va_Run (x_p Γ) (x_l Γ) (x_e Γ) (x_R Γ) (x_s Γ) (x_m Γ) (x_a Γ) (x_b Γ) (x_M Γ) (x_c Γ) H locs ce sl mc ms (F0 (x_m Γ) pc ls (st0.map (zT Γ ad))) (st.map (zT Γ ad)) (zPost (x_G Γ) T ad T' Rp (vs.map (zT Γ ad)).toArray) free)
    (hk : ∀ v, (v ∈ ρ ∨ v ∈ st) → ∀ k, v = vr k → k < T.length)
    (kk : ∀ (r : Option zV) (ad' : Nat → Nat) (μ' : zMem), Rp r μ' → (∀ k, k < T.length → ad' k = ad k) → zG Γ nL (ce + mc) (sl + ms) T' ad' (pc + 3) ρ (r.toList ++ st) μ') : zWW Γ H locs ce sl (F0 (x_m Γ) pc ls (st0.map (zT Γ ad))) := by
  subst hfree
  intro U hU XU
  obtain ⟨v, st₀, t, U', L, h0, X', hLf, e1, e2, ⟨⟨r, ad', μ', hv, hRp, had, hP1, hD1, hE1, hW1, hsc⟩, hz, hkp⟩, stp⟩ := hr U hU XU
  cases hv
  rw [h0] at hz hkp
  have same : ∀ v, (v ∈ ρ ∨ v ∈ st) → zT Γ ad' v = zT Γ ad v := by
    intro v hv
    rcases v with x | x | x | x
    · rfl
    · rfl
    · exact congrArg Value.ref (had x (hk _ hv x rfl))
    · rfl
  have hstk : st.map (zT Γ ad) = st.map (zT Γ ad') := List.map_congr_left (fun v hv => (same v (Or.inr hv)).symm)
  have hL' : zLR ls nL (x_G Γ).2.2.1 ad' ρ := ⟨hL.1, hL.2.1, fun i v hi hv => by
    have := hL.2.2 i v hi hv
    rw [show zt (x_G Γ).2.2.1 ad v = zt (x_G Γ).2.2.1 ad' v from (same v (Or.inl (List.mem_of_getElem? hi))).symm] at this
    exact this⟩
  have hS' : va_S (zA (x_G Γ)) (x_s Γ).heap U'.heap (locs ++ L) := ⟨Nat.le_trans hS.1 (by rw [e1]; exact hz), fun q h1 h2 => by rw [e1, hkp q (Nat.lt_of_lt_of_le h1 hS.1) h2]; exact hS.2.1 q h1 h2, fun q hq => by
      rcases List.mem_append.mp hq with h | h
      · exact hS.2.2 q h
      · exact hLf q h⟩
  have hws : zWs (r.toList ++ st) := fun v hv => by
    rcases List.mem_append.mp hv with h | h
    · exact (hsc v (by simpa using h)).1
    · exact h2 v h
  obtain ⟨t2, a1, b1⟩ := kk r ad' μ' hRp had U'.heap (locs ++ L) ls (by rw [e1]; exact hP1) hD1 hS' hL' hW1 h1 hws U' rfl X'
  refine ⟨t2, stp t2 ?_, b1⟩
  rw [List.map_append] at a1
  rw [hstk]
  have hrl : (Option.map (zt (x_G Γ).2.2.1 ad') r).toList = r.toList.map (zT Γ ad') := by cases r <;> rfl
  rw [hrl]
  exact a1
theorem zX.fix (X : zX Γ own cc nL d) : CallFix (x_p Γ) (x_m Γ) (x_c Γ) cc nL (x_s Γ) (x_a Γ) zTb own := ⟨X.1, X.2.1, X.2.2.1, X.2.2.2.1, X.2.2.2.2.1⟩
theorem zpre {vs : List zV} (X : zX Γ own cc nL d) {H : Heap} {locs : List Loc} (hP : va_P (x_G Γ).1 zCl (zw (x_G Γ).2.1 ad T μ) H) (hD : va_D (zA (x_G Γ)) (zw (x_G Γ).2.1 ad T μ)) (hS : va_S (zA (x_G Γ)) (x_s Γ).heap H locs) (hW : zWF T μ) (hv : zWs vs) (U : State) (hU : U.heap = H) (hw : (x_s Γ).WarmedH U.vm) : zPre (x_G Γ) T ad μ vs (vs.map (zT Γ ad)).toArray U := by
  refine ⟨rfl, ?_, by rw [hU]; exact hP, hD, ?_, hW, hv⟩
  · rw [hU]; exact Nat.le_trans X.2.2.2.2.2.2.1 hS.1
  · refine zXt.kept (zXt.warm hw X.2.2.2.2.2.1) (fun a ha hn => ?_)
    rw [hU]
    exact hS.2.1 a ha hn
theorem zws_split {vs st : List zV} (h : zWs (vs.reverse ++ st)) : zWs vs ∧ zWs st := ⟨fun v hv => h v (List.mem_append_left _ (List.mem_reverse.mpr hv)), fun v hv => h v (List.mem_append_right _ hv)⟩
theorem zroom (X : zX Γ own cc nL d) {mL : Nat} (hm : mL ≤ 20) (hd : d' + 1 ≤ d) : ({ frames := d', cells := mc, slots := ms, locals := 40 * d' } : Room).frames + 1 ≤ (x_R Γ).frames ∧ 8 + (mL + 11) + ({ frames := d', cells := mc, slots := ms, locals := 40 * d' } : Room).locals ≤ (x_R Γ).locals := by
  have h1 := X.2.2.2.2.2.2.2.1
  have h2 := X.2.2.2.2.2.2.2.2
  exact ⟨by show d' + 1 ≤ _; omega, by show 8 + (mL + 11) + 40 * d' ≤ _; omega⟩
theorem zw_ad {aT : Nat → ClassId} {ad ad' : Nat → Nat} (hT : ∀ (k : Nat) (sh : zSh), T[k]? = some sh → zE aT ad' (μ k) sh = zE aT ad (μ k) sh) (h : ∀ k, k < T.length → ad' k = ad k) : zw aT ad' T μ = zw aT ad T μ := by
  apply List.ext_getElem?
  intro i
  unfold zw
  rw [List.getElem?_mapIdx, List.getElem?_mapIdx]
  cases hi : T[i]? with
  | none => rfl
  | some sh =>
    have hl := (List.getElem?_eq_some_iff.mp hi).1
    show some (ad' i, _) = some (ad i, _)
    rw [h i hl, hT i sh hi]
/-- forms whose cells are all there -/
def zTok (T : List zSh) : Bool := T.all (fun sh => match sh with
  | .inl (_, fs) => fs.all (fun f => match f with
    | .inr (some k) => decide (k < T.length)
    | _ => true)
  | .inr (_, _, rs) => rs.all (fun r => match r with
    | some k => decide (k < T.length)
    | none => true))
theorem zE_ad {aT : Nat → ClassId} {ad ad' : Nat → Nat} (hok : zTok T = true) (h : ∀ k, k < T.length → ad' k = ad k) (k : Nat) (sh : zSh) (hs : T[k]? = some sh) : zE aT ad' (μ k) sh = zE aT ad (μ k) sh := by
  have h1 := List.all_eq_true.mp hok sh (List.mem_of_getElem? hs)
  rcases sh with ⟨ci, fs⟩ | ⟨t, n, rs⟩
  · have h2 : fs.all (fun f => match f with
      | .inr (some k) => decide (k < T.length)
      | _ => true) = true := h1
    show Sum.inr (ci, fs.mapIdx (fun (j : Nat) x => zEF ad' (μ k j) x)) = Sum.inr (ci, fs.mapIdx (fun (j : Nat) x => zEF ad (μ k j) x))
    congr 2
    apply List.ext_getElem?
    intro i
    rw [List.getElem?_mapIdx, List.getElem?_mapIdx]
    cases hf : fs[i]? with
    | none => rfl
    | some f =>
      have h3 := List.all_eq_true.mp h2 f (List.mem_of_getElem? hf)
      rcases f with x | x | x
      · rfl
      · rfl
      · have h4 : x < T.length := by simpa using h3
        exact congrArg (fun z => some (Value.ref z)) (h x h4)
  · have h2 : rs.all (fun r => match r with
      | some k => decide (k < T.length)
      | none => true) = true := h1
    show Sum.inl (_, n, zEA ad' (μ k) t rs) = Sum.inl (_, n, zEA ad (μ k) t rs)
    unfold zEA
    split
    · rfl
    · split
      · rfl
      · congr 7
        funext j
        rw [List.getD_eq_getElem?_getD]
        cases hr : rs[j]? with
        | none => rfl
        | some r =>
          have h3 := List.all_eq_true.mp h2 r (List.mem_of_getElem? hr)
          cases r with
          | none => rfl
          | some x => exact congrArg some (h x (by simpa using h3))
theorem zc_onS {vs st0 : List zV} (hok : zTok T = true) (X : zX Γ own cc nL d) {H : Heap} {locs : List Loc} {ls : Array Slot} (hS : va_S (zA (x_G Γ)) (x_s Γ).heap H locs) (hL : zLR ls nL (x_G Γ).2.2.1 ad ρ) (h1 : zWs ρ) (h2 : zWs st)
    (hr : va_Run (x_p Γ) (x_l Γ) (x_e Γ) (x_R Γ) (x_s Γ) (x_m Γ) (x_a Γ) (x_b Γ) (x_M Γ) (x_c Γ) H locs ce sl 0 0 (F0 (x_m Γ) pc ls (st0.map (zT Γ ad))) (st.map (zT Γ ad)) (zPost (x_G Γ) T ad T Rp (vs.map (zT Γ ad)).toArray) (zA (x_G Γ)))
    (kk : ∀ (r : Option zV) (μ' : zMem), Rp r μ' → zG Γ nL ce sl T ad (pc + 3) ρ (r.toList ++ st) μ') : zWW Γ H locs ce sl (F0 (x_m Γ) pc ls (st0.map (zT Γ ad))) := by
  intro U hU XU
  obtain ⟨v, st₀, t, U', L, h0, X', hLf, e1, e2, ⟨⟨r, ad', μ', hv, hRp, had, hP1, hD1, hE1, hW1, hsc⟩, hz, hkp⟩, stp⟩ := hr U hU XU
  cases hv
  rw [h0] at hz hkp
  rw [zw_ad (fun k sh hs => zE_ad hok had k sh hs) had] at hP1 hD1
  have hS' : va_S (zA (x_G Γ)) (x_s Γ).heap U'.heap (locs ++ L) := ⟨Nat.le_trans hS.1 (by rw [e1]; exact hz), fun q h1 h2 => by rw [e1, hkp q (Nat.lt_of_lt_of_le h1 hS.1) h2]; exact hS.2.1 q h1 h2, fun q hq => by
      rcases List.mem_append.mp hq with h | h
      · exact hS.2.2 q h
      · exact hLf q h⟩
  have hws : zWs (r.toList ++ st) := fun v hv => by
    rcases List.mem_append.mp hv with h | h
    · exact (hsc v (by simpa using h)).1
    · exact h2 v h
  obtain ⟨t2, a1, b1⟩ := kk r μ' hRp U'.heap (locs ++ L) ls (by rw [e1]; exact hP1) hD1 hS' hL hW1 h1 hws U' rfl X'
  refine ⟨t2, stp t2 ?_, b1⟩
  rw [List.map_append] at a1
  have hrl : (Option.map (zt (x_G Γ).2.2.1 ad') r).toList = r.toList.map (zT Γ ad) := by
    cases r with
    | none => rfl
    | some v =>
      obtain ⟨-, h8, h9⟩ := hsc v rfl
      rcases v with x | x | x | x
      · rfl
      · rfl
      · simp [zref] at h8
      · rfl
  rw [hrl]
  exact a1
theorem zg_in {w : Cond} (h : w ∈ zTb) : w ∈ zTb ∧ ((w.onTables && w.keeps) = true ∨ ∃ ty, w = .arrayClass ty) := ⟨h, zTb_good h⟩
theorem zc_V (hl : zLkV own ix y nA) (hd' : d' + 1 ≤ d) (X : zX Γ own cc nL d) (hsp : zSp d' mc ms y T (vr q :: as) μ T' Rp) {fs : List zF} {ci : Nat} {r0 : vw_C} (hT : T[q]? = some (.inl (ci, fs))) (hci : zCl[ci]? = some r0) (hcl : r0.1 = y.1.cls) (hn : as.length = nA) (hst : zcs st ≤ 8) (hdg : decode cc pc = .ok (.invokevirtual ix, 3)) (hce : ce + mc ≤ (x_R Γ).cells) (hsl : sl + ms ≤ (x_R Γ).slots)
    {H : Heap} {locs : List Loc} {ls : Array Slot} (hP : va_P (x_G Γ).1 zCl (zw (x_G Γ).2.1 ad T μ) H) (hD : va_D (zA (x_G Γ)) (zw (x_G Γ).2.1 ad T μ)) (hS : va_S (zA (x_G Γ)) (x_s Γ).heap H locs) (hL : zLR ls nL (x_G Γ).2.2.1 ad ρ) (hW : zWF T μ) (h2 : zWs (as.reverse ++ vr q :: st)) :
    va_Run (x_p Γ) (x_l Γ) (x_e Γ) (x_R Γ) (x_s Γ) (x_m Γ) (x_a Γ) (x_b Γ) (x_M Γ) (x_c Γ) H locs ce sl mc ms (F0 (x_m Γ) pc ls ((as.reverse ++ vr q :: st).map (zT Γ ad))) (st.map (zT Γ ad)) (zPost (x_G Γ) T ad T' Rp ((vr q :: as).map (zT Γ ad)).toArray) (zA (x_G Γ)) := by
  obtain ⟨l1, l2, l3, l4, l5, l6, l7⟩ := hl
  have hgd : GoodIn zTb (wsV own ix y.1.cls y.1 (zws y)) := fun w hw => by
    unfold wsV at hw
    rcases List.mem_append.mp hw with hw | hw
    · simp only [List.mem_cons, List.not_mem_nil, or_false] at hw
      rcases hw with rfl | rfl | rfl | rfl
      · exact zg_in l1
      · exact zg_in l2
      · exact zg_in l3
      · exact zg_in l4
    · exact zws_good l5 w hw
  have hv : zWs (vr q :: as) := (zws_split h2).1.cons (v := vr q) trivial
  exact va_runV (b := ad q) (As := as.map (zT Γ ad)) (rest := st.map (zT Γ ad)) X.fix (hsp (x_l Γ) (x_G Γ) ad) (cwV nA X.2.2.2.2.1 hgd rfl rfl rfl ⟨rfl, l6⟩ (zroom X l7 hd')) ⟨zPre.blind, by rw [← hcl]; exact va_recv X.2.2.2.2.2.1.1 hP hci (zw_get hT), fun U hU hw => zpre (vs := vr q :: as) X hP hD hS hW hv U hU hw⟩ rfl (by rw [List.length_map]; exact hn) hL.1 (by show List.map _ _ = _; rw [List.map_append, List.map_reverse]; rfl) (by rw [zt_cs]; show 2 * 0 + _ ≤ 8; omega) hdg ⟨hce, hsl⟩
theorem zc_S (hl : zLkS own ix y nA) (hd' : d' + 1 ≤ d) (X : zX Γ own cc nL d) (hsp : zSp d' mc ms y T as μ T' Rp) (hn : as.length = nA) (hst : zcs st ≤ 8) (hdg : decode cc pc = .ok (.invokestatic ix, 3)) (hce : ce + mc ≤ (x_R Γ).cells) (hsl : sl + ms ≤ (x_R Γ).slots)
    {H : Heap} {locs : List Loc} {ls : Array Slot} (hP : va_P (x_G Γ).1 zCl (zw (x_G Γ).2.1 ad T μ) H) (hD : va_D (zA (x_G Γ)) (zw (x_G Γ).2.1 ad T μ)) (hS : va_S (zA (x_G Γ)) (x_s Γ).heap H locs) (hL : zLR ls nL (x_G Γ).2.2.1 ad ρ) (hW : zWF T μ) (h2 : zWs (as.reverse ++ st)) :
    va_Run (x_p Γ) (x_l Γ) (x_e Γ) (x_R Γ) (x_s Γ) (x_m Γ) (x_a Γ) (x_b Γ) (x_M Γ) (x_c Γ) H locs ce sl mc ms (F0 (x_m Γ) pc ls ((as.reverse ++ st).map (zT Γ ad))) (st.map (zT Γ ad)) (zPost (x_G Γ) T ad T' Rp (as.map (zT Γ ad)).toArray) (zA (x_G Γ)) := by
  obtain ⟨l1, l2, l4, l5, l6, l7⟩ := hl
  have hgd : GoodIn zTb (va_wsS own ix y.1 (zws y)) := fun w hw => by
    unfold va_wsS at hw
    rcases List.mem_append.mp hw with hw | hw
    · simp only [List.mem_cons, List.not_mem_nil, or_false] at hw
      rcases hw with rfl | rfl | rfl
      · exact zg_in l1
      · exact zg_in l2
      · exact zg_in l4
    · exact zws_good l5 w hw
  exact va_runS (As := as.map (zT Γ ad)) (rest := st.map (zT Γ ad)) X.fix (hsp (x_l Γ) (x_G Γ) ad) (va_cwS nA X.2.2.2.2.1 hgd rfl rfl rfl l6 (zroom X l7 hd')) ⟨zPre.blind, fun U hU hw => zpre (vs := as) X hP hD hS hW (zws_split h2).1 U hU hw⟩ rfl (by rw [List.length_map]; exact hn) hL.1 (by show List.map _ _ = _; rw [List.map_append, List.map_reverse]) (by rw [zt_cs]; show 2 * 0 + _ ≤ 8; omega) hdg ⟨hce, hsl⟩
theorem zc_N (hl : zLkN own ix y nA) (hd' : d' + 1 ≤ d) (X : zX Γ own cc nL d) (hsp : zSp d' mc ms y T as μ T' Rp) (hn : as.length = nA) (hst : zcs st ≤ 8) (hdg : decode cc pc = .ok (.invokestatic ix, 3)) (hce : ce + mc ≤ (x_R Γ).cells) (hsl : sl + ms ≤ (x_R Γ).slots)
    {H : Heap} {locs : List Loc} {ls : Array Slot} (hP : va_P (x_G Γ).1 zCl (zw (x_G Γ).2.1 ad T μ) H) (hD : va_D (zA (x_G Γ)) (zw (x_G Γ).2.1 ad T μ)) (hS : va_S (zA (x_G Γ)) (x_s Γ).heap H locs) (hL : zLR ls nL (x_G Γ).2.2.1 ad ρ) (hW : zWF T μ) (h2 : zWs (as.reverse ++ st)) :
    va_Run (x_p Γ) (x_l Γ) (x_e Γ) (x_R Γ) (x_s Γ) (x_m Γ) (x_a Γ) (x_b Γ) (x_M Γ) (x_c Γ) H locs ce sl mc ms (F0 (x_m Γ) pc ls ((as.reverse ++ st).map (zT Γ ad))) (st.map (zT Γ ad)) (zPost (x_G Γ) T ad T' Rp (as.map (zT Γ ad)).toArray) (zA (x_G Γ)) := by
  obtain ⟨⟨host, l1⟩, l2, l4, l5, l6, l7⟩ := hl
  have hts := X.2.2.2.2.1
  exact va_runSN (host := host) (As := as.map (zT Γ ad)) (rest := st.map (zT Γ ad)) X.fix (hsp (x_l Γ) (x_G Γ) ad) ⟨va_cnB nA hts (zws_good l5) rfl rfl rfl (X.2.2.2.2.2.1.2.1 _ l1 rfl) (hts _ l4) l6 (zroom X l7 hd'), hts _ l2, trivial⟩ ⟨zPre.blind, fun U hU hw => zpre (vs := as) X hP hD hS hW (zws_split h2).1 U hU hw⟩ rfl (by rw [List.length_map]; exact hn) hL.1 (by show List.map _ _ = _; rw [List.map_append, List.map_reverse]) (by rw [zt_cs]; show 2 * 0 + _ ≤ 8; omega) hdg ⟨hce, hsl⟩
theorem zc_I (hl : zLkI own ix y nA) (hd' : d' + 1 ≤ d) (X : zX Γ own cc nL d) (hsp : zSp d' mc ms y T (vr q :: as) μ T' Rp) (hn : as.length = nA) (hst : zcs st ≤ 8) (hdg : decode cc pc = .ok (.invokespecial ix, 3)) (hce : ce + mc ≤ (x_R Γ).cells) (hsl : sl + ms ≤ (x_R Γ).slots)
    {H : Heap} {locs : List Loc} {ls : Array Slot} (hP : va_P (x_G Γ).1 zCl (zw (x_G Γ).2.1 ad T μ) H) (hD : va_D (zA (x_G Γ)) (zw (x_G Γ).2.1 ad T μ)) (hS : va_S (zA (x_G Γ)) (x_s Γ).heap H locs) (hL : zLR ls nL (x_G Γ).2.2.1 ad ρ) (hW : zWF T μ) (h2 : zWs (as.reverse ++ vr q :: st)) :
    va_Run (x_p Γ) (x_l Γ) (x_e Γ) (x_R Γ) (x_s Γ) (x_m Γ) (x_a Γ) (x_b Γ) (x_M Γ) (x_c Γ) H locs ce sl mc ms (F0 (x_m Γ) pc ls ((as.reverse ++ vr q :: st).map (zT Γ ad))) (st.map (zT Γ ad)) (zPost (x_G Γ) T ad T' Rp ((vr q :: as).map (zT Γ ad)).toArray) (zA (x_G Γ)) := by
  obtain ⟨l1, l2, l3, l4, l5, l6, l7, l8⟩ := hl
  have hts := X.2.2.2.2.1
  have hv : zWs (vr q :: as) := (zws_split h2).1.cons (v := vr q) trivial
  rcases l1 with ⟨host, l1⟩ | l1
  · have cn := va_cnB (R := x_R Γ) (s := x_s Γ) (args := x_a Γ) (ret := y.2.2.2) nA hts (zws_good l5) rfl (rm := { frames := d', cells := mc, slots := ms, locals := 40 * d' }) rfl rfl (X.2.2.2.2.2.1.2.1 _ l1 rfl) (hts _ l4) l6 (zroom X l7 hd')
    rw [l8] at cn
    exact va_runIN (host := host) (b := ad q) (As := as.map (zT Γ ad)) (rest := st.map (zT Γ ad)) X.fix (hsp (x_l Γ) (x_G Γ) ad) ⟨cn, l3, hts _ l2⟩ ⟨zPre.blind, fun U hU hw => zpre (vs := vr q :: as) X hP hD hS hW hv U hU hw⟩ rfl (by rw [List.length_map]; exact hn) hL.1 (by show List.map _ _ = _; rw [List.map_append, List.map_reverse]; rfl) (by rw [zt_cs]; show 2 * 0 + _ ≤ 8; omega) hdg ⟨hce, hsl⟩
  · have hw : zws y = Cond.code y.1 y.2.1 y.2.2.1 none :: zTb := by unfold zws; rw [l8]
    exact va_runI (b := ad q) (As := as.map (zT Γ ad)) (rest := st.map (zT Γ ad)) X.fix (hsp (x_l Γ) (x_G Γ) ad) (cwI nA hts (zws_good l5) hw rfl rfl (hts _ l4) (hts _ l1) (hts _ l2) l3 l6 (zroom X l7 hd')) ⟨zPre.blind, fun U hU hw => zpre (vs := vr q :: as) X hP hD hS hW hv U hU hw⟩ rfl (by rw [List.length_map]; exact hn) hL.1 (by show List.map _ _ = _; rw [List.map_append, List.map_reverse]; rfl) (by rw [zt_cs]; show 2 * 0 + _ ≤ 8; omega) hdg ⟨hce, hsl⟩
/-- calls that make no cell -/
theorem zi_V (X : zX Γ own cc nL d) (hok : zTok T = true) (hl : zLkV own ix y nA) (hd' : d' + 1 ≤ d) (hsp : zSp d' 0 0 y T (vr q :: as) μ T Rp) {fs : List zF} {ci : Nat} {r0 : vw_C} (hT : T[q]? = some (.inl (ci, fs))) (hci : zCl[ci]? = some r0) (hcl : r0.1 = y.1.cls) (hn : as.length = nA) (hst : zcs st ≤ 8) (hdg : decode cc pc = .ok (.invokevirtual ix, 3)) (hce : ce ≤ (x_R Γ).cells) (hsl : sl ≤ (x_R Γ).slots)
    (kk : ∀ (r : Option zV) (μ' : zMem), Rp r μ' → zG Γ nL ce sl T ad (pc + 3) ρ (r.toList ++ st) μ') : zG Γ nL ce sl T ad pc ρ (as.reverse ++ vr q :: st) μ :=
  fun H locs ls hP hD hS hL hW h1 h2 => zc_onS hok X hS hL h1 (zws_split h2).2.tl (zc_V hl hd' X hsp hT hci hcl hn hst hdg hce hsl hP hD hS hL hW h2) kk
theorem zi_S (X : zX Γ own cc nL d) (hok : zTok T = true) (hl : zLkS own ix y nA) (hd' : d' + 1 ≤ d) (hsp : zSp d' 0 0 y T as μ T Rp) (hn : as.length = nA) (hst : zcs st ≤ 8) (hdg : decode cc pc = .ok (.invokestatic ix, 3)) (hce : ce ≤ (x_R Γ).cells) (hsl : sl ≤ (x_R Γ).slots)
    (kk : ∀ (r : Option zV) (μ' : zMem), Rp r μ' → zG Γ nL ce sl T ad (pc + 3) ρ (r.toList ++ st) μ') : zG Γ nL ce sl T ad pc ρ (as.reverse ++ st) μ :=
  fun H locs ls hP hD hS hL hW h1 h2 => zc_onS hok X hS hL h1 (zws_split h2).2 (zc_S hl hd' X hsp hn hst hdg hce hsl hP hD hS hL hW h2) kk
theorem zi_N (X : zX Γ own cc nL d) (hok : zTok T = true) (hl : zLkN own ix y nA) (hd' : d' + 1 ≤ d) (hsp : zSp d' 0 0 y T as μ T Rp) (hn : as.length = nA) (hst : zcs st ≤ 8) (hdg : decode cc pc = .ok (.invokestatic ix, 3)) (hce : ce ≤ (x_R Γ).cells) (hsl : sl ≤ (x_R Γ).slots)
    (kk : ∀ (r : Option zV) (μ' : zMem), Rp r μ' → zG Γ nL ce sl T ad (pc + 3) ρ (r.toList ++ st) μ') : zG Γ nL ce sl T ad pc ρ (as.reverse ++ st) μ :=
  fun H locs ls hP hD hS hL hW h1 h2 => zc_onS hok X hS hL h1 (zws_split h2).2 (zc_N hl hd' X hsp hn hst hdg hce hsl hP hD hS hL hW h2) kk
/-- a maker's call -/
theorem zi_I (X : zX Γ own cc nL d) (hl : zLkI own ix y nA) (hd' : d' + 1 ≤ d) (hsp : zSp d' mc ms y T (vr q :: as) μ T' Rp) (hn : as.length = nA) (hst : zcs st ≤ 8) (hdg : decode cc pc = .ok (.invokespecial ix, 3)) (hce : ce + mc ≤ (x_R Γ).cells) (hsl : sl + ms ≤ (x_R Γ).slots) (hk : ∀ v, (v ∈ ρ ∨ v ∈ st) → ∀ k, v = vr k → k < T.length)
    (kk : ∀ (r : Option zV) (ad' : Nat → Nat) (μ' : zMem), Rp r μ' → (∀ k, k < T.length → ad' k = ad k) → zG Γ nL (ce + mc) (sl + ms) T' ad' (pc + 3) ρ (r.toList ++ st) μ') : zG Γ nL ce sl T ad pc ρ (as.reverse ++ vr q :: st) μ :=
  fun H locs ls hP hD hS hL hW h1 h2 => zc_on rfl X hS hL h1 (zws_split h2).2.tl (zc_I hl hd' X hsp hn hst hdg hce hsl hP hD hS hL hW h2) hk kk
end ZC
