def zisNest : Cond → Bool
  | .methodLinkNest .. => true
  | _ => false
abbrev zTys (aT : Nat → ClassId) : List (ClassId × FieldType) := [(aT 0, .int), (aT 1, .byte), (aT 2, .boolean), (aT 3, .long), (aT 4, .array .int), (aT 5, .object "DebtDoors$Town"), (aT 6, .object "DebtDoors$Ledger")]
def zSix : List Nat := [94, 106, 114, 118, 120, 122, 130, 142, 144, 161, 163]
def zSt : List String := ["depth grows sells bars", "lend repay wait", "to", "of", "times", "if", "or", "and", "not", "owner visitor owes back rooms wary amount age day mood", "day debts done last purse owed"]
def zSby : List (List Int32) := zSt.map (fun t => t.toList.map (fun c => Int32.ofNat c.toNat))
def zSlen : List Nat := zSt.map (fun t => t.length)
/-- the cells that may be written: those of the world, and new ones -/
def zA (G : zG0) : Nat → Prop := fun q => G.2.2.2.2 ≤ q
/-- the texts and the statics that lie outside -/
def zAOs (U : State) : Prop := va_AO "DebtDoors$Town" U ∧ va_AO "DebtDoors$Ledger" U ∧ (Cond.arrayOver (.array .int)).before #[] U = true
theorem zAOs.moved {u U : State} (hvm : u.vm.Alike U.vm) (h : zAOs u) : zAOs U := ⟨h.1.moved hvm, h.2.1.moved hvm, Stand.arrayOver_alikeB hvm h.2.2⟩
def zStr (G : zG0) (U : State) (H : Heap) : Prop := vk_S 11 zSlen zSby (fun i => G.2.2.1 (2 + i)) (fun i => G.2.2.1 (13 + i)) (zA G) U H ∧ (∀ i, i < 11 → vk_R "DebtDoors$Reader" (zSix.getD i 0) (zSt.getD i "") (G.2.2.1 (2 + i)) U) ∧ va_Z "java/lang/String" "COMPACT_STRINGS" "Z" (.int 1) (zA G) U H ∧ ∃ v, va_Z "jdk/internal/util/Preconditions" "SIOOBE_FORMATTER" "Ljava/util/function/BiFunction;" v (zA G) U H ∧ ((v = .null ∨ ∃ a, v = .ref a) ∧ zAOs U)
def zXt (G : zG0) (U : State) (H : Heap) : Prop := va_K G.1 zCl (zTys G.2.1) U ∧ (∀ w ∈ lw_tbl, zisNest w = true → va_Nw w U) ∧ zStr G U H
theorem zXt.warm {G : zG0} {s U : State} {H : Heap} (hW : s.WarmedH U.vm) (h : zXt G s H) : zXt G U H := by
  obtain ⟨h1, h2, h3, h4, h5, v, h6, h7⟩ := h
  refine ⟨va_K.moved hW.alike h1, fun w hw hn => ?_, vk_S.moved hW.alike h3, fun i hi => vk_R.warm hW (h4 i hi), h5.moved hW.alike, v, h6.moved hW.alike, h7.1, h7.2.moved hW.alike⟩
  have := h2 w hw hn
  cases w <;> first | (simp [zisNest] at hn; done) | exact va_Nw.warmM hW this
theorem zXt.kept {G : zG0} {U : State} {H H1 : Heap} (h : zXt G U H) (hq : ∀ a : Nat, a < H.size → ¬ zA G a → H1[a]? = H[a]?) : zXt G U H1 := by
  obtain ⟨h1, h2, h3, h4, h5, v, h6, h7⟩ := h
  exact ⟨h1, h2, h3.kept hq, h4, h5.kept hq, v, h6.kept hq, h7⟩
theorem zXt.same {G : zG0} {u U : State} {H : Heap} (hv : u.vm = U.vm) (h : zXt G u H) : zXt G U H := by
  obtain ⟨h1, h2, h3, h4, h5, v, h6, h7⟩ := h
  have ha : u.vm.Alike U.vm := by rw [hv]; exact Vm.Alike.refl _
  refine ⟨va_K.moved ha h1, fun w hw hn => ?_, vk_S.moved ha h3, fun i hi => vk_R.same hv.symm (h4 i hi), h5.moved ha, v, h6.moved ha, h7.1, h7.2.moved ha⟩
  have := h2 w hw hn
  cases w <;> first | (simp [zisNest] at hn; done) | exact va_Nw.same rfl hv this
/-- all that a body's walk is in: program, launch, environment, room, start, method, arguments, frames below, method, code, goal, world -/
abbrev zCx : Type := Program × Launch × Jvm.Env × Room × State × MethodId × Array Value × List Frame × Method × Code × (State → Prop) × zG0
abbrev x_p (Γ : zCx) : Program := Γ.1
abbrev x_l (Γ : zCx) : Launch := Γ.2.1
abbrev x_e (Γ : zCx) : Jvm.Env := Γ.2.2.1
abbrev x_R (Γ : zCx) : Room := Γ.2.2.2.1
abbrev x_s (Γ : zCx) : State := Γ.2.2.2.2.1
abbrev x_m (Γ : zCx) : MethodId := Γ.2.2.2.2.2.1
abbrev x_a (Γ : zCx) : Array Value := Γ.2.2.2.2.2.2.1
abbrev x_b (Γ : zCx) : List Frame := Γ.2.2.2.2.2.2.2.1
abbrev x_M (Γ : zCx) : Method := Γ.2.2.2.2.2.2.2.2.1
abbrev x_c (Γ : zCx) : Code := Γ.2.2.2.2.2.2.2.2.2.1
abbrev x_Q (Γ : zCx) : State → Prop := Γ.2.2.2.2.2.2.2.2.2.2.1
abbrev x_G (Γ : zCx) : zG0 := Γ.2.2.2.2.2.2.2.2.2.2.2
abbrev zWW (Γ : zCx) (H : Heap) (locs : List Loc) (cells slots : Nat) (g : JFrame) : Prop := W (x_p Γ) (x_l Γ) (x_e Γ) (x_R Γ) (x_s Γ) (x_m Γ) (x_a Γ) (x_b Γ) (x_M Γ) (x_c Γ) H locs cells slots (x_Q Γ) g
abbrev zT (Γ : zCx) (ad : Nat → Nat) (v : zV) : Value := zt (x_G Γ).2.2.1 ad v
/-- from here the body comes to its goal: the counter, the places, the row of values, the memory -/
def zG (Γ : zCx) (nL cells slots : Nat) (T : List zSh) (ad : Nat → Nat) (pc : Nat) (ρ st : List zV) (μ : zMem) : Prop :=
  ∀ (H : Heap) (locs : List Loc) (ls : Array Slot), va_P (x_G Γ).1 zCl (zw (x_G Γ).2.1 ad T μ) H → va_D (zA (x_G Γ)) (zw (x_G Γ).2.1 ad T μ) → va_S (zA (x_G Γ)) (x_s Γ).heap H locs →
    zLR ls nL (x_G Γ).2.2.1 ad ρ → zWF T μ → zWs ρ → zWs st → zWW Γ H locs cells slots (F0 (x_m Γ) pc ls (st.map (zT Γ ad)))
/-- what holds of the walk: the method's type, its bytes, its places, its depth -/
def zX (Γ : zCx) (own : String) (cc : ByteArray) (nL d : Nat) : Prop :=
  (x_p Γ).tables.exec = Jvm.exec ∧ (x_c Γ).code = cc ∧ (x_c Γ).maxLocals = nL ∧ (x_s Γ).vm.findClass own = some (x_m Γ).cls ∧ (∀ w ∈ zTb, w.before (x_a Γ) (x_s Γ) = true) ∧ zXt (x_G Γ) (x_s Γ) (x_s Γ).heap ∧ (x_G Γ).2.2.2.2 ≤ (x_s Γ).heap.size ∧ d ≤ (x_R Γ).frames ∧ 40 * d ≤ (x_R Γ).locals
section ZI
variable {Γ : zCx} {own : String} {cc : ByteArray} {nL d ce sl : Nat} {T : List zSh} {ad : Nat → Nat} {pc pc' tgt i : Nat} {ρ st st' : List zV} {μ : zMem} {a b n off : Int} {v w : zV}
theorem zX.step (X : zX Γ own cc nL d) (h : ∀ (H : Heap) (locs : List Loc) (ls : Array Slot), zWW Γ H locs ce sl (F0 (x_m Γ) pc' ls (st'.map (zT Γ ad))) → zWW Γ H locs ce sl (F0 (x_m Γ) pc ls (st.map (zT Γ ad)))) (hs : zWs st → zWs st') (k : zG Γ nL ce sl T ad pc' ρ st' μ) : zG Γ nL ce sl T ad pc ρ st μ :=
  fun H locs ls hP hD hS hL hW h1 h2 => h H locs ls (k H locs ls hP hD hS hL hW h1 (hs h2))
theorem zI.r {n : Int} (h : zI n) : (Int32.ofInt n).toInt = n := Int32.toInt_ofInt_of_le h.1 (by have := h.2; omega)
theorem zI.lt {a b : Int} (ha : zI a) (hb : zI b) : Int32.ofInt a < Int32.ofInt b ↔ a < b := by rw [Int32.lt_iff_toInt_lt, ha.r, hb.r]
theorem zI.le {a b : Int} (ha : zI a) (hb : zI b) : Int32.ofInt a ≤ Int32.ofInt b ↔ a ≤ b := by rw [Int32.le_iff_toInt_le, ha.r, hb.r]
theorem zI.eq {a b : Int} (ha : zI a) (hb : zI b) : Int32.ofInt a = Int32.ofInt b ↔ a = b := by
  constructor
  · intro h; have := congrArg Int32.toInt h; rwa [ha.r, hb.r] at this
  · intro h; rw [h]
theorem zI0 : zI 0 := ⟨by decide, by decide⟩
theorem zI.tn (x : Int32) : zI x.toInt := ⟨by have := Int32.le_toInt x; omega, by have := Int32.toInt_lt x; omega⟩
theorem zL.r {n : Int} (h : zL n) : (Int64.ofInt n).toInt = n := Int64.toInt_ofInt_of_le h.1 (by have := h.2; omega)
theorem zL.lt {a b : Int} (ha : zL a) (hb : zL b) : Int64.ofInt a < Int64.ofInt b ↔ a < b := by rw [Int64.lt_iff_toInt_lt, ha.r, hb.r]
theorem zL.eq {a b : Int} (ha : zL a) (hb : zL b) : Int64.ofInt a = Int64.ofInt b ↔ a = b := by
  constructor
  · intro h; have := congrArg Int64.toInt h; rwa [ha.r, hb.r] at this
  · intro h; rw [h]
theorem zi_const (X : zX Γ own cc nL d) (hd : decode cc pc = .ok (.iconst n, 1)) (hn : zI n) (k : zG Γ nL ce sl T ad (pc + 1) ρ (vi n :: st) μ) : zG Γ nL ce sl T ad pc ρ st μ :=
  X.step (fun _ _ _ w => lv_iconst X.1 X.2.1 hd rfl w) (fun h => h.cons (v := vi n) hn) k
theorem zi_bipush (X : zX Γ own cc nL d) (hd : decode cc pc = .ok (.bipush n, 2)) (hv : (Int8.ofInt n).toInt32 = Int32.ofInt n) (hn : zI n) (k : zG Γ nL ce sl T ad (pc + 2) ρ (vi n :: st) μ) : zG Γ nL ce sl T ad pc ρ st μ :=
  X.step (fun _ _ _ w => lv_bipush X.1 X.2.1 hd hv w) (fun h => h.cons (v := vi n) hn) k
theorem zi_sipush (X : zX Γ own cc nL d) (hd : decode cc pc = .ok (.sipush n, 3)) (hv : (Int16.ofInt n).toInt32 = Int32.ofInt n) (hn : zI n) (k : zG Γ nL ce sl T ad (pc + 3) ρ (vi n :: st) μ) : zG Γ nL ce sl T ad pc ρ st μ :=
  X.step (fun _ _ _ w => lv_sipush X.1 X.2.1 hd hv w) (fun h => h.cons (v := vi n) hn) k
theorem zi_ldc (X : zX Γ own cc nL d) {ix : Nat} (hd : decode cc pc = .ok (.ldc ix, 2)) (hc : Cond.constant own ix (Int32.ofInt n) ∈ zTb) (hn : zI n) (k : zG Γ nL ce sl T ad (pc + 2) ρ (vi n :: st) μ) : zG Γ nL ce sl T ad pc ρ st μ :=
  X.step (fun _ _ _ w => lv_ldc X.1 X.2.1 X.2.2.2.1 (X.2.2.2.2.1 _ hc) hd w) (fun h => h.cons (v := vi n) hn) k
theorem zi_ldcw (X : zX Γ own cc nL d) {ix : Nat} (hd : decode cc pc = .ok (.ldc_w ix, 3)) (hc : Cond.constant own ix (Int32.ofInt n) ∈ zTb) (hn : zI n) (k : zG Γ nL ce sl T ad (pc + 3) ρ (vi n :: st) μ) : zG Γ nL ce sl T ad pc ρ st μ :=
  X.step (fun _ _ _ w => lv_ldcw X.1 X.2.1 X.2.2.2.1 (X.2.2.2.2.1 _ hc) hd w) (fun h => h.cons (v := vi n) hn) k
theorem zi_ldc2 (X : zX Γ own cc nL d) {ix : Nat} (hd : decode cc pc = .ok (.ldc2_w ix, 3)) (hc : Cond.constantLong own ix (Int64.ofInt n) ∈ zTb) (hn : zL n) (k : zG Γ nL ce sl T ad (pc + 3) ρ (vl n :: st) μ) : zG Γ nL ce sl T ad pc ρ st μ :=
  X.step (fun _ _ _ w => lv_ldc2 X.1 X.2.1 X.2.2.2.1 (X.2.2.2.2.1 _ hc) hd w) (fun h => h.cons (v := vl n) hn) k
theorem zi_lconst (X : zX Γ own cc nL d) {q : Fin 2} (hd : decode cc pc = .ok (.lconst q, 1)) (hv : Int64.ofNat (q : Nat) = Int64.ofInt n) (hn : zL n) (k : zG Γ nL ce sl T ad (pc + 1) ρ (vl n :: st) μ) : zG Γ nL ce sl T ad pc ρ st μ :=
  X.step (fun _ _ _ w => lv_lconst X.1 X.2.1 hd hv w) (fun h => h.cons (v := vl n) hn) k
theorem zi_ldcS (X : zX Γ own cc nL d) {ix : Nat} (hi : i < 11) (hx : zSix.getD i 0 = ix) (ho : own = "DebtDoors$Reader") (hd : decode cc pc = .ok (.ldc ix, 2)) (k : zG Γ nL ce sl T ad (pc + 2) ρ (vx (2 + i) :: st) μ) : zG Γ nL ce sl T ad pc ρ st μ := by
  subst ho
  refine X.step (fun _ _ _ w => va_ldcS X.1 X.2.1 X.2.2.2.1 (X.2.2.2.2.2.1.2.2.2.1 i hi) (by rw [hx]; exact hd) w) (fun h => h.cons (v := vx (2 + i)) trivial) k
theorem zi_load (X : zX Γ own cc nL d) (hd : decode cc pc = .ok (.iload i, 2)) (hr : ρ[i]? = some (vi n)) (k : zG Γ nL ce sl T ad (pc + 2) ρ (vi n :: st) μ) : zG Γ nL ce sl T ad pc ρ st μ :=
  fun H locs ls hP hD hS hL hW h1 h2 => lv_iload X.1 X.2.1 hd (hL.2.2 i _ hr (by intro h; cases h)) (k H locs ls hP hD hS hL hW h1 (h2.cons (h1 _ (List.mem_of_getElem? hr) : zWv _)))
theorem zi_loadn (X : zX Γ own cc nL d) {q : Fin 4} (hd : decode cc pc = .ok (.iload_n q, 1)) (hq : (q : Nat) = i) (hr : ρ[i]? = some (vi n)) (k : zG Γ nL ce sl T ad (pc + 1) ρ (vi n :: st) μ) : zG Γ nL ce sl T ad pc ρ st μ :=
  fun H locs ls hP hD hS hL hW h1 h2 => lv_iload_n X.1 X.2.1 hd hq (hL.2.2 i _ hr (by intro h; cases h)) (k H locs ls hP hD hS hL hW h1 (h2.cons (h1 _ (List.mem_of_getElem? hr) : zWv _)))
theorem zi_lload (X : zX Γ own cc nL d) (hd : decode cc pc = .ok (.lload i, 2)) (hr : ρ[i]? = some (vl n)) (k : zG Γ nL ce sl T ad (pc + 2) ρ (vl n :: st) μ) : zG Γ nL ce sl T ad pc ρ st μ :=
  fun H locs ls hP hD hS hL hW h1 h2 => lv_lload X.1 X.2.1 hd (hL.2.2 i _ hr (by intro h; cases h)) (k H locs ls hP hD hS hL hW h1 (h2.cons (h1 _ (List.mem_of_getElem? hr) : zWv _)))
theorem zi_lloadn (X : zX Γ own cc nL d) {q : Fin 4} (hd : decode cc pc = .ok (.lload_n q, 1)) (hq : (q : Nat) = i) (hr : ρ[i]? = some (vl n)) (k : zG Γ nL ce sl T ad (pc + 1) ρ (vl n :: st) μ) : zG Γ nL ce sl T ad pc ρ st μ :=
  fun H locs ls hP hD hS hL hW h1 h2 => lv_lload_n X.1 X.2.1 hd hq (hL.2.2 i _ hr (by intro h; cases h)) (k H locs ls hP hD hS hL hW h1 (h2.cons (h1 _ (List.mem_of_getElem? hr) : zWv _)))
/-- a value that is a cell, of the world or outside it -/
def zref : zV → Bool
  | .inr (.inr (.inl _)) => true
  | .inr (.inr (.inr (_ + 1))) => true
  | _ => false
theorem zref_t {ex : Nat → Nat} (h : zref v = true) : ∃ x : Nat, zt ex ad v = .ref x ∧ v ≠ vx 0 ∧ zWv v := by
  rcases v with n | n | k | k
  · simp [zref] at h
  · simp [zref] at h
  · exact ⟨_, rfl, (by intro h; cases h), trivial⟩
  · cases k with
    | zero => simp [zref] at h
    | succ k => exact ⟨_, rfl, (by intro h; cases h), trivial⟩
theorem zi_aload (X : zX Γ own cc nL d) (hd : decode cc pc = .ok (.aload i, 2)) (hr : ρ[i]? = some v) (hv : zref v = true) (k : zG Γ nL ce sl T ad (pc + 2) ρ (v :: st) μ) : zG Γ nL ce sl T ad pc ρ st μ := by
  intro H locs ls hP hD hS hL hW h1 h2
  obtain ⟨x, e, h3, h4⟩ := zref_t (ex := (x_G Γ).2.2.1) (ad := ad) hv
  have := k H locs ls hP hD hS hL hW h1 (h2.cons h4)
  have h5 := hL.2.2 i _ hr h3
  rw [e] at h5
  rw [List.map_cons, show zT Γ ad v = .ref x from e] at this
  exact lv_aload X.1 X.2.1 hd h5 this
theorem zi_aloadn (X : zX Γ own cc nL d) {q : Fin 4} (hd : decode cc pc = .ok (.aload_n q, 1)) (hq : (q : Nat) = i) (hr : ρ[i]? = some v) (hv : zref v = true) (k : zG Γ nL ce sl T ad (pc + 1) ρ (v :: st) μ) : zG Γ nL ce sl T ad pc ρ st μ := by
  intro H locs ls hP hD hS hL hW h1 h2
  obtain ⟨x, e, h3, h4⟩ := zref_t (ex := (x_G Γ).2.2.1) (ad := ad) hv
  have := k H locs ls hP hD hS hL hW h1 (h2.cons h4)
  have h5 := hL.2.2 i _ hr h3
  rw [e] at h5
  rw [List.map_cons, show zT Γ ad v = .ref x from e] at this
  exact lv_aload_n X.1 X.2.1 hd hq h5 this
theorem zWs.set {l : List zV} (h : zWs l) (hv : zWv v) : zWs (l.set i v) := fun x hx => by
  rcases List.mem_or_eq_of_mem_set hx with hx | rfl
  · exact h x hx
  · exact hv
theorem zi_store (X : zX Γ own cc nL d) (hd : decode cc pc = .ok (.istore i, 2)) (hf : zfree ρ i) (hn : i < nL) (k : zG Γ nL ce sl T ad (pc + 2) (ρ.set i (vi n)) st μ) : zG Γ nL ce sl T ad pc ρ (vi n :: st) μ :=
  fun H locs ls hP hD hS hL hW h1 h2 => lv_istore X.1 X.2.1 hd hL.has hn rfl (fun ls' hl => k H locs ls' hP hD hS (zLR.set1 hf rfl hl) hW (h1.set h2.hd) h2.tl)
theorem zi_storen (X : zX Γ own cc nL d) {q : Fin 4} (hd : decode cc pc = .ok (.istore_n q, 1)) (hq : (q : Nat) = i) (hf : zfree ρ i) (hn : i < nL) (k : zG Γ nL ce sl T ad (pc + 1) (ρ.set i (vi n)) st μ) : zG Γ nL ce sl T ad pc ρ (vi n :: st) μ :=
  fun H locs ls hP hD hS hL hW h1 h2 => lv_istore_n X.1 X.2.1 hd hq hL.has hn rfl (fun ls' hl => k H locs ls' hP hD hS (zLR.set1 hf rfl hl) hW (h1.set h2.hd) h2.tl)
theorem zi_lstore (X : zX Γ own cc nL d) (hd : decode cc pc = .ok (.lstore i, 2)) (hf : zfree ρ i) (hn : i + 1 < nL) (k : zG Γ nL ce sl T ad (pc + 2) ((ρ.set i (vl n)).set (i + 1) (vx 0)) st μ) : zG Γ nL ce sl T ad pc ρ (vl n :: st) μ :=
  fun H locs ls hP hD hS hL hW h1 h2 => lv_lstore X.1 X.2.1 hd hL.has hn rfl (fun ls' hl => k H locs ls' hP hD hS (zLR.set2 hf hl) hW ((h1.set h2.hd).set trivial) h2.tl)
theorem zi_lstoren (X : zX Γ own cc nL d) {q : Fin 4} (hd : decode cc pc = .ok (.lstore_n q, 1)) (hq : (q : Nat) = i) (hf : zfree ρ i) (hn : i + 1 < nL) (k : zG Γ nL ce sl T ad (pc + 1) ((ρ.set i (vl n)).set (i + 1) (vx 0)) st μ) : zG Γ nL ce sl T ad pc ρ (vl n :: st) μ :=
  fun H locs ls hP hD hS hL hW h1 h2 => lv_lstore_n X.1 X.2.1 hd hq hL.has hn rfl (fun ls' hl => k H locs ls' hP hD hS (zLR.set2 hf hl) hW ((h1.set h2.hd).set trivial) h2.tl)
theorem zi_astore (X : zX Γ own cc nL d) (hd : decode cc pc = .ok (.astore i, 2)) (hf : zfree ρ i) (hn : i < nL) (hv : zref v = true) (k : zG Γ nL ce sl T ad (pc + 2) (ρ.set i v) st μ) : zG Γ nL ce sl T ad pc ρ (v :: st) μ := by
  intro H locs ls hP hD hS hL hW h1 h2
  obtain ⟨x, e, h3, h4⟩ := zref_t (ex := (x_G Γ).2.2.1) (ad := ad) hv
  rw [List.map_cons, show zT Γ ad v = .ref x from e]
  exact lv_astore X.1 X.2.1 hd hL.has hn rfl (fun ls' hl => k H locs ls' hP hD hS (zLR.set1 hf e.symm hl) hW (h1.set h2.hd) h2.tl)
theorem zi_astoren (X : zX Γ own cc nL d) {q : Fin 4} (hd : decode cc pc = .ok (.astore_n q, 1)) (hq : (q : Nat) = i) (hf : zfree ρ i) (hn : i < nL) (hv : zref v = true) (k : zG Γ nL ce sl T ad (pc + 1) (ρ.set i v) st μ) : zG Γ nL ce sl T ad pc ρ (v :: st) μ := by
  intro H locs ls hP hD hS hL hW h1 h2
  obtain ⟨x, e, h3, h4⟩ := zref_t (ex := (x_G Γ).2.2.1) (ad := ad) hv
  rw [List.map_cons, show zT Γ ad v = .ref x from e]
  exact lv_astore_n X.1 X.2.1 hd hq hL.has hn rfl (fun ls' hl => k H locs ls' hP hD hS (zLR.set1 hf e.symm hl) hW (h1.set h2.hd) h2.tl)
theorem zi_inc (X : zX Γ own cc nL d) (hd : decode cc pc = .ok (.iinc i n, 3)) (hf : zfree ρ i) (hn : i < nL) (hr : ρ[i]? = some (vi a)) (ha : zI (a + n)) (k : zG Γ nL ce sl T ad (pc + 3) (ρ.set i (vi (a + n))) st μ) : zG Γ nL ce sl T ad pc ρ st μ := by
  intro H locs ls hP hD hS hL hW h1 h2
  have hm : (i, Value.int (Int32.ofInt a)) ∈ zlv (x_G Γ).2.2.1 ad ρ := zlv_mem.mpr ⟨_, hr, (by intro h; cases h), rfl⟩
  obtain ⟨j, hj⟩ := List.getElem?_of_mem hm
  exact lv_iinc X.1 X.2.1 hd hL.has hj rfl hn rfl (fun ls' hl => k H locs ls' hP hD hS (zLR.set1 hf (by show _ = Value.int _; rw [zz_ofadd]) hl) hW (h1.set ha) h2)
end ZI
