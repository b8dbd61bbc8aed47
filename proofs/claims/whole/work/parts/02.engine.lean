theorem zz_ofadd (a b : Int) : Int32.ofInt (a + b) = Int32.ofInt a + Int32.ofInt b := Int32.ofInt_add a b
theorem zz_ofsub (a b : Int) : Int32.ofInt (a - b) = Int32.ofInt a - Int32.ofInt b := Int32.ofInt_sub a b
theorem zz_ofmul (a b : Int) : Int32.ofInt (a * b) = Int32.ofInt a * Int32.ofInt b := Int32.ofInt_mul a b
theorem zz_ofneg (a : Int) : Int32.ofInt (-a) = -Int32.ofInt a := Int32.ofInt_neg a
abbrev zV : Type := Int ⊕ (Int ⊕ (Nat ⊕ Nat))
abbrev vi (n : Int) : zV := .inl n
abbrev vl (n : Int) : zV := .inr (.inl n)
abbrev vr (k : Nat) : zV := .inr (.inr (.inl k))
abbrev vx (k : Nat) : zV := .inr (.inr (.inr k))
abbrev zMem : Type := Nat → Int → Int
/-- a field: a number (0: int, 1: boolean), or a cell -/
abbrev zF : Type := Nat ⊕ Option Nat
/-- a cell's form: an object of a type, with fields; a row of a kind, its length, its cells -/
abbrev zSh : Type := (Nat × List zF) ⊕ (Nat × Nat × List (Option Nat))
/-- D, the row types, what lies outside, the texts' bytes, where the world begins -/
abbrev zG0 : Type := va_G × (Nat → ClassId) × (Nat → Nat) × (Nat → Nat) × Nat
def zt (ex ad : Nat → Nat) : zV → Value
  | .inl n => .int (Int32.ofInt n)
  | .inr (.inl n) => .long (Int64.ofInt n)
  | .inr (.inr (.inl k)) => .ref (ad k)
  | .inr (.inr (.inr k)) => .ref (ex k)
def zcat : zV → Nat
  | .inr (.inl _) => 2
  | _ => 1
theorem zt_cat (ex ad : Nat → Nat) (v : zV) : (zt ex ad v).category = zcat v := by
  rcases v with n | n | k | k <;> rfl
def zcs (st : List zV) : Nat := (st.map zcat).sum
theorem zt_cs (ex ad : Nat → Nat) (st : List zV) : ((st.map (zt ex ad)).map fun v => v.category).sum = zcs st := by
  rw [List.map_map]
  unfold zcs
  congr 1
  exact List.map_congr_left (fun v _ => zt_cat ex ad v)
def zEF (ad : Nat → Nat) (n : Int) : zF → Value
  | .inl _ => .int (Int32.ofInt n)
  | .inr none => .null
  | .inr (some k) => .ref (ad k)
def zEA (ad : Nat → Nat) (f : Int → Int) (t : Nat) (rs : List (Option Nat)) : ((Nat → Int32) ⊕ (Nat → Int64) ⊕ (Nat → UInt32) ⊕ (Nat → UInt64) ⊕ (Nat → Option Nat)) :=
  if t ≤ 2 then .inl (fun j => Int32.ofInt (f j)) else if t = 3 then .inr (.inl (fun j => Int64.ofInt (f j))) else .inr (.inr (.inr (.inr (fun j => (rs.getD j none).map ad))))
def zE (aT : Nat → ClassId) (ad : Nat → Nat) (f : Int → Int) : zSh → va_E
  | .inl (ci, fs) => .inr (ci, fs.mapIdx (fun (j : Nat) x => zEF ad (f j) x))
  | .inr (t, n, rs) => .inl (aT t, n, zEA ad f t rs)
def zw (aT : Nat → ClassId) (ad : Nat → Nat) (T : List zSh) (μ : zMem) : va_W := T.mapIdx (fun k sh => (ad k, zE aT ad (μ k) sh))
theorem zw_get {aT : Nat → ClassId} {ad : Nat → Nat} {T : List zSh} {μ : zMem} {k : Nat} {sh : zSh} (h : T[k]? = some sh) : (zw aT ad T μ)[k]? = some (ad k, zE aT ad (μ k) sh) := by
  unfold zw
  rw [List.getElem?_mapIdx, h]
  rfl
/-- one place of the memory -/
def zm (μ : zMem) (k : Nat) (j v : Int) : zMem := fun a i => if a = k ∧ i = j then v else μ a i
theorem zm_s {μ : zMem} {k : Nat} {j v : Int} : zm μ k j v k j = v := by simp [zm]
theorem zm_k {μ : zMem} {k a : Nat} {j v i : Int} (h : a ≠ k) : zm μ k j v a i = μ a i := by simp [zm, h]
theorem zm_j {μ : zMem} {k a : Nat} {j v i : Int} (h : i ≠ j) : zm μ k j v a i = μ a i := by simp [zm, h]
theorem zw_set {aT : Nat → ClassId} {ad : Nat → Nat} {T T' : List zSh} {μ μ' : zMem} {k : Nat} {sh : zSh} {e : va_E} (h : T'[k]? = some sh) (hl : T'.length = T.length) (hT : ∀ i, i ≠ k → T'[i]? = T[i]?) (hμ : ∀ i, i ≠ k → μ' i = μ i) (he : e = zE aT ad (μ' k) sh) : (zw aT ad T μ).set k (ad k, e) = zw aT ad T' μ' := by
  apply List.ext_getElem?
  intro i
  rw [List.getElem?_set]
  by_cases hi : k = i
  · subst hi
    have hk : k < T'.length := (List.getElem?_eq_some_iff.mp h).1
    rw [if_pos rfl, zw_get h, if_pos (by unfold zw; rw [List.length_mapIdx]; omega), he]
  · rw [if_neg hi]
    unfold zw
    rw [List.getElem?_mapIdx, List.getElem?_mapIdx, hT i (Ne.symm hi), hμ i (Ne.symm hi)]
def zI (n : Int) : Prop := -2147483648 ≤ n ∧ n ≤ 2147483647
def zL (n : Int) : Prop := -9223372036854775808 ≤ n ∧ n ≤ 9223372036854775807
/-- what a place may hold -/
def zOk (sh : zSh) (j n : Int) : Prop := match sh with
  | .inl (_, fs) => if fs[j.toNat]? = some (.inl 1) then n = 0 ∨ n = 1 else zI n
  | .inr (t, _, _) => if t = 0 then zI n else if t = 1 then -128 ≤ n ∧ n ≤ 127 else if t = 2 then n = 0 ∨ n = 1 else if t = 3 then zL n else True
def zWF (T : List zSh) (μ : zMem) : Prop := ∀ k sh, T[k]? = some sh → ∀ j, zOk sh j (μ k j)
def zWv : zV → Prop
  | .inl n => zI n
  | .inr (.inl n) => zL n
  | _ => True
def zWs (l : List zV) : Prop := ∀ v ∈ l, zWv v
theorem zWs.tl {v : zV} {l : List zV} (h : zWs (v :: l)) : zWs l := fun x hx => h x (List.mem_cons_of_mem _ hx)
theorem zWs.hd {v : zV} {l : List zV} (h : zWs (v :: l)) : zWv v := h v List.mem_cons_self
theorem zWs.cons {v : zV} {l : List zV} (h : zWs l) (hv : zWv v) : zWs (v :: l) := fun x hx => by
  rcases List.mem_cons.mp hx with rfl | hx
  · exact hv
  · exact h x hx
def zLR (ls : Array Slot) (nL : Nat) (ex ad : Nat → Nat) (ρ : List zV) : Prop := ls.size = nL ∧ lv_wf ls ∧ ∀ (i : Nat) (v : zV), ρ[i]? = some v → v ≠ vx 0 → ls[i]? = some (.val (zt ex ad v))
/-- the listed places, as the kit's rows want them -/
def zlv (ex ad : Nat → Nat) (ρ : List zV) : List (Nat × Value) := (List.range ρ.length).filterMap (fun i => match ρ[i]? with | some v => if v = vx 0 then none else some (i, zt ex ad v) | none => none)
theorem zlv_mem {ex ad : Nat → Nat} {ρ : List zV} {q : Nat × Value} : q ∈ zlv ex ad ρ ↔ ∃ v, ρ[q.1]? = some v ∧ v ≠ vx 0 ∧ q.2 = zt ex ad v := by
  unfold zlv
  rw [List.mem_filterMap]
  constructor
  · rintro ⟨i, hi, h⟩
    cases hv : ρ[i]? with
    | none => rw [hv] at h; cases h
    | some v =>
      rw [hv] at h
      dsimp only at h
      by_cases hx : v = vx 0
      · rw [if_pos hx] at h; cases h
      · rw [if_neg hx] at h
        cases h
        exact ⟨v, hv, hx, rfl⟩
  · rintro ⟨v, hv, hx, he⟩
    refine ⟨q.1, List.mem_range.mpr (List.getElem?_eq_some_iff.mp hv).1, ?_⟩
    rw [hv]
    dsimp only
    rw [if_neg hx, ← he]
theorem zLR.has {ls : Array Slot} {nL : Nat} {ex ad : Nat → Nat} {ρ : List zV} (h : zLR ls nL ex ad ρ) : lv_has ls nL (zlv ex ad ρ) := by
  refine ⟨h.1, h.2.1, fun q hq => ?_⟩
  obtain ⟨v, h1, h2, h3⟩ := zlv_mem.mp hq
  rw [h3]
  exact h.2.2 _ _ h1 h2
def zlong : Option zV → Bool
  | some (.inr (.inl _)) => true
  | _ => false
/-- storing one word: no two-word value stands just ahead -/
def zfree (ρ : List zV) (i : Nat) : Prop := i < ρ.length ∧ match i with
  | 0 => True
  | j + 1 => zlong ρ[j]? = false
theorem zcat2 {ex ad : Nat → Nat} {v : zV} (h : (zt ex ad v).category = 2) : zlong (some v) = true := by
  rcases v with n | n | k | k <;> first | rfl | (simp [zt, Value.category] at h)
theorem zLR.set1 {ls' : Array Slot} {nL : Nat} {ex ad : Nat → Nat} {ρ : List zV} {i : Nat} {v : zV} {x : Value} (hf : zfree ρ i) (hx : x = zt ex ad v) (h : lv_has ls' nL ((i, x) :: (zlv ex ad ρ).filter (fun q => !(q.1 == i) && !(q.1 + 1 == i && q.2.category == 2)))) : zLR ls' nL ex ad (ρ.set i v) := by
  obtain ⟨h1, h2, h3⟩ := h
  refine ⟨h1, h2, fun j w hj hw => ?_⟩
  rw [List.getElem?_set] at hj
  by_cases e : i = j
  · subst e
    rw [if_pos rfl, if_pos hf.1] at hj
    cases hj
    rw [← hx]
    exact h3 _ List.mem_cons_self
  · rw [if_neg e] at hj
    refine h3 (j, zt ex ad w) (List.mem_cons_of_mem _ (List.mem_filter.mpr ⟨zlv_mem.mpr ⟨w, hj, hw, rfl⟩, ?_⟩))
    have e1 : (j == i) = false := by simp; omega
    have e2 : (j + 1 == i && (zt ex ad w).category == 2) = false := by
      by_cases e3 : j + 1 = i
      · subst e3
        have := hf.2
        dsimp only at this
        rw [hj] at this
        cases hc : ((zt ex ad w).category == 2) with
        | false => simp
        | true =>
          have := zcat2 (by simpa using hc)
          simp_all
      · simp [e3]
    simp [e1, e2]
theorem zLR.set2 {ls' : Array Slot} {nL : Nat} {ex ad : Nat → Nat} {ρ : List zV} {i : Nat} {n : Int} (hf : zfree ρ i) (h : lv_has ls' nL ((i, Value.long (Int64.ofInt n)) :: (zlv ex ad ρ).filter (fun q => !(q.1 == i) && (!(q.1 == i + 1) && !(q.1 + 1 == i && q.2.category == 2))))) : zLR ls' nL ex ad ((ρ.set i (vl n)).set (i + 1) (vx 0)) := by
  obtain ⟨h1, h2, h3⟩ := h
  refine ⟨h1, h2, fun j w hj hw => ?_⟩
  rw [List.getElem?_set] at hj
  by_cases e0 : i + 1 = j
  · subst e0
    rw [if_pos rfl] at hj
    split at hj
    · cases hj; exact absurd rfl hw
    · cases hj
  rw [if_neg e0, List.getElem?_set] at hj
  by_cases e : i = j
  · subst e
    rw [if_pos rfl, if_pos hf.1] at hj
    cases hj
    exact h3 _ List.mem_cons_self
  · rw [if_neg e] at hj
    refine h3 (j, zt ex ad w) (List.mem_cons_of_mem _ (List.mem_filter.mpr ⟨zlv_mem.mpr ⟨w, hj, hw, rfl⟩, ?_⟩))
    have e1 : (j == i) = false := by simp; omega
    have e4 : (j == i + 1) = false := by simp; omega
    have e2 : (j + 1 == i && (zt ex ad w).category == 2) = false := by
      by_cases e3 : j + 1 = i
      · subst e3
        have := hf.2
        dsimp only at this
        rw [hj] at this
        cases hc : ((zt ex ad w).category == 2) with
        | false => simp
        | true =>
          have := zcat2 (by simpa using hc)
          simp_all
      · simp [e3]
    simp [e1, e2, e4]
