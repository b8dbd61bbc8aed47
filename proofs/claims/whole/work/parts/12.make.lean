/-! making cells -/
theorem zw_push {aT : Nat → ClassId} {ad : Nat → Nat} {T : List zSh} {μ : zMem} {sh : zSh} {q : Nat} {e : va_E} (hok : zTok T = true) (he : e = zE aT (va_up ad T.length q) (μ T.length) sh) : zw aT ad T μ ++ [(q, e)] = zw aT (va_up ad T.length q) (T ++ [sh]) μ := by
  have hag : ∀ k, k < T.length → va_up ad T.length q k = ad k := fun k hk => va_up_ne ad q (by omega)
  have e1 : zw aT ad T μ = zw aT (va_up ad T.length q) T μ := (zw_ad (fun k sh hs => zE_ad hok hag k sh hs) hag).symm
  rw [e1]
  apply List.ext_getElem?
  intro i
  unfold zw
  rw [List.getElem?_mapIdx]
  by_cases h : i < T.length
  · rw [List.getElem?_append_left (by rw [List.length_mapIdx]; exact h), List.getElem?_append_left h, List.getElem?_mapIdx]
  · rw [List.getElem?_append_right (by rw [List.length_mapIdx]; omega), List.getElem?_append_right (by omega), List.length_mapIdx]
    by_cases h2 : i - T.length = 0
    · rw [h2]
      have : i = T.length := by omega
      subst this
      simp [he, va_up_self]
    · have h3 : ∃ z, i - T.length = z + 1 := ⟨i - T.length - 1, by omega⟩
      obtain ⟨z, hz⟩ := h3
      rw [hz]
      rfl
def zpushOk (n : Nat) : zSh → Bool
  | .inl (_, fs) => fs.all (fun f => match f with
    | .inr (some k) => decide (k < n)
    | _ => true)
  | .inr (_, _, rs) => rs.all (fun r => match r with
    | some k => decide (k < n)
    | none => true)
section ZN
variable {Γ : zCx} {own : String} {cc : ByteArray} {nL d ce sl : Nat} {T : List zSh} {ad : Nat → Nat} {pc ix q ci k t : Nat} {ρ st : List zV} {μ : zMem} {n : Int} {fs : List zF}
theorem zLR.up {ls : Array Slot} {ex : Nat → Nat} {N q : Nat} (h : zLR ls nL ex ad ρ) (hk : ∀ v ∈ ρ, ∀ k, v = vr k → k < N) : zLR ls nL ex (va_up ad N q) ρ := ⟨h.1, h.2.1, fun i v hi hv => by
  have := h.2.2 i v hi hv
  rw [this]
  congr 2
  rcases v with x | x | x | x
  · rfl
  · rfl
  · exact congrArg Value.ref (va_up_ne ad q (by have := hk _ (List.mem_of_getElem? hi) x rfl; omega)).symm
  · rfl⟩
theorem zmap_up {N q : Nat} (hk : ∀ v ∈ st, ∀ k, v = vr k → k < N) : st.map (zT Γ (va_up ad N q)) = st.map (zT Γ ad) := List.map_congr_left (fun v hv => by
  rcases v with x | x | x | x
  · rfl
  · rfl
  · exact congrArg Value.ref (va_up_ne ad q (by have := hk _ hv x rfl; omega))
  · rfl)
/-- places and values that name cells that are there -/
def zin (N : Nat) (l : List zV) : Prop := ∀ v ∈ l, ∀ k, v = vr k → k < N
theorem zWF.push {sh : zSh} (h : zWF T μ) (hz : ∀ j, zOk sh j (μ T.length j)) : zWF (T ++ [sh]) μ := by
  intro k s hk j
  by_cases e : k < T.length
  · rw [List.getElem?_append_left e] at hk
    exact h k s hk j
  · rw [List.getElem?_append_right (by omega)] at hk
    by_cases e2 : k - T.length = 0
    · rw [e2] at hk
      cases hk
      rw [show k = T.length by omega]
      exact hz j
    · obtain ⟨z, hz⟩ : ∃ z, k - T.length = z + 1 := ⟨k - T.length - 1, by omega⟩
      rw [hz] at hk
      cases hk
theorem zin.up {N M : Nat} {l : List zV} (h : zin N l) (hM : N ≤ M) : zin M l := fun v hv k e => Nat.lt_of_lt_of_le (h v hv k e) hM
theorem zi_newarr {t0 : ArrayType} {ty : FieldType} (X : zX Γ own cc nL d) (hd : decode cc pc = .ok (.newarray t0, 2)) (hty : newarray.typeOf t0 = ty) (ht : (zTys (x_G Γ).2.1)[t]? = some ((x_G Γ).2.1 t, ty)) (ht3 : t < 4) (hw : Cond.arrayClass (newarray.typeOf t0) ∈ zTb) (hok : zTok T = true) (hρ : zin T.length ρ) (hst : zin T.length st) (h0 : 0 ≤ n) (hn : n ≤ 100000) (hz : ∀ j, μ T.length j = 0) (hce : ce + 1 ≤ (x_R Γ).cells) (hsl : sl + n.toNat ≤ (x_R Γ).slots)
    (hdef : ∀ cA : ClassId, vp_cell cA (n.toNat, zEA ad (fun _ => 0) t []) = arrV cA n.toNat (fun _ => defaultValue ty)) (hcb : componentBytes ty ≤ 8) (hzo : zOk (.inr (t, n.toNat, [])) 0 0)
    (hra : ∀ cA : ClassId, va_RA (x_s Γ) cA ty → (x_s Γ).vm.findClass ("[" ++ ty.toString) = some cA)
    (kk : ∀ q, zG Γ nL (ce + 1) (sl + n.toNat) (T ++ [.inr (t, n.toNat, [])]) (va_up ad T.length q) (pc + 2) ρ (vr T.length :: st) μ) : zG Γ nL ce sl T ad pc ρ (vi n :: st) μ := by
  intro H locs ls hP hD hS hL hW h1 h2
  have hnI : zI n := h2.hd
  have hA : ∀ q, (x_s Γ).heap.size ≤ q → zA (x_G Γ) q := fun q hq => Nat.le_trans X.2.2.2.2.2.2.1 hq
  refine va_newa X.1 X.2.1 (X.2.2.2.2.1 _ hw) hty X.2.2.2.2.2.1.1 hP hD hS hA (n := Int32.ofInt n) (N' := n.toNat) (a0 := (n.toNat, zEA ad (fun _ => 0) t [])) hdef (fun z => by have := (zI.lt hnI zI0).mp z; omega) (zz_ix h0 hnI) (Nat.le_trans (Nat.mul_le_mul (show n.toNat ≤ 100000 by omega) hcb) (Nat.le_of_ble_eq_true rfl)) hce hsl hd (fun q cA H1 hK1 hP1 hD1 hS1 => ?_)
  have hca : cA = (x_G Γ).2.1 t := by
    have e1 := hra cA ((hK1.2 7 (cA, ty) rfl).2)
    have e2 := hra _ ((X.2.2.2.2.2.1.1.2 t _ ht).2)
    exact Option.some.inj (e1.symm.trans e2)
  subst hca
  have hE : (Sum.inl ((x_G Γ).2.1 t, n.toNat, zEA ad (fun _ => 0) t []) : va_E) = zE (x_G Γ).2.1 (va_up ad T.length q) (μ T.length) (.inr (t, n.toNat, [])) := by
    have : μ T.length = fun _ => 0 := funext hz
    rw [this]
    show Sum.inl (_, _, _) = Sum.inl (_, _, zEA _ _ t [])
    congr 3
  rw [zw_push hok hE] at hP1 hD1
  have := kk q H1 locs ls hP1 hD1 hS1 (hL.up hρ) (hW.push (fun j => by rw [hz j]; exact hzo)) h1 (h2.tl.cons (v := vr T.length) trivial)
  rw [List.map_cons, zmap_up hst, show zT Γ (va_up ad T.length q) (vr T.length) = .ref q from congrArg Value.ref (va_up_self ad T.length q)] at this
  exact this
theorem zi_newI (X : zX Γ own cc nL d) (hd : decode cc pc = .ok (.newarray .int, 2)) (hok : zTok T = true) (hρ : zin T.length ρ) (hst : zin T.length st) (h0 : 0 ≤ n) (hn : n ≤ 100000) (hz : ∀ j, μ T.length j = 0) (hce : ce + 1 ≤ (x_R Γ).cells) (hsl : sl + n.toNat ≤ (x_R Γ).slots)
    (kk : ∀ q, zG Γ nL (ce + 1) (sl + n.toNat) (T ++ [.inr (0, n.toNat, [])]) (va_up ad T.length q) (pc + 2) ρ (vr T.length :: st) μ) : zG Γ nL ce sl T ad pc ρ (vi n :: st) μ :=
  zi_newarr X hd (t := 0) (ty := .int) rfl rfl (by decide) (zTb_in 223 (by decide +kernel) (by decide +kernel)) hok hρ hst h0 hn hz hce hsl (fun _ => rfl) (by decide) (show zOk (.inr (0, n.toNat, [])) 0 0 from zI0) (fun _ h => h) kk
theorem zi_newZ (X : zX Γ own cc nL d) (hd : decode cc pc = .ok (.newarray .boolean, 2)) (hok : zTok T = true) (hρ : zin T.length ρ) (hst : zin T.length st) (h0 : 0 ≤ n) (hn : n ≤ 100000) (hz : ∀ j, μ T.length j = 0) (hce : ce + 1 ≤ (x_R Γ).cells) (hsl : sl + n.toNat ≤ (x_R Γ).slots)
    (kk : ∀ q, zG Γ nL (ce + 1) (sl + n.toNat) (T ++ [.inr (2, n.toNat, [])]) (va_up ad T.length q) (pc + 2) ρ (vr T.length :: st) μ) : zG Γ nL ce sl T ad pc ρ (vi n :: st) μ :=
  zi_newarr X hd (t := 2) (ty := .boolean) rfl rfl (by decide) (zTb_in 316 (by decide +kernel) (by decide +kernel)) hok hρ hst h0 hn hz hce hsl (fun _ => rfl) (by decide) (show zOk (.inr (2, n.toNat, [])) 0 0 from (Or.inl rfl)) (fun _ h => h) kk
theorem zi_newB (X : zX Γ own cc nL d) (hd : decode cc pc = .ok (.newarray .byte, 2)) (hok : zTok T = true) (hρ : zin T.length ρ) (hst : zin T.length st) (h0 : 0 ≤ n) (hn : n ≤ 100000) (hz : ∀ j, μ T.length j = 0) (hce : ce + 1 ≤ (x_R Γ).cells) (hsl : sl + n.toNat ≤ (x_R Γ).slots)
    (kk : ∀ q, zG Γ nL (ce + 1) (sl + n.toNat) (T ++ [.inr (1, n.toNat, [])]) (va_up ad T.length q) (pc + 2) ρ (vr T.length :: st) μ) : zG Γ nL ce sl T ad pc ρ (vi n :: st) μ :=
  zi_newarr X hd (t := 1) (ty := .byte) rfl rfl (by decide) (zTb_in 903 (by decide +kernel) (by decide +kernel)) hok hρ hst h0 hn hz hce hsl (fun _ => rfl) (by decide) (show zOk (.inr (1, n.toNat, [])) 0 0 from ⟨by decide, by decide⟩) (fun _ h => h) kk
theorem zi_newL (X : zX Γ own cc nL d) (hd : decode cc pc = .ok (.newarray .long, 2)) (hok : zTok T = true) (hρ : zin T.length ρ) (hst : zin T.length st) (h0 : 0 ≤ n) (hn : n ≤ 100000) (hz : ∀ j, μ T.length j = 0) (hce : ce + 1 ≤ (x_R Γ).cells) (hsl : sl + n.toNat ≤ (x_R Γ).slots)
    (kk : ∀ q, zG Γ nL (ce + 1) (sl + n.toNat) (T ++ [.inr (3, n.toNat, [])]) (va_up ad T.length q) (pc + 2) ρ (vr T.length :: st) μ) : zG Γ nL ce sl T ad pc ρ (vi n :: st) μ :=
  zi_newarr X hd (t := 3) (ty := .long) rfl rfl (by decide) (zTb_in 1510 (by decide +kernel) (by decide +kernel)) hok hρ hst h0 hn hz hce hsl (fun _ => rfl) (by decide) (show zOk (.inr (3, n.toNat, [])) 0 0 from zL0) (fun _ h => h) kk
end ZN

