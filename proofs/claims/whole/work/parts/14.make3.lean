theorem zw_app {aT : Nat → ClassId} {ad ad' : Nat → Nat} {T L : List zSh} {μ : zMem} {E : va_W} (hok : zTok T = true) (hag : ∀ k, k < T.length → ad' k = ad k) (hE : ∀ i, E[i]? = (L[i]?).map (fun sh => (ad' (T.length + i), zE aT ad' (μ (T.length + i)) sh))) : zw aT ad T μ ++ E = zw aT ad' (T ++ L) μ := by
  have e1 : zw aT ad T μ = zw aT ad' T μ := (zw_ad (fun k sh hs => zE_ad hok hag k sh hs) hag).symm
  rw [e1]
  apply List.ext_getElem?
  intro i
  unfold zw
  rw [List.getElem?_mapIdx]
  by_cases h : i < T.length
  · rw [List.getElem?_append_left (by rw [List.length_mapIdx]; exact h), List.getElem?_append_left h, List.getElem?_mapIdx]
  · rw [List.getElem?_append_right (by rw [List.length_mapIdx]; omega), List.getElem?_append_right (by omega), List.length_mapIdx, hE, show T.length + (i - T.length) = i by omega]
theorem zD_app {D : va_G} {A : Nat → Prop} {ws E : va_W} {H : Heap} (hP : va_P D zCl ws H) (hD : va_D A ws) (hE : ∀ i p, E[i]? = some p → p.1 = H.size + i) (hA : ∀ q, H.size ≤ q → A q) : va_D A (ws ++ E) := by
  refine ⟨fun i j x y hi hj hxy => ?_, fun k x hx => ?_⟩
  · by_cases h1 : i < ws.length <;> by_cases h2 : j < ws.length
    · rw [List.getElem?_append_left h1] at hi
      rw [List.getElem?_append_left h2] at hj
      exact hD.1 i j x y hi hj hxy
    · rw [List.getElem?_append_left h1] at hi
      rw [List.getElem?_append_right (by omega)] at hj
      have := (hP i x hi).lt
      have := hE _ _ hj
      omega
    · rw [List.getElem?_append_right (by omega)] at hi
      rw [List.getElem?_append_left h2] at hj
      have := (hP j y hj).lt
      have := hE _ _ hi
      omega
    · rw [List.getElem?_append_right (by omega)] at hi hj
      have := hE _ _ hi
      have := hE _ _ hj
      omega
  · by_cases h1 : k < ws.length
    · rw [List.getElem?_append_left h1] at hx
      exact hD.2 k x hx
    · rw [List.getElem?_append_right (by omega)] at hx
      exact hA _ (by have := hE _ _ hx; omega)
theorem zWF.app {T L : List zSh} {μ : zMem} (h : zWF T μ) (hz : ∀ i sh, L[i]? = some sh → ∀ j, zOk sh j (μ (T.length + i) j)) : zWF (T ++ L) μ := by
  intro k s hk j
  by_cases e : k < T.length
  · rw [List.getElem?_append_left e] at hk
    exact h k s hk j
  · rw [List.getElem?_append_right (by omega)] at hk
    have := hz _ _ hk j
    rwa [show T.length + (k - T.length) = k by omega] at this
theorem zouter (c : ClassId) (N h0 : Nat) : ∀ i : Nat, Jvm.Free.Multi.outerC c N h0 i = arrV c N (fun j => va_rf (if j < i then some (h0 + 1 + j) else none))
  | 0 => by
    show ({ cls := c, slots := Array.replicate N .null, vm := .none } : Cell) = _
    rw [arrV_new]
    exact congrArg (arrV c N) (funext fun j => by simp [va_rf])
  | i + 1 => by
    show (Jvm.Free.Multi.outerC c N h0 i).setSlot i (.ref (h0 + 1 + i)) = _
    rw [zouter c N h0 i, arrV_store]
    refine congrArg (arrV c N) (funext fun j => ?_)
    by_cases e : j = i
    · rw [e]
      simp [updV, va_rf]
    · by_cases h : j < i
      · simp [updV, e, h, Nat.lt_succ_of_lt h]
      · simp [updV, e, h, show ¬ j < i + 1 by omega]
def zrows (m N K : Nat) : List zSh := .inr (4, N, (List.range N).map (fun i => some (m + 1 + i))) :: List.replicate N (.inr (0, K, []))
section ZP
variable {Γ : zCx} {own : String} {cc : ByteArray} {nL d ce sl N K : Nat} {T : List zSh} {ad : Nat → Nat} {pc ix q ci k t m : Nat} {ρ st : List zV} {μ : zMem} {n j : Int} {fs : List zF} {rs : List (Option Nat)}
theorem zi_mnew (X : zX Γ own cc nL d) (hd : decode cc pc = .ok (.multianewarray ix 2, 4)) (hl : Cond.classLink own ix "[[I" ∈ zTb) (hok : zTok T = true) (hρ : zin T.length ρ) (hst : zin T.length st) (hN : N ≤ 1000) (hK : K ≤ 1000) (hz : ∀ i, ∀ j, μ (T.length + i) j = 0) (hce : ce + (1 + N) ≤ (x_R Γ).cells) (hsl : sl + (N + N * K) ≤ (x_R Γ).slots)
    (kk : ∀ ad' : Nat → Nat, (∀ k, k < T.length → ad' k = ad k) → zG Γ nL (ce + (1 + N)) (sl + (N + N * K)) (T ++ zrows T.length N K) ad' (pc + 4) ρ (vr T.length :: st) μ) : zG Γ nL ce sl T ad pc ρ (vi (K : Int) :: vi (N : Int) :: st) μ := by
  intro H locs ls hP hD hS hL hW h1 h2
  have hk0 : zI (K : Int) := h2.hd
  have hn0 : zI (N : Int) := h2.tl.hd
  have hA : ∀ q, (x_s Γ).heap.size ≤ q → zA (x_G Γ) q := fun q hq => Nat.le_trans X.2.2.2.2.2.2.1 hq
  have hk : ¬ Int32.ofInt (K : Int) < 0 := fun z => by have := (zI.lt hk0 zI0).mp z; omega
  have hn : ¬ Int32.ofInt (N : Int) < 0 := fun z => by have := (zI.lt hn0 zI0).mp z; omega
  have eN : (Int32.ofInt (N : Int)).toNatClampNeg = N := by rw [zz_ix (by omega) hn0]; omega
  have eK : (Int32.ofInt (K : Int)).toNatClampNeg = K := by rw [zz_ix (by omega) hk0]; omega
  have hov : (Cond.arrayOver (.array .int)).before (x_a Γ) (x_s Γ) = true := by
    obtain ⟨-, -, -, -, -, v, -, -, h8⟩ := X.2.2.2.2.2.1
    exact h8.2.2
  intro U hU Xs
  obtain ⟨vm₁, cA, comp, -, fA, fC, hO, -, X', step⟩ := Xs.multianewarray2F X.1 X.2.2.2.1 (ty := .int) (X.2.2.2.2.1 _ hl) hov (X.2.2.2.2.1 _ (zTb_in 223 (by decide +kernel) (by decide +kernel))) (g := F0 (x_m Γ) pc ls (.int (Int32.ofInt (K : Int)) :: .int (Int32.ofInt (N : Int)) :: st.map (zT Γ ad))) rfl (by rw [X.2.1]; exact hd) rfl hn hk (by rw [eN]; omega) (by rw [eK]; exact Nat.le_trans (Nat.mul_le_mul hK (show componentBytes FieldType.int ≤ 8 by decide)) (by decide)) (by rw [eK]; omega) rfl rfl (by rw [eN]; exact hce) (by rw [eN, eK]; exact hsl)
  have ec : comp = (x_G Γ).2.1 0 := Option.some.inj (fC.symm.trans (X.2.2.2.2.2.1.1.2 0 _ rfl).2)
  have ea : cA = (x_G Γ).2.1 4 := Option.some.inj (fA.symm.trans (X.2.2.2.2.2.1.1.2 4 _ rfl).2)
  subst ec
  subst ea
  rw [eN, eK] at X' step
  have hTh : (U.setVm vm₁).heap = H := hU
  obtain ⟨f1, f2, -, -⟩ := Jvm.Free.Multi.fill_facts (U.setVm vm₁) ((x_G Γ).2.1 4) ((x_G Γ).2.1 0) N K (defaultValue .int) N
  have hold : ∀ x : Nat, x < H.size → (Jvm.Free.Multi.fill (U.setVm vm₁) ((x_G Γ).2.1 4) ((x_G Γ).2.1 0) N K (defaultValue .int) N).heap[x]? = H[x]? := fun x hx => by
    have := Jvm.Free.Multi.fill_old (U.setVm vm₁) ((x_G Γ).2.1 4) ((x_G Γ).2.1 0) N K (defaultValue .int) (a := x) (by rw [hTh]; exact hx) N
    rw [hTh] at this
    exact this
  have hrow : ∀ j : Nat, j < N → (Jvm.Free.Multi.fill (U.setVm vm₁) ((x_G Γ).2.1 4) ((x_G Γ).2.1 0) N K (defaultValue .int) N).heap[H.size + 1 + j]? = some (vp_cell ((x_G Γ).2.1 0) (K, .inl (fun _ => Int32.ofInt 0))) := fun j hj => by
    have := Jvm.Free.Multi.fill_inner (U.setVm vm₁) ((x_G Γ).2.1 4) ((x_G Γ).2.1 0) N K (defaultValue .int) N j hj
    rw [hTh] at this
    rw [this]
    congr 1
    show ({ cls := (x_G Γ).2.1 0, slots := Array.replicate K (defaultValue .int), vm := .none } : Cell) = _
    rw [arrV_new]
    rfl
  rw [hTh] at f1 f2
  rw [hU] at step
  rw [zouter] at f2
  generalize Jvm.Free.Multi.fill (U.setVm vm₁) ((x_G Γ).2.1 4) ((x_G Γ).2.1 0) N K (defaultValue .int) N = F at *
  have hsz : H.size < F.heap.size := by rw [f1]; omega
  refine (fun (kk2 : zWW Γ F.heap locs (ce + (1 + N)) (sl + (N + N * K)) (F0 (x_m Γ) (pc + 4) ls (.ref H.size :: st.map (zT Γ ad)))) => ?_) ?_
  · obtain ⟨t, a1, b1⟩ := kk2 F rfl (by rw [← Nat.add_assoc, ← Nat.add_assoc]; exact X')
    exact ⟨t, step t a1, b1⟩
  have hE1 : ∀ i p, (((H.size, .inl ((x_G Γ).2.1 4, N, .inr (.inr (.inr (.inr (fun j => if j < N then some (H.size + 1 + j) else none)))))) :: (List.range N).map (fun i => (H.size + 1 + i, .inl ((x_G Γ).2.1 0, K, .inl (fun _ => Int32.ofInt 0))))) : va_W)[i]? = some p → p.1 = H.size + i ∧ va_at (x_G Γ).1 zCl p F.heap := by
    intro i p hp
    cases i with
    | zero =>
      cases hp
      refine ⟨rfl, ?_⟩
      show F.heap[H.size]? = some (vp_cell _ _)
      rw [vp_cell_q]
      exact f2
    | succ i =>
      rw [List.getElem?_cons_succ, List.getElem?_map] at hp
      by_cases hi : i < N
      · rw [List.getElem?_range hi] at hp
        cases hp
        exact ⟨Nat.add_right_comm _ _ _, hrow i hi⟩
      · rw [List.getElem?_eq_none (by rw [List.length_range]; omega)] at hp
        cases hp
  have hP1 := (hP.kept (fun k x hx => hold x.1 ((hP k x hx).lt))).app (fun k x hx => (hE1 k x hx).2)
  have hD1 := zD_app hP hD (fun i p hp => (hE1 i p hp).1) (fun q hq => hA q (Nat.le_trans hS.1 hq))
  obtain ⟨adN, hag, hnew⟩ : ∃ adN : Nat → Nat, (∀ k, k < T.length → adN k = ad k) ∧ ∀ i, adN (T.length + i) = H.size + i := ⟨fun k => if k < T.length then ad k else H.size + (k - T.length), fun k hk => if_pos hk, fun i => by
    show (if T.length + i < T.length then ad (T.length + i) else H.size + (T.length + i - T.length)) = _
    rw [if_neg (by omega)]
    omega⟩
  have e := zw_app (aT := (x_G Γ).2.1) (ad := ad) (ad' := adN) (T := T) (L := zrows T.length N K) (μ := μ) (E := ((H.size, .inl ((x_G Γ).2.1 4, N, .inr (.inr (.inr (.inr (fun j => if j < N then some (H.size + 1 + j) else none)))))) :: (List.range N).map (fun i => (H.size + 1 + i, .inl ((x_G Γ).2.1 0, K, .inl (fun _ => Int32.ofInt 0)))))) hok hag (fun i => by
    rw [hnew]
    cases i with
    | zero =>
      show some (H.size, _) = some (H.size, Sum.inl (_, _, zEA _ _ 4 _))
      unfold zEA
      rw [if_neg (by decide), if_neg (by decide)]
      congr 9
      funext i
      rw [List.getD_eq_getElem?_getD, List.getElem?_map]
      by_cases hi : i < N
      · rw [List.getElem?_range hi, if_pos hi]
        show some _ = some (adN (T.length + 1 + i))
        rw [Nat.add_assoc T.length, hnew, Nat.add_assoc]
      · rw [List.getElem?_eq_none (by rw [List.length_range]; omega), if_neg hi]
        rfl
    | succ i =>
      show ((List.range N).map _)[i]? = ((List.replicate N _)[i]?).map _
      rw [List.getElem?_map, List.getElem?_replicate]
      by_cases hi : i < N
      · rw [List.getElem?_range hi, if_pos hi]
        show some (_, _) = some (_, Sum.inl (_, _, zEA _ _ 0 _))
        unfold zEA
        rw [if_pos (by decide), show H.size + (i + 1) = H.size + 1 + i by omega]
        congr 5
        refine congrArg Sum.inl (funext fun x => ?_)
        rw [hz]
      · rw [List.getElem?_eq_none (by rw [List.length_range]; omega), if_neg hi]
        rfl)
  rw [e] at hP1 hD1
  have := kk adN hag F.heap locs ls hP1 hD1 ⟨Nat.le_trans hS.1 (by omega), fun q h1 h2 => (hold q (Nat.lt_of_lt_of_le h1 hS.1)).trans (hS.2.1 q h1 h2), hS.2.2⟩ ?_ (hW.app (fun i sh hi j => ?_)) h1 (h2.tl.tl.cons (v := vr T.length) trivial)
  · rw [List.map_cons] at this
    have e2 : st.map (zT Γ adN) = st.map (zT Γ ad) := List.map_congr_left (fun v hv => by
      rcases v with x | x | x | x
      · rfl
      · rfl
      · exact congrArg Value.ref (hag _ (hst _ hv x rfl))
      · rfl)
    have e3 : zT Γ adN (vr T.length) = .ref H.size := congrArg Value.ref (hnew 0)
    rw [e2, e3] at this
    exact this
  · refine ⟨hL.1, hL.2.1, fun i v hi hv => ?_⟩
    have := hL.2.2 i v hi hv
    rw [this]
    congr 2
    rcases v with x | x | x | x
    · rfl
    · rfl
    · exact congrArg Value.ref (hag _ (hρ _ (List.mem_of_getElem? hi) x rfl)).symm
    · rfl
  · rw [hz]
    unfold zrows at hi
    cases i with
    | zero => cases hi; unfold zOk; simp
    | succ i =>
      rw [List.getElem?_cons_succ, List.getElem?_replicate] at hi
      split at hi
      · cases hi; exact zI0
      · cases hi
end ZP

