/-! makers, relative to the cells that are there already: cells, places, values and what is written are all numbers -/
def zsh (n : Nat) : zSh → zSh
  | .inl (ci, fs) => .inl (ci, fs.map (fun f => match f with
    | .inl k => .inl k
    | .inr r => .inr (r.map (n + ·))))
  | .inr (t, N, rs) => .inr (t, N, rs.map (Option.map (n + ·)))
def zsv (n : Nat) : zV → zV
  | .inr (.inr (.inl k)) => vr (n + k)
  | v => v
def zmd (n : Nat) (μ : zMem) : List (Nat × Int × Int) → zMem
  | [] => μ
  | (k, j, v) :: l => zm (zmd n μ l) (n + k) j v
theorem zsh_comp (n m : Nat) (sh : zSh) : zsh n (zsh m sh) = zsh (n + m) sh := by
  rcases sh with ⟨ci, fs⟩ | ⟨t, N, rs⟩
  · show Sum.inl (ci, _) = Sum.inl (ci, _)
    rw [List.map_map]
    congr 2
    apply List.map_congr_left
    rintro (k | _ | k) -
    · rfl
    · rfl
    · exact congrArg (fun z : Nat => (Sum.inr (some z) : zF)) (Nat.add_assoc n m k).symm
  · show Sum.inr (t, N, _) = Sum.inr (t, N, _)
    rw [List.map_map]
    congr 3
    apply List.map_congr_left
    rintro (_ | k) -
    · rfl
    · exact congrArg some (Nat.add_assoc n m k).symm
theorem zsh_map (n m : Nat) (R : List zSh) : (R.map (zsh m)).map (zsh n) = R.map (zsh (n + m)) := by
  rw [List.map_map]
  exact List.map_congr_left (fun sh _ => zsh_comp n m sh)
theorem zrel_get {P Q : List zSh} {n k : Nat} {sh : zSh} (hP : P.length = n) (h : Q[k]? = some sh) : (P ++ Q.map (zsh n))[n + k]? = some (zsh n sh) := by
  rw [List.getElem?_append_right (by omega), show n + k - P.length = k by omega, List.getElem?_map, h]
  rfl
theorem zrel_push {P Q : List zSh} {n : Nat} {sh : zSh} : (P ++ Q.map (zsh n)) ++ [zsh n sh] = P ++ (Q ++ [sh]).map (zsh n) := by
  rw [List.append_assoc, List.map_append]
  rfl
theorem zrel_app {P Q R : List zSh} {n : Nat} : (P ++ Q.map (zsh n)) ++ R.map (zsh n) = P ++ (Q ++ R).map (zsh n) := by
  rw [List.append_assoc, List.map_append]
theorem zrel_set {P Q : List zSh} {n k : Nat} {sh : zSh} (hP : P.length = n) : (P ++ Q.map (zsh n)).set (n + k) (zsh n sh) = P ++ (Q.set k sh).map (zsh n) := by
  rw [List.set_append_right _ _ (by omega), show n + k - P.length = k by omega, List.map_set]
theorem zrel_len {P Q : List zSh} {n m : Nat} (hP : P.length = n) (hm : Q.length = m) : (P ++ Q.map (zsh n)).length = n + m := by
  rw [List.length_append, List.length_map, hP, hm]
theorem zrel_ok {P Q : List zSh} {n : Nat} (hP : P.length = n) (h1 : zTok P = true) (h2 : zTok Q = true) : zTok (P ++ Q.map (zsh n)) = true := by
  have hl : (P ++ Q.map (zsh n)).length = n + Q.length := zrel_len hP rfl
  unfold zTok at *
  rw [List.all_append, Bool.and_eq_true]
  rw [hl]
  constructor
  · refine List.all_eq_true.mpr fun sh hsh => ?_
    have := List.all_eq_true.mp h1 sh hsh
    rcases sh with ⟨ci, fs⟩ | ⟨t, N, rs⟩
    · refine List.all_eq_true.mpr fun f hf => ?_
      have := List.all_eq_true.mp this f hf
      rcases f with k | _ | k
      · rfl
      · rfl
      · simp only [decide_eq_true_eq] at this ⊢
        omega
    · refine List.all_eq_true.mpr fun f hf => ?_
      have := List.all_eq_true.mp this f hf
      rcases f with _ | k
      · rfl
      · simp only [decide_eq_true_eq] at this ⊢
        omega
  · refine List.all_eq_true.mpr fun sh hsh => ?_
    obtain ⟨sh', hsh', rfl⟩ := List.mem_map.mp hsh
    clear hsh
    have := List.all_eq_true.mp h2 sh' hsh'
    revert this
    generalize sh' = sh
    intro this
    rcases sh with ⟨ci, fs⟩ | ⟨t, N, rs⟩
    · refine List.all_eq_true.mpr fun f hf => ?_
      obtain ⟨f', hf', rfl⟩ := List.mem_map.mp hf
      have := List.all_eq_true.mp this f' hf'
      rcases f' with k | _ | k
      · rfl
      · rfl
      · simp only [decide_eq_true_eq] at this
        exact decide_eq_true (show n + k < n + Q.length by omega)
    · refine List.all_eq_true.mpr fun f hf => ?_
      obtain ⟨f', hf', rfl⟩ := List.mem_map.mp hf
      have := List.all_eq_true.mp this f' hf'
      rcases f' with _ | k
      · rfl
      · simp only [decide_eq_true_eq] at this
        exact decide_eq_true (show n + k < n + Q.length by omega)
def zinB (m : Nat) (l : List zV) : Bool := l.all (fun v => match v with
  | .inr (.inr (.inl k)) => Nat.blt k m
  | _ => true)
theorem zinB_in {n m N : Nat} {l : List zV} (h : zinB m l = true) (hN : N = n + m) : zin N (l.map (zsv n)) := by
  intro v hv k e
  obtain ⟨u, hu, rfl⟩ := List.mem_map.mp hv
  have := List.all_eq_true.mp h u hu
  rcases u with x | x | x | x
  · cases e
  · cases e
  · cases e
    have h2 : Nat.blt x m = true := this
    rw [Nat.blt_eq] at h2
    omega
  · cases e
/-- nothing stands in cells that aren't there yet -/
def zfr (n : Nat) (μ : zMem) : Prop := ∀ k, n ≤ k → ∀ j, μ k j = 0
def zmdB (m : Nat) (l : List (Nat × Int × Int)) : Bool := l.all (fun x => Nat.blt x.1 m)
theorem zmd_fr {n m : Nat} {μ : zMem} {l : List (Nat × Int × Int)} (h : zfr (n + m) μ) (hl : zmdB m l = true) : zfr (n + m) (zmd n μ l) := by
  induction l with
  | nil => exact h
  | cons x l ih =>
    obtain ⟨k, j, v⟩ := x
    unfold zmdB at hl
    rw [List.all_cons, Bool.and_eq_true, Nat.blt_eq] at hl
    intro a ha i
    have hk : k < m := hl.1
    show zm _ _ _ _ _ _ = 0
    rw [zm_k (by omega)]
    exact ih hl.2 a ha i
theorem zfr.mono {n m : Nat} {μ : zMem} (h : zfr n μ) (hm : n ≤ m) : zfr m μ := fun k hk j => h k (by omega) j
theorem zmd_app (n m : Nat) (μ : zMem) (a b : List (Nat × Int × Int)) : zmd (n + m) (zmd n μ a) b = zmd n μ (b.map (fun x => (m + x.1, x.2)) ++ a) := by
  induction b with
  | nil => rfl
  | cons x b ih =>
    obtain ⟨k, j, v⟩ := x
    show zm (zmd (n + m) (zmd n μ a) b) (n + m + k) j v = zm (zmd n μ _) (n + (m + k)) j v
    rw [ih, Nat.add_assoc]
    rfl
/-- a field of a made object; an array's cell -/
def zQput (Q : List zSh) (q k m : Nat) : List zSh := match Q[q]? with
  | some (.inl (ci, fs)) => Q.set q (.inl (ci, fs.set k (.inr (some m))))
  | _ => Q
def zQputB (Q : List zSh) (q k ci : Nat) : Bool := match Q[q]? with
  | some (.inl (c, fs)) => c == ci && decide (fs[k]? = some (.inr none))
  | _ => false
def zQnumB (Q : List zSh) (q k ci : Nat) : Bool := match Q[q]? with
  | some (.inl (c, fs)) => c == ci && decide (fs[k]? = some (.inl 0))
  | _ => false
def zQrefB (Q : List zSh) (q k ci m : Nat) : Bool := match Q[q]? with
  | some (.inl (c, fs)) => c == ci && decide (fs[k]? = some (.inr (some m)))
  | _ => false
def zQst (Q : List zSh) (q j m : Nat) : List zSh := match Q[q]? with
  | some (.inr (t, N, rs)) => Q.set q (.inr (t, N, rs.set j (some m)))
  | _ => Q
def zQstB (Q : List zSh) (q t j m ci : Nat) : Bool := (match Q[q]? with
  | some (.inr (t', N, rs)) => t' == t && rs.length == N && Nat.blt j N
  | _ => false) && (match Q[m]? with
  | some (.inl (c, _)) => c == ci
  | _ => false)
def zQrowB (Q : List zSh) (q t j : Nat) : Bool := match Q[q]? with
  | some (.inr (t', N, rs)) => t' == t && decide (rs = []) && Nat.blt j N
  | _ => false
theorem zsh_o {n ci : Nat} {fs : List zF} : zsh n (.inl (ci, fs)) = .inl (ci, fs.map (fun f => match f with
    | .inl k => .inl k
    | .inr r => .inr (r.map (n + ·)))) := rfl
def zpl (fs : List zF) : Bool := fs.all (fun f => match f with
  | .inr (some _) => false
  | _ => true)
theorem zsh_pl {n ci : Nat} {fs : List zF} (h : zpl fs = true) : zsh n (.inl (ci, fs)) = .inl (ci, fs) := by
  rw [zsh_o]
  congr 2
  refine (List.map_congr_left (fun f hf => ?_)).trans (List.map_id fs)
  have := List.all_eq_true.mp h f hf
  rcases f with a | _ | a
  · rfl
  · rfl
  · cases this
/-- relative: what a maker's walk has -/
def zHc (Γ : zCx) (n : Nat) (P : List zSh) (μ : zMem) (mc ms : Nat) : Prop := P.length = n ∧ zTok P = true ∧ zfr (n + 1) μ ∧ (x_R Γ).cells = mc ∧ (x_R Γ).slots = ms
def zH (Γ : zCx) (nL n : Nat) (P : List zSh) (ad0 : Nat → Nat) (μ : zMem) (ce sl : Nat) (Q : List zSh) (Δ : List (Nat × Int × Int)) (pc : Nat) (ρ st : List zV) : Prop :=
  ∀ ad : Nat → Nat, (∀ k, k < n + 1 → ad k = ad0 k) → zG Γ nL ce sl (P ++ Q.map (zsh n)) ad pc (ρ.map (zsv n)) (st.map (zsv n)) (zmd n μ Δ)
/-- a maker's contract -/
def zMk (d mc ms : Nat) (y : zMt) (ci : Nat) (fs : List zF) (R : List zSh) (Δ : List (Nat × Int × Int)) : Prop :=
  ∀ (P : List zSh) (n : Nat) (μ : zMem), P.length = n → zTok P = true → zfr (n + 1) μ → zSp d mc ms y (P ++ [.inl (ci, fs)]) [vr n] μ (P ++ R.map (zsh n)) (fun r μ2 => r = none ∧ μ2 = zmd n μ Δ)
def zhB (Q : List zSh) (Δ : List (Nat × Int × Int)) (ρ st : List zV) (m : Nat) : Bool := (Q.length == m && Nat.ble 1 m) && zTok Q && (zinB m ρ && zinB m st) && zmdB m Δ
section ZQ
variable {Γ : zCx} {own : String} {cc : ByteArray} {nL d d' ce sl mc ms mc' ms' n i N K : Nat} {P Q R : List zSh} {ad0 : Nat → Nat} {pc ix ci ci' k t m q j : Nat} {ρ st : List zV} {μ : zMem} {v : zV} {x : Int} {fs fs' : List zF} {rs : List (Option Nat)} {Δ Δ' : List (Nat × Int × Int)} {y : zMt}
theorem zh_get (hB : zhB Q Δ ρ st m = true) (hc : zHc Γ n P μ mc ms) : (P ++ Q.map (zsh n)).length = n + m ∧ 1 ≤ m ∧ zTok (P ++ Q.map (zsh n)) = true ∧ zin (n + m) (ρ.map (zsv n)) ∧ zin (n + m) (st.map (zsv n)) ∧ zfr (n + m) (zmd n μ Δ) := by
  unfold zhB at hB
  simp only [Bool.and_eq_true, beq_iff_eq, Nat.ble_eq] at hB
  obtain ⟨⟨⟨⟨b1, b0⟩, b2⟩, b3, b4⟩, b5⟩ := hB
  exact ⟨zrel_len hc.1 b1, b0, zrel_ok hc.1 hc.2.1 b2, zinB_in b3 rfl, zinB_in b4 rfl, zmd_fr (hc.2.2.1.mono (by omega)) b5⟩
theorem zn_new {r : vw_C} (X : zX Γ own cc nL d) (hc : zHc Γ n P μ mc ms) (hd : decode cc pc = .ok (.new ix, 3)) (hci : zCl[ci]? = some r) (hl : Cond.classLink own ix r.1 ∈ zTb) (hin : Cond.instantiable r.1 r.2.2 ∈ zTb) (hini : Cond.initialized r.1 ∈ zTb)
    (hb : zblank ci = fs ∧ zpl fs = true ∧ r.2.2 = k) (hB : (zhB Q Δ ρ st m && Nat.ble (ce + 1) mc && Nat.ble (sl + k) ms) = true)
    (kk : zH Γ nL n P ad0 μ (ce + 1) (sl + k) (Q ++ [.inl (ci, fs)]) Δ (pc + 3) ρ (vr m :: st)) : zH Γ nL n P ad0 μ ce sl Q Δ pc ρ st := by
  simp only [Bool.and_eq_true, Nat.ble_eq] at hB
  obtain ⟨⟨b1, b5⟩, b6⟩ := hB
  obtain ⟨hlen, h1m, hok, h1, h2, h3⟩ := zh_get b1 hc
  obtain ⟨hb, hb2, hk⟩ := hb
  subst hk
  have hsh : zsh n (.inl (ci, fs)) = .inl (ci, fs) := zsh_pl hb2
  intro ad hag
  refine zi_new X hd hci hl hin hini hok (by rw [hlen]; exact h1) (by rw [hlen]; exact h2) (fun j => by rw [hlen]; exact h3 _ (Nat.le_refl _) j) (by rw [hc.2.2.2.1]; exact b5) (by rw [hc.2.2.2.2]; exact b6) (fun q => ?_)
  have := kk (va_up ad (n + m) q) (fun k hk => (va_up_ne ad q (by omega)).trans (hag k hk))
  rw [List.map_cons, ← zrel_push, show zsv n (vr m) = vr (n + m) from rfl] at this
  rw [hlen, hb, ← hsh]
  exact this
theorem zn_arr {t0 : ArrayType} (hz : ∀ {T : List zSh} {ad : Nat → Nat} {ρ st : List zV} {μ : zMem} {n : Int}, zX Γ own cc nL d → decode cc pc = .ok (.newarray t0, 2) → zTok T = true → zin T.length ρ → zin T.length st → 0 ≤ n → n ≤ 100000 → (∀ j, μ T.length j = 0) → ce + 1 ≤ (x_R Γ).cells → sl + n.toNat ≤ (x_R Γ).slots → (∀ q, zG Γ nL (ce + 1) (sl + n.toNat) (T ++ [.inr (t, n.toNat, [])]) (va_up ad T.length q) (pc + 2) ρ (vr T.length :: st) μ) → zG Γ nL ce sl T ad pc ρ (vi n :: st) μ)
    (X : zX Γ own cc nL d) (hc : zHc Γ n P μ mc ms) (hd : decode cc pc = .ok (.newarray t0, 2)) (hx : x = (N : Int)) (hB : (zhB Q Δ ρ st m && Nat.ble (ce + 1) mc && Nat.ble (sl + N) ms && Nat.ble N 100000) = true)
    (kk : zH Γ nL n P ad0 μ (ce + 1) (sl + N) (Q ++ [.inr (t, N, [])]) Δ (pc + 2) ρ (vr m :: st)) : zH Γ nL n P ad0 μ ce sl Q Δ pc ρ (vi x :: st) := by
  subst hx
  simp only [Bool.and_eq_true, Nat.ble_eq] at hB
  obtain ⟨⟨⟨b1, b5⟩, b6⟩, b7⟩ := hB
  obtain ⟨hlen, h1m, hok, h1, h2, h3⟩ := zh_get b1 hc
  intro ad hag
  refine hz (n := (N : Int)) X hd hok (by rw [hlen]; exact h1) (by rw [hlen]; exact h2) (by omega) (by omega) (fun j => by rw [hlen]; exact h3 _ (Nat.le_refl _) j) (by rw [hc.2.2.2.1]; exact b5) (by rw [hc.2.2.2.2]; exact b6) (fun q => ?_)
  have := kk (va_up ad (n + m) q) (fun k hk => (va_up_ne ad q (by omega)).trans (hag k hk))
  rw [List.map_cons, ← zrel_push, show zsv n (vr m) = vr (n + m) from rfl] at this
  rw [hlen]
  exact this
theorem zn_newI (X : zX Γ own cc nL d) (hc : zHc Γ n P μ mc ms) (hd : decode cc pc = .ok (.newarray .int, 2)) (hx : x = (N : Int)) (hB : (zhB Q Δ ρ st m && Nat.ble (ce + 1) mc && Nat.ble (sl + N) ms && Nat.ble N 100000) = true)
    (kk : zH Γ nL n P ad0 μ (ce + 1) (sl + N) (Q ++ [.inr (0, N, [])]) Δ (pc + 2) ρ (vr m :: st)) : zH Γ nL n P ad0 μ ce sl Q Δ pc ρ (vi x :: st) := zn_arr zi_newI X hc hd hx hB kk
theorem zn_newZ (X : zX Γ own cc nL d) (hc : zHc Γ n P μ mc ms) (hd : decode cc pc = .ok (.newarray .boolean, 2)) (hx : x = (N : Int)) (hB : (zhB Q Δ ρ st m && Nat.ble (ce + 1) mc && Nat.ble (sl + N) ms && Nat.ble N 100000) = true)
    (kk : zH Γ nL n P ad0 μ (ce + 1) (sl + N) (Q ++ [.inr (2, N, [])]) Δ (pc + 2) ρ (vr m :: st)) : zH Γ nL n P ad0 μ ce sl Q Δ pc ρ (vi x :: st) := zn_arr zi_newZ X hc hd hx hB kk
theorem zn_newB (X : zX Γ own cc nL d) (hc : zHc Γ n P μ mc ms) (hd : decode cc pc = .ok (.newarray .byte, 2)) (hx : x = (N : Int)) (hB : (zhB Q Δ ρ st m && Nat.ble (ce + 1) mc && Nat.ble (sl + N) ms && Nat.ble N 100000) = true)
    (kk : zH Γ nL n P ad0 μ (ce + 1) (sl + N) (Q ++ [.inr (1, N, [])]) Δ (pc + 2) ρ (vr m :: st)) : zH Γ nL n P ad0 μ ce sl Q Δ pc ρ (vi x :: st) := zn_arr zi_newB X hc hd hx hB kk
theorem zn_newL (X : zX Γ own cc nL d) (hc : zHc Γ n P μ mc ms) (hd : decode cc pc = .ok (.newarray .long, 2)) (hx : x = (N : Int)) (hB : (zhB Q Δ ρ st m && Nat.ble (ce + 1) mc && Nat.ble (sl + N) ms && Nat.ble N 100000) = true)
    (kk : zH Γ nL n P ad0 μ (ce + 1) (sl + N) (Q ++ [.inr (3, N, [])]) Δ (pc + 2) ρ (vr m :: st)) : zH Γ nL n P ad0 μ ce sl Q Δ pc ρ (vi x :: st) := zn_arr zi_newL X hc hd hx hB kk
theorem zn_anew {C : String} (X : zX Γ own cc nL d) (hc : zHc Γ n P μ mc ms) (hC0 : C = "DebtDoors$Town" ∨ C = "DebtDoors$Ledger") (hd : decode cc pc = .ok (.anewarray ix, 3)) (hC : ∀ aT : Nat → ClassId, (zTys aT)[t]? = some (aT t, .object C)) (ht : (Nat.ble 4 t && Nat.blt t 7) = true) (hl : Cond.classLink own ix C ∈ zTb) (hx : x = (N : Int)) (hB : (zhB Q Δ ρ st m && Nat.ble (ce + 1) mc && Nat.ble (sl + N) ms && Nat.ble N 100000) = true)
    (kk : zH Γ nL n P ad0 μ (ce + 1) (sl + N) (Q ++ [.inr (t, N, List.replicate N none)]) Δ (pc + 3) ρ (vr m :: st)) : zH Γ nL n P ad0 μ ce sl Q Δ pc ρ (vi x :: st) := by
  subst hx
  simp only [Bool.and_eq_true, Nat.ble_eq, Nat.blt_eq] at hB ht
  obtain ⟨⟨⟨b1, b5⟩, b6⟩, b7⟩ := hB
  obtain ⟨hlen, h1m, hok, h1, h2, h3⟩ := zh_get b1 hc
  intro ad hag
  refine zi_anew (n := (N : Int)) X hC0 hd (hC _) ht.1 ht.2 hl hok (by rw [hlen]; exact h1) (by rw [hlen]; exact h2) (by omega) (by omega) (fun j => by rw [hlen]; exact h3 _ (Nat.le_refl _) j) (by rw [hc.2.2.2.1]; exact b5) (by rw [hc.2.2.2.2]; exact b6) (fun q => ?_)
  have := kk (va_up ad (n + m) q) (fun k hk => (va_up_ne ad q (by omega)).trans (hag k hk))
  rw [List.map_cons, ← zrel_push, show zsv n (vr m) = vr (n + m) from rfl, show zsh n (.inr (t, N, List.replicate N none)) = .inr (t, N, List.replicate N none) from by
    show Sum.inr (t, N, _) = _
    rw [List.map_replicate]
    rfl] at this
  rw [hlen]
  exact this
theorem zn_mnew (X : zX Γ own cc nL d) (hc : zHc Γ n P μ mc ms) (hd : decode cc pc = .ok (.multianewarray ix 2, 4)) (hl : Cond.classLink own ix "[[I" ∈ zTb) {x1 x2 : Int} (hx1 : x1 = (K : Int)) (hx2 : x2 = (N : Int)) (hB : (zhB Q Δ ρ st m && Nat.ble (ce + (1 + N)) mc && Nat.ble (sl + (N + N * K)) ms && Nat.ble N 1000 && Nat.ble K 1000) = true)
    (kk : zH Γ nL n P ad0 μ (ce + (1 + N)) (sl + (N + N * K)) (Q ++ zrows m N K) Δ (pc + 4) ρ (vr m :: st)) : zH Γ nL n P ad0 μ ce sl Q Δ pc ρ (vi x1 :: vi x2 :: st) := by
  subst hx1
  subst hx2
  simp only [Bool.and_eq_true, Nat.ble_eq] at hB
  obtain ⟨⟨⟨⟨b1, b5⟩, b6⟩, b7⟩, b8⟩ := hB
  obtain ⟨hlen, h1m, hok, h1, h2, h3⟩ := zh_get b1 hc
  intro ad hag
  refine zi_mnew X hd hl hok (by rw [hlen]; exact h1) (by rw [hlen]; exact h2) b7 b8 (fun i j => by rw [hlen]; exact h3 _ (by omega) j) (by rw [hc.2.2.2.1]; exact b5) (by rw [hc.2.2.2.2]; exact b6) (fun ad' had => ?_)
  have := kk ad' (fun k hk => (had k (by omega)).trans (hag k hk))
  rw [List.map_cons, ← zrel_app, show zsv n (vr m) = vr (n + m) from rfl, show (zrows m N K).map (zsh n) = zrows (n + m) N K from by
    unfold zrows
    rw [List.map_cons, List.map_replicate]
    show Sum.inr (4, N, _) :: List.replicate N (Sum.inr (0, K, [])) = _
    rw [List.map_map]
    congr 4
    exact List.map_congr_left (fun i _ => congrArg some (show n + (m + 1 + i) = n + m + 1 + i by omega))] at this
  rw [hlen]
  exact this
end ZQ

