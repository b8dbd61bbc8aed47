section ZS
variable {Γ : zCx} {own : String} {cc : ByteArray} {nL d d' ce sl mc ms mc' ms' n i N K : Nat} {P Q R : List zSh} {ad0 : Nat → Nat} {pc ix ci ci' k t m q j tgt : Nat} {ρ st : List zV} {μ : zMem} {v : zV} {x c off : Int} {fs fs' : List zF} {rs : List (Option Nat)} {Δ Δ' : List (Nat × Int × Int)} {y : zMt}
theorem zn_putR {r : vw_C} (X : zX Γ own cc nL d) (hc : zHc Γ n P μ mc ms) (hnm : (x_M Γ).name = "<init>") (hl : zFl own ix ci k) (hci : zCl[ci]? = some r) (hfin : (r.2.1 k).2.2.2 = true) (hown : r.1 = own) (hty : ∀ a, narrow (zTy ci k) (.ref a) = .ref a ∧ fits (zTy ci k) (.ref a) = true) (hd : decode cc pc = .ok (.putfield ix, 3)) (hB : zQputB Q q k ci = true)
    (kk : zH Γ nL n P ad0 μ ce sl (zQput Q q k m) Δ (pc + 3) ρ st) : zH Γ nL n P ad0 μ ce sl Q Δ pc ρ (vr m :: vr q :: st) := by
  unfold zQputB at hB
  unfold zQput at kk
  cases hQ : Q[q]? with
  | none => rw [hQ] at hB; cases hB
  | some sh =>
    rw [hQ] at hB kk
    rcases sh with ⟨c, fs⟩ | ⟨t, N, rs⟩
    · simp only [Bool.and_eq_true, beq_iff_eq, decide_eq_true_eq] at hB kk
      obtain ⟨rfl, hf⟩ := hB
      intro ad hag
      refine zi_putR (m := n + m) X hnm hl hci hfin hown hty hd (zrel_get hc.1 hQ) (by rw [List.getElem?_map, hf]; rfl) ?_
      have := kk ad hag
      rw [← zrel_set hc.1, zsh_o, List.map_set] at this
      exact this
    · cases hB
theorem zn_putI (X : zX Γ own cc nL d) (hc : zHc Γ n P μ mc ms) (hl : zFl own ix ci k) (hp : zFp ci k 0) (hd : decode cc pc = .ok (.putfield ix, 3)) (hB : zQnumB Q q k ci = true)
    (kk : zH Γ nL n P ad0 μ ce sl Q ((q, (k : Int), x) :: Δ) (pc + 3) ρ st) : zH Γ nL n P ad0 μ ce sl Q Δ pc ρ (vi x :: vr q :: st) := by
  unfold zQnumB at hB
  cases hQ : Q[q]? with
  | none => rw [hQ] at hB; cases hB
  | some sh =>
    rw [hQ] at hB
    rcases sh with ⟨c, fs⟩ | ⟨t, N, rs⟩
    · simp only [Bool.and_eq_true, beq_iff_eq, decide_eq_true_eq] at hB
      obtain ⟨rfl, hf⟩ := hB
      intro ad hag
      exact zi_putI X hl hp hd (zrel_get hc.1 hQ) (by rw [List.getElem?_map, hf]; rfl) (by intro h; cases h) (kk ad hag)
    · cases hB
theorem zn_getR (X : zX Γ own cc nL d) (hc : zHc Γ n P μ mc ms) (hl : zFl own ix ci k) (hd : decode cc pc = .ok (.getfield ix, 3)) (hB : zQrefB Q q k ci m = true)
    (kk : zH Γ nL n P ad0 μ ce sl Q Δ (pc + 3) ρ (vr m :: st)) : zH Γ nL n P ad0 μ ce sl Q Δ pc ρ (vr q :: st) := by
  unfold zQrefB at hB
  cases hQ : Q[q]? with
  | none => rw [hQ] at hB; cases hB
  | some sh =>
    rw [hQ] at hB
    rcases sh with ⟨c, fs⟩ | ⟨t, N, rs⟩
    · simp only [Bool.and_eq_true, beq_iff_eq, decide_eq_true_eq] at hB
      obtain ⟨rfl, hf⟩ := hB
      intro ad hag
      exact zi_getR X hl hd (zrel_get hc.1 hQ) (by rw [List.getElem?_map, hf]; rfl) (kk ad hag)
    · cases hB
theorem zn_aast {r : vw_C} (X : zX Γ own cc nL d) (hc : zHc Γ n P μ mc ms) (hC : ∀ aT : Nat → ClassId, (zTys aT)[t]? = some (aT t, .object r.1)) (ht : Nat.ble 4 t = true) (hci : zCl[ci]? = some r) (hd : decode cc pc = .ok (.aastore, 1)) (hx : x = (j : Int)) (hB : zQstB Q q t j m ci = true)
    (kk : zH Γ nL n P ad0 μ ce sl (zQst Q q j m) Δ (pc + 1) ρ st) : zH Γ nL n P ad0 μ ce sl Q Δ pc ρ (vr m :: vi x :: vr q :: st) := by
  subst hx
  unfold zQstB at hB
  unfold zQst at kk
  rw [Bool.and_eq_true] at hB
  obtain ⟨hB, hM⟩ := hB
  cases hQ : Q[q]? with
  | none => rw [hQ] at hB; cases hB
  | some sh =>
    rw [hQ] at hB kk
    cases hQ2 : Q[m]? with
    | none => rw [hQ2] at hM; cases hM
    | some sh2 =>
      rw [hQ2] at hM
      rcases sh with ⟨c, fs⟩ | ⟨t', N, rs⟩
      · cases hB
      · rcases sh2 with ⟨c2, fs2⟩ | ⟨t2, N2, rs2⟩
        · simp only [Bool.and_eq_true, beq_iff_eq, Nat.blt_eq] at hB hM kk
          obtain ⟨⟨rfl, hr⟩, hj⟩ := hB
          subst hM
          intro ad hag
          have := kk ad hag
          rw [← zrel_set hc.1] at this
          refine zi_aast (rs := rs.map (Option.map (n + ·))) (n0 := N) (m := n + m) X (hC _) (Nat.le_of_ble_eq_true ht) hci hd (zrel_get hc.1 hQ) (by rw [List.length_map]; exact hr) (zrel_get hc.1 hQ2) (by omega) (by omega) ?_
          rw [show (rs.map (Option.map (n + ·))).set ((j : Int)).toNat (some (n + m)) = (rs.set j (some m)).map (Option.map (n + ·)) from by rw [List.map_set]; rfl]
          exact this
        · cases hM
theorem zn_bast (X : zX Γ own cc nL d) (hc : zHc Γ n P μ mc ms) (hd : decode cc pc = .ok (.bastore, 1)) (hx : x = (j : Int)) (hc0 : -128 ≤ c ∧ c ≤ 127) (hB : zQrowB Q q 1 j = true)
    (kk : zH Γ nL n P ad0 μ ce sl Q ((q, x, c) :: Δ) (pc + 1) ρ st) : zH Γ nL n P ad0 μ ce sl Q Δ pc ρ (vi c :: vi x :: vr q :: st) := by
  subst hx
  unfold zQrowB at hB
  cases hQ : Q[q]? with
  | none => rw [hQ] at hB; cases hB
  | some sh =>
    rw [hQ] at hB
    rcases sh with ⟨c, fs⟩ | ⟨t', N, rs⟩
    · cases hB
    · simp only [Bool.and_eq_true, beq_iff_eq, Nat.blt_eq, decide_eq_true_eq] at hB
      obtain ⟨⟨rfl, rfl⟩, hj⟩ := hB
      intro ad hag
      exact zi_bast X hd (zrel_get hc.1 hQ) (by omega) (by omega) hc0 (kk ad hag)
theorem zn_iast (X : zX Γ own cc nL d) (hc : zHc Γ n P μ mc ms) (hd : decode cc pc = .ok (.iastore, 1)) (hx : x = (j : Int)) (hB : zQrowB Q q 0 j = true)
    (kk : zH Γ nL n P ad0 μ ce sl Q ((q, x, c) :: Δ) (pc + 1) ρ st) : zH Γ nL n P ad0 μ ce sl Q Δ pc ρ (vi c :: vi x :: vr q :: st) := by
  subst hx
  unfold zQrowB at hB
  cases hQ : Q[q]? with
  | none => rw [hQ] at hB; cases hB
  | some sh =>
    rw [hQ] at hB
    rcases sh with ⟨c, fs⟩ | ⟨t', N, rs⟩
    · cases hB
    · simp only [Bool.and_eq_true, beq_iff_eq, Nat.blt_eq, decide_eq_true_eq] at hB
      obtain ⟨⟨rfl, rfl⟩, hj⟩ := hB
      intro ad hag
      exact zi_iast X hd (zrel_get hc.1 hQ) (by omega) (by omega) (kk ad hag)
theorem zn_obj (X : zX Γ own cc nL d) (hl : Cond.methodLink own ix Lib.objectInit ∈ zTb) (hd : decode cc pc = .ok (.invokespecial ix, 3)) (hdp : 1 ≤ d) (hst : Nat.ble (zcs st) 8 = true) (kk : zH Γ nL n P ad0 μ ce sl Q Δ (pc + 3) ρ st) : zH Γ nL n P ad0 μ ce sl Q Δ pc ρ (vr q :: st) := by
  intro ad hag
  refine zi_obj (q := n + q) X hl hd hdp ?_ (kk ad hag)
  have : zcs (st.map (zsv n)) = zcs st := by
    unfold zcs
    rw [List.map_map]
    congr 1
    apply List.map_congr_left
    rintro (a | a | a | a) - <;> rfl
  rw [this]
  exact Nat.le_of_ble_eq_true hst
theorem zn_init (X : zX Γ own cc nL d) (hc : zHc Γ n P μ mc ms) (hl : zLkI own ix y 0) (hd' : d' + 1 ≤ d) (hsp : zMk d' mc' ms' y ci fs R Δ') (hdg : decode cc pc = .ok (.invokespecial ix, 3)) (hB : (zhB Q Δ [] [] m && (zinB (m + 1) ρ && zinB (m + 1) st) && Nat.ble (zcs st) 8 && Nat.ble (ce + mc') mc && Nat.ble (sl + ms') ms) = true) (hpl : zpl fs = true)
    (kk : zH Γ nL n P ad0 μ (ce + mc') (sl + ms') (Q ++ R.map (zsh m)) (Δ'.map (fun x => (m + x.1, x.2)) ++ Δ) (pc + 3) ρ st) : zH Γ nL n P ad0 μ ce sl (Q ++ [.inl (ci, fs)]) Δ pc ρ (vr m :: st) := by
  simp only [Bool.and_eq_true, Nat.ble_eq] at hB
  obtain ⟨⟨⟨⟨b1, b2, b3⟩, b4⟩, b5⟩, b6⟩ := hB
  obtain ⟨hlen, h1m, hok, -, -, h3⟩ := zh_get b1 hc
  have h1 := zinB_in (n := n) b2 rfl
  have h2 := zinB_in (n := n) b3 rfl
  intro ad hag
  have hcs : zcs (st.map (zsv n)) = zcs st := by
    unfold zcs
    rw [List.map_map]
    congr 1
    apply List.map_congr_left
    rintro (a | a | a | a) - <;> rfl
  have hs := hsp (P ++ Q.map (zsh n)) (n + m) (zmd n μ Δ) hlen hok (h3.mono (by omega))
  have e1 : (P ++ Q.map (zsh n)) ++ [(Sum.inl (ci, fs) : zSh)] = P ++ (Q ++ [(Sum.inl (ci, fs) : zSh)]).map (zsh n) := by
    rw [← zrel_app, List.map_cons, List.map_nil, zsh_pl hpl]
  have e2 : (P ++ Q.map (zsh n)) ++ R.map (zsh (n + m)) = P ++ (Q ++ R.map (zsh m)).map (zsh n) := by
    rw [← zrel_app, zsh_map]
  rw [e1, e2, zmd_app] at hs
  refine zi_I (as := []) X hl hd' hs rfl (by rw [hcs]; exact b4) hdg (by rw [hc.2.2.2.1]; exact b5) (by rw [hc.2.2.2.2]; exact b6) (fun v hv k e => ?_) (fun r ad' μ' hRp had => ?_)
  · have hl2 : (P ++ (Q ++ [(Sum.inl (ci, fs) : zSh)]).map (zsh n)).length = n + m + 1 := by rw [← e1, List.length_append, hlen]; rfl
    rw [hl2]
    rcases hv with hv | hv
    · exact h1 v hv k e
    · exact h2 v hv k e
  · obtain ⟨rfl, rfl⟩ := hRp
    have hl2 : (P ++ (Q ++ [(Sum.inl (ci, fs) : zSh)]).map (zsh n)).length = n + m + 1 := by rw [← e1, List.length_append, hlen]; rfl
    exact kk ad' (fun k hk => (had k (by omega)).trans (hag k hk))
theorem zMk.of (hpl : zpl fs = true) (hy : plainName y.1.cls = true ∧ y.2.2.2 = none ∧ y.1.name = "<init>") (hk : k = y.2.2.1 - 1) (h1 : 1 ≤ y.2.2.1)
    (body : ∀ (Γ : zCx) (n : Nat) (P : List zSh) (μ : zMem) (ad0 : Nat → Nat), zX Γ y.1.cls y.2.1 y.2.2.1 d → zHc Γ n P μ mc ms → (x_M Γ).name = "<init>" →
      (∀ {pc : Nat} {ρ : List zV}, decode y.2.1 pc = .ok (.return_, 1) → zH Γ y.2.2.1 n P ad0 μ mc ms R Δ pc ρ []) → zH Γ y.2.2.1 n P ad0 μ 0 0 [.inl (ci, fs)] [] 0 (vr 0 :: List.replicate k (vx 0)) []) : zMk d mc ms y ci fs R Δ := by
  intro P n μ hP hPo hμ
  refine zSp.of hy.1 h1 (fun Γ ad X Y hnm => ?_)
  have := body Γ n P μ ad X ⟨hP, hPo, hμ, Y.2.2.2.1, Y.2.2.2.2⟩ (hnm.trans hy.2.2) (fun {pc ρ} hd ad' had => zi_return X Y hd hy.2.1 (fun k hk => had k (by rw [List.length_append, hP] at hk; exact hk)) ⟨rfl, rfl⟩) ad (fun _ _ => rfl)
  rw [List.map_cons, List.map_nil, zsh_pl hpl, List.map_cons, List.map_replicate, hk] at this
  exact this
/-! plain instructions -/
theorem zn_aload0 (X : zX Γ own cc nL d) (hd : decode cc pc = .ok (.aload_n 0, 1)) (kk : zH Γ nL n P ad0 μ ce sl Q Δ (pc + 1) (vr k :: ρ) (vr k :: st)) : zH Γ nL n P ad0 μ ce sl Q Δ pc (vr k :: ρ) st := fun ad hag => zi_aloadn X hd rfl rfl rfl (kk ad hag)
theorem zn_const (X : zX Γ own cc nL d) (hd : decode cc pc = .ok (.iconst x, 1)) (hn : zI x) (kk : zH Γ nL n P ad0 μ ce sl Q Δ (pc + 1) ρ (vi x :: st)) : zH Γ nL n P ad0 μ ce sl Q Δ pc ρ st := fun ad hag => zi_const X hd hn (kk ad hag)
theorem zn_bipush (X : zX Γ own cc nL d) (hd : decode cc pc = .ok (.bipush x, 2)) (hv : (Int8.ofInt x).toInt32 = Int32.ofInt x) (hn : zI x) (kk : zH Γ nL n P ad0 μ ce sl Q Δ (pc + 2) ρ (vi x :: st)) : zH Γ nL n P ad0 μ ce sl Q Δ pc ρ st := fun ad hag => zi_bipush X hd hv hn (kk ad hag)
theorem zn_sipush (X : zX Γ own cc nL d) (hd : decode cc pc = .ok (.sipush x, 3)) (hv : (Int16.ofInt x).toInt32 = Int32.ofInt x) (hn : zI x) (kk : zH Γ nL n P ad0 μ ce sl Q Δ (pc + 3) ρ (vi x :: st)) : zH Γ nL n P ad0 μ ce sl Q Δ pc ρ st := fun ad hag => zi_sipush X hd hv hn (kk ad hag)
theorem zn_dup (X : zX Γ own cc nL d) (hd : decode cc pc = .ok (.dup, 1)) (kk : zH Γ nL n P ad0 μ ce sl Q Δ (pc + 1) ρ (vr k :: vr k :: st)) : zH Γ nL n P ad0 μ ce sl Q Δ pc ρ (vr k :: st) := fun ad hag => zi_dup X hd rfl (kk ad hag)
theorem zn_store1 (X : zX Γ own cc nL d) (hd : decode cc pc = .ok (.istore_n 1, 1)) (hn : 1 < nL) (hv : v = vx 0 ∨ ∃ n, v = vi n) (kk : zH Γ nL n P ad0 μ ce sl Q Δ (pc + 1) [vr k, vi x] st) : zH Γ nL n P ad0 μ ce sl Q Δ pc [vr k, v] (vi x :: st) := fun ad hag => by
  refine zi_storen X hd (i := 1) rfl ⟨?_, rfl⟩ hn (kk ad hag)
  show 1 < 2
  decide
theorem zn_load1 (X : zX Γ own cc nL d) (hd : decode cc pc = .ok (.iload_n 1, 1)) (kk : zH Γ nL n P ad0 μ ce sl Q Δ (pc + 1) [vr k, vi x] (vi x :: st)) : zH Γ nL n P ad0 μ ce sl Q Δ pc [vr k, vi x] st := fun ad hag => zi_loadn X hd (i := 1) rfl rfl (kk ad hag)
theorem zn_goto (X : zX Γ own cc nL d) (hd : decode cc pc = .ok (.goto off, 3)) (ht : (pc : Int) + off = (tgt : Int)) (kk : zH Γ nL n P ad0 μ ce sl Q Δ tgt ρ st) : zH Γ nL n P ad0 μ ce sl Q Δ pc ρ st := fun ad hag => zi_goto X hd ht (kk ad hag)
theorem zn_ge (X : zX Γ own cc nL d) (hd : decode cc pc = .ok (.if_icmp .ge off, 3)) (ht : (pc : Int) + off = (tgt : Int)) (h : c ≤ x) (kk : zH Γ nL n P ad0 μ ce sl Q Δ tgt ρ st) : zH Γ nL n P ad0 μ ce sl Q Δ pc ρ (vi c :: vi x :: st) := fun ad hag => zj_ge X hd ht (fun _ => kk ad hag) (fun q => absurd h q)
theorem zn_ngt (X : zX Γ own cc nL d) (hd : decode cc pc = .ok (.if_icmp .ge off, 3)) (ht : (pc : Int) + off = (tgt : Int)) (h : x < c) (kk : zH Γ nL n P ad0 μ ce sl Q Δ (pc + 3) ρ st) : zH Γ nL n P ad0 μ ce sl Q Δ pc ρ (vi c :: vi x :: st) := fun ad hag => zj_ge X hd ht (fun q => absurd h (by omega)) (fun _ => kk ad hag)
end ZS

