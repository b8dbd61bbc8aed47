/-! the law's own instructions -/
def zLw (Γ : zCx) (b L : Nat) (xs : Nat → Int32) : Prop := (x_G Γ).2.2.1 1 = b ∧ va_X b L xs (x_s Γ) (x_s Γ).heap ∧ b < (x_s Γ).heap.size ∧ ¬ zA (x_G Γ) b
theorem lw_oi (L : Nat) : Int32.ofInt (L : Int) = Int32.ofNat L := rfl
section LW
variable {Γ : zCx} {own : String} {cc : ByteArray} {nL d ce sl : Nat} {T : List zSh} {ad : Nat → Nat} {pc tgt : Nat} {ρ st : List zV} {μ : zMem} {b L : Nat} {xs : Nat → Int32} {n i off : Int}
theorem zl_len (X : zX Γ own cc nL d) (V : zLw Γ b L xs) (hL : L ≤ 3072) (hd : decode cc pc = .ok (.arraylength, 1)) (k : zG Γ nL ce sl T ad (pc + 1) ρ (vi (L : Int) :: st) μ) : zG Γ nL ce sl T ad pc ρ (vx 1 :: st) μ := by
  intro H locs ls hP hD hS hR hW h1 h2
  have := k H locs ls hP hD hS hR hW h1 (h2.tl.cons (v := vi (L : Int)) (show zI (L : Int) from ⟨by omega, by omega⟩))
  rw [List.map_cons, show zT Γ ad (vi (L : Int)) = .int (Int32.ofNat L) from congrArg Value.int (lw_oi L)] at this
  rw [List.map_cons, show zT Γ ad (vx 1) = .ref b from congrArg Value.ref V.1]
  exact va_slen X.1 X.2.1 V.2.1 V.2.2.1 V.2.2.2 hS hd this
theorem zl_ld (X : zX Γ own cc nL d) (V : zLw Γ b L xs) (h0 : 0 ≤ i) (h1 : i < L) (hd : decode cc pc = .ok (.iaload, 1)) (k : zG Γ nL ce sl T ad (pc + 1) ρ (vi (xs i.toNat).toInt :: st) μ) : zG Γ nL ce sl T ad pc ρ (vi i :: vx 1 :: st) μ := by
  intro H locs ls hP hD hS hR hW h2 h3
  have hi : zI i := h3.hd
  have := k H locs ls hP hD hS hR hW h2 (h3.tl.tl.cons (v := vi (xs i.toNat).toInt) (zI.tn _))
  rw [List.map_cons, show zT Γ ad (vi (xs i.toNat).toInt) = .int (xs (Int32.ofInt i).toNatClampNeg) from congrArg Value.int (by rw [zz_of, zz_ix h0 hi])] at this
  rw [List.map_cons, List.map_cons, show zT Γ ad (vx 1) = .ref b from congrArg Value.ref V.1]
  exact va_sld X.1 X.2.1 V.2.1 V.2.2.1 V.2.2.2 hS (zz_in h0 h1 hi) hd this
theorem zl_in (X : zX Γ own cc nL d) {dflt lo hi : Int} {offs : Array Int} {len : Nat} (hd : decode cc pc = .ok (.tableswitch dflt lo hi offs, len)) (h0 : lo ≤ n) (h1 : n ≤ hi) (ho : offs[(n - lo).toNat]? = some off) (ht : (pc : Int) + off = (tgt : Int)) (k : zG Γ nL ce sl T ad tgt ρ st μ) : zG Γ nL ce sl T ad pc ρ (vi n :: st) μ := by
  intro H locs ls hP hD hS hR hW h2 h3
  have hn : zI n := h3.hd
  have e : (Int32.ofInt n).toInt = n := hn.r
  exact lv_tableIn (x := Int32.ofInt n) X.1 X.2.1 hd (by rw [e]; omega) (by rw [e]; omega) (by rw [e]; exact ho) ht (k H locs ls hP hD hS hR hW h2 h3.tl)
theorem zl_out (X : zX Γ own cc nL d) {dflt lo hi : Int} {offs : Array Int} {len : Nat} (hd : decode cc pc = .ok (.tableswitch dflt lo hi offs, len)) (h0 : n < lo ∨ hi < n) (ht : (pc : Int) + dflt = (tgt : Int)) (k : zG Γ nL ce sl T ad tgt ρ st μ) : zG Γ nL ce sl T ad pc ρ (vi n :: st) μ := by
  intro H locs ls hP hD hS hR hW h2 h3
  have hn : zI n := h3.hd
  have e : (Int32.ofInt n).toInt = n := hn.r
  exact lv_tableOut (x := Int32.ofInt n) X.1 X.2.1 hd (by rw [e]; exact h0) ht (k H locs ls hP hD hS hR hW h2 h3.tl)
/-- the rows that lay an answer's arguments -/
def argB (cc : ByteArray) : Nat → List Int → Bool
  | _, [] => true
  | pc, k :: ks => decide (decode cc pc = .ok (.aload_n 0, 1)) && decide (decode cc (pc + 1) = .ok (.iload_n 3, 1)) && decide (decode cc (pc + 2) = .ok (.iconst k, 1)) && decide (decode cc (pc + 3) = .ok (.iadd, 1)) && decide (decode cc (pc + 4) = .ok (.iaload, 1)) && argB cc (pc + 5) ks
def lwV (xs : Nat → Int32) (i : Int) (ks : List Int) : List zV := ks.map (fun k => vi (xs (i + k).toNat).toInt)
theorem zl_args (X : zX Γ own cc nL d) (V : zLw Γ b L xs) (hr0 : ρ[0]? = some (vx 1)) (hr3 : ρ[3]? = some (vi i)) (h0 : 0 ≤ i) (hi : i + 5 < L) (hL : L ≤ 3072) : ∀ (ks : List Int) (pc : Nat) (st : List zV), (∀ k ∈ ks, 1 ≤ k ∧ k ≤ 5) → argB cc pc ks = true → zG Γ nL ce sl T ad (pc + 5 * ks.length) ρ ((lwV xs i ks).reverse ++ st) μ → zG Γ nL ce sl T ad pc ρ st μ
  | [], pc, st, _, _, h => h
  | k :: ks, pc, st, hk, hB, h => by
    unfold argB at hB
    simp only [Bool.and_eq_true, decide_eq_true_eq] at hB
    obtain ⟨⟨⟨⟨⟨d1, d2⟩, d3⟩, d4⟩, d5⟩, hB⟩ := hB
    have hk1 := hk k List.mem_cons_self
    refine zi_aloadn X d1 (i := 0) rfl hr0 rfl ?_
    refine zi_loadn X d2 (i := 3) rfl hr3 ?_
    refine zi_const X d3 ⟨by omega, by omega⟩ ?_
    refine zi_iadd X d4 ⟨by omega, by omega⟩ ?_
    refine zl_ld X V (by omega) (by omega) d5 ?_
    refine zl_args X V hr0 hr3 h0 hi hL ks (pc + 5) _ (fun x hx => hk x (List.mem_cons_of_mem _ hx)) hB ?_
    rw [show pc + 5 + 5 * ks.length = pc + 5 * (k :: ks).length by rw [List.length_cons]; omega]
    unfold lwV at h ⊢
    rw [List.map_cons, List.reverse_cons, List.append_assoc] at h
    exact h
/-- both calls of a case -/
def caseB (cc : ByteArray) (pc : Nat) (ks : List Int) (ixD ixM : Nat) (off : Int) : Bool := decide (decode cc pc = .ok (.aload_n 1, 1)) && argB cc (pc + 1) ks && decide (decode cc (pc + 1 + 5 * ks.length) = .ok (.invokevirtual ixD, 3)) && decide (decode cc (pc + 1 + 5 * ks.length + 3) = .ok (.aload_n 2, 1)) && argB cc (pc + 1 + 5 * ks.length + 3 + 1) ks && decide (decode cc (pc + 1 + 5 * ks.length + 3 + 1 + 5 * ks.length) = .ok (.invokevirtual ixM, 3)) && decide (decode cc (pc + 1 + 5 * ks.length + 3 + 1 + 5 * ks.length + 3) = .ok (.if_icmp .eq off, 3)) && decide (((pc + 1 + 5 * ks.length + 3 + 1 + 5 * ks.length + 3 : Nat) : Int) + off = 1554) && ks.all (fun k => decide (1 ≤ k ∧ k ≤ 5))
theorem zl_case (X : zX Γ own cc 4 d) (V : zLw Γ b L xs) (hd : 102 ≤ d) (hce : ce ≤ (x_R Γ).cells) (hsl : sl ≤ (x_R Γ).slots) (hL : L ≤ 3072) {ks : List Int} {ixD ixM : Nat} {yD yM : zMt} (hC : caseB cc pc ks ixD ixM off = true) (hlD : zLkV own ixD yD ks.length) (hlM : zLkV own ixM yM ks.length) (cD : RX11 = yD.1.cls) (cM : RX12 = yM.1.cls) (h0 : 0 ≤ i) (hi : i + 5 < L) (hLC : LC yD yM (lwV xs i ks)) {kk : Int} (hk : 0 ≤ kk ∧ kk ≤ 1000) (hJ : JJ kk μ μ) (fin : ∀ μ', JJ (kk + 1) μ' μ' → zG Γ 4 ce sl zT0 ad 1554 [vx 1, vr 0, vr 355, vi i] [] μ') : zG Γ 4 ce sl zT0 ad pc [vx 1, vr 0, vr 355, vi i] [] μ := by
  unfold caseB at hC
  simp only [Bool.and_eq_true, decide_eq_true_eq, List.all_eq_true] at hC
  obtain ⟨⟨⟨⟨⟨⟨⟨⟨d1, a1⟩, d2⟩, d3⟩, a2⟩, d4⟩, d5⟩, d6⟩, hks⟩ := hC
  have hlen : (lwV xs i ks).length = ks.length := by unfold lwV; rw [List.length_map]
  refine zi_aloadn X d1 (i := 1) rfl rfl rfl ?_
  refine zl_args X V rfl rfl h0 hi hL ks _ _ hks a1 ?_
  obtain ⟨d', Rq, hd1, hs1, hq1⟩ := hLC kk μ hk.1 hk.2 hJ
  obtain ⟨f0, t0⟩ := zO_of zc_0.1.1
  obtain ⟨f1, t1⟩ := zO_of zc_355.1.1
  refine zi_V (Rp := Rq) (r0 := (RX11, TX11, 20)) X zT0_ok hlD (by omega) hs1 t0 rfl cD hlen (by decide) d2 hce hsl (fun r μ1 e => ?_)
  obtain ⟨v, rfl, d'', Rq2, hd2, hs2, hq2⟩ := hq1 _ _ e
  refine zi_aloadn X d3 (i := 2) rfl rfl rfl ?_
  refine zl_args X V rfl rfl h0 hi hL ks _ _ hks a2 ?_
  refine zi_V (Rp := Rq2) (r0 := (RX12, TX12, 61)) X zT0_ok hlM (by omega) hs2 t1 rfl cM hlen (Nat.le_of_ble_eq_true rfl) d4 hce hsl (fun r μ2 e2 => ?_)
  obtain ⟨rfl, hJ2⟩ := hq2 _ _ e2
  show zG Γ 4 ce sl zT0 ad _ [vx 1, vr 0, vr 355, vi i] [vi v, vi v] μ2
  exact zj_eq X d5 d6 (fun _ => fin μ2 hJ2) (fun q => absurd rfl q)
end LW

