/-! a text that both sides take -/
theorem ps_fin {B : Int → Int} {n N : Nat} (h1 : ∀ u, u < N → ps B n u < n) (h2 : ps B n N = n) : (fun t => decide (n ≤ ps B n t)) = (fun t => decide (N ≤ t)) := by
  have hN : ∀ q, ps B n (N + q) = n := by
    intro q
    induction q with
    | zero => exact h2
    | succ q ih => rw [show N + (q + 1) = N + q + 1 by omega, ps, if_neg (by omega), ih]
  funext t
  by_cases c : t < N
  · have := h1 t c
    rw [decide_eq_false (by omega), decide_eq_false (by omega)]
  · have := hN (t - N)
    rw [show N + (t - N) = t by omega] at this
    rw [decide_eq_true (by omega), decide_eq_true (by omega)]
theorem pCls_len {B : Int → Int} {n : Nat} {o : Bool} {fin : Nat → Bool} : ∀ (f t l w t1 : Nat) (cs : List Cls) (cc : List Int), l ≤ 50 → t ≤ n → pCls (cT B n) fin (pcO o (cT B n) (vT B n)) f t l w = (t1, some (cs, cc)) → cc.length + NT (cT B n) t + 2 * l ≤ 100 + NT (cT B n) n
  | 0, t, l, w, t1, cs, cc, _, _, e => by
    rw [pCls] at e
    cases e
  | f + 1, t, l, w, t1, cs, cc, hl, ht, e => by
    rcases e1 : pcO o (cT B n) (vT B n) t l w with ⟨t2, _ | ⟨l2, c2, d2⟩⟩
    · rw [pCls_n e1] at e
      cases e
    have hg := pcO_PG e1 hl ht
    by_cases h9 : cT B n t2 = 159
    · rw [pCls_s e1 h9] at e
      have hlt := zNlt (c := cT B n) (fun u hu => cT_N u hu) (show cT B n t2 ≠ 0 by rw [h9]; decide)
      rcases e3 : pCls (cT B n) fin (pcO o (cT B n) (vT B n)) f (t2 + 1) l2 (w + d2.length) with ⟨t3, _ | ⟨r3, c3⟩⟩
      · rw [e3] at e
        cases e
      rw [e3] at e
      have ih := pCls_len f (t2 + 1) l2 _ _ _ _ hg.1 hlt e3
      have hm := NT_mono (c := cT B n) (t := t2) 1
      cases e
      rw [List.length_append]
      omega
    · rw [pCls_e e1 h9] at e
      have hm := NT_le (c := cT B n) hg.2.1
      split at e
      · cases e
        omega
      · cases e
theorem pCls_N {Q : zTk} (hQ : okK Q) : ∀ (f t l w t1 : Nat) (cs : List Cls) (cc : List Int), l ≤ 50 → t ≤ Q.2.2.2 → pCls Q.1 (fun t => decide (Q.2.2.2 ≤ t)) (pcO false Q.1 Q.2.1) f t l w = (t1, some (cs, cc)) → t1 = Q.2.2.2
  | 0, t, l, w, t1, cs, cc, _, _, e => by
    rw [pCls] at e
    cases e
  | f + 1, t, l, w, t1, cs, cc, hl, ht, e => by
    rcases e1 : pcO false Q.1 Q.2.1 t l w with ⟨t2, _ | ⟨l2, c2, d2⟩⟩
    · rw [pCls_n e1] at e
      cases e
    have hg := pcO_G hQ e1 hl ht
    by_cases h9 : Q.1 t2 = 159
    · rw [pCls_s e1 h9] at e
      have hlt := zNlt (c := Q.1) hQ.2.1 (show Q.1 t2 ≠ 0 by rw [h9]; decide)
      rcases e3 : pCls Q.1 (fun t => decide (Q.2.2.2 ≤ t)) (pcO false Q.1 Q.2.1) f (t2 + 1) l2 (w + d2.length) with ⟨t3, _ | ⟨r3, c3⟩⟩
      · rw [e3] at e
        cases e
      rw [e3] at e
      have ih := pCls_N hQ f (t2 + 1) l2 _ _ _ _ hg.1 hlt e3
      cases e
      exact ih
    · rw [pCls_e e1 h9] at e
      split at e
      next c =>
        have := of_decide_eq_true c
        cases e
        omega
      next => cases e
/-- a law that was taken: as the class, as the reference keeps it -/
theorem law_taken {B : Int → Int} {n N t1 : Nat} {cs : List Cls} {cc : List Int} (hB : okB B n) (hQ : okK (cT B n, vT B n, fun u => (ps B n u : Int), N)) (h1 : ∀ u, u < N → ps B n u < n) (h2 : ps B n N = n) (e : pCls (cT B n) (fun t => decide (n ≤ ps B n t)) (pcO false (cT B n) (vT B n)) 12 0 0 85 = (t1, some (cs, cc))) : LwP false (cT B n, vT B n, fun u => (ps B n u : Int), N) cs cc ∧ 85 + cc.length ≤ 385 ∧ (∀ cl, cl ∈ cs → ClM cl) ∧ ∀ κ : Int → Int, κ 0 = (cs.length : Int) → cs.length ≤ 12 → (∀ (j : Nat) (cl : Cls), cs[j]? = some cl → Hd false κ j cl) → Seg κ 85 cc → LwC false κ cs := by
  have hlen := pCls_len _ _ _ _ _ _ _ (Nat.zero_le _) (Nat.zero_le _) e
  have h133 := NT_le133 hB n
  have hv : ∀ t, 0 ≤ vT B n t := hQ.2.2.1
  have hpc : ∀ {t l w t1 l1 : Nat} {cl : Cls} {cd : List Int}, pcO false (cT B n) (vT B n) t l w = (t1, some (l1, cl, cd)) → pLawC (cT B n) (vT B n) t l w = (t1, some (l1, cl, cd)) := by
    intro t l w t1 l1 cl cd q
    unfold pcO at q
    rwa [if_neg (by decide)] at q
  refine ⟨⟨hQ, ?_⟩, by omega, pCls_M (fun q => pLawC_M hv (hpc q)) _ _ _ _ _ _ _ e, fun κ k0 k1 k2 k3 => ⟨k0, k1, fun j cl hj => ⟨k2 j cl hj, ?_⟩⟩⟩
  · rw [ps_fin h1 h2] at e
    have := pCls_N hQ _ _ _ _ _ _ _ (Nat.zero_le _) (Nat.zero_le _) e
    subst this
    exact e
  · exact pCls_C (fun q r1 r2 => pLawC_C hv (hpc q) r1 r2) _ _ _ _ _ _ _ e k3 (by omega) cl (List.mem_of_getElem? hj)

