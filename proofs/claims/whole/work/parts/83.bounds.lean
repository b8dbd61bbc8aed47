/-! what a meaning tells lies in bounds -/
def WB (W : Int → Int) : Prop := ∀ i : Int, 0 ≤ i → i < 60 → okV (W i)
def okM (m : Mn) : Prop := ∀ W, WB W → ∀ x, m W = some x → okV x
def MB (pp : Pr) : Prop := ∀ t l w t1 l1 m c, pp t l w = (t1, some (l1, m, c)) → okM m
theorem okM_op {o : Int} {m1 m2 : Mn} (h1 : okM m1) (h2 : okM m2) : okM (mOp o m1 m2) := by
  intro W hW x e
  unfold mOp at e
  rcases e1 : m1 W with _ | a
  · rw [e1] at e
    cases e
  rw [e1, ob_s] at e
  split at e
  · split at e
    · exact h2 W hW x e
    · cases e
      exact h1 W hW _ e1
  split at e
  · split at e
    · cases e
      exact h1 W hW _ e1
    · exact h2 W hW x e
  rcases e2 : m2 W with _ | b
  · rw [e2] at e
    cases e
  rw [e2, ob_s] at e
  unfold opV bnd at e
  unfold okV
  repeat' split at e
  all_goals first | (cases e; done) | (cases e; omega)
theorem okM_not {m : Mn} (h : okM m) : okM (mNot m) := by
  intro W hW x e
  unfold mNot at e
  rcases e1 : m W with _ | a
  · rw [e1] at e
    cases e
  rw [e1] at e
  cases e
  have := h W hW _ e1
  unfold okV at *
  omega
theorem MB_loop {c : Nat → Int} {op : Int → Int} {j : Bool} {pp : Pr} (h : MB pp) : ∀ (f : Nat) (m : Mn) (t l w t1 l1 : Nat) (m1 : Mn) (cd : List Int), okM m → pLoop c op j pp f m t l w = (t1, some (l1, m1, cd)) → okM m1
  | 0, m, t, l, w, t1, l1, m1, cd, hm, e => by
    rw [pLoop] at e
    cases e
    exact hm
  | f + 1, m, t, l, w, t1, l1, m1, cd, hm, e => by
    by_cases e0 : op (c t) = 0
    · rw [pLoop_0 e0] at e
      cases e
      exact hm
    rcases e1 : pp (t + 1) l (if j = true then w + 1 else w) with ⟨t2, _ | ⟨l2, m2, c2⟩⟩
    · rw [pLoop_n e0 e1] at e
      cases e
    rw [pLoop_s e0 e1] at e
    rcases e3 : pLoop c op j pp f (mOp (op (c t)) m m2) t2 l2 (w + c2.length + 1) with ⟨t3, _ | ⟨l3, m3, c3⟩⟩
    · rw [e3] at e
      cases e
    rw [e3] at e
    have := MB_loop h f _ _ _ _ _ _ _ _ (okM_op hm (h _ _ _ _ _ _ _ e1)) e3
    cases e
    exact this
theorem MB_row {c : Nat → Int} {op : Int → Int} {j : Bool} {pp : Pr} (h : MB pp) : MB (pRow c op j pp) := by
  intro t l w t2 l2 m2 cd e
  rcases e1 : pp t l w with ⟨t1, _ | ⟨l1, m1, c1⟩⟩
  · rw [pRow_n e1] at e
    cases e
  rw [pRow_s e1] at e
  rcases e2 : pLoop c op j pp 400 m1 t1 l1 (w + c1.length) with ⟨t3, _ | ⟨l3, m3, c3⟩⟩
  · rw [e2] at e
    cases e
  rw [e2] at e
  have := MB_loop h _ _ _ _ _ _ _ _ _ (h _ _ _ _ _ _ _ e1) e2
  cases e
  exact this
theorem MB_part {o : Bool} {c v : Nat → Int} {S : Option Pr} (hv : ∀ t, 0 ≤ v t) (h : ∀ s, S = some s → MB s) : MB (pPart o c v S) := by
  intro t l w t2 l2 m2 cd e
  have h0 := hv t
  have h1 := hv (t + 1)
  have h2 := hv (t + 2)
  unfold pPart ordI at e
  split at e
  · cases S with
    | none => cases e
    | some s =>
      simp only at e
      rcases e1 : s (t + 1) l w with ⟨t1, _ | ⟨l1, m1, c1⟩⟩
      · rw [e1] at e
        cases e
      rw [e1] at e
      simp only at e
      split at e
      · cases e
        exact h s rfl _ _ _ _ _ _ _ e1
      · cases e
  · intro W hW x hx
    repeat' split at e
    all_goals first | (cases e; done) | (cases e; cases hx; first | (exact hW _ (by omega) (by omega)) | (unfold okV; omega))
theorem MB_pos {c : Nat → Int} {S : Pr} {T : Option Pr} (hS : MB S) (hT : ∀ q, T = some q → MB q) : MB (pPos c S T) := by
  intro t l w t2 l2 m2 cd e
  unfold pPos at e
  split at e
  · cases T with
    | none => cases e
    | some s =>
      simp only at e
      rcases e1 : s (t + 1) l w with ⟨t1, _ | ⟨l1, m1, c1⟩⟩
      · rw [e1] at e
        cases e
      rw [e1] at e
      simp only at e
      split at e
      · cases e
        exact hT s rfl _ _ _ _ _ _ _ e1
      · cases e
  · rcases e1 : S t l w with ⟨t1, _ | ⟨l1, m1, c1⟩⟩
    · rw [e1] at e
      cases e
    rw [e1] at e
    simp only at e
    split at e
    · cases e
    · rcases e3 : S (t1 + 1) l1 (w + c1.length) with ⟨t3, _ | ⟨l3, m3, c3⟩⟩
      · rw [e3] at e
        cases e
      rw [e3] at e
      have := okM_op (o := oCmp (c t1)) (hS _ _ _ _ _ _ _ e1) (hS _ _ _ _ _ _ _ e3)
      cases e
      exact this
theorem MB_plain {c : Nat → Int} {S : Pr} {T : Option Pr} (hS : MB S) (hT : ∀ q, T = some q → MB q) : MB (pPlain c S T) := by
  intro t l w t2 l2 m2 cd e
  unfold pPlain pNeg at e
  rcases e1 : pPos c S T (t + nNot c 400 t) l w with ⟨t1, _ | ⟨l1, m1, c1⟩⟩
  · rw [e1] at e
    split at e <;> cases e
  rw [e1] at e
  have := MB_pos hS hT _ _ _ _ _ _ _ e1
  split at e
  · cases e
    exact okM_not this
  · cases e
    exact this
theorem MB_S {o : Bool} {c v : Nat → Int} (hv : ∀ t, 0 ≤ v t) : ∀ k, MB (lvS o c v k)
  | 0 => MB_row (MB_row (MB_part hv (fun s h => by cases h)))
  | k + 1 => by
    rw [lvS]
    exact MB_row (MB_row (MB_part hv (fun s h => by cases h; exact MB_S hv k)))
theorem MB_T {o : Bool} {c v : Nat → Int} (hv : ∀ t, 0 ≤ v t) : ∀ k, MB (lvT o c v k)
  | 0 => MB_row (MB_row (MB_plain (MB_S hv 0) (fun q h => by cases h)))
  | k + 1 => by
    rw [lvT]
    exact MB_row (MB_row (MB_plain (MB_S hv (k + 1)) (fun q h => by cases h; exact MB_T hv k)))
/-- a law's clause: what it tells -/
def ClM (cl : Cls) : Prop := okM cl.2.2.2.1 ∧ (cl.1 = 3 → ∀ W, cl.2.2.2.1 W = some 1)
theorem pLawC_M {c v : Nat → Int} (hv : ∀ t, 0 ≤ v t) {t l w t1 l1 : Nat} {cl : Cls} {cd : List Int} (e : pLawC c v t l w = (t1, some (l1, cl, cd))) : ClM cl := by
  unfold pLawC at e
  split at e
  next h =>
    rcases e1 : pLw c v t l w with ⟨t2, _ | ⟨l2, m2, c2⟩⟩
    · rw [e1] at e
      cases e
    rw [e1] at e
    simp only at e
    rcases e2 : pMT false c v t2 l2 (w + c2.length) with ⟨t3, _ | ⟨l3, m3, c3⟩⟩
    · rw [e2] at e
      cases e
    rw [e2] at e
    cases e
    refine ⟨?_, fun q3 W => ?_⟩
    · show okM m2
      unfold pLw at e1
      split at e1
      · cases e1
        intro W hW x hx
        cases hx
        unfold okV
        omega
      · exact MB_S hv 8 _ _ _ _ _ _ _ e1
    · have q3 : c t - 1 = 3 := q3
      show m2 W = some 1
      unfold pLw at e1
      rw [if_pos (by omega)] at e1
      cases e1
      rfl
  next => cases e
theorem pCls_M {o : Bool} {c v : Nat → Int} {fin : Nat → Bool} {X : Cls → Prop} (hC : ∀ {t l w t1 l1 : Nat} {cl : Cls} {cd : List Int}, pcO o c v t l w = (t1, some (l1, cl, cd)) → X cl) : ∀ (f t l w t1 : Nat) (cs : List Cls) (cc : List Int), pCls c fin (pcO o c v) f t l w = (t1, some (cs, cc)) → ∀ cl, cl ∈ cs → X cl
  | 0, t, l, w, t1, cs, cc, e, cl, _ => by
    rw [pCls] at e
    cases e
  | f + 1, t, l, w, t1, cs, cc, e, cl, hx => by
    rcases e1 : pcO o c v t l w with ⟨t2, _ | ⟨l2, c2, d2⟩⟩
    · rw [pCls_n e1] at e
      cases e
    by_cases h9 : c t2 = 159
    · rw [pCls_s e1 h9] at e
      rcases e3 : pCls c fin (pcO o c v) f (t2 + 1) l2 (w + d2.length) with ⟨t3, _ | ⟨r3, c3⟩⟩
      · rw [e3] at e
        cases e
      rw [e3] at e
      cases e
      rw [List.mem_append, List.mem_singleton] at hx
      rcases hx with hx | hx
      · rw [hx]
        exact hC e1
      · exact pCls_M hC f _ _ _ _ _ _ e3 cl hx
    · rw [pCls_e e1 h9] at e
      split at e
      · cases e
        rw [List.mem_singleton] at hx
        rw [hx]
        exact hC e1
      · cases e
theorem lstT_in {W : Int → Int} {kind : Int} {s : Int} : ∀ {cls : List Cls}, lstT W kind cls = some s → ∃ cl, cl ∈ cls ∧ cl.1 = kind ∧ cl.2.2.2.1 W = some s
  | [], e => by cases e
  | c1 :: cs, e => by
    rw [lstT] at e
    rcases e1 : lstT W kind cs with _ | x
    · rw [e1] at e
      have e : tlC W kind c1 = some s := e
      unfold tlC at e
      split at e
      next q => exact ⟨c1, List.mem_cons_self, q.1, e⟩
      next => cases e
    · rw [e1] at e
      cases e
      obtain ⟨cl, h1, h2⟩ := lstT_in e1
      exact ⟨cl, List.mem_cons_of_mem _ h1, h2⟩

