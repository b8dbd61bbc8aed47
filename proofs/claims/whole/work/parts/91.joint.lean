/-! both sides hold the same -/
theorem zm_o {μ : zMem} {k c : Nat} {j v i : Int} (h : c ≠ k ∨ i ≠ j) : zm μ k j v c i = μ c i := by
  rw [zm_r]
  unfold zit
  split
  · split
    · exfalso
      omega
    · rfl
  · rfl
/-- a town: cells of the class from 1 on, a row of the reference -/
def TP (T : zMem) (κ : Int → Int) : Prop := (0 ≤ T 1 6 ∧ T 1 6 ≤ 7) ∧ κ 152 = T 1 6
def TU (T : zMem) (κ : Int → Int) : Prop := okP (T 3) ∧ ∀ i : Int, 0 ≤ i → i < 7 → κ i = T 3 i
def TR (T : zMem) (κ : Int → Int) : Prop := ∀ i : Int, 0 ≤ i → i < 7 → (κ (73 + 2 * i) = T 8 i ∧ 0 ≤ T 8 i ∧ T 8 i ≤ 3) ∧ κ (74 + 2 * i) = T 9 i ∧ 0 ≤ T 9 i ∧ T 9 i ≤ 99
def TD (T : zMem) (κ : Int → Int) : Prop := okT (T 2 5) (fD T) ∧ κ 71 = T 2 5 ∧ dbM (fun _ => κ) = dbD T
def TY (T : zMem) (κ : Int → Int) : Prop := (0 ≤ T 2 6 ∧ T 2 6 ≤ 999) ∧ κ 72 = T 2 6
def TO (T : zMem) (κ : Int → Int) : Prop := (0 ≤ T 1 7 ∧ T 1 7 ≤ 9) ∧ κ 151 = T 1 7
def okF (mx : Int) (f : Int → Int) : Prop := (0 ≤ f 0 ∧ f 0 ≤ 6) ∧ (0 ≤ f 1 ∧ f 1 ≤ 6) ∧ f 0 ≠ f 1 ∧ (1 ≤ f 2 ∧ f 2 ≤ 3) ∧ 0 ≤ f 3 ∧ f 3 ≤ mx
/-- what is told in fours: visits, scuffs -/
def TV (j : Int) (C : Nat) (a b mx : Int) (T : zMem) (κ : Int → Int) : Prop := (0 ≤ T 1 j ∧ T 1 j ≤ 8) ∧ κ a = T 1 j ∧ ∀ i : Int, 0 ≤ i → i < T 1 j → (κ (b + 4 * i) = T (C + i.toNat) 0 ∧ κ (b + 4 * i + 1) = T (C + i.toNat) 1 ∧ κ (b + 4 * i + 2) = T (C + i.toNat) 2 ∧ κ (b + 4 * i + 3) = T (C + i.toNat) 3) ∧ okF mx (T (C + i.toNat))
/-- a law, as both keep it -/
def LwX (p κ : Int → Int) (f : Int) : Prop := ∃ (cls : List Cls) (cc : List Int) (Q : zTk), (p 0 = (cls.length : Int) ∧ cls.length ≤ 12 ∧ (∀ (j : Nat) (cl : Cls), cls[j]? = some cl → Hd false p j cl) ∧ Seg p 85 cc) ∧ 85 + cc.length ≤ 385 ∧ (∀ cl, cl ∈ cls → ClM cl) ∧ (∀ q : Int → Int, q 0 = (cls.length : Int) → cls.length ≤ 12 → (∀ (j : Nat) (cl : Cls), cls[j]? = some cl → Hd false q j cl) → Seg q 85 cc → LwC false q cls) ∧ LwM κ f Q ∧ LwP false Q cls cc
def TL (T : zMem) (κ : Int → Int) : Prop := (0 ≤ T 1 10 ∧ T 1 10 ≤ 6) ∧ κ 155 = T 1 10 ∧ ∀ f : Int, 0 ≤ f → f < T 1 10 → LwX (T (29 + f.toNat)) κ f
def TF (T : zMem) (κ : Int → Int) : Prop := κ 156 = T 1 11 ∧ -1 ≤ T 1 11 ∧ T 1 11 < T 1 10
theorem TP.c {T T' : zMem} {κ κ' : Int → Int} (h : TP T κ) (h1 : T' 1 6 = T 1 6) (h2 : κ' 152 = κ 152) : TP T' κ' := by
  unfold TP at *
  rw [h1, h2]
  exact h
theorem TU.c {T T' : zMem} {κ κ' : Int → Int} (h : TU T κ) (h1 : ∀ i : Int, 0 ≤ i → i < 7 → T' 3 i = T 3 i) (h2 : ∀ i : Int, 0 ≤ i → i < 7 → κ' i = κ i) : TU T' κ' :=
  ⟨fun i a b => by rw [h1 i a b]; exact h.1 i a b, fun i a b => by rw [h1 i a b, h2 i a b]; exact h.2 i a b⟩
theorem TR.c {T T' : zMem} {κ κ' : Int → Int} (h : TR T κ) (h1 : ∀ i : Int, 0 ≤ i → i < 7 → T' 8 i = T 8 i ∧ T' 9 i = T 9 i) (h2 : ∀ i : Int, 73 ≤ i → i < 87 → κ' i = κ i) : TR T' κ' := fun i a b => by
  rw [(h1 i a b).1, (h1 i a b).2, h2 _ (by omega) (by omega), h2 _ (by omega) (by omega)]
  exact h i a b
theorem TD.c {T T' : zMem} {κ κ' : Int → Int} (h : TD T κ) (h1 : T' 2 5 = T 2 5) (h2 : ∀ i : Int, 0 ≤ i → i < 16 → fD T' i = fD T i) (h3 : ∀ i : Int, 7 ≤ i → i ≤ 71 → κ' i = κ i) : TD T' κ' := by
  obtain ⟨⟨a, b⟩, c, e⟩ := h
  refine ⟨⟨by rw [h1]; exact a, fun j q1 q2 => ?_⟩, by rw [h1, h3 71 (by decide) (by decide)]; exact c, ?_⟩
  · rw [h1] at q2
    rw [h2 j q1 (by omega)]
    exact b j q1 q2
  · have e1 : dbD T' = dbD T := dbD_eq h1 (fun i p q => h2 i p (by omega))
    rw [e1, ← e]
    exact dbM_c (μ := fun _ => κ) (μ' := fun _ => κ') (by show κ 71 ≤ 16; omega) (fun j p q => h3 j p q)
theorem TY.c {T T' : zMem} {κ κ' : Int → Int} (h : TY T κ) (h1 : T' 2 6 = T 2 6) (h2 : κ' 72 = κ 72) : TY T' κ' := by
  unfold TY at *
  rw [h1, h2]
  exact h
theorem TO.c {T T' : zMem} {κ κ' : Int → Int} (h : TO T κ) (h1 : T' 1 7 = T 1 7) (h2 : κ' 151 = κ 151) : TO T' κ' := by
  unfold TO at *
  rw [h1, h2]
  exact h
theorem TV.c {j : Int} {C : Nat} {a b mx : Int} {T T' : zMem} {κ κ' : Int → Int} (h : TV j C a b mx T κ) (h1 : T' 1 j = T 1 j) (h2 : ∀ c : Nat, C ≤ c → c < C + 8 → ∀ i : Int, 0 ≤ i → i < 4 → T' c i = T c i) (h3 : κ' a = κ a) (h4 : ∀ i : Int, b ≤ i → i < b + 32 → κ' i = κ i) : TV j C a b mx T' κ' := by
  obtain ⟨p, q, r⟩ := h
  refine ⟨by rw [h1]; exact p, by rw [h1, h3]; exact q, fun i p1 p2 => ?_⟩
  rw [h1] at p2
  have := r i p1 p2
  unfold okF at *
  rw [h2 _ (by omega) (by omega) 0 (by decide) (by decide), h2 _ (by omega) (by omega) 1 (by decide) (by decide), h2 _ (by omega) (by omega) 2 (by decide) (by decide), h2 _ (by omega) (by omega) 3 (by decide) (by decide), h4 _ (by omega) (by omega), h4 _ (by omega) (by omega), h4 _ (by omega) (by omega), h4 _ (by omega) (by omega)]
  exact this
theorem LwM_c {κ κ' : Int → Int} {f : Int} {Q : zTk} (h : LwM κ f Q) (hf : 0 ≤ f ∧ f ≤ 5) (hQ : Q.2.2.2 ≤ 400) (h1 : ∀ i : Int, 157 ≤ i → i < 5764 → κ' i = κ i) : LwM κ' f Q := by
  refine ⟨by rw [h1 _ (by omega) (by omega)]; exact h.1, fun u hu => ?_⟩
  rw [h1 _ (by omega) (by omega), h1 _ (by omega) (by omega)]
  exact h.2 u hu
theorem LwX.c {p p' κ κ' : Int → Int} {f : Int} (h : LwX p κ f) (hf : 0 ≤ f ∧ f ≤ 5) (h1 : ∀ i : Int, 0 ≤ i → i < 385 → p' i = p i) (h2 : ∀ Q : zTk, Q.2.2.2 ≤ 400 → LwM κ f Q → LwM κ' f Q) : LwX p' κ' f := by
  obtain ⟨cls, cc, Q, ⟨a1, a2, a3, a4⟩, b, c, e, g1, g2⟩ := h
  refine ⟨cls, cc, Q, ⟨by rw [h1 0 (by decide) (by decide)]; exact a1, a2, fun j cl hj => Hd_c (a3 j cl hj) (fun i hi => ?_), Seg_d a4 (fun i q1 q2 => h1 i (by omega) (by omega))⟩, b, c, e, h2 Q g2.1.1 g1, g2⟩
  have := (List.getElem?_eq_some_iff.mp hj).1
  unfold hd_in at hi
  exact h1 i (by omega) (by omega)
theorem TL.c {T T' : zMem} {κ κ' : Int → Int} (h : TL T κ) (h1 : T' 1 10 = T 1 10) (h2 : ∀ c : Nat, 29 ≤ c → c < 35 → ∀ i : Int, 0 ≤ i → i < 385 → T' c i = T c i) (h3 : ∀ i : Int, (i = 155 ∨ 157 ≤ i) → i < 5764 → κ' i = κ i) : TL T' κ' := by
  obtain ⟨p, q, r⟩ := h
  refine ⟨by rw [h1]; exact p, by rw [h1, h3 155 (by decide) (by decide)]; exact q, fun f a b => ?_⟩
  rw [h1] at b
  exact (r f a b).c (by omega) (h2 _ (by omega) (by omega)) (fun Q hQ hL => LwM_c hL (by omega) hQ (fun i x y => h3 i (Or.inr x) y))
theorem TF.c {T T' : zMem} {κ κ' : Int → Int} (h : TF T κ) (h1 : T' 1 11 = T 1 11) (h2 : T' 1 10 = T 1 10) (h3 : κ' 156 = κ 156) : TF T' κ' := by
  unfold TF at *
  rw [h1, h2, h3]
  exact h
abbrev TVv : zMem → (Int → Int) → Prop := TV 8 11 153 87 999
abbrev TVs : zMem → (Int → Int) → Prop := TV 9 20 154 119 1
def TJ (T : zMem) (κ : Int → Int) : Prop := TP T κ ∧ TU T κ ∧ TR T κ ∧ TD T κ ∧ TY T κ ∧ TO T κ ∧ TVv T κ ∧ TVs T κ ∧ TL T κ ∧ TF T κ
def zext (c : Nat) : Int := if c = 1 then 12 else if c ≤ 3 then 7 else if c ≤ 7 then 16 else if c ≤ 9 then 7 else if c ≤ 28 then 4 else 385
theorem TJ.c {T T' : zMem} {κ κ' : Int → Int} (h : TJ T κ) (h1 : ∀ c : Nat, 1 ≤ c → c ≤ 34 → ∀ i : Int, 0 ≤ i → i < zext c → T' c i = T c i) (h2 : ∀ i : Int, 0 ≤ i → i < 5764 → κ' i = κ i) : TJ T' κ' := by
  obtain ⟨a1, a2, a3, a4, a5, a6, a7, a8, a9, a10⟩ := h
  have e1 : ∀ i : Int, 0 ≤ i → i < 12 → T' 1 i = T 1 i := fun i a b => h1 1 (by decide) (by decide) i a (by show i < 12; exact b)
  have e2 : ∀ i : Int, 0 ≤ i → i < 7 → T' 2 i = T 2 i := fun i a b => h1 2 (by decide) (by decide) i a (by show i < 7; exact b)
  have h3 : ∀ c : Nat, 10 ≤ c → c ≤ 28 → ∀ i : Int, 0 ≤ i → i < 4 → T' c i = T c i := fun c p q i a b => h1 c (by omega) (by omega) i a (by unfold zext; repeat' split; all_goals omega)
  refine ⟨a1.c (e1 6 (by decide) (by decide)) (h2 _ (by decide) (by decide)), a2.c (fun i a b => h1 3 (by decide) (by decide) i a b) (fun i a b => h2 i a (by omega)), a3.c (fun i a b => ⟨h1 8 (by decide) (by decide) i a b, h1 9 (by decide) (by decide) i a b⟩) (fun i a b => h2 i (by omega) (by omega)), a4.c (e2 5 (by decide) (by decide)) (fun i a b => ?_) (fun i a b => h2 i (by omega) (by omega)), a5.c (e2 6 (by decide) (by decide)) (h2 _ (by decide) (by decide)), a6.c (e1 7 (by decide) (by decide)) (h2 _ (by decide) (by decide)), a7.c (e1 8 (by decide) (by decide)) (fun c p q => h3 c (by omega) (by omega)) (h2 _ (by decide) (by decide)) (fun i a b => h2 i (by omega) (by omega)), a8.c (e1 9 (by decide) (by decide)) (fun c p q => h3 c (by omega) (by omega)) (h2 _ (by decide) (by decide)) (fun i a b => h2 i (by omega) (by omega)), a9.c (e1 10 (by decide) (by decide)) (fun c p q i a b => h1 c (by omega) (by omega) i a (by unfold zext; repeat' split; all_goals omega)) (fun i a b => h2 i (by omega) b), a10.c (e1 11 (by decide) (by decide)) (e1 10 (by decide) (by decide)) (h2 _ (by decide) (by decide))⟩
  unfold fD
  rw [h1 4 (by decide) (by decide) i a b, h1 5 (by decide) (by decide) i a b, h1 6 (by decide) (by decide) i a b, h1 7 (by decide) (by decide) i a b]
/-! what can be undone -/
def okL (l : List D4) : Prop := l.length ≤ 16 ∧ ∀ x, x ∈ l → okd x
def RwR (x : Lg × Int) (r : List Int) : Prop := (∀ i : Int, 0 ≤ i → i < 7 → gL 0 x.1.1 i = gL 0 r i ∧ 0 ≤ gL 0 r i ∧ gL 0 r i ≤ 9999) ∧ (okL x.1.2.1 ∧ gL 0 r 71 = (x.1.2.1.length : Int) ∧ dbM (fun _ => gL 0 r) = x.1.2.1) ∧ (gL 0 r 72 = x.1.2.2 ∧ 0 ≤ x.1.2.2 ∧ x.1.2.2 ≤ 999) ∧ gL 0 r 73 = x.2 ∧ 0 ≤ x.2 ∧ x.2 ≤ 5
def UR (D : List (Lg × Int)) (M : List (List Int)) : Prop := D.length = M.length ∧ ∀ (i : Nat) (x : Lg × Int) (r : List Int), D[i]? = some x → M[i]? = some r → RwR x r
def JU (μc μr : zMem) : Prop := ((0 ≤ μc 111 2 ∧ μc 111 2 < 17) ∧ 0 ≤ μc 111 3 ∧ μc 111 3 ≤ 16) ∧ μr 355 28 = μc 111 3 ∧ (∀ s : Int, 0 ≤ s → s < 17 → 0 ≤ μc (slC 111 s) 5 ∧ μc (slC 111 s) 5 ≤ 16) ∧ UR (unD μc 111) (unM μr)
/-! images, the tape, what was told last, the latest month -/
def imT (μ : zMem) (s : Nat) : zMem := fun c => μ (c + s)
def imK (μ : zMem) (k : Int) : Int → Int := fun i => μ 358 (5764 * k + i)
def imS (k : Int) : Nat := if k = 0 then 35 else 69
def JI (μc μr : zMem) : Prop := ∀ k : Int, (k = 0 ∨ k = 1) → μr 359 k = μc 104 k ∧ (μc 104 k = 0 ∨ μc 104 k = 1 ∧ TJ (imT μc (imS k)) (imK μr k))
def JT (μc μr : zMem) : Prop := ∃ n : Nat, μc 321 2 = (n : Int) ∧ μr 355 11 = (n : Int) ∧ n ≤ 400 ∧ (∀ i : Int, 0 ≤ i → i < 400 → (0 ≤ μc 322 i ∧ μc 322 i ≤ 255) ∧ μr 362 i = sgn (μc 322 i)) ∧ μr 355 12 = μc 321 3 ∧ ∀ i : Int, 0 ≤ i → i < 147 → μr 361 i = wTab i
def JS (k : Int) (μc μr : zMem) : Prop := μr 355 0 = μc 0 15 ∧ μr 355 6 = μc 0 16 ∧ μr 355 47 = μc 0 17 ∧ ∀ i : Int, 0 ≤ i → i ≤ 6 → μr 356 i = μc 354 i ∧ 0 ≤ μc 354 i ∧ μc 354 i ≤ k
def JM (μc μr : zMem) : Prop := (0 ≤ μc 351 2 ∧ μc 351 2 ≤ 7) ∧ μr 355 59 = μc 351 2 ∧ ∀ p : Int, 0 ≤ p → p < μc 351 2 → μr 384 p = μc 352 (3 * p) ∧ μr 385 p = μc 352 (3 * p + 1) ∧ μr 386 p = μc 352 (3 * p + 2)
/-- the words lie in bounds -/
def bW (f : Int → Int) : Prop := ∀ i : Int, 0 ≤ i → i < 60 → -1000000 ≤ f i ∧ f i ≤ 1000000
def JJ (k : Int) (μc μr : zMem) : Prop := TJ μc (μr 357) ∧ JU μc μr ∧ JI μc μr ∧ JT μc μr ∧ JS k μc μr ∧ JM μc μr ∧ bW (μc 326)

