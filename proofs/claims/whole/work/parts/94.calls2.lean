/-! people, terms, what is told of debts -/
theorem LC_person {p r w : Int} : LC y_D_person y_M_person [vi p, vi r, vi w] := by
  intro k μ h0 h1 hJ
  obtain ⟨a1, a2, a3, a4, a5, a6, a7, a8, a9, a10⟩ := hJ.1
  have hR := hJ.2.2.2.2.1.2.2.2
  have hn := a1.1
  refine zCw.use (q_D_person (d := 100) (by decide) a1.1 (fun i x y => by have := hR i x y; omega)) (by decide) (fun q μ1 e => ?_)
  obtain ⟨rfl, e1, e2⟩ := e
  generalize hv : personC (μ 1 6) p r w = v at *
  have hM : HM μ μ1 := by
    by_cases c : v < 0
    · rw [e1 c]
      exact fun i hi => by unfold rfD; rw [zm_off _ (by omega), zm_off _ (by omega)]
    · rw [(e2 (by omega)).2]
      exact fun i hi => by rw [zm_off _ (by omega), zm_off _ (by omega), zm_off _ (by omega), zm_off _ (by omega), zm_off _ (by omega), zm_off _ (by omega)]
  have m7 := hM 357 (by decide)
  have m6 := hM 356 (by decide)
  refine ⟨_, rfl, zCw.use (q_M_person (d := 100) (by decide) (by rw [m7, a1.2]; exact a1.1) (fun i x y => by rw [m6]; have := hR i x y; omega)) (by decide) (fun q μ2 e => ?_)⟩
  obtain ⟨rfl, f1, f2⟩ := e
  rw [m7, a1.2, hv] at f1 f2 ⊢
  refine ⟨rfl, ?_⟩
  by_cases c : v < 0
  · have hv6 : -6 ≤ v := by
      rw [← hv]
      unfold personC zit
      repeat' split
      all_goals omega
    have := (hJ.m HC.rf hM).no (c := v) (by omega)
    rw [f1 c]
    exact this.m (fun i hi => by rw [e1 c]; unfold rfM; rw [zm_off _ (by omega), zm_off _ (by omega)]) (HM.rf)
  · obtain ⟨g1, g2⟩ := e2 (by omega)
    obtain ⟨-, f3⟩ := f2 (by omega)
    have hc : HC μ1 μ2 := fun i hi => by rw [f3, zm_off _ (by omega), zm_off _ (by omega), zm_off _ (by omega), zm_off _ (by omega), zm_off _ (by omega), zm_off _ (by omega)]
    refine JJ.m ?_ hc HM.rf
    have hJ1 := hJ.m HC.rf hM
    rw [f3]
    conv => arg 2; rw [g2]
    clear hJ hc f3 g2 e1 e2 f1 f2
    obtain ⟨a1, a2, a3, a4, a5, a6, a7, a8, a9, a10⟩ := hJ1.1
    refine JJ.ok (JJ.fo (JJ.tw hJ1 ?_ (by ((repeat refine KCt.sm ?_ (by unfold scC; omega)); exact KCt.rf)) (by ((repeat first | refine KMt.sm ?_ (by unfold scM; omega) | refine KMt.zf ?_ (by unfold kfM; omega)); exact KMt.rf)))) (by omega) rfl
    refine ⟨?_, ?_, ?_, ?_, ?_, ?_, ?_, ?_, ?_, ?_⟩
    all_goals first
      | (first | (refine a1.c ?_ ?_ <;> ((repeat rw [zm_o (by omega)]); (try rfl); done)) | (refine a2.c (fun i x y => ?_) (fun i x y => ?_) <;> ((repeat rw [zm_o (by omega)]); (try rfl); done)) | (refine a3.c (fun i x y => ?_) (fun i x y => ?_) <;> (try apply And.intro) <;> ((repeat rw [zm_o (by omega)]); (try rfl); done)) | (refine a4.c ?_ (fun i x y => ?_) (fun i x y => ?_) <;> (try simp only [fD]) <;> ((repeat rw [zm_o (by omega)]); (try rfl); done)) | (refine a5.c ?_ ?_ <;> ((repeat rw [zm_o (by omega)]); (try rfl); done)) | (refine a6.c ?_ ?_ <;> ((repeat rw [zm_o (by omega)]); (try rfl); done)) | (refine a7.c ?_ (fun c p1 p2 i x y => ?_) ?_ (fun i x y => ?_) <;> ((repeat rw [zm_o (by omega)]); (try rfl); done)) | (refine a8.c ?_ (fun c p1 p2 i x y => ?_) ?_ (fun i x y => ?_) <;> ((repeat rw [zm_o (by omega)]); (try rfl); done)) | (refine a9.c ?_ (fun c p1 p2 i x y => ?_) (fun i x y => ?_) <;> ((repeat rw [zm_o (by omega)]); (try rfl); done)) | (refine a10.c ?_ ?_ ?_ <;> ((repeat rw [zm_o (by omega)]); (try rfl); done)))
      | skip
    · refine ⟨?_, ?_⟩
      · rw [zm_s]
        omega
      · rw [zm_s, zm_s]
    · refine ⟨fun i x y => ?_, fun i x y => ?_⟩
      · (repeat rw [zm_o (by omega)])
        rw [zm_r, zit_t rfl]
        have := a2.1 i x y
        unfold zit
        split <;> omega
      · rw [zm_o (by omega), zm_o (by omega), zm_o (by omega), zm_r, zit_t rfl, zm_o (by omega), zm_o (by omega), zm_o (by omega), zm_r, zit_t rfl, a2.2 i x y]
    · intro i x y
      have := a3 i x y
      by_cases e : i = μ 1 6
      · subst e
        rw [zm_o (by omega), zm_o (by omega), zm_s, zm_o (by omega), zm_o (by omega), zm_s, zm_o (by omega), zm_s, zm_o (by omega), zm_s]
        omega
      · (repeat rw [zm_o (by omega)])
        exact this

