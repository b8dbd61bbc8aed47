/-! what holds at the law's entry -/
def lwEx (b : Nat) (adK adV : Nat → Nat) (k : Nat) : Nat := if k < 2 then b else if k < 13 then adK (k - 2) else adV (k - 13)
theorem lwEx_K {b : Nat} {adK adV : Nat → Nat} {i : Nat} (h : i < 11) : lwEx b adK adV (2 + i) = adK i := by
  unfold lwEx
  rw [if_neg (by omega), if_pos (by omega), show 2 + i - 2 = i by omega]
theorem lwEx_V {b : Nat} {adK adV : Nat → Nat} (i : Nat) : lwEx b adK adV (13 + i) = adV i := by
  unfold lwEx
  rw [if_neg (by omega), if_neg (by omega), show 13 + i - 13 = i by omega]
theorem vk_S.cong {N : Nat} {len : List Nat} {byt : List (List Int32)} {adK adV adK' adV' : Nat → Nat} {A : Nat → Prop} {U : State} {H : Heap} (h : vk_S N len byt adK adV A U H) (e1 : ∀ i, i < N → adK' i = adK i) (e2 : ∀ i, i < N → adV' i = adV i) : vk_S N len byt adK' adV' A U H :=
  ⟨fun i hi => by rw [e1 i hi, e2 i hi]; exact h.1 i hi, fun i j hi hj e => h.2 i j hi hj (by rw [← e1 i hi, ← e1 j hj]; exact e)⟩
theorem lw_Xt {args : Array Value} {s : State} (hgv : (Jvm.Cond.and given_1 narrow_1).before args s = true) (hts : ∀ w ∈ lw_tbl, w.before args s = true) (c0 : ClassId) (b : Nat) : ∃ G : zG0, G.2.2.1 1 = b ∧ G.2.2.2.2 = s.heap.size ∧ zXt G s s.heap := by
  have hA : ∀ a : Nat, a < s.heap.size → ¬ (fun q : Nat => s.heap.size ≤ q) a := fun a ha h => absurd (show s.heap.size ≤ a from h) (by omega)
  obtain ⟨adK, adV, hS, hK⟩ := lw_str hgv hA
  obtain ⟨D, hD⟩ := lw_cl (args := args) (s := s) (fun w hw => hts w (List.mem_filter.mp hw).1) c0
  obtain ⟨aT, hT⟩ := lw_ty hts
  obtain ⟨hZ1, v, hZ2, hv⟩ := lw_zs hgv hts hA
  refine ⟨(D, aT, lwEx b adK adV, fun _ => 0, s.heap.size), rfl, rfl, ⟨hD, hT⟩, fun w hw hn => ?_, vk_S.cong hS (fun i hi => lwEx_K hi) (fun i _ => lwEx_V i), fun i hi => ?_, hZ1, v, hZ2, hv, ?_⟩
  · have := hts w hw
    cases w <;> first | (simp [zisNest] at hn; done) | exact va_Nw.of rfl this
  · have h1 := vk_R.of (hts _ (lwA7 i hi)) (hK i hi)
    show vk_R _ _ _ (lwEx b adK adV (2 + i)) s
    rw [lwEx_K hi]
    exact h1
  · exact ⟨va_AO.of (hts (.arrayOver (.object "DebtDoors$Town")) (by decide +kernel)), va_AO.of (hts (.arrayOver (.object "DebtDoors$Ledger")) (by decide +kernel)), hts (.arrayOver (.array .int)) (by decide +kernel)⟩

