abbrev zFo : zKo := fun _ _ => False
section RW
variable {M : zMi} {d b b' b'' pc p1 p2 p3 p4 pc' tt ff mm tgt i k ci kd ix pn pb pk ps : Nat} {ret : Option FieldType} {n off : Int} {v v1 v2 v3 : zEn → zMem → Int} {o o1 o2 o3 : zEn → zMem → Prop} {r r1 : zEn → zMem → Nat} {c c1 c2 c3 : zEn → zMem → Bool} {vs : zEn → zMem → List zV}
  {y y1 y2 : (Int → zMem → Prop) → zEn → zMem → Prop} {xc xc1 xc2 : (Bool → zMem → Prop) → zEn → zMem → Prop} {xv : (zMem → Prop) → zEn → zMem → Prop} {s s1 s2 s3 : zKo → zKo → zKo → zRo → zKo}
/-- labels that stand ahead of a goto -/
theorem rGoE (h : RE M d b pc p1 v o) (dg : decode M.2.1 p1 = .ok (.goto off, 3)) (ht : (p1 : Int) + off = (p2 : Int)) : RE M d b pc p2 v o := fun Γ ad ρ st μ X hb ho k => h Γ ad ρ st μ X hb ho (zi_goto X dg ht k)
theorem xGoE (h : XE M d b pc p1 y) (dg : decode M.2.1 p1 = .ok (.goto off, 3)) (ht : (p1 : Int) + off = (p2 : Int)) : XE M d b pc p2 y := fun Γ ad ρ st μ K X hb hx kk => h Γ ad ρ st μ K X hb hx (fun q μ' hq => zi_goto X dg ht (kk q μ' hq))
theorem rGoL (h : RL M d b pc p1 v o) (dg : decode M.2.1 p1 = .ok (.goto off, 3)) (ht : (p1 : Int) + off = (p2 : Int)) : RL M d b pc p2 v o := fun Γ ad ρ st μ X hb ho k => h Γ ad ρ st μ X hb ho (zi_goto X dg ht k)
theorem rGt (h : RC M d b pc p1 ff c o) (dg : decode M.2.1 p1 = .ok (.goto off, 3)) (ht : (p1 : Int) + off = (p2 : Int)) : RC M d b pc p2 ff c o := fun Γ ad ρ st μ X hb ho kt kf => h Γ ad ρ st μ X hb ho (fun e => zi_goto X dg ht (kt e)) kf
theorem rGf (h : RC M d b pc tt p1 c o) (dg : decode M.2.1 p1 = .ok (.goto off, 3)) (ht : (p1 : Int) + off = (p2 : Int)) : RC M d b pc tt p2 c o := fun Γ ad ρ st μ X hb ho kt kf => h Γ ad ρ st μ X hb ho kt (fun e => zi_goto X dg ht (kf e))
theorem xGt (h : XC M d b pc p1 ff xc) (dg : decode M.2.1 p1 = .ok (.goto off, 3)) (ht : (p1 : Int) + off = (p2 : Int)) : XC M d b pc p2 ff xc := fun Γ ad ρ st μ K X hb hx kt kf => h Γ ad ρ st μ K X hb hx (fun μ' e => zi_goto X dg ht (kt μ' e)) kf
theorem xGf (h : XC M d b pc tt p1 xc) (dg : decode M.2.1 p1 = .ok (.goto off, 3)) (ht : (p1 : Int) + off = (p2 : Int)) : XC M d b pc tt p2 xc := fun Γ ad ρ st μ K X hb hx kt kf => h Γ ad ρ st μ K X hb hx kt (fun μ' e => zi_goto X dg ht (kf μ' e))
theorem sGo (h : SS M ret d pc p1 pb pk s) (dg : decode M.2.1 p1 = .ok (.goto off, 3)) (ht : (p1 : Int) + off = (pn : Int)) : SS M ret d pc pn pb pk s := fun Γ ad ρ μ N B C Rp X Y hx kn kb kk => h Γ ad ρ μ N B C Rp X Y hx (fun ρ' μ' q => zi_goto X dg ht (kn ρ' μ' q)) kb kk
theorem s0 : SS M ret d pc pc pb pk (fun N _ _ _ => N) := fun Γ ad ρ μ N B C Rp X Y hx kn kb kk => kn ρ μ hx
theorem sS (h1 : SS M ret d pc p1 pb pk s1) (h2 : SS M ret d p1 pn pb pk s2) : SS M ret d pc pn pb pk (fun N B C R => s1 (s2 N B C R) B C R) := fun Γ ad ρ μ N B C Rp X Y hx kn kb kk => h1 Γ ad ρ μ _ B C Rp X Y hx (fun ρ' μ' q => h2 Γ ad ρ' μ' N B C Rp X Y q kn kb kk) kb kk
theorem sI (h : XE M d 0 pc p1 y) (dec : decode M.2.1 p1 = .ok (.istore i, 2)) (hi : i < M.2.2) : SS M ret d pc (p1 + 2) pb pk (fun N _ _ _ ρ μ => y (fun n μ1 => zfree ρ i ∧ N (ρ.set i (vi n)) μ1) ρ μ) :=
  fun Γ ad ρ μ N B C Rp X Y hx kn _ _ => h Γ ad ρ [] μ _ X (Nat.le_refl 0) hx (fun q μ1 e => zi_store X dec e.1 hi (kn _ _ e.2))
theorem sIn {q : Fin 4} (i : Nat) (h : XE M d 0 pc p1 y) (dec : decode M.2.1 p1 = .ok (.istore_n q, 1)) (hq : (q : Nat) = i) (hi : i < M.2.2) : SS M ret d pc (p1 + 1) pb pk (fun N _ _ _ ρ μ => y (fun n μ1 => zfree ρ i ∧ N (ρ.set i (vi n)) μ1) ρ μ) :=
  fun Γ ad ρ μ N B C Rp X Y hx kn _ _ => h Γ ad ρ [] μ _ X (Nat.le_refl 0) hx (fun q μ1 e => zi_storen X dec hq e.1 hi (kn _ _ e.2))
theorem sL (h : XL M d 0 pc p1 y) (dec : decode M.2.1 p1 = .ok (.lstore i, 2)) (hi : i + 1 < M.2.2) : SS M ret d pc (p1 + 2) pb pk (fun N _ _ _ ρ μ => y (fun n μ1 => zfree ρ i ∧ N ((ρ.set i (vl n)).set (i + 1) (vx 0)) μ1) ρ μ) :=
  fun Γ ad ρ μ N B C Rp X Y hx kn _ _ => h Γ ad ρ [] μ _ X (Nat.le_refl 0) hx (fun q μ1 e => zi_lstore X dec e.1 hi (kn _ _ e.2))
theorem sLn {q : Fin 4} (i : Nat) (h : XL M d 0 pc p1 y) (dec : decode M.2.1 p1 = .ok (.lstore_n q, 1)) (hq : (q : Nat) = i) (hi : i + 1 < M.2.2) : SS M ret d pc (p1 + 1) pb pk (fun N _ _ _ ρ μ => y (fun n μ1 => zfree ρ i ∧ N ((ρ.set i (vl n)).set (i + 1) (vx 0)) μ1) ρ μ) :=
  fun Γ ad ρ μ N B C Rp X Y hx kn _ _ => h Γ ad ρ [] μ _ X (Nat.le_refl 0) hx (fun q μ1 e => zi_lstoren X dec hq e.1 hi (kn _ _ e.2))
theorem sR (h : RR M d 0 pc p1 r o) (dec : decode M.2.1 p1 = .ok (.astore i, 2)) (hi : i < M.2.2) : SS M ret d pc (p1 + 2) pb pk (fun N _ _ _ ρ μ => o ρ μ ∧ zfree ρ i ∧ N (ρ.set i (vr (r ρ μ))) μ) :=
  fun Γ ad ρ μ N B C Rp X Y hx kn _ _ => h Γ ad ρ [] μ X (Nat.le_refl 0) hx.1 (zi_astore X dec hx.2.1 hi rfl (kn _ _ hx.2.2))
theorem sRn {q : Fin 4} (i : Nat) (h : RR M d 0 pc p1 r o) (dec : decode M.2.1 p1 = .ok (.astore_n q, 1)) (hq : (q : Nat) = i) (hi : i < M.2.2) : SS M ret d pc (p1 + 1) pb pk (fun N _ _ _ ρ μ => o ρ μ ∧ zfree ρ i ∧ N (ρ.set i (vr (r ρ μ))) μ) :=
  fun Γ ad ρ μ N B C Rp X Y hx kn _ _ => h Γ ad ρ [] μ X (Nat.le_refl 0) hx.1 (zi_astoren X dec hq hx.2.1 hi rfl (kn _ _ hx.2.2))
theorem sInc (dec : decode M.2.1 pc = .ok (.iinc i n, 3)) (hi : i < M.2.2) : SS M ret d pc (pc + 3) pb pk (fun N _ _ _ ρ μ => zii ρ i ∧ zfree ρ i ∧ zI (zi ρ i + n) ∧ N (ρ.set i (vi (zi ρ i + n))) μ) :=
  fun Γ ad ρ μ N B C Rp X Y hx kn _ _ => zi_inc X dec hx.2.1 hi (zii_of hx.1) hx.2.2.1 (kn _ _ hx.2.2.2)
theorem sP (j : Int) (hl : zFl M.1 ix ci k) (hp : zFp ci k kd) (hk : zNk ci k = some kd) (h1 : RR M d 0 pc p1 r o) (h2 : XE M d 1 p1 p2 y) (dec : decode M.2.1 p2 = .ok (.putfield ix, 3)) (hj : (k : Int) = j) : SS M ret d pc (p2 + 3) pb pk (fun N _ _ _ ρ μ => o ρ μ ∧ zO ci (r ρ μ) = true ∧ y (fun n μ1 => (kd = 1 → n = 0 ∨ n = 1) ∧ N ρ (zm μ1 (r ρ μ) j n)) ρ μ) :=
  fun Γ ad ρ μ N B C Rp X Y hx kn _ _ => h1 Γ ad ρ [] μ X (Nat.le_refl 0) hx.1 (h2 Γ ad ρ _ μ _ X (Nat.le_refl 1) hx.2.2 (fun q μ1 e => by
    obtain ⟨z, e1, e2, -⟩ := id hl
    obtain ⟨fs, e3, e4⟩ := zO_num hx.2.1 hk ⟨z, e1, e2⟩
    subst hj
    exact zi_putI X hl hp dec e3 e4 e.1 (kn _ _ e.2)))
theorem sPo {ins : Instr} {f : Int → Int → Int} {g : Int → Int → Prop} (j : Int) (h : zOp2 ins f g) (hl : zFl M.1 ix ci k) (hp : zFp ci k 0) (hk : zNk ci k = some 0) (h1 : RR M d 0 pc p1 r o) (dd : decode M.2.1 p1 = .ok (.dup, 1)) (dg : decode M.2.1 (p1 + 1) = .ok (.getfield ix, 3)) (h2 : RE M d 2 (p1 + 1 + 3) p2 v o2) (dop : decode M.2.1 p2 = .ok (ins, 1)) (dec : decode M.2.1 (p2 + 1) = .ok (.putfield ix, 3)) (hj : (k : Int) = j) : SS M ret d pc (p2 + 1 + 3) pb pk (fun N _ _ _ ρ μ => o ρ μ ∧ zO ci (r ρ μ) = true ∧ o2 ρ μ ∧ g (μ (r ρ μ) j) (v ρ μ) ∧ N ρ (zm μ (r ρ μ) j (f (μ (r ρ μ) j) (v ρ μ)))) :=
  fun Γ ad ρ μ N B C Rp X Y hx kn _ _ => h1 Γ ad ρ [] μ X (Nat.le_refl 0) hx.1 (by
    obtain ⟨z, e1, e2, -⟩ := id hl
    obtain ⟨fs, e3, e4⟩ := zO_num hx.2.1 hk ⟨z, e1, e2⟩
    subst hj
    exact zi_dup X dd rfl (zi_getI X hl dg e3 e4 (h2 Γ ad ρ _ μ X (Nat.le_refl 2) hx.2.2.1 (h M d Γ ad p2 ρ _ μ _ _ X dop hx.2.2.2.1 (zi_putI X hl hp dec e3 e4 (fun e => by cases e) (kn _ _ hx.2.2.2.2))))))
theorem sAs (h1 : RR M d 0 pc p1 r o1) (h2 : RE M d 1 p1 p2 v o2) (h3 : XE M d 2 p2 p3 y) (dec : decode M.2.1 p3 = .ok (.iastore, 1)) : SS M ret d pc (p3 + 1) pb pk (fun N _ _ _ ρ μ => o1 ρ μ ∧ o2 ρ μ ∧ zkd (r ρ μ) = 0 ∧ 0 ≤ v ρ μ ∧ v ρ μ < zln (r ρ μ) ∧ y (fun n μ1 => N ρ (zm μ1 (r ρ μ) (v ρ μ) n)) ρ μ) :=
  fun Γ ad ρ μ N B C Rp X Y hx kn _ _ => h1 Γ ad ρ [] μ X (Nat.le_refl 0) hx.1 (h2 Γ ad ρ _ μ X (Nat.le_refl 1) hx.2.1 (h3 Γ ad ρ _ μ _ X (Nat.le_refl 2) hx.2.2.2.2.2 (fun q μ1 e => by
    obtain ⟨n, rs, e1, e2⟩ := zkd_of hx.2.2.1 (by decide)
    exact zi_iast X dec e1 hx.2.2.2.1 (by rw [e2]; exact hx.2.2.2.2.1) (kn _ _ e))))
theorem sBs (h1 : RR M d 0 pc p1 r o1) (h2 : RE M d 1 p1 p2 v o2) (h3 : XE M d 2 p2 p3 y) (dec : decode M.2.1 p3 = .ok (.bastore, 1)) : SS M ret d pc (p3 + 1) pb pk (fun N _ _ _ ρ μ => o1 ρ μ ∧ o2 ρ μ ∧ zkd (r ρ μ) = 1 ∧ 0 ≤ v ρ μ ∧ v ρ μ < zln (r ρ μ) ∧ y (fun n μ1 => (-128 ≤ n ∧ n ≤ 127) ∧ N ρ (zm μ1 (r ρ μ) (v ρ μ) n)) ρ μ) :=
  fun Γ ad ρ μ N B C Rp X Y hx kn _ _ => h1 Γ ad ρ [] μ X (Nat.le_refl 0) hx.1 (h2 Γ ad ρ _ μ X (Nat.le_refl 1) hx.2.1 (h3 Γ ad ρ _ μ _ X (Nat.le_refl 2) hx.2.2.2.2.2 (fun q μ1 e => by
    obtain ⟨n, rs, e1, e2⟩ := zkd_of hx.2.2.1 (by decide)
    exact zi_bast X dec e1 hx.2.2.2.1 (by rw [e2]; exact hx.2.2.2.2.1) e.1 (kn _ _ e.2))))
theorem sZs (h1 : RR M d 0 pc p1 r o1) (h2 : RE M d 1 p1 p2 v o2) (h3 : XE M d 2 p2 p3 y) (dec : decode M.2.1 p3 = .ok (.bastore, 1)) : SS M ret d pc (p3 + 1) pb pk (fun N _ _ _ ρ μ => o1 ρ μ ∧ o2 ρ μ ∧ zkd (r ρ μ) = 2 ∧ 0 ≤ v ρ μ ∧ v ρ μ < zln (r ρ μ) ∧ y (fun n μ1 => (n = 0 ∨ n = 1) ∧ N ρ (zm μ1 (r ρ μ) (v ρ μ) n)) ρ μ) :=
  fun Γ ad ρ μ N B C Rp X Y hx kn _ _ => h1 Γ ad ρ [] μ X (Nat.le_refl 0) hx.1 (h2 Γ ad ρ _ μ X (Nat.le_refl 1) hx.2.1 (h3 Γ ad ρ _ μ _ X (Nat.le_refl 2) hx.2.2.2.2.2 (fun q μ1 e => by
    obtain ⟨n, rs, e1, e2⟩ := zkd_of hx.2.2.1 (by decide)
    exact zi_zast X dec e1 hx.2.2.2.1 (by rw [e2]; exact hx.2.2.2.2.1) e.1 (kn _ _ e.2))))
theorem sLs (h1 : RR M d 0 pc p1 r o1) (h2 : RE M d 1 p1 p2 v o2) (h3 : XL M d 2 p2 p3 y) (dec : decode M.2.1 p3 = .ok (.lastore, 1)) : SS M ret d pc (p3 + 1) pb pk (fun N _ _ _ ρ μ => o1 ρ μ ∧ o2 ρ μ ∧ zkd (r ρ μ) = 3 ∧ 0 ≤ v ρ μ ∧ v ρ μ < zln (r ρ μ) ∧ y (fun n μ1 => N ρ (zm μ1 (r ρ μ) (v ρ μ) n)) ρ μ) :=
  fun Γ ad ρ μ N B C Rp X Y hx kn _ _ => h1 Γ ad ρ [] μ X (Nat.le_refl 0) hx.1 (h2 Γ ad ρ _ μ X (Nat.le_refl 1) hx.2.1 (h3 Γ ad ρ _ μ _ X (Nat.le_refl 2) hx.2.2.2.2.2 (fun q μ1 e => by
    obtain ⟨n, rs, e1, e2⟩ := zkd_of hx.2.2.1 (by decide)
    exact zi_last X dec e1 hx.2.2.2.1 (by rw [e2]; exact hx.2.2.2.2.1) (kn _ _ e))))
theorem sAo {ins : Instr} {f : Int → Int → Int} {g : Int → Int → Prop} (h : zOp2 ins f g) (h1 : RR M d 0 pc p1 r o1) (h2 : RE M d 1 p1 p2 v o2) (dd : decode M.2.1 p2 = .ok (.dup2, 1)) (dl : decode M.2.1 (p2 + 1) = .ok (.iaload, 1)) (h3 : RE M d 3 (p2 + 1 + 1) p3 v3 o3) (dop : decode M.2.1 p3 = .ok (ins, 1)) (dec : decode M.2.1 (p3 + 1) = .ok (.iastore, 1)) : SS M ret d pc (p3 + 1 + 1) pb pk (fun N _ _ _ ρ μ => o1 ρ μ ∧ o2 ρ μ ∧ zkd (r ρ μ) = 0 ∧ 0 ≤ v ρ μ ∧ v ρ μ < zln (r ρ μ) ∧ o3 ρ μ ∧ g (μ (r ρ μ) (v ρ μ)) (v3 ρ μ) ∧ N ρ (zm μ (r ρ μ) (v ρ μ) (f (μ (r ρ μ) (v ρ μ)) (v3 ρ μ)))) :=
  fun Γ ad ρ μ N B C Rp X Y hx kn _ _ => h1 Γ ad ρ [] μ X (Nat.le_refl 0) hx.1 (h2 Γ ad ρ _ μ X (Nat.le_refl 1) hx.2.1 (by
    obtain ⟨n, rs, e1, e2⟩ := zkd_of hx.2.2.1 (by decide)
    exact zi_dup2 X dd rfl rfl (zi_iald X dl e1 hx.2.2.2.1 (by rw [e2]; exact hx.2.2.2.2.1) (h3 Γ ad ρ _ μ X (Nat.le_refl 3) hx.2.2.2.2.2.1 (h M d Γ ad p3 ρ _ μ _ _ X dop hx.2.2.2.2.2.2.1 (zi_iast X dec e1 hx.2.2.2.1 (by rw [e2]; exact hx.2.2.2.2.1) (kn _ _ hx.2.2.2.2.2.2.2)))))))
theorem sV (h : XV M d 0 pc p1 xv) : SS M ret d pc p1 pb pk (fun N _ _ _ ρ μ => xv (fun μ1 => N ρ μ1) ρ μ) := fun Γ ad ρ μ N B C Rp X Y hx kn _ _ => h Γ ad ρ [] μ _ X (Nat.le_refl 0) hx (fun μ1 e => kn ρ μ1 e)
theorem sVp (h : XE M d 0 pc p1 y) (dec : decode M.2.1 p1 = .ok (.pop, 1)) : SS M ret d pc (p1 + 1) pb pk (fun N _ _ _ ρ μ => y (fun _ μ1 => N ρ μ1) ρ μ) := fun Γ ad ρ μ N B C Rp X Y hx kn _ _ => h Γ ad ρ [] μ _ X (Nat.le_refl 0) hx (fun q μ1 e => zi_pop X dec rfl (kn ρ μ1 e))
/-- a row's part copied -/
theorem sCp {a0 a1 : zEn → zMem → Nat} {w0 w1 w2 : zEn → zMem → Int} {q0 q1 q2 q3 q4 : zEn → zMem → Prop} {p5 : Nat} (hl : Cond.methodLink M.1 ix arraycopyName ∈ zTb) (h0 : RR M d 0 pc p1 a0 q0) (h1 : RE M d 1 p1 p2 w0 q1) (h2 : RR M d 2 p2 p3 a1 q2) (h3 : RE M d 3 p3 p4 w1 q3) (h4 : RE M d 4 p4 p5 w2 q4) (hd : 3 ≤ d) (dec : decode M.2.1 p5 = .ok (.invokestatic ix, 3)) : SS M ret d pc (p5 + 3) pb pk (fun N _ _ _ ρ μ => q0 ρ μ ∧ q1 ρ μ ∧ q2 ρ μ ∧ q3 ρ μ ∧ q4 ρ μ ∧ (zkd (a0 ρ μ) = 0 ∧ zkd (a1 ρ μ) = 0) ∧ (0 ≤ w0 ρ μ ∧ 0 ≤ w1 ρ μ ∧ 0 ≤ w2 ρ μ ∧ w0 ρ μ + w2 ρ μ ≤ zln (a0 ρ μ) ∧ w1 ρ μ + w2 ρ μ ≤ zln (a1 ρ μ)) ∧ N ρ (zcp μ (a0 ρ μ) (w0 ρ μ) (a1 ρ μ) (w1 ρ μ) (w2 ρ μ))) :=
  fun Γ ad ρ μ N B C Rp X Y hx kn _ _ => by
    obtain ⟨e0, e1, e2, e3, e4, ⟨f0, f1⟩, ⟨g0, g1, g2, g3, g4⟩, hN⟩ := hx
    obtain ⟨n0, rs0, i0, i1⟩ := zkd_of f0 (by decide)
    obtain ⟨n1, rs1, i2, i3⟩ := zkd_of f1 (by decide)
    exact h0 Γ ad ρ [] μ X (Nat.le_refl 0) e0 (h1 Γ ad ρ _ μ X (Nat.le_refl 1) e1 (h2 Γ ad ρ _ μ X (Nat.le_refl 2) e2 (h3 Γ ad ρ _ μ X (Nat.le_refl 3) e3 (h4 Γ ad ρ _ μ X (Nat.le_refl 4) e4 (zi_copy X hl dec i0 i2 g0 g1 g2 (by rw [i1]; exact g3) (by rw [i3]; exact g4) hd (Nat.zero_le _) (kn _ _ hN))))))
theorem sIf (h0 : XC M d 0 pc tt pn xc) (h1 : SS M ret d tt pn pb pk s1) : SS M ret d pc pn pb pk (fun N B C R ρ μ => xc (fun q μ1 => if q = true then s1 N B C R ρ μ1 else N ρ μ1) ρ μ) :=
  fun Γ ad ρ μ N B C Rp X Y hx kn kb kk => h0 Γ ad ρ [] μ _ X (Nat.le_refl 0) hx (fun μ1 e => h1 Γ ad ρ μ1 N B C Rp X Y (by simpa using e) kn kb kk) (fun μ1 e => kn ρ μ1 (by simpa using e))
theorem sIe (h0 : XC M d 0 pc tt ff xc) (h1 : SS M ret d tt pn pb pk s1) (h2 : SS M ret d ff pn pb pk s2) : SS M ret d pc pn pb pk (fun N B C R ρ μ => xc (fun q μ1 => if q = true then s1 N B C R ρ μ1 else s2 N B C R ρ μ1) ρ μ) :=
  fun Γ ad ρ μ N B C Rp X Y hx kn kb kk => h0 Γ ad ρ [] μ _ X (Nat.le_refl 0) hx (fun μ1 e => h1 Γ ad ρ μ1 N B C Rp X Y (by simpa using e) kn kb kk) (fun μ1 e => h2 Γ ad ρ μ1 N B C Rp X Y (by simpa using e) kn kb kk)
/-- a part that does not come to its end -/
theorem sX (h : SS M ret d pc p1 pb pk s) : SS M ret d pc pn pb pk (fun _ B C R => s zFo B C R) := fun Γ ad ρ μ N B C Rp X Y hx kn kb kk => h Γ ad ρ μ zFo B C Rp X Y hx (fun _ _ e => e.elim) kb kk
theorem sBr (dec : decode M.2.1 pc = .ok (.goto off, 3)) (ht : (pc : Int) + off = (pb : Int)) : SS M ret d pc pn pb pk (fun _ B _ _ => B) := fun Γ ad ρ μ N B C Rp X Y hx kn kb kk => zi_goto X dec ht (kb ρ μ hx)
theorem sCo (dec : decode M.2.1 pc = .ok (.goto off, 3)) (ht : (pc : Int) + off = (pk : Int)) : SS M ret d pc pn pb pk (fun _ _ C _ => C) := fun Γ ad ρ μ N B C Rp X Y hx kn kb kk => zi_goto X dec ht (kk ρ μ hx)
theorem sBr0 : SS M ret d pb pn pb pk (fun _ B _ _ => B) := fun Γ ad ρ μ N B C Rp X Y hx kn kb kk => kb ρ μ hx
theorem sCo0 : SS M ret d pk pn pb pk (fun _ _ C _ => C) := fun Γ ad ρ μ N B C Rp X Y hx kn kb kk => kk ρ μ hx
theorem sRi (h : XE M d 0 pc p1 y) (dec : decode M.2.1 p1 = .ok (.ireturn, 1)) (hr : ret = some .int) : SS M ret d pc pn pb pk (fun _ _ _ R ρ μ => y (fun n μ1 => R (some (vi n)) μ1) ρ μ) := fun Γ ad ρ μ N B C Rp X Y hx _ _ _ => h Γ ad ρ [] μ _ X (Nat.le_refl 0) hx (fun q μ1 e => zi_ireturn X Y dec hr (Or.inl rfl) (fun _ _ => rfl) e)
theorem sRz (h : XE M d 0 pc p1 y) (dec : decode M.2.1 p1 = .ok (.ireturn, 1)) (hr : ret = some .boolean) : SS M ret d pc pn pb pk (fun _ _ _ R ρ μ => y (fun n μ1 => (n = 0 ∨ n = 1) ∧ R (some (vi n)) μ1) ρ μ) := fun Γ ad ρ μ N B C Rp X Y hx _ _ _ => h Γ ad ρ [] μ _ X (Nat.le_refl 0) hx (fun q μ1 e => zi_ireturn X Y dec hr (Or.inr ⟨rfl, e.1⟩) (fun _ _ => rfl) e.2)
theorem sRl (h : XL M d 0 pc p1 y) (dec : decode M.2.1 p1 = .ok (.lreturn, 1)) (hr : ret = some .long) : SS M ret d pc pn pb pk (fun _ _ _ R ρ μ => y (fun n μ1 => R (some (vl n)) μ1) ρ μ) := fun Γ ad ρ μ N B C Rp X Y hx _ _ _ => h Γ ad ρ [] μ _ X (Nat.le_refl 0) hx (fun q μ1 e => zi_lreturn X Y dec hr (fun _ _ => rfl) e)
theorem sRv (dec : decode M.2.1 pc = .ok (.return_, 1)) (hr : ret = none) : SS M ret d pc pn pb pk (fun _ _ _ R _ μ => R none μ) := fun Γ ad ρ μ N B C Rp X Y hx _ _ _ => zi_return X Y dec hr (fun _ _ => rfl) hx
/-- a loop: an invariant that a number goes down in -/
def zLoop (xc : (Bool → zMem → Prop) → zEn → zMem → Prop) (xb xs : zKo → zKo → zKo → zRo → zKo) (N : zKo) (R : zRo) (ρ : zEn) (μ : zMem) : Prop :=
  ∃ I : Nat → zKo, (∃ m, I m ρ μ) ∧ ∀ m ρ μ, I m ρ μ → xc (fun q μ1 => if q = true then xb (fun ρ2 μ2 => xs (fun ρ3 μ3 => ∃ m', m' < m ∧ I m' ρ3 μ3) zFo zFo R ρ2 μ2) N (fun ρ2 μ2 => xs (fun ρ3 μ3 => ∃ m', m' < m ∧ I m' ρ3 μ3) zFo zFo R ρ2 μ2) R ρ μ1 else N ρ μ1) ρ μ
theorem sLp (h0 : XC M d 0 pc tt pn xc) (h1 : SS M ret d tt ps pn ps s1) (h2 : SS M ret d ps pc p1 p2 s2) : SS M ret d pc pn pb pk (fun N _ _ R ρ μ => zLoop xc s1 s2 N R ρ μ) := by
  intro Γ ad ρ μ N B C Rp X Y hx kn kb kk
  obtain ⟨I, ⟨m, hm⟩, hI⟩ := hx
  have key : ∀ m ρ μ, I m ρ μ → zGo M Γ ad pc ρ [] μ := by
    intro m
    induction m using Nat.strongRecOn with
    | _ m ih =>
      intro ρ μ h
      have step : ∀ ρ2 μ2, s2 (fun ρ3 μ3 => ∃ m', m' < m ∧ I m' ρ3 μ3) zFo zFo Rp ρ2 μ2 → zGo M Γ ad ps ρ2 [] μ2 := fun ρ2 μ2 e => h2 Γ ad ρ2 μ2 _ zFo zFo Rp X Y e (fun ρ3 μ3 e2 => by obtain ⟨m', hlt, e3⟩ := e2; exact ih m' hlt ρ3 μ3 e3) (fun _ _ e => e.elim) (fun _ _ e => e.elim)
      exact h0 Γ ad ρ [] μ _ X (Nat.le_refl 0) (hI m ρ μ h) (fun μ1 e => h1 Γ ad ρ μ1 _ N _ Rp X Y (by simpa using e) step kn step) (fun μ1 e => kn ρ μ1 (by simpa using e))
  exact key m ρ μ hm
/-- a switch: for each number of its row a part, and one for the others -/
def zSw (lo : Int) : List (zKo → zKo → zKo → zRo → zKo) → (zKo → zKo → zKo → zRo → zKo) → Int → (zKo → zKo → zKo → zRo → zKo)
  | [], e, _ => e
  | s :: l, e, a => if a = lo then s else zSw (lo + 1) l e a
def zSwk (M : zMi) (ret : Option FieldType) (d pn pb pk : Nat) : List Nat → List (zKo → zKo → zKo → zRo → zKo) → Prop
  | [], [] => True
  | t :: ts, s :: l => SS M ret d t pn pb pk s ∧ zSwk M ret d pn pb pk ts l
  | _, _ => False
theorem zSwk_get : ∀ {ts : List Nat} {l : List (zKo → zKo → zKo → zRo → zKo)} {e : zKo → zKo → zKo → zRo → zKo} {j t : Nat} {lo a : Int}, zSwk M ret d pn pb pk ts l → ts[j]? = some t → a = lo + j → SS M ret d t pn pb pk (zSw lo l e a)
  | t0 :: ts, s :: l, e, 0, t, lo, a, h, ht, ha => by cases ht; rw [zSw, if_pos (by omega)]; exact h.1
  | t0 :: ts, s :: l, e, j + 1, t, lo, a, h, ht, ha => by
    rw [zSw, if_neg (by omega)]
    exact zSwk_get h.2 ht (by omega)
  | [], _, _, _, _, _, _, _, ht, _ => by simp at ht
theorem zSw_out : ∀ {l : List (zKo → zKo → zKo → zRo → zKo)} {e : zKo → zKo → zKo → zRo → zKo} {lo a : Int}, (a < lo ∨ lo + l.length ≤ a) → zSw lo l e a = e
  | [], _, _, _, _ => rfl
  | s :: l, e, lo, a, h => by
    rw [List.length_cons] at h
    rw [zSw, if_neg (by omega)]
    exact zSw_out (by omega)
theorem zSwk_len : ∀ {ts : List Nat} {l : List (zKo → zKo → zKo → zRo → zKo)}, zSwk M ret d pn pb pk ts l → ts.length = l.length
  | [], [], _ => rfl
  | t :: ts, s :: l, h => by rw [List.length_cons, List.length_cons, zSwk_len h.2]
theorem sSw {dflt lo hi : Int} {offs : Array Int} {len : Nat} {ts : List Nat} {l : List (zKo → zKo → zKo → zRo → zKo)} {e : zKo → zKo → zKo → zRo → zKo} {dt : Nat} (h : RE M d 0 pc p1 v o) (dec : decode M.2.1 p1 = .ok (.tableswitch dflt lo hi offs, len)) (hts : offs.toList.map (fun q => (p1 : Int) + q) = ts.map (fun (t : Nat) => (t : Int))) (hlen : (ts.length : Int) = hi - lo + 1) (hdt : (p1 : Int) + dflt = (dt : Int)) (hk : zSwk M ret d pn pb pk ts l) (he : SS M ret d dt pn pb pk e) : SS M ret d pc pn pb pk (fun N B C R ρ μ => o ρ μ ∧ zSw lo l e (v ρ μ) N B C R ρ μ) :=
  fun Γ ad ρ μ N B C Rp X Y hx kn kb kk => h Γ ad ρ [] μ X (Nat.le_refl 0) hx.1 (zi_switch X dec hdt hts (fun t h1 h2 ht => zSwk_get (e := e) (lo := lo) (a := v ρ μ) hk ht (by omega) Γ ad ρ μ N B C Rp X Y hx.2 kn kb kk) hlen (fun h1 => he Γ ad ρ μ N B C Rp X Y (by have := hx.2; rw [zSw_out (by have := zSwk_len hk; omega)] at this; exact this) kn kb kk))
end RW
/-- a method's contract out of its body's walk -/
theorem zSp.ss {d pn pb pk : Nat} {y : zMt} {as : List zV} {μ : zMem} {Rp : zRo} {s : zKo → zKo → zKo → zRo → zKo} (ρ : zEn) (hpl : plainName y.1.cls = true) (h : SS (y.1.cls, y.2.1, y.2.2.1) y.2.2.2 d 0 pn pb pk s) (hl : Nat.ble (zent as).length y.2.2.1 = true) (he : zenv as y.2.2.1 = ρ) (hx : s zFo zFo zFo Rp ρ μ) : zSp d 0 0 y zT0 as μ zT0 Rp :=
  zSp.of hpl (Nat.le_of_ble_eq_true hl) (fun Γ ad X Y _ => h Γ ad _ μ zFo zFo zFo Rp X Y (by rw [he]; exact hx) (fun _ _ e => e.elim) (fun _ _ e => e.elim) (fun _ _ e => e.elim))
theorem zb2_01 (b : Bool) : zb2 b = 0 ∨ zb2 b = 1 := by cases b <;> simp [zb2]
theorem zb2_0 (b : Bool) : (zb2 b = 0) = (b = false) := by cases b <;> simp [zb2]
theorem zb2_1 (b : Bool) : (zb2 b = 1) = (b = true) := by cases b <;> simp [zb2]
theorem zb2_inj (a b : Bool) : (zb2 a = zb2 b) = (a = b) := by cases a <;> cases b <;> simp [zb2]
theorem zi_cs (v : zV) (ρ : zEn) (i : Nat) : zi (v :: ρ) (i + 1) = zi ρ i := rfl
theorem zi_c0 (n : Int) (ρ : zEn) : zi (.inl n :: ρ) 0 = n := rfl
theorem zii_cs (v : zV) (ρ : zEn) (i : Nat) : zii (v :: ρ) (i + 1) = zii ρ i := rfl
theorem zii_c0 (n : Int) (ρ : zEn) : zii (.inl n :: ρ) 0 = True := rfl
theorem zl_cs (v : zV) (ρ : zEn) (i : Nat) : zl (v :: ρ) (i + 1) = zl ρ i := rfl
theorem zl_c0 (n : Int) (ρ : zEn) : zl (.inr (.inl n) :: ρ) 0 = n := rfl
theorem zll_cs (v : zV) (ρ : zEn) (i : Nat) : zll (v :: ρ) (i + 1) = zll ρ i := rfl
theorem zll_c0 (n : Int) (ρ : zEn) : zll (.inr (.inl n) :: ρ) 0 = True := rfl
theorem zr_cs (v : zV) (ρ : zEn) (i : Nat) : zr (v :: ρ) (i + 1) = zr ρ i := rfl
theorem zr_c0 (n : Nat) (ρ : zEn) : zr (.inr (.inr (.inl n)) :: ρ) 0 = n := rfl
theorem zrr_cs (v : zV) (ρ : zEn) (i : Nat) : zrr (v :: ρ) (i + 1) = zrr ρ i := rfl
theorem zrr_c0 (n : Nat) (ρ : zEn) : zrr (.inr (.inr (.inl n)) :: ρ) 0 = True := rfl
theorem zxs_cs (v : zV) (ρ : zEn) (i : Nat) : zxs (v :: ρ) (i + 1) = zxs ρ i := rfl
theorem zxs_c0 (n : Nat) (ρ : zEn) : zxs (.inr (.inr (.inr (n + 1))) :: ρ) 0 = n + 1 := rfl
theorem zxx_cs (v : zV) (ρ : zEn) (i : Nat) : zxx (v :: ρ) (i + 1) = zxx ρ i := rfl
theorem zxx_c0 (n : Nat) (ρ : zEn) : zxx (.inr (.inr (.inr (n + 1))) :: ρ) 0 = True := rfl
theorem zfree_c0 (v : zV) (ρ : zEn) : zfree (v :: ρ) 0 = True := by simp [zfree]
theorem zfree_c1 (v w : zV) (ρ : zEn) : zfree (v :: w :: ρ) 1 = (zlong (some v) = false) := by simp [zfree]
theorem zfree_cs (v w : zV) (ρ : zEn) (i : Nat) : zfree (v :: w :: ρ) (i + 2) = zfree (w :: ρ) (i + 1) := by simp [zfree]
theorem zlong_i (n : Int) : zlong (some (.inl n)) = false := rfl
theorem zlong_r (n : Nat) : zlong (some (.inr (.inr (.inl n)))) = false := rfl
theorem zlong_x (n : Nat) : zlong (some (.inr (.inr (.inr n)))) = false := rfl
theorem zset_0 (v w : zV) (ρ : zEn) : List.set (v :: ρ) 0 w = w :: ρ := rfl
theorem zset_s (v w : zV) (ρ : zEn) (i : Nat) : List.set (v :: ρ) (i + 1) w = v :: List.set ρ i w := rfl
