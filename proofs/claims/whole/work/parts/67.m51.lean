/-! ===== the order of the pages: insert, remove, move agree ===== -/
section RE6
variable {n : Nat} {P R M : fR}
theorem iP_iff (h : RE n P R M) {x : Int32} : iP M x = true ↔ rg x (R 0 0 0 + 1) := by
  have h64 := RE_64 h
  unfold iP inn rg
  rw [decide_eq_true_iff, ← RE_n h, rg_le (by omega)]
  exact Iff.rfl
theorem iS_iff {y z : Int32} : iS y z = true ↔ (rg y 256 ∧ rg z 16) := by
  unfold iS
  rw [Bool.and_eq_true, rgB_rg (by decide), rgB_rg (by decide)]
theorem iC_iff (h : RE n P R M) : iC M = true ↔ (R 0 0 0 < 64 ∧ R 1 0 0 < 100) := by
  unfold iC
  rw [decide_eq_true_iff, RE_n h, h.2.1.2.1]
theorem XI_ins {R : fR} (b : XI R) (h64 : R 0 0 0 < 64) (h100 : R 1 0 0 < 100) {j y z : Nat} (hj : j ≤ R 0 0 0) (hy : y < 256) (hz : z < 16) : XI (insR R j y z) := by
  obtain ⟨x1, x2, x3, x4, x5, x6, x7, x8, x9, x10, x11, x12, x13, x14, x15⟩ := b
  have e6 : insR R j y z 6 = ins6 R j := rfl
  have e13 : insR R j y z 13 = u1 (R 13) (R 20 0 0) y := rfl
  have e14 : insR R j y z 14 = u1 (R 14) (R 20 0 0) z := rfl
  have e15 : insR R j y z 15 = u1 (R 15) (R 20 0 0) 1 := rfl
  have e16 : insR R j y z 16 = fun t i => if t = R 20 0 0 then 0 else R 16 t i := rfl
  have e20 : insR R j y z 20 0 0 = R 20 0 0 + 1 := rfl
  have e0 : insR R j y z 0 0 0 = R 0 0 0 + 1 := rfl
  have e1 : insR R j y z 1 0 0 = R 20 0 0 + 1 := rfl
  unfold XI
  rw [e6, e13, e14, e15, e16, e20, e0, e1]
  refine ⟨by omega, fun i hi => ?_, by omega, rfl, x5, x6, fun q => ?_, fun q c => ?_, x9, x10, x11, x12, x13, x14, fun i => ?_⟩
  · unfold ins6 u1 sr2
    by_cases a : i = j
    · rw [if_pos a]; exact ⟨_, rfl, by omega⟩
    · rw [if_neg a]
      by_cases c : j < i ∧ i ≤ R 0 0 0
      · rw [if_pos c]
        obtain ⟨q, w1, w2⟩ := x2 (i - 1) (by omega)
        exact ⟨q, w1, by omega⟩
      · rw [if_neg c]
        obtain ⟨q, w1, w2⟩ := x2 i (by omega)
        exact ⟨q, w1, by omega⟩
  · have := x7 q
    unfold u1
    split
    · exact ⟨hy, hz, by omega⟩
    · exact this
  · have := x8 q c
    show (if q = R 20 0 0 then 0 else R 16 q c) < 4
    split <;> omega
  · have a1 := x15 i
    have a2 := x15 (i - 1)
    unfold ins6 u1 sr2
    split
    · omega
    · split <;> omega
theorem MI_ins {M : fR} (b : MI M) (h64 : M 2 0 0 < 64) (h100 : M 1 0 0 < 100) {j y z : Nat} (hy : y < 256) (hz : z < 16) : MI (inM M j y z) := by
  obtain ⟨x1, x2, x3, x4, x5, x6, x7, x8, x9, rest⟩ := b
  refine ⟨?_, x2, fun i => ?_, fun q => ?_, x5, x6, x7, x8, ?_, rest⟩
  · show M 2 0 0 + 1 ≤ 64
    omega
  · show u1 (sr2 (M 9) j (M 2 0 0)) j (M 1 0 0) i 0 < 100
    have a1 := x3 i
    have a2 := x3 (i - 1)
    unfold u1 sr2
    split
    · exact h100
    · split
      · exact a2
      · exact a1
  · show u1 (M 10) (M 1 0 0) y q 0 < 256 ∧ u1 (M 11) (M 1 0 0) z q 0 < 16 ∧ u1 (M 12) (M 1 0 0) 1 q 0 ≤ 1000
    have := x4 q
    unfold u1
    split
    · exact ⟨hy, hz, by omega⟩
    · exact this
  · show M 1 0 0 + 1 ≤ 100
    omega
theorem RE_ins (h : RE n P R M) (h64 : R 0 0 0 < 64) (h100 : R 1 0 0 < 100) {j y z : Nat} (hj : j ≤ R 0 0 0) (hy : y < 256) (hz : z < 16) : RE n P (insR R j y z) (inM M j y z) := by
  have en := RE_n h
  have e1 := h.2.1.2.1
  have hX := XI_ins (RE_xi h) h64 h100 hj hy hz
  have hM := MI_ins (RE_mi h) (by omega) (by omega) (j := j) hy hz
  have x4 : R 1 0 0 = R 20 0 0 := (RE_xi h).2.2.2.1
  obtain ⟨⟨a, b, c0, d⟩, a2, a3, a4, a5, a6, a7, a8, a9, ⟨b1, b2, b3, b4⟩, a11⟩ := h
  have e6 : insR R j y z 6 = ins6 R j := rfl
  have e13 : insR R j y z 13 = u1 (R 13) (R 20 0 0) y := rfl
  have e14 : insR R j y z 14 = u1 (R 14) (R 20 0 0) z := rfl
  have e15 : insR R j y z 15 = u1 (R 15) (R 20 0 0) 1 := rfl
  have e16 : insR R j y z 16 = fun t i => if t = R 20 0 0 then 0 else R 16 t i := rfl
  have e20 : insR R j y z 20 0 0 = R 20 0 0 + 1 := rfl
  have e0 : insR R j y z 0 0 0 = R 0 0 0 + 1 := rfl
  have e1' : insR R j y z 1 0 0 = R 20 0 0 + 1 := rfl
  have m9 : inM M j y z 9 = u1 (sr2 (M 9) j (M 2 0 0)) j (M 1 0 0) := rfl
  have m10 : inM M j y z 10 = u1 (M 10) (M 1 0 0) y := rfl
  have m11 : inM M j y z 11 = u1 (M 11) (M 1 0 0) z := rfl
  have m12 : inM M j y z 12 = u1 (M 12) (M 1 0 0) 1 := rfl
  have m1 : inM M j y z 1 0 0 = M 1 0 0 + 1 := rfl
  have m2 : inM M j y z 2 0 0 = M 2 0 0 + 1 := rfl
  unfold RE
  rw [e6, e13, e14, e15, e16, e20, e0, e1', m9, m10, m11, m12, m1, m2]
  refine ⟨⟨a, hX, hM, d⟩, ⟨by omega, by omega, a2.2.2⟩, fun i hi => ?_, fun q => ?_, fun q c hc => ?_, fun q c hc hq => ?_, fun q c hc hne => ?_, a8, a9, ⟨b1, fun q => ?_, b3, b4⟩, a11⟩
  · rw [← en]
    unfold ins6 u1 sr2
    by_cases z1 : i = j
    · rw [if_pos z1, if_pos z1]; omega
    · rw [if_neg z1, if_neg z1]
      by_cases z2 : j < i ∧ i ≤ R 0 0 0
      · rw [if_pos z2, if_pos z2]; exact a3 (i - 1) (by omega)
      · rw [if_neg z2, if_neg z2]; exact a3 i (by omega)
  · rw [← x4, e1]
    unfold u1
    by_cases z1 : q = M 1 0 0
    · rw [if_pos z1, if_pos z1, if_pos z1, if_pos z1, if_pos z1, if_pos z1]; exact ⟨rfl, rfl, rfl⟩
    · rw [if_neg z1, if_neg z1, if_neg z1, if_neg z1, if_neg z1, if_neg z1]; exact a4 q
  · show (if q = R 20 0 0 then 0 else R 16 q c) = M 13 (4 * q + c) 0
    by_cases z1 : q = R 20 0 0
    · rw [if_pos z1, ← a5 q c hc, a6 q c hc (by omega)]
    · rw [if_neg z1]; exact a5 q c hc
  · show (if q = R 20 0 0 then 0 else R 16 q c) = 0
    rw [if_neg (by omega)]
    exact a6 q c hc (by omega)
  · have hne2 : (if q = R 20 0 0 then 0 else R 16 q c) ≠ 0 := hne
    by_cases z1 : q = R 20 0 0
    · rw [if_pos z1] at hne2; exact absurd rfl hne2
    · rw [if_neg z1] at hne2
      show tb (u1 (R 14) (R 20 0 0) z q 0) c = true
      unfold u1
      rw [if_neg z1]; exact a7 q c hc hne2
  · have := b2 q
    unfold u1; split <;> omega
theorem q_insert_n (h : RE n P R M) {x y z : Int32} (hc : (rg x (R 0 0 0 + 1) ∧ (rg y 256 ∧ rg z 16)) ∧ (R 0 0 0 < 64 ∧ R 1 0 0 < 100)) :
    isM M x y z 8 0 0 = 0 ∧ nI (R 0 0 0 + 1) = isV M x y z ∧ RE (n + 1) P (insR R (xN x) (xN y) (xN z)) (isM M x y z) := by
  have x1 := (rg_xN (by omega) hc.1.1).1
  have x2 := (rg_xN (by decide) hc.1.2.1).1
  have x3 := (rg_xN (by decide) hc.1.2.2).1
  have ok : okN M x y z = true := by unfold okN; rw [(iP_iff h).mpr hc.1.1, iS_iff.mpr hc.1.2, (iC_iff h).mpr hc.2]; rfl
  have em : isM M x y z = inM (rs M 8 (k0 0)) (xN x) (xN y) (xN z) := if_pos ok
  refine ⟨by rw [em]; rfl, ?_, by rw [em]; exact RE_up (Nat.le_succ n) (RE_ins (RE_8 h (k0 0)) hc.2.1 hc.2.2 (by omega) x2 x3)⟩
  unfold isV
  rw [if_pos ok, RE_n h]
theorem q_insert_x (h : RE n P R M) {x y z : Int32} {E9 : String} (hx : (E9 = IOBs ∧ ¬ rg x (R 0 0 0 + 1)) ∨ (E9 = IAEs ∧ rg x (R 0 0 0 + 1) ∧ ¬ (rg y 256 ∧ rg z 16)) ∨ (E9 = ISEs ∧ (rg x (R 0 0 0 + 1) ∧ (rg y 256 ∧ rg z 16)) ∧ ¬ (R 0 0 0 < 64 ∧ R 1 0 0 < 100))) :
    ((E9 = IOBs ∧ isM M x y z 8 0 0 = 1) ∨ (E9 = IAEs ∧ isM M x y z 8 0 0 = 2) ∨ (E9 = ISEs ∧ isM M x y z 8 0 0 = 3)) ∧ RE (n + 1) P R (isM M x y z) := by
  have f1 : ¬ rg x (R 0 0 0 + 1) → iP M x = false := fun w => Bool.eq_false_iff.mpr (fun u => w ((iP_iff h).mp u))
  have f2 : ¬ (rg y 256 ∧ rg z 16) → iS y z = false := fun w => Bool.eq_false_iff.mpr (fun u => w (iS_iff.mp u))
  have f3 : ¬ (R 0 0 0 < 64 ∧ R 1 0 0 < 100) → iC M = false := fun w => Bool.eq_false_iff.mpr (fun u => w ((iC_iff h).mp u))
  have ok : okN M x y z = false := by
    unfold okN
    rcases hx with ⟨-, w⟩ | ⟨-, -, w⟩ | ⟨-, -, w⟩
    · rw [f1 w]; rfl
    · rw [f2 w, Bool.and_false]; rfl
    · rw [f3 w, Bool.and_false]
  have em : isM M x y z = rs M 8 (k0 (thr (iP M x) (iS y z) (iC M))) := if_neg (by rw [ok]; decide)
  refine ⟨?_, by rw [em]; exact RE_t h _⟩
  have e8 : isM M x y z 8 0 0 = thr (iP M x) (iS y z) (iC M) := by rw [em]; rfl
  rw [e8]
  rcases hx with ⟨e, w⟩ | ⟨e, w1, w⟩ | ⟨e, w1, w⟩
  · exact Or.inl ⟨e, by rw [f1 w]; rfl⟩
  · exact Or.inr (Or.inl ⟨e, by rw [(iP_iff h).mpr w1, f2 w]; rfl⟩)
  · exact Or.inr (Or.inr ⟨e, by rw [(iP_iff h).mpr w1.1, iS_iff.mpr w1.2, f3 w]; rfl⟩)
/-- another order, of as many pages or fewer -/
theorem RE_or (h : RE n P R M) {m : Nat} {g g' : Nat → Nat → Nat} (hm : m ≤ R 0 0 0) (hg : ∀ i, i < m → g i 0 = g' i 0 + 1 ∧ g' i 0 < R 20 0 0) (hg2 : ∀ i, g i 0 ≤ R 20 0 0) (hg3 : ∀ i, g' i 0 < 100) {R1 M1 : fR} (hR : ∀ k, k ≠ 0 → k ≠ 6 → R1 k = R k) (hR0 : R1 0 0 0 = m) (hR6 : R1 6 = g) (hM : ∀ k, k ≠ 2 → k ≠ 9 → M1 k = M k) (hM2 : M1 2 0 0 = m) (hM9 : M1 9 = g') : RE n P R1 M1 := by
  obtain ⟨⟨a, b, c0, d⟩, a2, a3, a4, a5, a6, a7, a8, a9, ⟨b1, b2, b3, b4⟩, a11⟩ := h
  have hX : XI R1 := by
    obtain ⟨x1, x2, x3, x4, x5, x6, x7, x8, x9, x10, x11, x12, x13, x14, x15⟩ := b
    unfold XI
    rw [hR0, hR6, hR 20 (by decide) (by decide), hR 1 (by decide) (by decide), hR 2 (by decide) (by decide), hR 11 (by decide) (by decide), hR 12 (by decide) (by decide), hR 13 (by decide) (by decide), hR 14 (by decide) (by decide), hR 15 (by decide) (by decide), hR 16 (by decide) (by decide), hR 3 (by decide) (by decide), hR 17 (by decide) (by decide), hR 18 (by decide) (by decide), hR 4 (by decide) (by decide), hR 5 (by decide) (by decide), hR 9 (by decide) (by decide), hR 19 (by decide) (by decide)]
    exact ⟨by omega, fun i hi => ⟨g' i 0, (hg i hi).1, (hg i hi).2⟩, x3, x4, x5, x6, x7, x8, x9, x10, x11, x12, x13, x14, hg2⟩
  have hMI : MI M1 := by
    obtain ⟨x1, x2, x3, rest⟩ := c0
    unfold MI
    rw [hM2, hM9, hM 4 (by decide) (by decide), hM 5 (by decide) (by decide), hM 10 (by decide) (by decide), hM 11 (by decide) (by decide), hM 12 (by decide) (by decide), hM 13 (by decide) (by decide), hM 14 (by decide) (by decide), hM 15 (by decide) (by decide), hM 17 (by decide) (by decide), hM 18 (by decide) (by decide), hM 19 (by decide) (by decide), hM 0 (by decide) (by decide), hM 1 (by decide) (by decide), hM 6 (by decide) (by decide), hM 7 (by decide) (by decide), hM 20 (by decide) (by decide), hM 21 (by decide) (by decide), hM 22 (by decide) (by decide), hM 23 (by decide) (by decide), hM 3 (by decide) (by decide), hM 16 (by decide) (by decide)]
    exact ⟨by omega, x2, hg3, rest⟩
  have d' : FT P M1 := by
    unfold FT
    rw [hM 3 (by decide) (by decide), hM 4 (by decide) (by decide), hM 5 (by decide) (by decide), hM 17 (by decide) (by decide), hM 18 (by decide) (by decide), hM 19 (by decide) (by decide)]
    exact d
  unfold RE
  rw [hR0, hR6, hM2, hM9, hR 20 (by decide) (by decide), hR 1 (by decide) (by decide), hR 2 (by decide) (by decide), hR 11 (by decide) (by decide), hR 12 (by decide) (by decide), hR 13 (by decide) (by decide), hR 14 (by decide) (by decide), hR 15 (by decide) (by decide), hR 16 (by decide) (by decide), hR 17 (by decide) (by decide), hR 18 (by decide) (by decide), hR 4 (by decide) (by decide), hR 5 (by decide) (by decide), hR 10 (by decide) (by decide), hR 19 (by decide) (by decide), hR 8 (by decide) (by decide),
    hM 10 (by decide) (by decide), hM 11 (by decide) (by decide), hM 12 (by decide) (by decide), hM 13 (by decide) (by decide), hM 14 (by decide) (by decide), hM 15 (by decide) (by decide), hM 0 (by decide) (by decide), hM 1 (by decide) (by decide), hM 6 (by decide) (by decide), hM 7 (by decide) (by decide), hM 20 (by decide) (by decide), hM 21 (by decide) (by decide), hM 22 (by decide) (by decide), hM 27 (by decide) (by decide)]
  exact ⟨⟨a, hX, hMI, d'⟩, ⟨rfl, a2.2⟩, fun i hi => (hg i hi).1, a4, a5, a6, a7, a8, a9, ⟨b1, b2, b3, b4⟩, a11⟩
theorem tk_tk (h : RE n P R M) {p i : Nat} (hi : i < R 0 0 0 - 1) : tk R p (R 0 0 0 - 1) i 0 = tkF (M 9) p (R 0 0 0 - 1) i 0 + 1 ∧ tkF (M 9) p (R 0 0 0 - 1) i 0 < R 20 0 0 := by
  unfold tkF tk
  by_cases z : p ≤ i ∧ i < R 0 0 0 - 1
  · rw [if_pos z, if_pos z]; exact ⟨RE_9 h (by omega), RE_q h (by omega)⟩
  · rw [if_neg z, if_neg z]; exact ⟨RE_9 h (by omega), RE_q h (by omega)⟩
theorem tk_le (h : RE n P R M) (p a i : Nat) : tk R p a i 0 ≤ R 20 0 0 := by
  have x15 := (RE_xi h).2.2.2.2.2.2.2.2.2.2.2.2.2.2
  unfold tk; split
  · exact x15 _
  · exact x15 _
theorem tkF_lt (h : RE n P R M) (p a i : Nat) : tkF (M 9) p a i 0 < 100 := by
  have x3 := (RE_mi h).2.2.1
  unfold tkF tk; split
  · exact x3 _
  · exact x3 _
theorem RE_rm (h : RE n P R M) {p : Nat} (hp : p < R 0 0 0) : RE n P (rmR R p) (toM M p) := by
  refine RE_or h (m := R 0 0 0 - 1) (g := u1 (tk R p (R 0 0 0 - 1)) (R 0 0 0 - 1) 0) (g' := tkF (M 9) p (R 0 0 0 - 1)) (by omega) (fun i hi => ?_) (fun i => ?_) (tkF_lt h p _) (fun k h0 h6 => ?_) rfl rfl (fun k h2 h9 => ?_) (by rw [RE_n h]; rfl) (by rw [RE_n h]; rfl)
  · unfold u1
    rw [if_neg (by omega)]
    exact tk_tk h hi
  · unfold u1; split
    · omega
    · exact tk_le h p _ i
  · unfold rmR; rw [rs_ne _ _ h6, rs_ne _ _ h0, rs_ne _ _ h6]
  · unfold toM toX; rw [rs_ne _ _ h9, rs_ne _ _ h2]
theorem RE_mv (h : RE n P R M) {p o : Nat} (hp : p < R 0 0 0) (ho : o < R 0 0 0) : RE n P (mvR R p o) (mvX M p o) := by
  refine RE_or h (m := R 0 0 0) (g := u1 (sr2 (tk R p (R 0 0 0 - 1)) o (R 0 0 0 - 1)) o (R 6 p 0)) (g' := u1 (sr2 (tkF (M 9) p (R 0 0 0 - 1)) o (R 0 0 0 - 1)) o (M 9 p 0)) (Nat.le_refl _) (fun i hi => ?_) (fun i => ?_) (fun i => ?_) (fun k h0 h6 => ?_) rfl rfl (fun k h2 h9 => ?_) ?_ (by rw [RE_n h]; rfl)
  · unfold u1 sr2
    by_cases z : i = o
    · rw [if_pos z, if_pos z]; exact ⟨RE_9 h hp, RE_q h hp⟩
    · rw [if_neg z, if_neg z]
      by_cases w : o < i ∧ i ≤ R 0 0 0 - 1
      · rw [if_pos w, if_pos w]; exact tk_tk h (by omega)
      · rw [if_neg w, if_neg w]; exact tk_tk h (by omega)
  · unfold u1 sr2
    split
    · exact (RE_xi h).2.2.2.2.2.2.2.2.2.2.2.2.2.2 p
    · split
      · exact tk_le h p _ _
      · exact tk_le h p _ _
  · unfold u1 sr2
    split
    · exact (RE_mi h).2.2.1 p
    · split
      · exact tkF_lt h p _ _
      · exact tkF_lt h p _ _
  · unfold mvR; rw [rs_ne _ _ h6]
  · unfold mvX toM toX; rw [rs_ne _ _ h2, rs_ne _ _ h9, rs_ne _ _ h9, rs_ne _ _ h2]
  · show M 2 0 0 - 1 + 1 = R 0 0 0
    rw [← RE_n h]; omega
theorem q_remove_n (h : RE n P R M) {x : Int32} (hc : rg x (R 0 0 0)) : rvM M x 8 0 0 = 0 ∧ nI (R 0 0 0 - 1) = rvV M x ∧ RE (n + 1) P (rmR R (xN x)) (rvM M x) := by
  obtain ⟨b, c, -, -⟩ := q_place h hc
  have em : rvM M x = toM (rs M 8 (k0 0)) (xN x) := if_pos b
  refine ⟨by rw [em]; rfl, by unfold rvV; rw [if_pos b, RE_n h], by rw [em]; exact RE_up (Nat.le_succ n) (RE_rm (RE_8 h (k0 0)) c)⟩
theorem q_remove_x (h : RE n P R M) {x : Int32} (hc : ¬ rg x (R 0 0 0)) : rvM M x 8 0 0 = 1 ∧ RE (n + 1) P R (rvM M x) := by
  have em : rvM M x = rs M 8 (k0 1) := if_neg (by rw [q_noplace h hc]; decide)
  rw [em]; exact ⟨rfl, RE_t h _⟩
theorem q_move_n (h : RE n P R M) {x y : Int32} (hc : rg x (R 0 0 0) ∧ rg y (R 0 0 0)) : mvI M x y 8 0 0 = 0 ∧ RE (n + 1) P (mvR R (xN x) (xN y)) (mvI M x y) := by
  obtain ⟨b, c, -, -⟩ := q_place h hc.1
  obtain ⟨b2, c2, -, -⟩ := q_place h hc.2
  have em : mvI M x y = mvX (rs M 8 (k0 0)) (xN x) (xN y) := if_pos (by unfold okV; rw [b, b2]; rfl)
  rw [em]
  exact ⟨rfl, RE_up (Nat.le_succ n) (RE_mv (RE_8 h (k0 0)) c c2)⟩
theorem q_move_x (h : RE n P R M) {x y : Int32} (hc : ¬ (rg x (R 0 0 0) ∧ rg y (R 0 0 0))) : mvI M x y 8 0 0 = 1 ∧ RE (n + 1) P R (mvI M x y) := by
  have ok : okV M x y = false := by
    refine Bool.eq_false_iff.mpr (fun w => hc ?_)
    have h64 := RE_64 h
    unfold okV at w
    rw [← RE_n h, Bool.and_eq_true] at w
    exact ⟨(rgB_rg (by omega)).mp w.1, (rgB_rg (by omega)).mp w.2⟩
  have em : mvI M x y = rs M 8 (k0 1) := if_neg (by rw [ok]; decide)
  rw [em]; exact ⟨rfl, RE_t h _⟩
end RE6
