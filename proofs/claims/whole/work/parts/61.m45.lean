/-! ===== the class's state and the model's: how they agree, and what follows at once ===== -/
def RE (n : Nat) (P R M : fR) : Prop :=
  (FJ P ∧ XI R ∧ MI M ∧ FT P M) ∧
  (R 0 0 0 = M 2 0 0 ∧ R 1 0 0 = M 1 0 0 ∧ R 2 0 0 = M 0 0 0 ∧ R 4 0 0 = M 6 0 0 ∧ R 5 0 0 = M 7 0 0) ∧
  (∀ i, i < R 0 0 0 → R 6 i 0 = M 9 i 0 + 1) ∧
  (∀ q, R 13 q 0 = M 10 q 0 ∧ R 14 q 0 = M 11 q 0 ∧ R 15 q 0 = M 12 q 0) ∧
  (∀ q c, c < 4 → R 16 q c = M 13 (4 * q + c) 0) ∧
  (∀ q c, c < 4 → R 20 0 0 ≤ q → R 16 q c = 0) ∧
  (∀ q c, c < 4 → R 16 q c ≠ 0 → tb (R 14 q 0) c = true) ∧
  (∀ f, f < 8 → if zB (R 10 f 0) = true then M 14 f 0 = R 11 f 0 + 1 ∧ M 15 f 0 = R 12 f 0 + 1 else M 14 f 0 = 0) ∧
  (∀ t, t < 128 → if R 8 t 0 = 0 then M 20 t 0 = 0 else (R 17 t 0 = M 20 t 0 ∧ 1 ≤ M 20 t 0 ∧ R 18 t 0 = M 21 t 0 ∧ ∀ j, j < M 20 t 0 → R 19 t j = M 22 (16 * t + j) 0 ∧ M 22 (16 * t + j) 0 / 512 % 128 < 100)) ∧
  (R 2 0 0 ≤ 100 * n ∧ (∀ q, R 15 q 0 ≤ n + 1) ∧ R 4 0 0 ≤ 8 * n ∧ R 5 0 0 ≤ 500 * n) ∧ M 27 0 0 = 1
section RE0
variable {n : Nat} {P R M : fR}
theorem RE_fj (h : RE n P R M) : FJ P := h.1.1
theorem RE_xi (h : RE n P R M) : XI R := h.1.2.1
theorem RE_mi (h : RE n P R M) : MI M := h.1.2.2.1
theorem RE_ft (h : RE n P R M) : FT P M := h.1.2.2.2
theorem RE_n (h : RE n P R M) : R 0 0 0 = M 2 0 0 := h.2.1.1
theorem RE_9 (h : RE n P R M) {i : Nat} (hi : i < R 0 0 0) : R 6 i 0 = M 9 i 0 + 1 := h.2.2.1 i hi
theorem RE_9' (h : RE n P R M) {i : Nat} (hi : i < R 0 0 0) : R 6 i 0 - 1 = M 9 i 0 := by rw [RE_9 h hi]; rfl
theorem RE_13 (h : RE n P R M) (q : Nat) : R 13 q 0 = M 10 q 0 ∧ R 14 q 0 = M 11 q 0 ∧ R 15 q 0 = M 12 q 0 := h.2.2.2.1 q
theorem RE_16 (h : RE n P R M) (q : Nat) {c : Nat} (hc : c < 4) : R 16 q c = M 13 (4 * q + c) 0 := h.2.2.2.2.1 q c hc
theorem RE_ft8 (h : RE n P R M) {f : Nat} (hf : f < 8) : if zB (R 10 f 0) = true then M 14 f 0 = R 11 f 0 + 1 ∧ M 15 f 0 = R 12 f 0 + 1 else M 14 f 0 = 0 := h.2.2.2.2.2.2.2.1 f hf
/-- one call more -/
theorem RE_up {n' : Nat} (hn : n ≤ n') (h : RE n P R M) : RE n' P R M := by
  obtain ⟨a1, a2, a3, a4, a5, a6, a7, a8, a9, ⟨b1, b2, b3, b4⟩, a11⟩ := h
  exact ⟨a1, a2, a3, a4, a5, a6, a7, a8, a9, ⟨by omega, fun q => by have := b2 q; omega, by omega, by omega⟩, a11⟩
/-- what the model threw last is no part of it -/
theorem RE_8 (h : RE n P R M) (f : Nat → Nat → Nat) : RE n P R (rs M 8 f) := h
theorem RE_23 (h : RE n P R M) {T : Nat → Nat → Nat} (hT : ∀ k, T k 0 < 134217728) : RE n P R (rs M 23 T) := by
  obtain ⟨⟨a, b, c, d⟩, rest⟩ := h
  exact ⟨⟨a, b, MI_rs23 c hT, d⟩, rest⟩
/-- nor what the class looked up last -/
theorem RE_jk (h : RE n P R M) {R1 : fR} (hj : jk R1 R) (hX : XI R1) : RE n P R1 M := by
  obtain ⟨⟨a, b, c, d⟩, a2, a3, a4, a5, a6, a7, a8, a9, a10, a11⟩ := h
  unfold RE
  rw [hj 0 (by decide) (by decide), hj 1 (by decide) (by decide), hj 2 (by decide) (by decide), hj 4 (by decide) (by decide), hj 5 (by decide) (by decide), hj 6 (by decide) (by decide), hj 13 (by decide) (by decide), hj 14 (by decide) (by decide), hj 15 (by decide) (by decide), hj 16 (by decide) (by decide), hj 20 (by decide) (by decide), hj 10 (by decide) (by decide), hj 11 (by decide) (by decide), hj 12 (by decide) (by decide), hj 8 (by decide) (by decide), hj 17 (by decide) (by decide), hj 18 (by decide) (by decide), hj 19 (by decide) (by decide)]
  exact ⟨⟨a, hX, c, d⟩, a2, a3, a4, a5, a6, a7, a8, a9, a10, a11⟩
theorem RE_pg (h : RE n P R M) : pgs P = 2 * (M 4 0 0 * M 5 0 0) ∧ 2 ≤ M 4 0 0 * M 5 0 0 ∧ M 4 0 0 * M 5 0 0 = 2 ^ P 0 0 0 := by
  obtain ⟨f0, ⟨f2, f3⟩, -⟩ := RE_ft h
  have hF := (RE_fj h).1
  have h1 := FI_pg hF
  have h2 : P 2 0 0 * P 3 0 0 = 2 ^ P 0 0 0 := hF.2.2.2.1
  rw [← f2, ← f3, h2]
  have h3 := pow4 hF.1 hF.2.1
  exact ⟨h1.2.2, h3.1, rfl⟩
theorem RE_sh (h : RE n P R M) : shc P R = shM M := by
  unfold shc shM
  have h1 := (RE_pg h).1
  unfold pgs at h1
  rw [h1, RE_n h]
theorem RE_us (h : RE n P R M) {f : Nat} (hf : f < 8) : us R f = mayB M f := by
  have h1 := RE_ft8 h hf
  have h2 := (RE_xi h).2.2.2.2.1
  have h3 := ((RE_xi h).2.2.2.2.2.1) f
  have h4 : R 2 0 0 = M 0 0 0 := h.2.1.2.2.1
  unfold us fal mayB
  by_cases hz : zB (R 10 f 0) = true
  · rw [if_pos hz] at h1
    rw [hz, h1.1, h1.2, iM_pos (by omega), iM_pos (by omega), Nat.add_sub_cancel, Nat.add_sub_cancel, ← h4]
    have e : (R 11 f 0 + 1 != 0) = true := by rw [bne_iff_ne]; omega
    rw [e, Bool.true_and, Bool.true_and]
    unfold inn
    rw [Bool.eq_iff_iff, Bool.and_eq_true, decide_eq_true_iff, decide_eq_true_iff, decide_eq_true_iff, nI_leI (by omega) (by omega), nI_leI (by omega) (by omega)]
  · rw [if_neg hz] at h1
    rw [h1, Bool.eq_false_iff.mpr hz]; rfl
theorem RE_afu (h : RE n P R M) (q : Nat) : ∀ k, k ≤ 8 → afu R q k = mya M q k
  | 0, _ => rfl
  | k + 1, hk => by
    show (afu R q k && (!tb (R 13 q 0) k || us R k)) = (mya M q k && (!tb (M 10 q 0) k || mayB M k))
    rw [RE_afu h q k (by omega), RE_us h (by omega), (RE_13 h q).1]
theorem tb_2 (a c : Nat) : tb a c = decide (a / 2 ^ c % 2 = 1) := by
  unfold tb
  rw [Nat.and_one_is_mod, Bool.eq_iff_iff, bne_iff_ne, decide_eq_true_iff]
  omega
theorem RE_fin (h : RE n P R M) (q : Nat) : fin R q = fnM M q 4 := by
  have h16 := fun c hc => RE_16 h q (c := c) hc
  have h7 : ∀ c, c < 4 → R 16 q c ≠ 0 → tb (R 14 q 0) c = true := fun c hc => h.2.2.2.2.2.2.1 q c hc
  have h14 := (RE_13 h q).2.1
  have e8 := RE_afu h q 8 (Nat.le_refl _)
  have e4 : fnM M q 4 = ((((mya M q 8 && (!tb (M 11 q 0) 0 || decide (M 13 (4 * q + 0) 0 = 2))) && (!tb (M 11 q 0) 1 || decide (M 13 (4 * q + 1) 0 = 2))) && (!tb (M 11 q 0) 2 || decide (M 13 (4 * q + 2) 0 = 2))) && (!tb (M 11 q 0) 3 || decide (M 13 (4 * q + 3) 0 = 2))) := rfl
  have ec : cnt (R 16 q) 2 4 = (((0 + (if R 16 q 0 = 2 then 1 else 0)) + (if R 16 q 1 = 2 then 1 else 0)) + (if R 16 q 2 = 2 then 1 else 0)) + (if R 16 q 3 = 2 then 1 else 0) := rfl
  unfold fin
  rw [e4, ec, e8, ← h14, ← h16 0 (by decide), ← h16 1 (by decide), ← h16 2 (by decide), ← h16 3 (by decide)]
  have g0 := h7 0 (by decide)
  have g1 := h7 1 (by decide)
  have g2 := h7 2 (by decide)
  have g3 := h7 3 (by decide)
  unfold pop4
  rw [tb_2, decide_eq_true_iff] at g0 g1 g2 g3
  rw [tb_2, tb_2, tb_2, tb_2]
  rw [show (2 : Nat) ^ 0 = 1 from rfl, Nat.div_one] at g0 ⊢
  rw [show (2 : Nat) ^ 1 = 2 from rfl] at g1 ⊢
  rw [show (2 : Nat) ^ 2 = 4 from rfl] at g2 ⊢
  rw [show (2 : Nat) ^ 3 = 8 from rfl] at g3 ⊢
  generalize mya M q 8 = z
  generalize R 14 q 0 = a at *
  generalize R 16 q 0 = p0 at *
  generalize R 16 q 1 = p1 at *
  generalize R 16 q 2 = p2 at *
  generalize R 16 q 3 = p3 at *
  cases z
  · simp
  · rw [Bool.and_true, Bool.true_and, Bool.eq_iff_iff]
    simp only [Bool.and_eq_true, Bool.or_eq_true, Bool.not_eq_true', decide_eq_true_iff, decide_eq_false_iff_not]
    constructor
    · intro hh
      split at hh <;> split at hh <;> split at hh <;> split at hh <;> refine ⟨⟨⟨?_, ?_⟩, ?_⟩, ?_⟩ <;> omega
    · intro hh
      split <;> split <;> split <;> split <;> omega
theorem RE_afl (h : RE n P R M) (s : Nat) : ∀ d, s * pgs P + d ≤ R 0 0 0 → afl R (s * pgs P) d = rdM M s d
  | 0, _ => rfl
  | d + 1, hd => by
    have e : s * pgs P = bsM M s := by unfold bsM; rw [(RE_pg h).1, Nat.mul_comm]
    show (afl R (s * pgs P) d && fin R (R 6 (s * pgs P + d) 0 - 1)) = (rdM M s d && fnM M (M 9 (bsM M s + d) 0) 4)
    rw [RE_afl h s d (by omega), RE_9' h (by omega), RE_fin h, e]
theorem RE_rd (h : RE n P R M) (s : Nat) : afo P R s = rdY M s := by
  have e : s * pgs P = bsM M s := by unfold bsM; rw [(RE_pg h).1, Nat.mul_comm]
  unfold afo rdY
  rw [← RE_n h, ← (RE_pg h).1, ← e]
  by_cases hb : s * pgs P ≤ R 0 0 0
  · exact RE_afl h s _ (by omega)
  · rw [show min (s * pgs P + pgs P) (R 0 0 0) - s * pgs P = 0 by omega]; rfl
end RE0
