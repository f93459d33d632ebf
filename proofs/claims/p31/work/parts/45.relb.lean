/-! ===== the relation of the class's state and the law's ===== -/
def RZ (n : Nat) (P R M : fR) : Prop :=
  (FJ P ∧ FP P ∧ XI R ∧ LI M) ∧
  (R 1 0 0 = M 4 1 0 ∧ 2 ^ P 0 0 0 = M 4 3 0 ∧ R 4 0 0 = M 4 4 0 ∧ R 5 0 0 = M 4 5 0) ∧
  RG R M ∧ RP R M ∧ RQ R M ∧ RC R ∧
  (∀ i j, i < R 0 0 0 → j < R 0 0 0 → R 6 i 0 = R 6 j 0 → i = j) ∧
  (∀ t, t < 128 → R 8 t 0 ≠ 0 → 1 ≤ R 17 t 0) ∧
  (R 2 0 0 ≤ 4 * n ∧ (∀ q, R 15 q 0 ≤ n + 1) ∧ R 4 0 0 ≤ 8 * n ∧ R 5 0 0 ≤ 500 * n)
section REL1
variable {n : Nat} {P R M : fR}
theorem rl_fj (h : RZ n P R M) : FJ P := h.1.1
theorem rl_fi (h : RZ n P R M) : FI P := h.1.1.1
theorem rl_fp (h : RZ n P R M) : FP P := h.1.2.1
theorem rl_xi (h : RZ n P R M) : XI R := h.1.2.2.1
theorem rl_li (h : RZ n P R M) : LI M := h.1.2.2.2
theorem rl_g (h : RZ n P R M) : RG R M := h.2.2.1
theorem rl_p (h : RZ n P R M) : RP R M := h.2.2.2.1
theorem rl_q (h : RZ n P R M) : RQ R M := h.2.2.2.2.1
theorem rl_c (h : RZ n P R M) : RC R := h.2.2.2.2.2.1
theorem rl_inj (h : RZ n P R M) : ∀ i j, i < R 0 0 0 → j < R 0 0 0 → R 6 i 0 = R 6 j 0 → i = j := h.2.2.2.2.2.2.1
theorem rl_17 (h : RZ n P R M) : ∀ t, t < 128 → R 8 t 0 ≠ 0 → 1 ≤ R 17 t 0 := h.2.2.2.2.2.2.2.1
theorem rl_b (h : RZ n P R M) : R 2 0 0 ≤ 4 * n ∧ (∀ q, R 15 q 0 ≤ n + 1) ∧ R 4 0 0 ≤ 8 * n ∧ R 5 0 0 ≤ 500 * n := h.2.2.2.2.2.2.2.2
theorem rl_0 (h : RZ n P R M) : R 0 0 0 = M 4 0 0 := (rl_p h).1
theorem rl_24 (h : RZ n P R M) : R 0 0 0 ≤ 24 := by have := (rl_li h).2.2.2.1; rw [rl_0 h]; exact this
theorem rl_64 (h : RZ n P R M) : R 0 0 0 ≤ 64 := (rl_xi h).1
theorem rl_w (h : RZ n P R M) : pgs P = 2 * M 4 3 0 := by
  have h1 := FI_pg (rl_fi h)
  rw [h1.2.2, h.2.1.2.1]
/-- one act more -/
theorem RL_up {n' : Nat} (hn : n ≤ n') (h : RZ n P R M) : RZ n' P R M := by
  obtain ⟨a1, a2, a3, a4, a5, a6, a7, a8, ⟨b1, b2, b3, b4⟩⟩ := h
  exact ⟨a1, a2, a3, a4, a5, a6, a7, a8, by omega, fun q => by have := b2 q; omega, by omega, by omega⟩
theorem rl_sh (h : RZ n P R M) : shc P R = shL M := by
  have h1 := rl_w h
  have e : shc P R = (R 0 0 0 + pgs P - 1) / pgs P := rfl
  rw [e, h1, rl_0 h]; rfl
theorem rl_fin (h : RZ n P R M) {i : Nat} (hi : i < R 0 0 0) : fnL M i 4 = fin R (pg R i) := fn_fin (rl_xi h) (rl_c h) (rl_g h) ((rl_p h).2 i hi) (rl_q h i hi)
theorem al_afl (hf : ∀ i, i < R 0 0 0 → fnL M i 4 = fin R (pg R i)) (a : Nat) : ∀ d, a + d ≤ R 0 0 0 → alL M a d = afl R a d
  | 0, _ => rfl
  | d + 1, hd => by
    show (alL M a d && fnL M (a + d) 4) = (afl R a d && fin R (R 6 (a + d) 0 - 1))
    rw [al_afl hf a d (by omega), hf (a + d) (by omega)]; rfl
/-- the law's ready sheets are the class's -/
theorem rd_afo (hL : LI M) (hw : pgs P = 2 * M 4 3 0) (h0 : R 0 0 0 = M 4 0 0) (hf : ∀ i, i < R 0 0 0 → fnL M i 4 = fin R (pg R i)) : rdL M (M 4 0 0) < 64 ∧ ∀ s, s < 6 → tb (rdL M (M 4 0 0)) s = (decide (s < shc P R) && afo P R s) := by
  obtain ⟨h1, h2⟩ := rdL_bits hL (M 4 0 0) (Nat.le_refl _)
  refine ⟨h1, fun s hs => ?_⟩
  have es : shc P R = shL M := by
    have e : shc P R = (R 0 0 0 + pgs P - 1) / pgs P := rfl
    rw [e, hw, h0]; rfl
  rw [h2 s hs, es]
  unfold afo
  rw [hw, h0]
  by_cases q : s < shL M
  · have e3 : s * (2 * M 4 3 0) < M 4 0 0 := by
      obtain ⟨-, -, -, -, -, -, h43, -⟩ := hL
      unfold shL at q
      rw [Nat.lt_div_iff_mul_lt (by omega)] at q
      omega
    have e2 : min (s * (2 * M 4 3 0) + 2 * M 4 3 0) (M 4 0 0) - s * (2 * M 4 3 0) = min (2 * M 4 3 0) (M 4 0 0 - s * (2 * M 4 3 0)) := by omega
    rw [e2, al_afl hf _ _ (by rw [h0]; omega)]
  · rw [decide_eq_false q, Bool.false_and, Bool.false_and]
theorem rl_rd (h : RZ n P R M) : rdL M (M 4 0 0) < 64 ∧ ∀ s, s < 6 → tb (rdL M (M 4 0 0)) s = (decide (s < shc P R) && afo P R s) := rd_afo (rl_li h) (rl_w h) (rl_0 h) (fun i hi => rl_fin h hi)
/-- what is told as sent back -/
theorem csb_cnt {Q : fR} {a b : Nat} (ha : a < 64) (hb : b < 64) (h7 : ∀ s, s < 6 → zB (Q 7 s 0) = tb a s) (h7' : ∀ s, 6 ≤ s → s < 16 → zB (Q 7 s 0) = false) (hb2 : ∀ s, s < 6 → tb a s = true → tb b s = afo P Q s) : csb P Q 16 = cntS (a &&& (b ^^^ 4294967295)) 16 := by
  obtain ⟨c1, c2⟩ := andn_ok a ha b hb
  rw [cntS_ok _ c1, c2 0 (by decide), c2 1 (by decide), c2 2 (by decide), c2 3 (by decide), c2 4 (by decide), c2 5 (by decide)]
  have z : ∀ k, csb P Q (k + 1) = csb P Q k + (if (zB (Q 7 k 0) && !afo P Q k) = true then 1 else 0) := fun _ => rfl
  have t6 : ∀ s, 6 ≤ s → s < 16 → csb P Q (s + 1) = csb P Q s := fun s h1 h2 => by rw [z, h7' s h1 h2]; rfl
  rw [t6 15 (by decide) (by decide), t6 14 (by decide) (by decide), t6 13 (by decide) (by decide), t6 12 (by decide) (by decide), t6 11 (by decide) (by decide), t6 10 (by decide) (by decide), t6 9 (by decide) (by decide), t6 8 (by decide) (by decide), t6 7 (by decide) (by decide), t6 6 (by decide) (by decide)]
  have s6 : ∀ s, s < 6 → (if (zB (Q 7 s 0) && !afo P Q s) = true then 1 else 0) = (tb a s && !tb b s).toNat := fun s hs => by
    rw [h7 s hs]
    cases e : tb a s
    · rfl
    · rw [hb2 s hs e]; cases afo P Q s <;> rfl
  rw [z, z, z, z, z, z, s6 0 (by decide), s6 1 (by decide), s6 2 (by decide), s6 3 (by decide), s6 4 (by decide), s6 5 (by decide)]
  show 0 + _ + _ + _ + _ + _ + _ = _
  rw [Nat.zero_add]
end REL1
/-- the law's world does not speak of the class's: a state that reads alike -/
theorem mw_eq (Γ : fG) {ad ad' : Nat → Nat → Nat} {M M' : fR} (ha : ∀ j, ad 30 j = ad' 30 j) (h1 : ∀ i, M 1 i 0 = M' 1 i 0) (h2 : ∀ i, M 2 i 0 = M' 2 i 0) (h3 : ∀ i, M 3 i 0 = M' 3 i 0) (h4 : ∀ i, M 4 i 0 = M' 4 i 0) (h5 : ∀ i, M 5 i 0 = M' 5 i 0) (h6 : M 6 0 0 = M' 6 0 0) : mw Γ ad M = mw Γ ad' M' := by
  have e1 : (fun i => nI (M 1 i 0)) = fun i => nI (M' 1 i 0) := funext fun i => by rw [h1]
  have e2 : (fun i => nI (M 2 i 0)) = fun i => nI (M' 2 i 0) := funext fun i => by rw [h2]
  have e3 : (fun i => nI (M 3 i 0)) = fun i => nI (M' 3 i 0) := funext fun i => by rw [h3]
  have e4 : (fun i => nI (M 4 i 0)) = fun i => nI (M' 4 i 0) := funext fun i => by rw [h4]
  have e5 : (fun i => iM (M 5 i 0)) = fun i => iM (M' 5 i 0) := funext fun i => by rw [h5]
  funext t
  unfold mw
  split <;> simp only [ha, e1, e2, e3, e4, e5, h6]
