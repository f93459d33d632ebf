/-! ===== the queries of both sides agree ===== -/
def IOBs : String := "java/lang/IndexOutOfBoundsException"
def IAEs : String := "java/lang/IllegalArgumentException"
def ISEs : String := "java/lang/IllegalStateException"
theorem rgb {x : Int32} {n : Nat} (hn : n < 2 ^ 31) : (rg x n → rgB x n = true) ∧ (¬ rg x n → rgB x n = false) := ⟨(rgB_rg hn).mpr, fun h => Bool.eq_false_iff.mpr (fun z => h ((rgB_rg hn).mp z))⟩
theorem rg_xN {x : Int32} {n : Nat} (hn : n < 2 ^ 31) (h : rg x n) : xN x < n ∧ x = nI (xN x) := by
  obtain ⟨j, hj, rfl⟩ := rg_of h hn
  rw [xN_nI (by omega)]
  exact ⟨hj, rfl⟩
section RE1
variable {n : Nat} {P R M : fR}
theorem RE_64 (h : RE n P R M) : R 0 0 0 ≤ 64 := (RE_xi h).1
theorem RE_t (h : RE n P R M) (v : Nat) : RE (n + 1) P R (rs M 8 (k0 v)) := RE_up (Nat.le_succ n) (RE_8 h _)
theorem q_place (h : RE n P R M) {x : Int32} (hc : rg x (R 0 0 0)) : rgB x (M 2 0 0) = true ∧ xN x < R 0 0 0 ∧ R 6 (xN x) 0 - 1 = M 9 (xN x) 0 ∧ x = nI (xN x) := by
  have h64 := RE_64 h
  have e := rg_xN (by omega) hc
  rw [RE_n h] at hc
  exact ⟨(rgb (by rw [← RE_n h]; omega)).1 hc, e.1, RE_9' h e.1, e.2⟩
theorem q_noplace (h : RE n P R M) {x : Int32} (hc : ¬ rg x (R 0 0 0)) : rgB x (M 2 0 0) = false := by
  have h64 := RE_64 h
  rw [RE_n h] at hc
  exact (rgb (by rw [← RE_n h]; omega)).2 hc
theorem q_edition_n (h : RE n P R M) {x : Int32} (hc : rg x (R 0 0 0)) : thr (rgB x (M 2 0 0)) true true = 0 ∧ nI (R 15 (R 6 (xN x) 0 - 1) 0) = edV M x := by
  obtain ⟨b, -, c, -⟩ := q_place h hc
  refine ⟨by rw [b]; rfl, ?_⟩
  unfold edV
  rw [if_pos b, c, (RE_13 h _).2.2]
theorem q_edition_x (h : RE n P R M) {x : Int32} (hc : ¬ rg x (R 0 0 0)) : thr (rgB x (M 2 0 0)) true true = 1 := by rw [q_noplace h hc]; rfl
theorem RE_plm (h : RE n P R M) {s i l : Nat} (hl : l < 2 ^ P 0 0 0) (hi : i < 2) : s * pgs P + P 6 (l * 2 + i) 0 = plM M s i l := by
  obtain ⟨-, -, f6, -⟩ := RE_ft h
  unfold plM
  rw [(f6 l hl i hi).1, (RE_pg h).1, Nat.mul_comm s]
  omega
theorem RE_plJ (h : RE n P R M) {s i l : Nat} (hl : l < 2 ^ P 0 0 0) (hi : i < 2) : plO P R s (P 6 (l * 2 + i) 0) = plJ M s i l := by
  unfold plO plJ
  rw [RE_plm h hl hi, RE_n h]
theorem q_pt (h : RE n P R M) {a c d : Int32} (hc : rg a (shc P R) ∧ rg c (P 2 0 0) ∧ rg d (P 3 0 0)) : ptA M a c d = true ∧ xN c * P 3 0 0 + xN d < 2 ^ P 0 0 0 ∧ xN d < P 3 0 0 := by
  obtain ⟨-, ⟨f2, f3⟩, -⟩ := RE_ft h
  have hF := (RE_fj h).1
  have hr := FI_rc hF
  have hs := FI_sh hF (RE_64 h)
  have e1 := (rgb (by omega)).1 hc.1
  have e2 := (rgb (by omega)).1 hc.2.1
  have e3 := (rgb (by omega)).1 hc.2.2
  have x2 := (rg_xN (by omega) hc.2.1).1
  have x3 := (rg_xN (by omega) hc.2.2).1
  have hl := leaf_lt x2 x3
  rw [hF.2.2.2.1] at hl
  rw [RE_sh h] at e1
  rw [f2] at e2
  rw [f3] at e3
  exact ⟨by unfold ptA; rw [e1, e2, e3]; rfl, hl, x3⟩
theorem q_pt_no (h : RE n P R M) {a c d : Int32} (hc : ¬ (rg a (shc P R) ∧ rg c (P 2 0 0) ∧ rg d (P 3 0 0))) : ptA M a c d = false := by
  obtain ⟨-, ⟨f2, f3⟩, -⟩ := RE_ft h
  have hF := (RE_fj h).1
  have hr := FI_rc hF
  have hs := FI_sh hF (RE_64 h)
  refine Bool.eq_false_iff.mpr (fun z => hc ?_)
  unfold ptA at z
  rw [Bool.and_eq_true, Bool.and_eq_true] at z
  rw [RE_sh h, f2, f3]
  rw [RE_sh h] at hs
  rw [f2, f3] at hr
  exact ⟨(rgB_rg (by omega)).mp z.1, (rgB_rg (by omega)).mp z.2.1, (rgB_rg (by omega)).mp z.2.2⟩
theorem q_pageAt_n (h : RE n P R M) {a b c d : Int32} (hc : (rg a (shc P R) ∧ rg c (P 2 0 0) ∧ rg d (P 3 0 0)) ∧ rg b 2) : thr (ptA M a c d) (rgB b 2) true = 0 ∧ plO P R (xN a) (P 6 ((xN c * P 3 0 0 + xN d) * 2 + xN b) 0) = ptV M a b c d := by
  obtain ⟨e1, e2, -⟩ := q_pt h hc.1
  have e3 := (rgb (by decide)).1 hc.2
  have e4 := (rg_xN (by decide) hc.2).1
  refine ⟨by rw [e1, e3]; rfl, ?_⟩
  unfold ptV
  rw [if_pos (by rw [e1, e3]; rfl), RE_plJ h e2 e4, (RE_ft h).2.1.2, Nat.mul_comm (xN c)]
theorem q_pageByRule_n (h : RE n P R M) {a b c d : Int32} (hc : (rg a (shc P R) ∧ rg c (P 2 0 0) ∧ rg d (P 3 0 0)) ∧ rg b 2) : thr (ptA M a c d) (rgB b 2) true = 0 ∧ plO P R (xN a) (obr (kdP P) (P 2 0 0) (P 3 0 0) (P 0 0 0) (xN b) (xN c) (xN d)) = ptV M a b c d := by
  obtain ⟨-, e2, e5⟩ := q_pt h hc.1
  have e4 := (rg_xN (by decide) hc.2).1
  have e6 := ((RE_ft h).2.2.1 _ e2 _ e4).2
  rw [(div_mod_of e5).1, (div_mod_of e5).2] at e6
  rw [e6]
  exact q_pageAt_n h hc
theorem q_pageAt_x (h : RE n P R M) {a b c d : Int32} {E9 : String} (hx : (E9 = IOBs ∧ ¬ (rg a (shc P R) ∧ rg c (P 2 0 0) ∧ rg d (P 3 0 0))) ∨ (E9 = IAEs ∧ (rg a (shc P R) ∧ rg c (P 2 0 0) ∧ rg d (P 3 0 0)) ∧ ¬ rg b 2)) : (E9 = IOBs ∧ thr (ptA M a c d) (rgB b 2) true = 1) ∨ (E9 = IAEs ∧ thr (ptA M a c d) (rgB b 2) true = 2) := by
  rcases hx with ⟨e, z⟩ | ⟨e, z1, z2⟩
  · exact Or.inl ⟨e, by rw [q_pt_no h z]; rfl⟩
  · exact Or.inr ⟨e, by rw [(q_pt h z1).1, (rgb (by decide)).2 z2]; rfl⟩
/-- the model's leaf of a page -/
theorem RE_lf (h : RE n P R M) {p : Nat} (hp : p < R 0 0 0) : lfV M p = nI (16 * (P 7 (p % pgs P) 0 % 2) + P 7 (p % pgs P) 0 / 2) := by
  have hF := (RE_fj h).1
  have hpg := FI_pg hF
  obtain ⟨-, -, -, -, f7⟩ := RE_ft h
  have hm : p % pgs P < pgs P := Nat.mod_lt _ (by omega)
  obtain ⟨-, -, g1, g2⟩ := f7 _ hm
  have h64 := RE_64 h
  have key : ∀ k, k < pgs P → (plJ M (p / pgs P) (k % 2) (k / 2) = nI p ↔ k = P 7 (p % pgs P) 0) := by
    intro k hk
    have hl : k / 2 < 2 ^ P 0 0 0 := by omega
    have e := RE_plm h (s := p / pgs P) hl (Nat.mod_lt k (by decide))
    rw [show k / 2 * 2 + k % 2 = k by omega] at e
    have hd := Nat.div_add_mod p (pgs P)
    rw [Nat.mul_comm] at e
    unfold plJ
    rw [← RE_n h]
    constructor
    · intro z
      by_cases q : plM M (p / pgs P) (k % 2) (k / 2) < R 0 0 0
      · rw [if_pos q] at z
        have z2 := (nI_eq (by omega) (by omega)).mp z
        have z3 : P 6 k 0 = p % pgs P := by omega
        rw [← z3]
        exact (f7 k hk).2.1.symm
      · rw [if_neg q] at z
        have hp9 := nI_pos (n := p) (by omega)
        rw [← z] at hp9
        exact absurd (by decide) hp9
    · intro z
      have z3 : P 6 k 0 = p % pgs P := by rw [z]; exact g2
      have z4 : plM M (p / pgs P) (k % 2) (k / 2) = p := by omega
      rw [z4, if_pos hp]
  have ind : ∀ k, k ≤ pgs P → lfM M (p / pgs P) p k = if P 7 (p % pgs P) 0 < k then nI (16 * (P 7 (p % pgs P) 0 % 2) + P 7 (p % pgs P) 0 / 2) else -1 := by
    intro k
    induction k with
    | zero => intro _; rw [if_neg (Nat.not_lt_zero _)]; rfl
    | succ k ih =>
      intro hk
      show (if plJ M (p / pgs P) (k % 2) (k / 2) = nI p then nI (16 * (k % 2) + k / 2) else lfM M (p / pgs P) p k) = _
      rw [ih (by omega)]
      by_cases q : k = P 7 (p % pgs P) 0
      · rw [if_pos ((key k (by omega)).mpr q), if_pos (by omega), q]
      · rw [if_neg (fun z => q ((key k (by omega)).mp z))]
        by_cases q2 : P 7 (p % pgs P) 0 < k
        · rw [if_pos q2, if_pos (by omega)]
        · rw [if_neg q2, if_neg (by omega)]
  unfold lfV
  rw [← (RE_pg h).1, ind _ (Nat.le_refl _), if_pos g1]
theorem q_leafOf_n (h : RE n P R M) {x : Int32} (hc : rg x (R 0 0 0)) : thr (rgB x (M 2 0 0)) true true = 0 ∧ nI (P 7 (xN x % pgs P) 0 % 2 * 16 + P 7 (xN x % pgs P) 0 / 2) = lfW M x := by
  obtain ⟨b, c, -, -⟩ := q_place h hc
  refine ⟨by rw [b]; rfl, ?_⟩
  unfold lfW
  rw [if_pos b, RE_lf h c, Nat.mul_comm 16]
theorem q_lf32 (h : RE n P R M) : ∀ j, j < M 2 0 0 → ∃ v : Nat, v < 32 ∧ lfV M j = nI v := by
  intro j hj
  rw [← RE_n h] at hj
  have hF := (RE_fj h).1
  have hpg := FI_pg hF
  have hm : j % pgs P < pgs P := Nat.mod_lt _ (by omega)
  have g1 := ((RE_ft h).2.2.2.2 _ hm).2.2.1
  exact ⟨_, by omega, RE_lf h hj⟩
theorem q_isTurned_n (h : RE n P R M) {x : Int32} (hc : rg x (R 0 0 0)) : thr (rgB x (M 2 0 0)) true true = 0 ∧ zB (P 5 (P 7 (xN x % pgs P) 0 / 2) 0) = (rgB x (M 2 0 0) && decide (M 19 (xN (lfV M (xN x)) % 16) 0 = 1)) := by
  obtain ⟨b, c, -, -⟩ := q_place h hc
  refine ⟨by rw [b]; rfl, ?_⟩
  have hF := (RE_fj h).1
  have hpg := FI_pg hF
  have hm : xN x % pgs P < pgs P := Nat.mod_lt _ (by omega)
  have g1 := ((RE_ft h).2.2.2.2 _ hm).2.2.1
  have h4 := pow4 hF.1 hF.2.1
  have g2 := (RE_ft h).2.2.2.1 (P 7 (xN x % pgs P) 0 / 2) (by omega)
  rw [b, Bool.true_and, RE_lf h c, xN_nI (by omega), show (16 * (P 7 (xN x % pgs P) 0 % 2) + P 7 (xN x % pgs P) 0 / 2) % 16 = P 7 (xN x % pgs P) 0 / 2 by omega, ← g2]
  cases zB (P 5 (P 7 (xN x % pgs P) 0 / 2) 0) <;> rfl
theorem q_mayUse_n (h : RE n P R M) {x : Int32} (hc : rg x 8) : thr (rgB x 8) true true = 0 ∧ us R (xN x) = (rgB x 8 && mayB M (xN x)) := by
  have b := (rgb (by decide)).1 hc
  refine ⟨by rw [b]; rfl, ?_⟩
  rw [b, Bool.true_and, RE_us h (rg_xN (by decide) hc).1]
theorem q_mayUse_x {x : Int32} (hc : ¬ rg x 8) : thr (rgB x 8) true true = 1 := by rw [(rgb (by decide)).2 hc]; rfl
theorem q_proof_n (h : RE n P R M) {x y : Int32} (hc : rg x (R 0 0 0) ∧ rg y 4) : thr (rgB x (M 2 0 0)) (rgB y 4) true = 0 ∧ prf R (R 6 (xN x) 0 - 1) (xN y) = pfV M x y := by
  obtain ⟨b, c, e, -⟩ := q_place h hc.1
  have b2 := (rgb (by decide)).1 hc.2
  refine ⟨by rw [b, b2]; rfl, ?_⟩
  unfold pfV prf prM
  rw [if_pos (show (rgB x (M 2 0 0) && rgB y 4) = true by rw [b, b2]; rfl), e, (RE_13 h _).2.1, RE_16 h _ (rg_xN (by decide) hc.2).1]
theorem q_pc_x (h : RE n P R M) {x y : Int32} {E9 : String} (c3 : Bool) (hx : (E9 = IOBs ∧ ¬ rg x (R 0 0 0)) ∨ (E9 = IAEs ∧ rg x (R 0 0 0) ∧ ¬ rg y 4)) : (E9 = IOBs ∧ thr (rgB x (M 2 0 0)) (rgB y 4) c3 = 1) ∨ (E9 = IAEs ∧ thr (rgB x (M 2 0 0)) (rgB y 4) c3 = 2) := by
  rcases hx with ⟨e, z⟩ | ⟨e, z1, z2⟩
  · exact Or.inl ⟨e, by rw [q_noplace h z]; rfl⟩
  · exact Or.inr ⟨e, by rw [(q_place h z1).1, (rgb (by decide)).2 z2]; rfl⟩
theorem q_sheet (h : RE n P R M) {x : Int32} (hc : rg x (shc P R)) : rgB x (shM M) = true ∧ xN x < shM M ∧ xN x < 16 := by
  have hs := FI_sh (RE_fj h).1 (RE_64 h)
  have e := rg_xN (by omega) hc
  have b := (rgb (by omega)).1 hc
  rw [RE_sh h] at b hs e
  exact ⟨b, e.1, by omega⟩
theorem q_nosheet (h : RE n P R M) {x : Int32} (hc : ¬ rg x (shc P R)) : rgB x (shM M) = false := by
  have hs := FI_sh (RE_fj h).1 (RE_64 h)
  have b := (rgb (by omega)).2 hc
  rw [RE_sh h] at b
  exact b
theorem q_isReady_n (h : RE n P R M) {x : Int32} (hc : rg x (shc P R)) : thr (rgB x (shM M)) true true = 0 ∧ afo P R (xN x) = (rgB x (shM M) && rdY M (xN x)) := by
  obtain ⟨b, -, -⟩ := q_sheet h hc
  refine ⟨by rw [b]; rfl, ?_⟩
  rw [b, Bool.true_and, RE_rd h]
theorem q_isReady_x (h : RE n P R M) {x : Int32} (hc : ¬ rg x (shc P R)) : thr (rgB x (shM M)) true true = 1 := by rw [q_nosheet h hc]; rfl
end RE1
