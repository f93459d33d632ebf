/-! ===== rights and days: the law's changes and the class's ===== -/
def lsq (L : Nat → Bool) (a : Nat) : Nat → Bool
  | 0 => false
  | f + 1 => lsq L a f || (L f && tb a f)
theorem lsq_c {L L' : Nat → Bool} (a : Nat) : ∀ x, (∀ f, f < x → L f = L' f) → lsq L a x = lsq L' a x
  | 0, _ => rfl
  | x + 1, h => by
    show (lsq L a x || (L x && tb a x)) = (lsq L' a x || (L' x && tb a x))
    rw [lsq_c a x (fun f hf => h f (by omega)), h x (by omega)]
theorem lsq_one {L : Nat → Bool} {f : Nat} (a : Nat) (ho : ∀ g, g < 8 → g ≠ f → L g = false) : ∀ x, x ≤ 8 → lsq L a x = (decide (f < x) && (L f && tb a f))
  | 0, _ => by rw [decide_eq_false (Nat.not_lt_zero f)]; rfl
  | x + 1, hx => by
    show (lsq L a x || (L x && tb a x)) = _
    rw [lsq_one a ho x (by omega)]
    by_cases z : x = f
    · rw [z, decide_eq_false (Nat.lt_irrefl f), decide_eq_true (Nat.lt_succ_self f)]; simp
    · rw [ho x (by omega) z]
      by_cases w : f < x
      · rw [decide_eq_true w, decide_eq_true (show f < x + 1 by omega)]; simp
      · rw [decide_eq_false w, decide_eq_false (show ¬ f < x + 1 by omega)]; simp
theorem zB_t (b : Bool) : zB b.toNat = b := by cases b <;> rfl
theorem nr_7 (P R : fR) {i : Nat} (hi : i < 16) : zB (nr P R 7 i 0) = (decide (i < shc P R) && afo P R i) := by
  show zB (nrd P R 16 i 0) = _
  unfold nrd
  rw [if_pos hi, zB_t]
/-- the fonts lost at a new day, one after the other -/
theorem sdl_v (R : fR) (d : Nat) {L : Nat → Bool} (hL : ∀ f, f < 8 → L f = (fal R f d && !us R f)) : ∀ x, x ≤ 8 → ∀ q j, sdl R d x 16 q j = if (inO R q (R 0 0 0) && lsq L (R 13 q 0) x) = true ∧ j < 4 then 0 else R 16 q j
  | 0, _, q, j => by
    show R 16 q j = if (_ && false) = true ∧ j < 4 then 0 else R 16 q j
    rw [Bool.and_false, if_neg (fun u => by cases u.1)]
  | x + 1, hx, q, j => by
    have ih := sdl_v R d hL x (by omega) q j
    have e1 : sdl R d (x + 1) = dlf (sdl R d x) x (fal (sdl R d x) x d) := rfl
    have f1 : fal (sdl R d x) x d = fal R x d := by unfold fal; rw [sdl_c R d (by decide), sdl_c R d (by decide), sdl_c R d (by decide)]
    have f2 : us (sdl R d x) x = us R x := us_eq (sdl_c R d (by decide) x) (sdl_c R d (by decide) x) (sdl_c R d (by decide) x) (sdl_c R d (by decide) x) x
    have io : ∀ k, inO (sdl R d x) q k = inO R q k := fun k => by
      induction k with
      | zero => rfl
      | succ k ih2 =>
        show (inO (sdl R d x) q k || decide (sdl R d x 6 k 0 = q + 1)) = (inO R q k || decide (R 6 k 0 = q + 1))
        rw [ih2, sdl_c R d (by decide)]
    have e2 : lsq L (R 13 q 0) (x + 1) = (lsq L (R 13 q 0) x || (L x && tb (R 13 q 0) x)) := rfl
    rw [e1, e2, f1, hL x (by omega)]
    unfold dlf
    rw [f2]
    by_cases w : (fal R x d && !us R x) = true
    · rw [if_pos w, w, Bool.true_and]
      show dlp (sdl R d x) x (sdl R d x 0 0 0) q j = _
      unfold dlp
      rw [sdl_c R d (show 0 ≠ 16 by decide), io, sdl_c R d (show 13 ≠ 16 by decide), ih]
      by_cases u : (inO R q (R 0 0 0) && tb (R 13 q 0) x) = true ∧ j < 4
      · rw [if_pos u]
        rw [Bool.and_eq_true] at u
        rw [if_pos ⟨by rw [u.1.1, u.1.2, Bool.or_true]; rfl, u.2⟩]
      · rw [if_neg u]
        by_cases v : (inO R q (R 0 0 0) && lsq L (R 13 q 0) x) = true ∧ j < 4
        · rw [if_pos v]
          rw [Bool.and_eq_true] at v
          rw [if_pos ⟨by rw [v.1.1, v.1.2, Bool.true_or]; rfl, v.2⟩]
        · rw [if_neg v, if_neg]
          intro y
          rw [Bool.and_eq_true, Bool.or_eq_true] at y
          rcases y.1.2 with y2 | y2
          · exact v ⟨by rw [y.1.1, y2]; rfl, y.2⟩
          · exact u ⟨by rw [y.1.1, y2]; rfl, y.2⟩
    · rw [if_neg w, Bool.eq_false_iff.mpr w, Bool.false_and, Bool.or_false]
      exact ih
theorem psR_7 (P R : fR) : ∀ k, psR P R k 7 = nr P R 7
  | 0 => rfl
  | k + 1 => by
    show snd (psR P R k) 7 = _
    unfold snd
    rw [sdl_c _ _ (by decide)]
    show psR P R k 7 = _
    exact psR_7 P R k

theorem tb_bit (a f : Nat) : tb a f = a.testBit f := by
  rw [tb_2, Nat.testBit_eq_decide_div_mod_eq]
theorem tb_or (a b f : Nat) : tb (a ||| b) f = (tb a f || tb b f) := by rw [tb_bit, tb_bit, tb_bit, Nat.testBit_or]
theorem tb_pow (k f : Nat) : tb (2 ^ k) f = decide (k = f) := by rw [tb_bit, Nat.testBit_two_pow]
theorem cdL_tb (M : fR) : ∀ k f, tb (cdL M k) f = (decide (f < k) && mayL M f)
  | 0, f => by
    rw [decide_eq_false (Nat.not_lt_zero f), Bool.false_and]
    show tb 0 f = false
    rw [tb_bit, Nat.zero_testBit]
  | k + 1, f => by
    show tb (cdL M k ||| (if mayL M k = true then 2 ^ k else 0)) f = _
    rw [tb_or, cdL_tb M k f]
    by_cases z : f = k
    · subst z
      rw [decide_eq_false (Nat.lt_irrefl f), decide_eq_true (Nat.lt_succ_self f), Bool.false_and, Bool.false_or, Bool.true_and]
      by_cases w : mayL M f = true
      · rw [if_pos w, w, tb_pow, decide_eq_true rfl]
      · rw [if_neg w, Bool.eq_false_iff.mpr w, tb_bit, Nat.zero_testBit]
    · have e : tb (if mayL M k = true then 2 ^ k else 0) f = false := by
        split
        · rw [tb_pow, decide_eq_false (fun u => z u.symm)]
        · rw [tb_bit, Nat.zero_testBit]
      rw [e, Bool.or_false]
      by_cases w : f < k
      · rw [decide_eq_true w, decide_eq_true (show f < k + 1 by omega)]
      · rw [decide_eq_false w, decide_eq_false (show ¬ f < k + 1 by omega)]
theorem cdL_lt (M : fR) : ∀ k, k ≤ 8 → cdL M k < 2 ^ 8
  | 0, _ => by show 0 < 2 ^ 8; decide
  | k + 1, hk => by
    refine Nat.or_lt_two_pow (cdL_lt M k (by omega)) ?_
    split
    · exact Nat.pow_lt_pow_right (by decide) (by omega)
    · decide
section RGT
variable {n : Nat} {P R M : fR}
theorem inO_pg (h : RZ n P R M) {i : Nat} (hi : i < R 0 0 0) : ∀ k, i < k → inO R (pg R i) k = true
  | 0, hk => absurd hk (Nat.not_lt_zero i)
  | k + 1, hk => by
    show (inO R (pg R i) k || decide (R 6 k 0 = pg R i + 1)) = true
    by_cases z : i = k
    · subst z
      obtain ⟨q, w1, -⟩ := (rl_xi h).2.1 i hi
      rw [decide_eq_true (by unfold pg; omega), Bool.or_true]
    · rw [inO_pg h hi k (by omega), Bool.true_or]
theorem dpO_lsq (h : RZ n P R M) (cd : Nat) {i : Nat} (hi : i < R 0 0 0) : ∀ f, f ≤ 8 → dpO M cd i f = lsq (fun f => tb cd f && !us R f) (R 13 (pg R i) 0) f
  | 0, _ => rfl
  | f + 1, hf => by
    show (dpO M cd i f || (decide (M 1 i 0 / 2 ^ f &&& 1 = 1) && (decide (cd / 2 ^ f &&& 1 = 1) && !mayL M f))) = (lsq (fun f => tb cd f && !us R f) (R 13 (pg R i) 0) f || ((tb cd f && !us R f) && tb (R 13 (pg R i) 0) f))
    rw [dpO_lsq h cd hi f (by omega), b_2, b_2, us_may (rl_g h) (by omega), (rl_p h).2 i hi, pk_13 (rl_xi h) _ (by omega), Bool.and_comm (tb (R 13 (pg R i) 0) f)]
/-- the fonts lost: proofs of their pages are none, on both sides -/
theorem RZ_drop (h : RZ n P R M) (cd : Nat) {R2 : fR} (hR : ∀ k, k ≠ 16 → R2 k = R k) (hG : ∀ q j, R2 16 q j = if (inO R q (R 0 0 0) && lsq (fun f => tb cd f && !us R f) (R 13 q 0) 8) = true ∧ j < 4 then 0 else R 16 q j) : RZ n P R2 (dpW M cd (M 4 0 0)) := by
  have e0 := rl_0 h
  have hd := fun i hi => dpO_lsq h cd (i := i) hi 8 (Nat.le_refl _)
  have hin := fun i hi => inO_pg h (i := i) hi (R 0 0 0) hi
  obtain ⟨⟨a, fp, b, lm⟩, ⟨g1, g2, g3, g4⟩, hG', hP, hQ, hC, hinj, h17, hb⟩ := h
  have x8 := b.2.2.2.2.2.2.2.1
  have hX : XI R2 := by
    obtain ⟨x1, x2, x3, x4, x5, x6, x7, x8, x9, x10, x11, x12, x13, x14, x15⟩ := b
    unfold XI
    rw [hR 0 (by decide), hR 6 (by decide), hR 20 (by decide), hR 1 (by decide), hR 2 (by decide), hR 11 (by decide), hR 12 (by decide), hR 13 (by decide), hR 14 (by decide), hR 15 (by decide), hR 3 (by decide), hR 17 (by decide), hR 18 (by decide), hR 4 (by decide), hR 5 (by decide), hR 9 (by decide), hR 19 (by decide)]
    exact ⟨x1, x2, x3, x4, x5, x6, x7, fun q j => by rw [hG]; split <;> first | decide | exact x8 q j, x9, x10, x11, x12, x13, x14, x15⟩
  have hL1 : LI (dpW M cd (M 4 0 0)) := LI_2 lm (dpQ_lt lm.2.1 cd _ _)
  have hpg : ∀ i, pg R2 i = pg R i := fun i => by unfold pg; rw [hR 6 (by decide)]
  have hpk : ∀ x, pkd R2 x = pkd R x := fun x => by unfold pkd; rw [hR 13 (by decide), hR 14 (by decide), hR 15 (by decide)]
  have hC2 : RC R2 := fun q c hc hne => by
    rw [hR 14 (by decide)]
    rw [hG] at hne
    split at hne
    · exact absurd rfl hne
    · exact hC q c hc hne
  have hG2 : RG R2 (dpW M cd (M 4 0 0)) := RG_of hG' (hR 2 (by decide)) (hR 10 (by decide)) (hR 11 (by decide)) (hR 12 (by decide)) (fun _ => rfl) rfl
  unfold RZ RP RQ
  rw [hR 0 (by decide), hR 1 (by decide), hR 2 (by decide), hR 4 (by decide), hR 5 (by decide), hR 6 (by decide), hR 8 (by decide), hR 15 (by decide), hR 17 (by decide)]
  refine ⟨⟨a, fp, hX, hL1⟩, ⟨g1, g2, g3, g4⟩, hG2, ⟨hP.1, fun i hi => by rw [hpg, hpk]; exact hP.2 i hi⟩, fun i hi => ?_, hC2, hinj, h17, hb⟩
  rw [hpg]
  show dpQ M cd (M 4 0 0) 0 i 0 = _
  unfold dpQ
  rw [← e0, hd i hi]
  have hj : ∀ c, c < 4 → R2 16 (pg R i) c = if lsq (fun f => tb cd f && !us R f) (R 13 (pg R i) 0) 8 = true then 0 else R 16 (pg R i) c := fun c hc => by
    rw [hG, hin i hi, Bool.true_and]
    by_cases z : lsq (fun f => tb cd f && !us R f) (R 13 (pg R i) 0) 8 = true
    · rw [if_pos ⟨z, hc⟩, if_pos z]
    · rw [if_neg (fun u => z u.1), if_neg z]
  have hq := hQ i hi
  unfold qkd at hq ⊢
  rw [hj 0 (by decide), hj 1 (by decide), hj 2 (by decide), hj 3 (by decide)]
  by_cases z : lsq (fun f => tb cd f && !us R f) (R 13 (pg R i) 0) 8 = true
  · rw [if_pos (Or.inl ⟨hi, z⟩), if_pos z, if_pos z, if_pos z, if_pos z]
  · rw [if_neg (by rintro (u | u); exact z u.2; exact absurd u.1 (by omega)), if_neg z, if_neg z, if_neg z, if_neg z]
    exact hq
/-- a right is given or taken -/
theorem RZ_right (h : RZ n P R M) {f a' b' : Nat} {R1 M1 : fR} (hf : f < 8) (hR : ∀ k, k ≠ 7 → k ≠ 10 → k ≠ 11 → k ≠ 12 → R1 k = R k) (hX : XI R1)
    (h10 : ∀ g, g ≠ f → R1 10 g 0 = R 10 g 0 ∧ R1 11 g 0 = R 11 g 0 ∧ R1 12 g 0 = R 12 g 0) (hM : ∀ k, k ≠ 3 → M1 k = M k) (hM3 : ∀ g, g ≠ f → g ≠ 8 + f → M1 3 g 0 = M 3 g 0) (hMf : M1 3 f 0 = a') (hM8 : M1 3 (8 + f) 0 = b') (ha : a' ≤ 20000) (hb : b' ≤ 20000) (hv : if zB (R1 10 f 0) = true then a' = R1 11 f 0 + 1 ∧ b' = R1 12 f 0 else a' = 0) : RZ n P R1 M1 := by
  obtain ⟨⟨a, fp, b, lm⟩, ⟨g1, g2, g3, g4⟩, hG', hP, hQ, hC, hinj, h17, hb'⟩ := h
  have c := fun k (h7 : k ≠ 7) (h10 : k ≠ 10) (h11 : k ≠ 11) (h12 : k ≠ 12) => hR k h7 h10 h11 h12
  have hL1 : LI M1 := by
    obtain ⟨a1, a2, a3, a4⟩ := lm
    unfold LI
    rw [hM 1 (by decide), hM 2 (by decide), hM 4 (by decide)]
    refine ⟨a1, a2, fun i => ?_, a4⟩
    by_cases z : i = f
    · rw [z, hMf]; exact ha
    · by_cases w : i = 8 + f
      · rw [w, hM8]; exact hb
      · rw [hM3 i z w]; exact a3 i
  have hG2 : RG R1 M1 := by
    unfold RG
    rw [hR 2 (by decide) (by decide) (by decide) (by decide), hM 4 (by decide)]
    refine ⟨hG'.1, fun g hg => ?_⟩
    by_cases z : g = f
    · subst z
      rw [hMf, hM8]; exact hv
    · obtain ⟨q1, q2, q3⟩ := h10 g z
      rw [q1, q2, q3, hM3 g z (by omega), hM3 (8 + g) (by omega) (by omega)]
      exact hG'.2 g hg
  have hpg : ∀ i, pg R1 i = pg R i := fun i => by unfold pg; rw [hR 6 (by decide) (by decide) (by decide) (by decide)]
  have hpk : ∀ x, pkd R1 x = pkd R x := fun x => by unfold pkd; rw [hR 13 (by decide) (by decide) (by decide) (by decide), hR 14 (by decide) (by decide) (by decide) (by decide), hR 15 (by decide) (by decide) (by decide) (by decide)]
  have hqk : ∀ x, qkd R1 x = qkd R x := fun x => by unfold qkd; rw [hR 16 (by decide) (by decide) (by decide) (by decide)]
  have hC2 : RC R1 := fun q c hc hne => by
    rw [hR 14 (by decide) (by decide) (by decide) (by decide)]
    rw [hR 16 (by decide) (by decide) (by decide) (by decide)] at hne
    exact hC q c hc hne
  unfold RZ RP RQ
  rw [hR 0 (by decide) (by decide) (by decide) (by decide), hR 1 (by decide) (by decide) (by decide) (by decide), hR 2 (by decide) (by decide) (by decide) (by decide), hR 4 (by decide) (by decide) (by decide) (by decide), hR 5 (by decide) (by decide) (by decide) (by decide), hR 6 (by decide) (by decide) (by decide) (by decide), hR 8 (by decide) (by decide) (by decide) (by decide), hR 15 (by decide) (by decide) (by decide) (by decide), hR 17 (by decide) (by decide) (by decide) (by decide), hM 4 (by decide), hM 1 (by decide), hM 2 (by decide)]
  exact ⟨⟨a, fp, hX, hL1⟩, ⟨g1, g2, g3, g4⟩, hG2, ⟨hP.1, fun i hi => by rw [hpg, hpk]; exact hP.2 i hi⟩, fun i hi => by rw [hpg, hqk]; exact hQ i hi, hC2, hinj, h17, hb'⟩
/-- a day more -/
theorem RZ_day (h : RZ n P R M) (h4 : R 2 0 0 + 1 ≤ 4 * n) (hn : n ≤ 151) : RZ n P (rs R 2 (k0 (R 2 0 0 + 1))) (rs M 4 (u1 (M 4) 2 (M 4 2 0 + 1))) := by
  obtain ⟨⟨a, fp, b, lm⟩, ⟨g1, g2, g3, g4⟩, hG', hP, hQ, hC, hinj, h17, ⟨b1, b2, b3, b4⟩⟩ := h
  have e2 := hG'.1
  refine ⟨⟨a, fp, XI_2 b (by omega), ?_⟩, ⟨g1, g2, g3, g4⟩, ⟨?_, hG'.2⟩, hP, hQ, hC, hinj, h17, h4, b2, b3, b4⟩
  · obtain ⟨a1, a2, a3, a40, a41, a42, a43, a44, a45⟩ := lm
    refine ⟨a1, a2, a3, a40, a41, ?_, a43, a44, a45⟩
    show M 4 2 0 + 1 ≤ 9000
    omega
  · show R 2 0 0 + 1 = M 4 2 0 + 1
    omega
theorem RZ_7 (h : RZ n P R M) (g : Nat → Nat → Nat) : RZ n P (rs R 7 g) M := h
/-- one day of the class's is one of the law's -/
theorem RZ_snd (h : RZ n P R M) (h4 : R 2 0 0 + 1 ≤ 4 * n) (hn : n ≤ 151) : RZ n P (snd R) (dpW (rs M 4 (u1 (M 4) 2 (M 4 2 0 + 1))) (cdL M 8) (M 4 0 0)) := by
  have h1 := RZ_day h h4 hn
  have hcd : ∀ f, f < 8 → (tb (cdL M 8) f && !us (rs R 2 (k0 (R 2 0 0 + 1))) f) = (fal (rs R 2 (k0 (R 2 0 0 + 1))) f (R 2 0 0) && !us (rs R 2 (k0 (R 2 0 0 + 1))) f) := fun f hf => by
    rw [cdL_tb, decide_eq_true hf, Bool.true_and, us_may (rl_g h) hf]; rfl
  refine RZ_drop h1 (cdL M 8) (fun k hk => ?_) (fun q j => ?_)
  · unfold snd
    exact sdl_c _ _ hk _
  · exact sdl_v (rs R 2 (k0 (R 2 0 0 + 1))) (R 2 0 0) hcd 8 (Nat.le_refl _) q j
/-- what setRight and withdraw drop -/
theorem dlf_G {R R1 : fR} {f cd : Nat} (hf : f < 8) (hcd : ∀ g, g < 8 → tb cd g = us R g) (ho : ∀ g, g < 8 → g ≠ f → us R1 g = us R g) (q j : Nat) : dlf R1 f (us R f) 16 q j = if (inO R1 q (R1 0 0 0) && lsq (fun f => tb cd f && !us R1 f) (R1 13 q 0) 8) = true ∧ j < 4 then 0 else R1 16 q j := by
  have e := lsq_one (L := fun f => tb cd f && !us R1 f) (f := f) (R1 13 q 0) (fun g hg hne => by show (tb cd g && !us R1 g) = false; rw [hcd g hg, ho g hg hne]; cases us R g <;> rfl) 8 (Nat.le_refl _)
  rw [e, decide_eq_true hf, Bool.true_and, hcd f hf]
  unfold dlf
  by_cases z : (us R f && !us R1 f) = true
  · rw [if_pos z, z, Bool.true_and]; rfl
  · rw [if_neg z, Bool.eq_false_iff.mpr z, Bool.false_and, Bool.and_false, if_neg (fun u => absurd u.1 (by decide))]
theorem dlf_ne (R1 : fR) (f : Nat) (c : Bool) {k : Nat} (hk : k ≠ 16) : dlf R1 f c k = R1 k := by
  unfold dlf; split
  · rw [rs_ne _ _ hk]
  · rfl
end RGT
