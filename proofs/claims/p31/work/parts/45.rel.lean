/-! ===== the law's own numbers, and how they agree with the class's ===== -/
def pg (R : fR) (i : Nat) : Nat := R 6 i 0 - 1
def pkd (R : fR) (x : Nat) : Nat := R 13 x 0 + 256 * R 14 x 0 + 4096 * R 15 x 0
def qkd (R : fR) (x : Nat) : Nat := R 16 x 0 + 4 * R 16 x 1 + 16 * R 16 x 2 + 64 * R 16 x 3
/-- bounds of what the law keeps -/
def LI (M : fR) : Prop := (∀ i, M 1 i 0 < 1048576) ∧ (∀ i, M 2 i 0 < 256) ∧ (∀ i, M 3 i 0 ≤ 20000) ∧ M 4 0 0 ≤ 24 ∧ M 4 1 0 ≤ 1000 ∧ M 4 2 0 ≤ 9000 ∧ (2 ≤ M 4 3 0 ∧ M 4 3 0 ≤ 16) ∧ M 4 4 0 ≤ 100000 ∧ M 4 5 0 ≤ 100000
def mayL (M : fR) (f : Nat) : Bool := decide (0 < M 3 f 0) && (decide (M 3 f 0 - 1 ≤ M 4 2 0) && decide (M 4 2 0 ≤ M 3 (8 + f) 0))
def afL (M : fR) (pl : Nat) : Nat → Bool
  | 0 => true
  | k + 1 => afL M pl k && (decide (M 1 pl 0 / 2 ^ k &&& 1 = 0) || mayL M k)
def fnL (M : fR) (pl : Nat) : Nat → Bool
  | 0 => afL M pl 8
  | c + 1 => fnL M pl c && (decide (M 1 pl 0 / 2 ^ (8 + c) &&& 1 = 0) || decide (M 2 pl 0 / 2 ^ (2 * c) &&& 3 = 2))
def shL (M : fR) : Nat := (M 4 0 0 + 2 * M 4 3 0 - 1) / (2 * M 4 3 0)
def rdL (M : fR) : Nat → Nat
  | 0 => 2 ^ shL M - 1
  | k + 1 => rdL M k &&& (if fnL M k 4 = true then 4294967295 else 2 ^ (k / (2 * M 4 3 0)) ^^^ 4294967295)
def cntS (s : Nat) : Nat → Nat
  | 0 => 0
  | k + 1 => cntS s k + (s / 2 ^ k &&& 1)
def cdL (M : fR) : Nat → Nat
  | 0 => 0
  | f + 1 => cdL M f ||| (if mayL M f = true then 2 ^ f else 0)
def dpO (M : fR) (cd i : Nat) : Nat → Bool
  | 0 => false
  | f + 1 => dpO M cd i f || (decide (M 1 i 0 / 2 ^ f &&& 1 = 1) && (decide (cd / 2 ^ f &&& 1 = 1) && !mayL M f))
def dpQ (M : fR) (cd i f : Nat) : Nat → Nat → Nat := fun i' j => if (i' < i ∧ dpO M cd i' 8 = true) ∨ (i' = i ∧ dpO M cd i f = true) then 0 else M 2 i' j
def dpW (M : fR) (cd n : Nat) : fR := rs M 2 (dpQ M cd n 0)
/-- the day and the rights -/
def RG (R M : fR) : Prop := R 2 0 0 = M 4 2 0 ∧ ∀ f, f < 8 → if zB (R 10 f 0) = true then M 3 f 0 = R 11 f 0 + 1 ∧ M 3 (8 + f) 0 = R 12 f 0 else M 3 f 0 = 0
/-- the pages -/
def RP (R M : fR) : Prop := R 0 0 0 = M 4 0 0 ∧ ∀ i, i < R 0 0 0 → M 1 i 0 = pkd R (pg R i)
/-- the proofs -/
def RQ (R M : fR) : Prop := ∀ i, i < R 0 0 0 → M 2 i 0 = qkd R (pg R i)
/-- proofs are of colours that the page uses -/
def RC (R : fR) : Prop := ∀ q c, c < 4 → R 16 q c ≠ 0 → tb (R 14 q 0) c = true
theorem tb_2 (a c : Nat) : tb a c = decide (a / 2 ^ c % 2 = 1) := by
  unfold tb
  rw [Nat.and_one_is_mod, Bool.eq_iff_iff, bne_iff_ne, decide_eq_true_iff]
  omega
theorem b_2 (a c : Nat) : decide (a / 2 ^ c &&& 1 = 1) = tb a c := by rw [tb_2, Nat.and_one_is_mod]
theorem b_20 (a c : Nat) : decide (a / 2 ^ c &&& 1 = 0) = !tb a c := by
  rw [tb_2, Nat.and_one_is_mod, Bool.eq_iff_iff, Bool.not_eq_true', decide_eq_true_iff, decide_eq_false_iff_not]
  omega
theorem and3 (a : Nat) : a &&& 3 = a % 4 := Nat.and_two_pow_sub_one_eq_mod a 2
section REL0
variable {R M : fR}
theorem us_may (h : RG R M) {f : Nat} (hf : f < 8) : mayL M f = us R f := by
  have h1 := h.2 f hf
  unfold us fal mayL
  rw [h.1]
  by_cases hz : zB (R 10 f 0) = true
  · rw [if_pos hz] at h1
    rw [hz, h1.1, h1.2, decide_eq_true (by omega : 0 < R 11 f 0 + 1), Nat.add_sub_cancel]
  · rw [if_neg hz] at h1
    rw [h1, Bool.eq_false_iff.mpr hz]; rfl
theorem pk_13 (hX : XI R) (x : Nat) {k : Nat} (hk : k < 8) : tb (pkd R x) k = tb (R 13 x 0) k := by
  have h1 := (hX.2.2.2.2.2.2.1 x).1
  rw [tb_2, tb_2, Bool.eq_iff_iff, decide_eq_true_iff, decide_eq_true_iff]
  unfold pkd
  match k, hk with
  | 0, _ => omega
  | 1, _ => omega
  | 2, _ => omega
  | 3, _ => omega
  | 4, _ => omega
  | 5, _ => omega
  | 6, _ => omega
  | 7, _ => omega
theorem pk_14 (hX : XI R) (x : Nat) {c : Nat} (hc : c < 4) : tb (pkd R x) (8 + c) = tb (R 14 x 0) c := by
  have h1 := (hX.2.2.2.2.2.2.1 x).1
  have h2 := (hX.2.2.2.2.2.2.1 x).2.1
  rw [tb_2, tb_2, Bool.eq_iff_iff, decide_eq_true_iff, decide_eq_true_iff]
  unfold pkd
  match c, hc with
  | 0, _ => omega
  | 1, _ => omega
  | 2, _ => omega
  | 3, _ => omega
theorem pk_15 (hX : XI R) (x : Nat) : pkd R x / 4096 = R 15 x 0 := by
  have h1 := (hX.2.2.2.2.2.2.1 x).1
  have h2 := (hX.2.2.2.2.2.2.1 x).2.1
  unfold pkd
  omega
theorem qk_16 (hX : XI R) (x : Nat) {c : Nat} (hc : c < 4) : qkd R x / 2 ^ (2 * c) &&& 3 = R 16 x c := by
  have h0 := hX.2.2.2.2.2.2.2.1 x 0
  have h1 := hX.2.2.2.2.2.2.2.1 x 1
  have h2 := hX.2.2.2.2.2.2.2.1 x 2
  have h3 := hX.2.2.2.2.2.2.2.1 x 3
  rw [and3]
  unfold qkd
  match c, hc with
  | 0, _ => omega
  | 1, _ => omega
  | 2, _ => omega
  | 3, _ => omega
theorem af_may (hX : XI R) (hG : RG R M) {pl x : Nat} (hp : M 1 pl 0 = pkd R x) : ∀ k, k ≤ 8 → afL M pl k = afu R x k
  | 0, _ => rfl
  | k + 1, hk => by
    show (afL M pl k && (decide (M 1 pl 0 / 2 ^ k &&& 1 = 0) || mayL M k)) = (afu R x k && (!tb (R 13 x 0) k || us R k))
    rw [af_may hX hG hp k (by omega), b_20, hp, pk_13 hX x (by omega), us_may hG (by omega)]
theorem fin_4 (hC : RC R) (x : Nat) : fin R x = ((((afu R x 8 && (!tb (R 14 x 0) 0 || decide (R 16 x 0 = 2))) && (!tb (R 14 x 0) 1 || decide (R 16 x 1 = 2))) && (!tb (R 14 x 0) 2 || decide (R 16 x 2 = 2))) && (!tb (R 14 x 0) 3 || decide (R 16 x 3 = 2))) := by
  have ec : cnt (R 16 x) 2 4 = (((0 + (if R 16 x 0 = 2 then 1 else 0)) + (if R 16 x 1 = 2 then 1 else 0)) + (if R 16 x 2 = 2 then 1 else 0)) + (if R 16 x 3 = 2 then 1 else 0) := rfl
  unfold fin
  rw [ec]
  have g0 := hC x 0 (by decide)
  have g1 := hC x 1 (by decide)
  have g2 := hC x 2 (by decide)
  have g3 := hC x 3 (by decide)
  unfold pop4
  rw [tb_2, decide_eq_true_iff] at g0 g1 g2 g3
  rw [tb_2, tb_2, tb_2, tb_2]
  rw [show (2 : Nat) ^ 0 = 1 from rfl, Nat.div_one] at g0 ⊢
  rw [show (2 : Nat) ^ 1 = 2 from rfl] at g1 ⊢
  rw [show (2 : Nat) ^ 2 = 4 from rfl] at g2 ⊢
  rw [show (2 : Nat) ^ 3 = 8 from rfl] at g3 ⊢
  generalize afu R x 8 = z
  generalize R 14 x 0 = a at *
  generalize R 16 x 0 = p0 at *
  generalize R 16 x 1 = p1 at *
  generalize R 16 x 2 = p2 at *
  generalize R 16 x 3 = p3 at *
  cases z
  · simp
  · rw [Bool.and_true, Bool.true_and, Bool.eq_iff_iff]
    simp only [Bool.and_eq_true, Bool.or_eq_true, Bool.not_eq_true', decide_eq_true_iff, decide_eq_false_iff_not]
    constructor
    · intro hh
      split at hh <;> split at hh <;> split at hh <;> split at hh <;> refine ⟨⟨⟨?_, ?_⟩, ?_⟩, ?_⟩ <;> omega
    · intro hh
      split <;> split <;> split <;> split <;> omega
theorem fn_fin (hX : XI R) (hC : RC R) (hG : RG R M) {pl x : Nat} (hp : M 1 pl 0 = pkd R x) (hq : M 2 pl 0 = qkd R x) : fnL M pl 4 = fin R x := by
  have e : fnL M pl 4 = ((((afL M pl 8 && (decide (M 1 pl 0 / 2 ^ (8 + 0) &&& 1 = 0) || decide (M 2 pl 0 / 2 ^ (2 * 0) &&& 3 = 2))) && (decide (M 1 pl 0 / 2 ^ (8 + 1) &&& 1 = 0) || decide (M 2 pl 0 / 2 ^ (2 * 1) &&& 3 = 2))) && (decide (M 1 pl 0 / 2 ^ (8 + 2) &&& 1 = 0) || decide (M 2 pl 0 / 2 ^ (2 * 2) &&& 3 = 2))) && (decide (M 1 pl 0 / 2 ^ (8 + 3) &&& 1 = 0) || decide (M 2 pl 0 / 2 ^ (2 * 3) &&& 3 = 2))) := rfl
  rw [e, fin_4 hC, af_may hX hG hp 8 (Nat.le_refl _), b_20, b_20, b_20, b_20, hp, hq, pk_14 hX x (by decide), pk_14 hX x (by decide), pk_14 hX x (by decide), pk_14 hX x (by decide), qk_16 hX x (by decide), qk_16 hX x (by decide), qk_16 hX x (by decide), qk_16 hX x (by decide)]
/-! the ready sheets, as a set of six bits -/
theorem clr_ok : ∀ a, a < 64 → ∀ j, j < 6 → (a &&& (2 ^ j ^^^ 4294967295)) < 64 ∧ ∀ s, s < 6 → tb (a &&& (2 ^ j ^^^ 4294967295)) s = (tb a s && decide (s ≠ j)) := by decide +kernel
theorem all_ok : ∀ a, a < 64 → (a &&& 4294967295) = a := by decide +kernel
theorem full_ok : ∀ sh, sh < 7 → 2 ^ sh - 1 < 64 ∧ ∀ s, s < 6 → tb (2 ^ sh - 1) s = decide (s < sh) := by decide +kernel
theorem andn_ok : ∀ a, a < 64 → ∀ b, b < 64 → (a &&& (b ^^^ 4294967295)) < 64 ∧ ∀ s, s < 6 → tb (a &&& (b ^^^ 4294967295)) s = (tb a s && !tb b s) := by decide +kernel
theorem cntS_ok : ∀ a, a < 64 → cntS a 16 = (tb a 0).toNat + (tb a 1).toNat + (tb a 2).toNat + (tb a 3).toNat + (tb a 4).toNat + (tb a 5).toNat := by decide +kernel
theorem shL_6 (hL : LI M) : shL M ≤ 6 := by
  obtain ⟨-, -, -, h4, -, -, h43, -⟩ := hL
  unfold shL
  rw [Nat.div_le_iff_le_mul (by omega)]
  omega
/-- all places from a on, d of them, are finished -/
def alL (M : fR) (a : Nat) : Nat → Bool
  | 0 => true
  | d + 1 => alL M a d && fnL M (a + d) 4
theorem rdL_bits (hL : LI M) : ∀ k, k ≤ M 4 0 0 → rdL M k < 64 ∧ ∀ s, s < 6 → tb (rdL M k) s = (decide (s < shL M) && alL M (s * (2 * M 4 3 0)) (min (2 * M 4 3 0) (k - s * (2 * M 4 3 0))))
  | 0, _ => by
    obtain ⟨h1, h2⟩ := full_ok (shL M) (by have := shL_6 hL; omega)
    refine ⟨h1, fun s hs => ?_⟩
    rw [Nat.zero_sub, Nat.min_zero]
    show tb (2 ^ shL M - 1) s = (_ && true)
    rw [h2 s hs, Bool.and_true]
  | k + 1, hk => by
    obtain ⟨h1, h2⟩ := rdL_bits hL k (by omega)
    have hL' := hL
    obtain ⟨-, -, -, h4, -, -, h43, -⟩ := hL'
    generalize hw : 2 * M 4 3 0 = w at *
    have hw4 : 4 ≤ w ∧ w ≤ 32 := by omega
    have e : rdL M (k + 1) = rdL M k &&& (if fnL M k 4 = true then 4294967295 else 2 ^ (k / w) ^^^ 4294967295) := by rw [← hw]; rfl
    have hkw : k / w < 6 := by rw [Nat.div_lt_iff_lt_mul (by omega)]; omega
    have hdm := Nat.div_add_mod k w
    have hmod := Nat.mod_lt k (show 0 < w by omega)
    -- the place k is the last of its sheet's so far
    have key : ∀ s, alL M (s * w) (min w (k + 1 - s * w)) = (alL M (s * w) (min w (k - s * w)) && (decide (s ≠ k / w) || fnL M k 4)) := by
      intro s
      by_cases z : s = k / w
      · subst z
        have a1 : k / w * w = k - k % w := by rw [Nat.mul_comm]; omega
        have a2 : min w (k - k / w * w) = k % w := by omega
        have a3 : min w (k + 1 - k / w * w) = k % w + 1 := by omega
        rw [a2, a3]
        show (alL M (k / w * w) (k % w) && fnL M (k / w * w + k % w) 4) = _
        rw [show k / w * w + k % w = k by omega, decide_eq_false (fun z => z rfl), Bool.false_or]
      · have a4 : min w (k + 1 - s * w) = min w (k - s * w) := by
          rcases Nat.lt_or_ge s (k / w) with q | q
          · have : (s + 1) * w ≤ k / w * w := Nat.mul_le_mul_right w q
            rw [Nat.succ_mul, Nat.mul_comm (k / w)] at this
            omega
          · have : (k / w + 1) * w ≤ s * w := Nat.mul_le_mul_right w (by omega)
            rw [Nat.succ_mul, Nat.mul_comm (k / w)] at this
            omega
        rw [a4, decide_eq_true z, Bool.true_or, Bool.and_true]
    rw [e]
    by_cases q : fnL M k 4 = true
    · rw [if_pos q, all_ok _ h1]
      refine ⟨h1, fun s hs => ?_⟩
      rw [h2 s hs, key s, q, Bool.or_true, Bool.and_true]
    · rw [if_neg q]
      obtain ⟨c1, c2⟩ := clr_ok _ h1 _ hkw
      refine ⟨c1, fun s hs => ?_⟩
      rw [c2 s hs, h2 s hs, key s, Bool.eq_false_iff.mpr q, Bool.or_false, Bool.and_assoc]
end REL0
