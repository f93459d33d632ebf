/-! ===== proofs: the law's changes and the class's ===== -/
def dg (a c : Nat) : Nat := a / 2 ^ (2 * c) &&& 3
def ACT0 (Γ : fG) (ad : Nat → Nat → Nat) (n m : Nat) (w9 : fV) : Prop := ∃ (ad' : Nat → Nat → Nat) (P' R' M' : fR), (RZ n P' R' M' ∧ R' 0 0 0 = m) ∧ ad' 1 0 = ad 1 0 ∧ (∀ j, ad' 30 j = ad 30 j) ∧ w9 = wj (fw Γ ad' P') (xw Γ ad' R') (mw Γ ad' M')
theorem dg_all {a : Nat} (ha : a < 256) : a = dg a 0 + 4 * dg a 1 + 16 * dg a 2 + 64 * dg a 3 := by
  have e : ∀ c, dg a c = a / 2 ^ (2 * c) % 4 := fun c => and3 _
  rw [e, e, e, e]
  show a = a / 1 % 4 + 4 * (a / 4 % 4) + 16 * (a / 16 % 4) + 64 * (a / 64 % 4)
  omega
/-- a proof is made: its place in the number -/
theorem pv_dg : ∀ q, q < 256 → ∀ c, c < 4 → (q &&& (3 * 2 ^ (2 * c) ^^^ 4294967295) ||| 2 ^ (2 * c)) < 256 ∧ ∀ c', c' < 4 → dg (q &&& (3 * 2 ^ (2 * c) ^^^ 4294967295) ||| 2 ^ (2 * c)) c' = if c' = c then 1 else dg q c' := by decide +kernel
theorem jd_dg : ∀ q, q < 256 → ∀ c, c < 4 → dg q c = 1 → ∀ v, v < 3 → (q + v * 2 ^ (2 * c)) < 256 ∧ ∀ c', c' < 4 → dg (q + v * 2 ^ (2 * c)) c' = if c' = c then 1 + v else dg q c' := by decide +kernel
def smL (q : Nat) : Nat → Nat
  | 0 => 0
  | k + 1 => smL q k + (if dg q k = 1 ∨ dg q k = 2 then 1 else 0)
theorem smL_le (q : Nat) : ∀ k, smL q k ≤ k
  | 0 => Nat.le_refl 0
  | k + 1 => by have := smL_le q k; unfold smL; split <;> omega
theorem pow2c {c : Nat} (hc : c < 4) : 1 ≤ 2 ^ (2 * c) ∧ 2 ^ (2 * c) ≤ 64 := ⟨Nat.one_le_two_pow, Nat.pow_le_pow_right (n := 2) (by decide) (show 2 * c ≤ 6 by omega)⟩
section PRV
variable {n : Nat} {P R M : fR}
theorem rl_dg (h : RZ n P R M) {i c : Nat} (hi : i < R 0 0 0) (hc : c < 4) : dg (M 2 i 0) c = R 16 (pg R i) c := by
  unfold dg
  rw [rl_q h i hi, qk_16 (rl_xi h) _ hc]
theorem rl_tb (h : RZ n P R M) {i c : Nat} (hi : i < R 0 0 0) (hc : c < 4) : tb (M 1 i 0) (8 + c) = tb (R 14 (pg R i) 0) c := by rw [(rl_p h).2 i hi, pk_14 (rl_xi h) _ hc]
theorem RZ_pf (h : RZ n P R M) {i c v w : Nat} (hi : i < R 0 0 0) (hc : c < 4) (hv : v < 4) (ht : v ≠ 0 → tb (R 14 (pg R i) 0) c = true) (hw : w < 256) (hd : ∀ c', c' < 4 → dg w c' = if c' = c then v else dg (M 2 i 0) c') : RZ n P (rs R 16 (u2 (R 16) (pg R i) c v)) (rs M 2 (u1 (M 2) i w)) := by
  have hr := h
  obtain ⟨⟨a, fp, b, lm⟩, ⟨g1, g2, g3, g4⟩, hG, hP, hQ, hC, hinj, h17, hb⟩ := h
  have x8 := b.2.2.2.2.2.2.2.1
  have hX : XI (rs R 16 (u2 (R 16) (pg R i) c v)) := XI_16 b (fun q j => by unfold u2; split; exact hv; exact x8 q j)
  have hL1 : LI (rs M 2 (u1 (M 2) i w)) := LI_2 lm (fun k => by unfold u1; split; exact hw; exact lm.2.1 k)
  refine ⟨⟨a, fp, hX, hL1⟩, ⟨g1, g2, g3, g4⟩, hG, hP, fun k hk => ?_, fun q c' hc' hne => ?_, hinj, h17, hb⟩
  · show u1 (M 2) i w k 0 = qkd (rs R 16 (u2 (R 16) (pg R i) c v)) (pg R k)
    have e : ∀ c', rs R 16 (u2 (R 16) (pg R i) c v) 16 (pg R k) c' = if pg R k = pg R i ∧ c' = c then v else R 16 (pg R k) c' := fun c' => rfl
    unfold u1
    by_cases z : k = i
    · subst z
      rw [if_pos rfl, dg_all hw, hd 0 (by decide), hd 1 (by decide), hd 2 (by decide), hd 3 (by decide), rl_dg hr hi (by decide), rl_dg hr hi (by decide), rl_dg hr hi (by decide), rl_dg hr hi (by decide)]
      unfold qkd
      have e2 : ∀ c', rs R 16 (u2 (R 16) (pg R k) c v) 16 (pg R k) c' = if c' = c then v else R 16 (pg R k) c' := fun c' => by
        rw [e]
        by_cases y : c' = c
        · rw [if_pos ⟨rfl, y⟩, if_pos y]
        · rw [if_neg (fun u => y u.2), if_neg y]
      rw [e2, e2, e2, e2]
    · rw [if_neg z, hQ k hk]
      unfold qkd
      have hne : pg R k ≠ pg R i := fun u => z (pg_inj hr hk hi u)
      rw [e, e, e, e, if_neg (fun u => hne u.1), if_neg (fun u => hne u.1), if_neg (fun u => hne u.1), if_neg (fun u => hne u.1)]
  · have hne2 : (if q = pg R i ∧ c' = c then v else R 16 q c') ≠ 0 := hne
    show tb (R 14 q 0) c' = true
    by_cases z : q = pg R i ∧ c' = c
    · rw [if_pos z] at hne2
      rw [z.1, z.2]; exact ht hne2
    · rw [if_neg z] at hne2
      exact hC q c' hc' hne2
theorem pvC_law (h : RZ n P R M) {i c : Nat} (hi : i < R 0 0 0) (hc : c < 4) : pvC R (pg R i) c = ((tb (M 1 i 0) (8 + c) && (decide (dg (M 2 i 0) c = 0) || decide (dg (M 2 i 0) c = 3))) && afL M i 8) := by
  have h4 := (rl_xi h).2.2.2.2.2.2.2.1 (pg R i) c
  unfold pvC
  rw [rl_tb h hi hc, rl_dg h hi hc, af_may (rl_xi h) (rl_g h) ((rl_p h).2 i hi) 8 (Nat.le_refl _)]
  have e : (!(decide (R 16 (pg R i) c = 1) || decide (R 16 (pg R i) c = 2))) = (decide (R 16 (pg R i) c = 0) || decide (R 16 (pg R i) c = 3)) := by
    rw [Bool.eq_iff_iff]
    simp only [Bool.not_eq_true', Bool.or_eq_true, Bool.or_eq_false_iff, decide_eq_true_iff, decide_eq_false_iff_not]
    omega
  rw [e, Bool.and_assoc, Bool.and_assoc, Bool.and_comm (afu R (pg R i) 8)]
theorem jdC_law (h : RZ n P R M) {i c : Nat} (hi : i < R 0 0 0) (hc : c < 4) : jdC R (pg R i) c = decide (dg (M 2 i 0) c = 1) := by
  unfold jdC
  rw [rl_dg h hi hc]
  by_cases z : R 16 (pg R i) c = 1
  · rw [decide_eq_true z, rl_c h (pg R i) c hc (by omega)]; rfl
  · rw [decide_eq_false z, Bool.and_false]
theorem sm_cnt (h : RZ n P R M) {i : Nat} (hi : i < R 0 0 0) : cnt (R 16 (pg R i)) 1 4 + cnt (R 16 (pg R i)) 2 4 = smL (M 2 i 0) 4 := by
  have s : smL (M 2 i 0) 4 = (((0 + (if dg (M 2 i 0) 0 = 1 ∨ dg (M 2 i 0) 0 = 2 then 1 else 0)) + (if dg (M 2 i 0) 1 = 1 ∨ dg (M 2 i 0) 1 = 2 then 1 else 0)) + (if dg (M 2 i 0) 2 = 1 ∨ dg (M 2 i 0) 2 = 2 then 1 else 0)) + (if dg (M 2 i 0) 3 = 1 ∨ dg (M 2 i 0) 3 = 2 then 1 else 0) := rfl
  have c1 : ∀ x, cnt (R 16 (pg R i)) x 4 = (((0 + (if R 16 (pg R i) 0 = x then 1 else 0)) + (if R 16 (pg R i) 1 = x then 1 else 0)) + (if R 16 (pg R i) 2 = x then 1 else 0)) + (if R 16 (pg R i) 3 = x then 1 else 0) := fun x => rfl
  have k : ∀ a : Nat, (if a = 1 ∨ a = 2 then 1 else 0) = (if a = 1 then 1 else 0) + (if a = 2 then 1 else 0) := fun a => by
    by_cases y1 : a = 1
    · rw [if_pos (Or.inl y1), if_pos y1, if_neg (by omega)]
    · by_cases y2 : a = 2
      · rw [if_pos (Or.inr y2), if_neg y1, if_pos y2]
      · rw [if_neg (by omega), if_neg y1, if_neg y2]
  rw [s, c1, c1, rl_dg h hi (by decide), rl_dg h hi (by decide), rl_dg h hi (by decide), rl_dg h hi (by decide), k, k, k, k]
  omega
end PRV
theorem L_judge_k {l : Launch} (hl : l.stackTraces = false) (Γ : fG) (B0 : Nat) (ad : Nat → Nat → Nat) {P R : fR} (M : fR) (hI : XI R) {i c : Nat} (b : Bool) (hi : i < R 0 0 0) (hc : c < 4) (hj : jdC R (pg R i) c = true) : f_MetW l yL_judge cL_judge 5 (some .int) [(0, 15, 16, 16), (0, 15, 21, 19), (0, 15, 26, 22)] 8 3 18 135 Γ B0 [.ref (ad 1 0), .int (nI i), .int (nI c), .int (bI b)] (wj (fw Γ ad (P)) (xw Γ ad (R)) (mw Γ ad M)) (f_is (bI (fin (jdR R (pg R i) c b) (pg R i))) (wj (fw Γ ad (P)) (xw Γ ad (jdR R (pg R i) c b)) (mw Γ ad M))) :=
  W_is2 (n_judge hl Γ B0 ad R (fw Γ ad P) (mw Γ ad M) _ _ b hI ⟨⟨rg_N hi (by have := hI.1; omega), rg_N hc (by decide)⟩, by have h64 := hI.1; rw [xN_nI (by omega), xN_nI (by omega)]; exact hj⟩) (by have h64 := hI.1; rw [xN_nI (by omega), xN_nI (by omega)]; rfl) (by have h64 := hI.1; rw [xN_nI (by omega), xN_nI (by omega)]; rfl)
theorem L_prove_k {l : Launch} (hl : l.stackTraces = false) (Γ : fG) (B0 : Nat) (ad : Nat → Nat → Nat) {P R : fR} (M : fR) (hI : XI R) {i c : Nat} (hi : i < R 0 0 0) (hc : c < 4) (hj : pvC R (pg R i) c = true) : f_MetW l yL_prove cL_prove 4 (some .int) [(0, 6, 7, 16), (0, 6, 11, 19), (0, 6, 15, 22)] 8 3 18 134 Γ B0 [.ref (ad 1 0), .int (nI i), .int (nI c)] (wj (fw Γ ad (P)) (xw Γ ad (R)) (mw Γ ad M)) (f_is (nI (cnt (pvR R (pg R i) c 16 (pg R i)) 1 4 + cnt (pvR R (pg R i) c 16 (pg R i)) 2 4)) (wj (fw Γ ad (P)) (xw Γ ad (pvR R (pg R i) c)) (mw Γ ad M))) :=
  W_is2 (n_prove hl Γ B0 ad R (fw Γ ad P) (mw Γ ad M) _ _ hI ⟨⟨rg_N hi (by have := hI.1; omega), rg_N hc (by decide)⟩, by have h64 := hI.1; rw [xN_nI (by omega), xN_nI (by omega)]; exact hj⟩) (by have h64 := hI.1; rw [xN_nI (by omega), xN_nI (by omega)]; rfl) (by have h64 := hI.1; rw [xN_nI (by omega), xN_nI (by omega)]; rfl)
theorem xj3 {R : fR} (hI : XI R) {i c : Nat} (hi : i < R 0 0 0) (hc : c < 4) (hj : jdC R (pg R i) c = false) : (rg (nI i) (R 0 0 0) ∧ rg (nI c) 4) ∧ jdC R (R 6 (xN (nI i)) 0 - 1) (xN (nI c)) = false := by
  have h64 := hI.1
  refine ⟨⟨rg_N hi (by omega), rg_N hc (by decide)⟩, ?_⟩
  rw [xN_nI (by omega), xN_nI (by omega)]; exact hj
theorem xp3 {R : fR} (hI : XI R) {i c : Nat} (hi : i < R 0 0 0) (hc : c < 4) (hj : pvC R (pg R i) c = false) : (rg (nI i) (R 0 0 0) ∧ rg (nI c) 4) ∧ pvC R (R 6 (xN (nI i)) 0 - 1) (xN (nI c)) = false := by
  have h64 := hI.1
  refine ⟨⟨rg_N hi (by omega), rg_N hc (by decide)⟩, ?_⟩
  rw [xN_nI (by omega), xN_nI (by omega)]; exact hj
