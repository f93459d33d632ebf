/-! ===== setFolds agrees; the start ===== -/
theorem upF_lt (kd : Nat → Nat) (r0 c0 r c : Nat) : ∀ x, upF kd r0 c0 r c x < 2
  | 0 => by show 0 < 2; decide
  | x + 1 => by have := upF_lt kd r0 c0 r c x; unfold upF; split <;> omega
theorem lyY_o (Q : fR) : ∀ k l, k ≤ l → lyY Q k 17 l 0 = Q 17 l 0 ∧ lyY Q k 18 l 0 = Q 18 l 0 ∧ lyY Q k 19 l 0 = Q 19 l 0
  | 0, l, _ => ⟨rfl, rfl, rfl⟩
  | k + 1, l, h => by
    have ih := lyY_o Q k l (by omega)
    have hl : l ≠ k := by omega
    have f17 : lyY Q (k + 1) 17 l 0 = lyY Q k 17 l 0 := if_neg hl
    have f18 : lyY Q (k + 1) 18 l 0 = lyY Q k 18 l 0 := if_neg hl
    have f19 : lyY Q (k + 1) 19 l 0 = lyY Q k 19 l 0 := if_neg hl
    rw [f17, f18, f19]
    exact ih
theorem lyM_t3 {M : fR} {many folds : Nat} (h1 : 1 ≤ many) (h5 : many < 5) (hfo : folds < 2 ^ (2 * many)) (h17 : ∀ k, M 17 k 0 < 16 ∧ M 18 k 0 < 2 ∧ M 19 k 0 < 2) : ∀ k, lyM M many folds 17 k 0 < 16 ∧ lyM M many folds 18 k 0 < 2 ∧ lyM M many folds 19 k 0 < 2 := by
  intro k
  have hp := pow4 h1 h5
  by_cases z : k < 2 ^ many
  · obtain ⟨a, b, c⟩ := lyM_tab M h5 hfo z
    rw [a, b, c]
    exact ⟨by omega, upF_lt _ _ _ _ _ _, tnF_lt _ _ _ _ _ _⟩
  · obtain ⟨a, b, c⟩ := lyY_o (lyX M many folds many) (2 ^ many) k (by omega)
    have e17 : lyX M many folds many 17 = M 17 := lyX_ne M many folds (by decide) (by decide) (by decide) many
    have e18 : lyX M many folds many 18 = M 18 := lyX_ne M many folds (by decide) (by decide) (by decide) many
    have e19 : lyX M many folds many 19 = M 19 := lyX_ne M many folds (by decide) (by decide) (by decide) many
    unfold lyM
    rw [a, b, c, e17, e18, e19]
    exact h17 k
theorem MI_lyM {M : fR} (h : MI M) {many folds : Nat} (h1 : 1 ≤ many) (h5 : many < 5) (hfo : folds < 2 ^ (2 * many)) : MI (lyM M many folds) := by
  have hlv := lyM_lv M h1 h5 hfo
  obtain ⟨m3, m4, m5, m16⟩ := lyM_345 M many folds
  have o : ∀ k, k ≠ 3 → k ≠ 4 → k ≠ 5 → k ≠ 16 → k ≠ 17 → k ≠ 18 → k ≠ 19 → lyM M many folds k = M k := fun k a b c d e f g => lyM_ne M many folds a b c d e f g
  obtain ⟨x1, x2, x3, x4, x5, x6, x7, x8, x9, x10, x11, x12, x13, x14, x15⟩ := h
  have t3 := lyM_t3 h1 h5 hfo x7
  unfold MI
  rw [o 2 (by decide) (by decide) (by decide) (by decide) (by decide) (by decide) (by decide), o 9 (by decide) (by decide) (by decide) (by decide) (by decide) (by decide) (by decide), o 10 (by decide) (by decide) (by decide) (by decide) (by decide) (by decide) (by decide), o 11 (by decide) (by decide) (by decide) (by decide) (by decide) (by decide) (by decide), o 12 (by decide) (by decide) (by decide) (by decide) (by decide) (by decide) (by decide), o 13 (by decide) (by decide) (by decide) (by decide) (by decide) (by decide) (by decide), o 14 (by decide) (by decide) (by decide) (by decide) (by decide) (by decide) (by decide), o 15 (by decide) (by decide) (by decide) (by decide) (by decide) (by decide) (by decide), o 0 (by decide) (by decide) (by decide) (by decide) (by decide) (by decide) (by decide), o 1 (by decide) (by decide) (by decide) (by decide) (by decide) (by decide) (by decide), o 6 (by decide) (by decide) (by decide) (by decide) (by decide) (by decide) (by decide), o 7 (by decide) (by decide) (by decide) (by decide) (by decide) (by decide) (by decide), o 20 (by decide) (by decide) (by decide) (by decide) (by decide) (by decide) (by decide), o 21 (by decide) (by decide) (by decide) (by decide) (by decide) (by decide) (by decide), o 22 (by decide) (by decide) (by decide) (by decide) (by decide) (by decide) (by decide), o 23 (by decide) (by decide) (by decide) (by decide) (by decide) (by decide) (by decide), m3]
  refine ⟨x1, by omega, x3, x4, x5, x6, t3, x8, x9, x10, x11, x12, x13, by omega, fun k => ?_⟩
  rw [m16]
  split
  · exact kq_lt _ _
  · exact x15 k
theorem FJ_any {P : fR} {many folds : Nat} (h1 : 1 ≤ many) (h5 : many < 5) (hfo : folds < 2 ^ (2 * many)) (hF : FI (fbZ P many folds)) : FJ (fbZ P many folds) := by
  refine ⟨hF, ?_⟩
  obtain ⟨e0, e2, e3, hk⟩ := fbZ_0 P many folds
  rw [e0, e2, e3]
  intro x hx
  have a1 := rlF_congr hk (rowU (kq folds) many) x (by omega)
  have a2 := rlF_congr hk (rowU (kq folds) many) (x + 1) (by omega)
  have a3 := rlF_congr hk (colU (kq folds) many) x (by omega)
  have a4 := rlF_congr hk (colU (kq folds) many) (x + 1) (by omega)
  have h := hvB_all many h5 folds hfo x hx
  rw [a1.1, a2.1, a3.2, a4.2, hk x hx]
  unfold hvB at h
  simp only [Bool.and_eq_true, Bool.or_eq_true, Bool.not_eq_true', Nat.beq_eq, Nat.blt_eq] at h
  refine ⟨fun z => ?_, fun z => ?_⟩
  · rcases h.1 with q | q
    · exact absurd (Nat.blt_eq.mpr z) (by rw [q]; decide)
    · exact q
  · rcases h.2 with q | q
    · exact absurd q z
    · exact q
section RE8
variable {n : Nat} {P R M : fR}
theorem RE_sf (h : RE n P R M) {many folds : Nat} (h1 : 1 ≤ many) (h5 : many < 5) (hfo : folds < 2 ^ (2 * many)) : RE n (fbZ P many folds) R (lyM M many folds) := by
  have o : ∀ k, k ≠ 3 → k ≠ 4 → k ≠ 5 → k ≠ 16 → k ≠ 17 → k ≠ 18 → k ≠ 19 → lyM M many folds k = M k := fun k a b c d e f g => lyM_ne M many folds a b c d e f g
  obtain ⟨⟨a, b, c0, d⟩, rest⟩ := h
  unfold RE
  rw [o 2 (by decide) (by decide) (by decide) (by decide) (by decide) (by decide) (by decide), o 9 (by decide) (by decide) (by decide) (by decide) (by decide) (by decide) (by decide), o 10 (by decide) (by decide) (by decide) (by decide) (by decide) (by decide) (by decide), o 11 (by decide) (by decide) (by decide) (by decide) (by decide) (by decide) (by decide), o 12 (by decide) (by decide) (by decide) (by decide) (by decide) (by decide) (by decide), o 13 (by decide) (by decide) (by decide) (by decide) (by decide) (by decide) (by decide), o 14 (by decide) (by decide) (by decide) (by decide) (by decide) (by decide) (by decide), o 15 (by decide) (by decide) (by decide) (by decide) (by decide) (by decide) (by decide), o 0 (by decide) (by decide) (by decide) (by decide) (by decide) (by decide) (by decide), o 1 (by decide) (by decide) (by decide) (by decide) (by decide) (by decide) (by decide), o 6 (by decide) (by decide) (by decide) (by decide) (by decide) (by decide) (by decide), o 7 (by decide) (by decide) (by decide) (by decide) (by decide) (by decide) (by decide), o 20 (by decide) (by decide) (by decide) (by decide) (by decide) (by decide) (by decide), o 21 (by decide) (by decide) (by decide) (by decide) (by decide) (by decide) (by decide), o 22 (by decide) (by decide) (by decide) (by decide) (by decide) (by decide) (by decide), o 27 (by decide) (by decide) (by decide) (by decide) (by decide) (by decide) (by decide)]
  exact ⟨⟨FJ_fbZ h1 h5 hfo a.1, b, MI_lyM c0 h1 h5 hfo, FT_fold P M h1 h5 hfo⟩, rest⟩
theorem inn14 {x : Int32} : inn x (nI 1) (nI 4) = true ↔ (nI 1 ≤ x ∧ x < nI 5) := by
  unfold inn
  rw [decide_eq_true_iff, rg_le (n := 4) (by decide)]
theorem inn_rg {y : Int32} {m : Nat} (h1 : 1 ≤ m) (hm : m < 2 ^ 31) : inn y (nI 0) (nI (m - 1)) = true ↔ rg y m := by
  obtain ⟨k, rfl⟩ : ∃ k, m = k + 1 := ⟨m - 1, by omega⟩
  unfold inn rg
  rw [decide_eq_true_iff, Nat.add_sub_cancel, rg_le (by omega)]
  exact Iff.rfl
theorem xN_4 {x : Int32} (h : nI 1 ≤ x ∧ x < nI 5) : 1 ≤ xN x ∧ xN x < 5 := by
  obtain ⟨j, hj, rfl⟩ := rg_of (x := x) (n := 5) ⟨Int32.le_trans (by decide) h.1, h.2⟩ (by decide)
  have h1 := (nI_leI (by decide) (by omega)).mp h.1
  rw [xN_nI (by omega)]
  exact ⟨h1, hj⟩
theorem okF_iff {x y : Int32} : okF x y = true ↔ ((nI 1 ≤ x ∧ x < nI 5) ∧ rg y (2 ^ (2 * xN x))) := by
  unfold okF
  rw [Bool.and_eq_true, inn14]
  constructor
  · intro z
    have h4 := xN_4 z.1
    have p2 : 2 ^ (2 * xN x) ≤ 2 ^ 8 := Nat.pow_le_pow_right (by decide) (by omega)
    exact ⟨z.1, (inn_rg (Nat.pow_pos (by decide)) (by omega)).mp z.2⟩
  · intro z
    have h4 := xN_4 z.1
    have p2 : 2 ^ (2 * xN x) ≤ 2 ^ 8 := Nat.pow_le_pow_right (by decide) (by omega)
    exact ⟨z.1, (inn_rg (Nat.pow_pos (by decide)) (by omega)).mpr z.2⟩
theorem q_setFolds_n (h : RE n P R M) {x y : Int32} (hc : (nI 1 ≤ x ∧ x < nI 5) ∧ rg y (2 ^ (2 * xN x))) :
    sfM M x y 8 0 0 = 0 ∧ nI (shc (fbZ P (xN x) (xN y)) R) = sfV M x y ∧ RE (n + 1) (fbZ P (xN x) (xN y)) R (sfM M x y) := by
  have ok := okF_iff.mpr hc
  have h4 := xN_4 hc.1
  have p2 : 2 ^ (2 * xN x) ≤ 2 ^ 8 := Nat.pow_le_pow_right (by decide) (by omega)
  have x2 := (rg_xN (by omega) hc.2).1
  have em : sfM M x y = lyM (rs M 8 (k0 0)) (xN x) (xN y) := if_pos ok
  have st := RE_sf (RE_8 h (k0 0)) h4.1 h4.2 x2
  refine ⟨?_, ?_, by rw [em]; exact RE_up (Nat.le_succ n) st⟩
  · rw [em, lyM_ne _ _ _ (by decide) (by decide) (by decide) (by decide) (by decide) (by decide) (by decide)]; rfl
  · unfold sfV
    rw [if_pos ok, ← RE_sh st]
theorem q_setFolds_x (h : RE n P R M) {x y : Int32} (hc : ¬ ((nI 1 ≤ x ∧ x < nI 5) ∧ rg y (2 ^ (2 * xN x)))) : sfM M x y 8 0 0 = 1 ∧ RE (n + 1) P R (sfM M x y) := by
  have em : sfM M x y = rs M 8 (k0 1) := if_neg (fun w => hc (okF_iff.mp w))
  rw [em]; exact ⟨rfl, RE_t h _⟩
/-- the start -/
def M0 : fR := rs (rs (lyM (m2P 8) 1 0) 26 (k0 0)) 27 (k0 1)
theorem FI_0 : FI (fbZ zP 1 0) := FI_fbZ (by decide) (by decide) (by decide) (fun _ => by show 0 < 4; decide) (fun _ => by show 0 < 32; decide) (fun _ => by show 0 < 32; decide) (fun _ => by show 0 < 32; decide) (fun _ => by show 0 < 32; decide)
theorem m2P_v (c : Nat) (h14 : c ≠ 14) (h15 : c ≠ 15) (i j : Nat) : m2P 8 c i j = 0 := by
  unfold m2P
  rw [rs_ne _ _ h15, rs_ne _ _ h14]
  unfold m1P
  rw [if_neg (by omega)]
theorem RE_0 : RE 0 (fbZ zP 1 0) zP M0 := by
  have hlv := lyM_lv (m2P 8) (many := 1) (folds := 0) (by decide) (by decide) (by decide)
  obtain ⟨m3, m4, m5, m16⟩ := lyM_345 (m2P 8) 1 0
  have o : ∀ k, k ≠ 3 → k ≠ 4 → k ≠ 5 → k ≠ 16 → k ≠ 17 → k ≠ 18 → k ≠ 19 → k ≠ 26 → k ≠ 27 → M0 k = m2P 8 k := fun k a b c d e f g h i => by
    unfold M0
    rw [rs_ne _ _ i, rs_ne _ _ h, lyM_ne _ _ _ a b c d e f g]
  have z : ∀ k, k ≠ 3 → k ≠ 4 → k ≠ 5 → k ≠ 16 → k ≠ 17 → k ≠ 18 → k ≠ 19 → k ≠ 26 → k ≠ 27 → k ≠ 14 → k ≠ 15 → ∀ i j, M0 k i j = 0 := fun k a b c d e f g h i x y i' j' => by
    rw [o k a b c d e f g h i, m2P_v k x y]
  have e14 : ∀ f, M0 14 f 0 = fiT 8 f 0 := fun f => by rw [o 14 (by decide) (by decide) (by decide) (by decide) (by decide) (by decide) (by decide) (by decide) (by decide)]; rfl
  have e15 : ∀ f, M0 15 f 0 = fiT 8 f 0 := fun f => by rw [o 15 (by decide) (by decide) (by decide) (by decide) (by decide) (by decide) (by decide) (by decide) (by decide)]; rfl
  have t3 := lyM_t3 (M := m2P 8) (many := 1) (folds := 0) (by decide) (by decide) (by decide) (fun k => ⟨by rw [m2P_v _ (by decide) (by decide)]; decide, by rw [m2P_v _ (by decide) (by decide)]; decide, by rw [m2P_v _ (by decide) (by decide)]; decide⟩)
  have fl : ∀ f, fiT 8 f 0 ≤ 10000 := fun f => by unfold fiT; split <;> omega
  have n2 : M0 2 0 0 = 0 := z 2 (by decide) (by decide) (by decide) (by decide) (by decide) (by decide) (by decide) (by decide) (by decide) (by decide) (by decide) 0 0
  have zz : ∀ k, k = 0 ∨ k = 1 ∨ k = 2 ∨ k = 6 ∨ k = 7 ∨ k = 9 ∨ k = 10 ∨ k = 11 ∨ k = 12 ∨ k = 13 ∨ k = 20 ∨ k = 21 ∨ k = 22 ∨ k = 23 → ∀ i j, M0 k i j = 0 := fun k hk => z k (by omega) (by omega) (by omega) (by omega) (by omega) (by omega) (by omega) (by omega) (by omega) (by omega) (by omega)
  have hMI : MI M0 := by
    unfold MI
    refine ⟨by rw [zz 2 (by omega)]; omega, ?_, fun i => by rw [zz 9 (by omega)]; omega, fun p => by rw [zz 10 (by omega), zz 11 (by omega), zz 12 (by omega)]; omega, fun k => by rw [zz 13 (by omega)]; omega, fun f => by rw [e14, e15]; exact ⟨fl f, fl f⟩, t3, by rw [zz 0 (by omega)]; omega, by rw [zz 1 (by omega)]; omega, by rw [zz 6 (by omega), zz 7 (by omega)]; omega, fun k => by rw [zz 20 (by omega), zz 21 (by omega)]; omega, fun k => by rw [zz 22 (by omega)]; omega, fun k => by rw [zz 23 (by omega)]; omega, ?_, fun k => ?_⟩
    · show 1 ≤ lyM (m2P 8) 1 0 4 0 0 * lyM (m2P 8) 1 0 5 0 0 ∧ lyM (m2P 8) 1 0 4 0 0 * lyM (m2P 8) 1 0 5 0 0 ≤ 16
      omega
    · show lyM (m2P 8) 1 0 3 0 0 < 5
      rw [m3]; decide
    · show lyM (m2P 8) 1 0 16 k 0 < 4
      rw [m16]
      split
      · exact kq_lt _ _
      · rw [m2P_v _ (by decide) (by decide)]; decide
  have hX : XI zP := ⟨Nat.zero_le _, fun i hi => absurd hi (Nat.not_lt_zero i), Nat.zero_le _, rfl, Nat.zero_le _, fun f => ⟨Nat.zero_le _, Nat.zero_le _⟩, fun q => ⟨by show 0 < 256; decide, by show 0 < 16; decide, Nat.zero_le _⟩, fun q j => by show 0 < 4; decide, Nat.zero_le _, fun s => ⟨Nat.zero_le _, Nat.zero_le _⟩, Nat.zero_le _, Nat.zero_le _, fun j => by show 0 < 134217728; decide, fun s j => by show 0 < 134217728; decide, fun i => Nat.zero_le _⟩
  refine ⟨⟨FJ_any (by decide) (by decide) (by decide) FI_0, hX, hMI, FT_fold zP (m2P 8) (by decide) (by decide) (by decide)⟩, ⟨?_, ?_, ?_, ?_, ?_⟩, fun i hi => absurd hi (Nat.not_lt_zero i), fun q => ⟨?_, ?_, ?_⟩, fun q c _ => ?_, fun _ _ _ _ => rfl, fun _ _ _ h => absurd rfl h, fun f hf => ?_, fun t _ => ?_, ⟨Nat.zero_le _, fun _ => Nat.zero_le _, Nat.zero_le _, Nat.zero_le _⟩, rfl⟩
  · exact (zz 2 (by omega) 0 0).symm
  · exact (zz 1 (by omega) 0 0).symm
  · exact (zz 0 (by omega) 0 0).symm
  · exact (zz 6 (by omega) 0 0).symm
  · exact (zz 7 (by omega) 0 0).symm
  · exact (zz 10 (by omega) q 0).symm
  · exact (zz 11 (by omega) q 0).symm
  · exact (zz 12 (by omega) q 0).symm
  · exact (zz 13 (by omega) _ 0).symm
  · rw [if_neg (show ¬ zB (zP 10 f 0) = true from (by decide : ¬ zB 0 = true)), e14]
    exact if_pos hf
  · rw [if_pos (show zP 8 t 0 = 0 from rfl)]
    exact zz 20 (by omega) t 0
end RE8
