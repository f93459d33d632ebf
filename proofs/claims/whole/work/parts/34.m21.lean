/-! ===== the model: readiness, rights ===== -/
def MI (M : fR) : Prop := M 2 0 0 ≤ 64 ∧ (1 ≤ M 4 0 0 * M 5 0 0 ∧ M 4 0 0 * M 5 0 0 ≤ 16) ∧ (∀ i, M 9 i 0 < 100) ∧ (∀ p, M 10 p 0 < 256 ∧ M 11 p 0 < 16 ∧ M 12 p 0 ≤ 1000) ∧ (∀ k, M 13 k 0 < 4) ∧ (∀ f, M 14 f 0 ≤ 10000 ∧ M 15 f 0 ≤ 10000) ∧ (∀ k, M 17 k 0 < 16 ∧ M 18 k 0 < 2 ∧ M 19 k 0 < 2) ∧ M 0 0 0 ≤ 100000 ∧ M 1 0 0 ≤ 100 ∧ (M 6 0 0 ≤ 1000000 ∧ M 7 0 0 ≤ 1000000) ∧ (∀ k, M 20 k 0 ≤ 16 ∧ M 21 k 0 ≤ 1000) ∧ (∀ k, M 22 k 0 < 134217728) ∧ (∀ k, M 23 k 0 < 134217728) ∧ M 3 0 0 < 5 ∧ ∀ k, M 16 k 0 < 4
def fnM (M : fR) (p : Nat) : Nat → Bool
  | 0 => mya M p 8
  | x + 1 => fnM M p x && (!tb (M 11 p 0) x || decide (M 13 (4 * p + x) 0 = 2))
set_option maxHeartbeats 4000000 in
set_option maxRecDepth 100000 in
theorem c_X5_isFinished {l : Launch} (hl : l.stackTraces = false) (Γ : fG) (B0 : Nat) (ad : Nat → Nat → Nat) (M : fR) (F : Nat → fO) (X : Nat × Nat → fO) (p : Nat) (hp : p < 100) (hI : MI M) : f_Met l yX5_isFinished cX5_isFinished 4 (some .boolean) 3 0 0 66 Γ B0 [.ref (ad 30 0), .int (nI (p))] (wj F X (mw Γ ad M)) (f_is (bI (fnM M p 4)) (wj F X (mw Γ ad M))) f_no := by
  refine f_of hl (by decide) rfl (Nat.le_of_ble_eq_true rfl) (fun X9 C E hh hnm => ?_)
  generalize (f_s X9).heap = H, ([] : List Loc) = locs at hh ⊢
  obtain ⟨i2, i45, i9, i10, i13, i14, i17, i0, i1, -⟩ := id hI
  have j10 := i10 p
  refine r_aload_n C dX5_isFinished_0 rfl ?_
  refine r_iload_n C dX5_isFinished_1 rfl ?_
  refine r_callV C E hh (c_X5_mayAll E.2.1 Γ B0 ad M F X p hp (by omega) (fun f => by have := i14 f; omega)) lk_X5_155 (tr := .inr (.inr 0)) rfl rfl rfl rfl (Nat.le_of_ble_eq_true rfl) dX5_isFinished_2 ⟨by decide, by decide⟩ ⟨by omega, by omega⟩ (fun _ _ z9 => False.elim z9) (kk_is (fun H locs hs9 hh => ?_))
  refine r_istore_n C dX5_isFinished_5 rfl rfl ?_
  refine r_iconst C (nI 0) dX5_isFinished_6 rfl ?_
  refine r_istore_n C dX5_isFinished_7 rfl rfl ?_
  have lp8 : ∀ (d9 : Nat) (x : Nat) (H : Heap) (locs : List Loc), 4 - x < d9 → x ≤ 4 → f_HS Γ B0 (wj F X (mw Γ ad M)) X9 H locs → f_W X9 H locs 0 0 8 [some (.ref (ad 30 0)), some (.int (nI (p))), some (.int (bI (fnM M p x))), some (.int (nI (x)))] [] := by
    intro d9
    induction d9 with
    | zero => intro x H locs hd9 hl hh; exact absurd hd9 (Nat.not_lt_zero _)
    | succ d9 ih8 =>
      intro x H locs hd9 hl hh
      have j13 := i13 (4 * p + x)
      refine r_iload_n C dX5_isFinished_8 rfl ?_
      refine r_iconst C (nI 4) dX5_isFinished_9 rfl ?_
      refine r_icmp_geN (tgt := 56) C dX5_isFinished_10 (by decide) (by omega) (by omega) (fun h10 => ?_) (fun h10 => ?_)
      · obtain rfl : x = 4 := by omega
        refine r_iload_n C dX5_isFinished_56 rfl ?_
        exact r_zret C E hh dX5_isFinished_57 (by omega) (by omega) ⟨rfl, rfl⟩
      · refine r_iload_n C dX5_isFinished_13 rfl ?_
        refine r_if_eqB (tgt := 48) C dX5_isFinished_14 (by decide) (fun h14 => ?_) (fun h14 => ?_)
        · have hv : fnM M p (x + 1) = false := by simp [fnM, h14]
          refine r_iconst C (bI (fnM M p (x + 1))) dX5_isFinished_48 (by rw [hv]; rfl) ?_
          refine r_istore_n C dX5_isFinished_49 rfl rfl ?_
          refine r_iincN C dX5_isFinished_50 rfl rfl ?_
          refine r_goto (tgt := 8) C dX5_isFinished_53 (by decide) ?_
          exact ih8 (x + 1) _ _ (by omega) (by omega) hh
        · refine r_aload_n C dX5_isFinished_17 rfl ?_
          refine g_X5_16 C hh dX5_isFinished_18 ?_
          refine r_iload_n C dX5_isFinished_21 rfl ?_
          refine al_m_colors C hh (by omega) dX5_isFinished_22 ?_
          refine r_iload_n C dX5_isFinished_23 rfl ?_
          refine r_callS C E hh (c_X5_has E.2.1 Γ B0 _ _ _ (by omega) (by omega)) lk_X5_122 rfl rfl (Nat.le_of_ble_eq_true rfl) dX5_isFinished_24 ⟨by decide, by decide⟩ ⟨by omega, by omega⟩ (fun _ _ z9 => False.elim z9) (kk_is (fun H locs hs9 hh => ?_))
          refine r_if_eqB (tgt := 44) C dX5_isFinished_27 (by decide) (fun h27 => ?_) (fun h27 => ?_)
          · have hv : fnM M p (x + 1) = true := by simp [fnM, h14, h27]
            refine r_iconst C (bI (fnM M p (x + 1))) dX5_isFinished_44 (by rw [hv]; rfl) ?_
            refine r_goto (tgt := 49) C dX5_isFinished_45 (by decide) ?_
            refine r_istore_n C dX5_isFinished_49 rfl rfl ?_
            refine r_iincN C dX5_isFinished_50 rfl rfl ?_
            refine r_goto (tgt := 8) C dX5_isFinished_53 (by decide) ?_
            exact ih8 (x + 1) _ _ (by omega) (by omega) hh
          · refine r_aload_n C dX5_isFinished_30 rfl ?_
            refine g_X5_22 C hh dX5_isFinished_31 ?_
            refine r_iconst C (nI 4) dX5_isFinished_34 rfl ?_
            refine r_iload_n C dX5_isFinished_35 rfl ?_
            refine r_imulN C dX5_isFinished_36 ?_
            refine r_iload_n C dX5_isFinished_37 rfl ?_
            refine r_iaddN C dX5_isFinished_38 ?_
            refine al_m_proof C hh (by omega) dX5_isFinished_39 ?_
            refine r_iconst C (nI 2) dX5_isFinished_40 rfl ?_
            refine r_icmp_neN (tgt := 48) C dX5_isFinished_41 (by decide) (by omega) (by omega) (fun h41 => ?_) (fun h41 => ?_)
            · have hv : fnM M p (x + 1) = false := by simp [fnM, h27, h41]
              refine r_iconst C (bI (fnM M p (x + 1))) dX5_isFinished_48 (by rw [hv]; rfl) ?_
              refine r_istore_n C dX5_isFinished_49 rfl rfl ?_
              refine r_iincN C dX5_isFinished_50 rfl rfl ?_
              refine r_goto (tgt := 8) C dX5_isFinished_53 (by decide) ?_
              exact ih8 (x + 1) _ _ (by omega) (by omega) hh
            · have hv : fnM M p (x + 1) = true := by simp [fnM, h14, h41]
              refine r_iconst C (bI (fnM M p (x + 1))) dX5_isFinished_44 (by rw [hv]; rfl) ?_
              refine r_goto (tgt := 49) C dX5_isFinished_45 (by decide) ?_
              refine r_istore_n C dX5_isFinished_49 rfl rfl ?_
              refine r_iincN C dX5_isFinished_50 rfl rfl ?_
              refine r_goto (tgt := 8) C dX5_isFinished_53 (by decide) ?_
              exact ih8 (x + 1) _ _ (by omega) (by omega) hh
  exact lp8 5 0 _ _ (by omega) (by omega) hh

def bsM (M : fR) (s : Nat) : Nat := 2 * (M 4 0 0 * M 5 0 0) * s
def rdM (M : fR) (s : Nat) : Nat → Bool
  | 0 => true
  | x + 1 => rdM M s x && fnM M (M 9 (bsM M s + x) 0) 4
def rdY (M : fR) (s : Nat) : Bool := rdM M s (min (bsM M s + 2 * (M 4 0 0 * M 5 0 0)) (M 2 0 0) - bsM M s)
set_option maxHeartbeats 4000000 in
set_option maxRecDepth 100000 in
theorem c_X5_isReadyNow {l : Launch} (hl : l.stackTraces = false) (Γ : fG) (B0 : Nat) (ad : Nat → Nat → Nat) (M : fR) (F : Nat → fO) (X : Nat × Nat → fO) (s : Nat) (hs : s ≤ 17) (hI : MI M) : f_Met l yX5_isReadyNow cX5_isReadyNow 4 (some .boolean) 4 0 0 89 Γ B0 [.ref (ad 30 0), .int (nI (s))] (wj F X (mw Γ ad M)) (f_is (bI (rdY M s)) (wj F X (mw Γ ad M))) f_no := by
  refine f_of hl (by decide) rfl (Nat.le_of_ble_eq_true rfl) (fun X9 C E hh hnm => ?_)
  generalize (f_s X9).heap = H, ([] : List Loc) = locs at hh ⊢
  obtain ⟨i2, i45, i9, i10, i13, i14, i17, i0, i1, -⟩ := id hI
  have hb : bsM M s ≤ 544 := Nat.le_trans (Nat.mul_le_mul (Nat.mul_le_mul_left 2 i45.2) hs) (by decide)
  have hb1 : 2 * (M 4 0 0 * M 5 0 0) * (s + 1) = bsM M s + 2 * (M 4 0 0 * M 5 0 0) := Nat.mul_succ _ _
  refine r_iconst C (bI true) dX5_isReadyNow_0 rfl ?_
  refine r_istore_n C dX5_isReadyNow_1 rfl rfl ?_
  refine r_iconst C (nI 2) dX5_isReadyNow_2 rfl ?_
  refine r_aload_n C dX5_isReadyNow_3 rfl ?_
  refine r_callV C E hh (c_X5_leaves E.2.1 Γ B0 ad M F X) lk_X5_90 (tr := .inr (.inr 0)) rfl rfl rfl rfl (Nat.le_of_ble_eq_true rfl) dX5_isReadyNow_4 ⟨by decide, by decide⟩ ⟨by omega, by omega⟩ (fun _ _ z9 => False.elim z9) (kk_is (fun H locs hs9 hh => ?_))
  refine r_imulN C dX5_isReadyNow_7 ?_
  refine r_iload_n C dX5_isReadyNow_8 rfl ?_
  refine r_imulN C dX5_isReadyNow_9 ?_
  rw [show 2 * (M 4 0 0 * M 5 0 0) * s = bsM M s + 0 from rfl]
  refine r_istore_n C dX5_isReadyNow_10 rfl rfl ?_
  have lp11 : ∀ (d9 : Nat) (x : Nat) (H : Heap) (locs : List Loc), 64 - x < d9 → x ≤ min (bsM M s + 2 * (M 4 0 0 * M 5 0 0)) (M 2 0 0) - bsM M s → f_HS Γ B0 (wj F X (mw Γ ad M)) X9 H locs → f_W X9 H locs 0 0 11 [some (.ref (ad 30 0)), some (.int (nI (s))), some (.int (bI (rdM M s x))), some (.int (nI (bsM M s + x)))] [] := by
    intro d9
    induction d9 with
    | zero => intro x H locs hd9 hl hh; exact absurd hd9 (Nat.not_lt_zero _)
    | succ d9 ih11 =>
      intro x H locs hd9 hl hh
      refine r_iload_n C dX5_isReadyNow_11 rfl ?_
      refine r_iconst C (nI 2) dX5_isReadyNow_12 rfl ?_
      refine r_aload_n C dX5_isReadyNow_13 rfl ?_
      refine r_callV C E hh (c_X5_leaves E.2.1 Γ B0 ad M F X) lk_X5_90 (tr := .inr (.inr 0)) rfl rfl rfl rfl (Nat.le_of_ble_eq_true rfl) dX5_isReadyNow_14 ⟨by decide, by decide⟩ ⟨by omega, by omega⟩ (fun _ _ z9 => False.elim z9) (kk_is (fun H locs hs9 hh => ?_))
      refine r_imulN C dX5_isReadyNow_17 ?_
      refine r_iload_n C dX5_isReadyNow_18 rfl ?_
      refine r_iconst C (nI 1) dX5_isReadyNow_19 rfl ?_
      refine r_iaddN C dX5_isReadyNow_20 ?_
      refine r_imulN C dX5_isReadyNow_21 ?_
      rw [hb1]
      refine r_icmp_geN (tgt := 62) C dX5_isReadyNow_22 (by decide) (by omega) (by omega) (fun h22 => ?_) (fun h22 => ?_)
      · have hr : rdY M s = rdM M s x := by unfold rdY; rw [show min (bsM M s + 2 * (M 4 0 0 * M 5 0 0)) (M 2 0 0) - bsM M s = x by omega]
        refine r_iload_n C dX5_isReadyNow_62 rfl ?_
        exact r_zret C E hh dX5_isReadyNow_63 (by omega) (by omega) (rb hr)
      · refine r_iload_n C dX5_isReadyNow_25 rfl ?_
        refine r_aload_n C dX5_isReadyNow_26 rfl ?_
        refine g_X5_70 C hh dX5_isReadyNow_27 ?_
        refine r_icmp_geN (tgt := 62) C dX5_isReadyNow_30 (by decide) (by omega) (by omega) (fun h30 => ?_) (fun h30 => ?_)
        · have hr : rdY M s = rdM M s x := by unfold rdY; rw [show min (bsM M s + 2 * (M 4 0 0 * M 5 0 0)) (M 2 0 0) - bsM M s = x by omega]
          refine r_iload_n C dX5_isReadyNow_62 rfl ?_
          exact r_zret C E hh dX5_isReadyNow_63 (by omega) (by omega) (rb hr)
        · refine r_iload_n C dX5_isReadyNow_33 rfl ?_
          refine r_if_eqB (tgt := 54) C dX5_isReadyNow_34 (by decide) (fun h34 => ?_) (fun h34 => ?_)
          · have hv : rdM M s (x + 1) = false := by simp [rdM, h34]
            refine r_iconst C (bI (rdM M s (x + 1))) dX5_isReadyNow_54 (by rw [hv]; rfl) ?_
            refine r_istore_n C dX5_isReadyNow_55 rfl rfl ?_
            refine r_iincN C dX5_isReadyNow_56 rfl rfl ?_
            refine r_goto (tgt := 11) C dX5_isReadyNow_59 (by decide) ?_
            exact ih11 (x + 1) _ _ (by omega) (by omega) hh
          · refine r_aload_n C dX5_isReadyNow_37 rfl ?_
            refine r_aload_n C dX5_isReadyNow_38 rfl ?_
            refine g_X5_7 C hh dX5_isReadyNow_39 ?_
            refine r_iload_n C dX5_isReadyNow_42 rfl ?_
            refine al_m_order C hh (by omega) dX5_isReadyNow_43 ?_
            refine r_callV C E hh (c_X5_isFinished E.2.1 Γ B0 ad M F X _ (i9 _) hI) lk_X5_158 (tr := .inr (.inr 0)) rfl rfl rfl rfl (Nat.le_of_ble_eq_true rfl) dX5_isReadyNow_44 ⟨by decide, by decide⟩ ⟨by omega, by omega⟩ (fun _ _ z9 => False.elim z9) (kk_is (fun H locs hs9 hh => ?_))
            refine r_if_eqB (tgt := 54) C dX5_isReadyNow_47 (by decide) (fun h47 => ?_) (fun h47 => ?_)
            · have hv : rdM M s (x + 1) = false := by simp [rdM, h47]
              refine r_iconst C (bI (rdM M s (x + 1))) dX5_isReadyNow_54 (by rw [hv]; rfl) ?_
              refine r_istore_n C dX5_isReadyNow_55 rfl rfl ?_
              refine r_iincN C dX5_isReadyNow_56 rfl rfl ?_
              refine r_goto (tgt := 11) C dX5_isReadyNow_59 (by decide) ?_
              exact ih11 (x + 1) _ _ (by omega) (by omega) hh
            · have hv : rdM M s (x + 1) = true := by simp [rdM, h34, h47]
              refine r_iconst C (bI (rdM M s (x + 1))) dX5_isReadyNow_50 (by rw [hv]; rfl) ?_
              refine r_goto (tgt := 55) C dX5_isReadyNow_51 (by decide) ?_
              refine r_istore_n C dX5_isReadyNow_55 rfl rfl ?_
              refine r_iincN C dX5_isReadyNow_56 rfl rfl ?_
              refine r_goto (tgt := 11) C dX5_isReadyNow_59 (by decide) ?_
              exact ih11 (x + 1) _ _ (by omega) (by omega) hh
  exact lp11 65 0 _ _ (by omega) (by omega) hh

def loT (M : fR) (x : Nat) : Nat → Nat → Nat := fun i j => if i < x then (mayB M i).toNat else M 25 i j
theorem loT_0 (M : fR) : rs M 25 (loT M 0) = M := by rw [show loT M 0 = M 25 by funext i j; exact if_neg (Nat.not_lt_zero i), rs_id]
theorem loT_s (M : fR) (x : Nat) : u1 (loT M x) x (mayB M x).toNat = loT M (x + 1) := by
  funext i j
  unfold u1 loT
  by_cases h : i = x
  · subst h; rw [if_pos rfl, if_pos (Nat.lt_succ_self _)]
  · rw [if_neg h]
    by_cases h2 : i < x
    · rw [if_pos h2, if_pos (by omega)]
    · rw [if_neg h2, if_neg (by omega)]
def loM (M : fR) : fR := rs M 25 (loT M 8)
set_option maxHeartbeats 4000000 in
set_option maxRecDepth 100000 in
theorem c_X5_looks {l : Launch} (hl : l.stackTraces = false) (Γ : fG) (B0 : Nat) (ad : Nat → Nat → Nat) (M : fR) (F : Nat → fO) (X : Nat × Nat → fO) (h14 : ∀ f, M 14 f 0 ≤ 10000 ∧ M 15 f 0 ≤ 10000) : f_Met l yX5_looks cX5_looks 2 none 2 0 0 43 Γ B0 [.ref (ad 30 0)] (wj F X (mw Γ ad M)) (f_to (wj F X (mw Γ ad (loM M)))) f_no := by
  refine f_of hl (by decide) rfl (Nat.le_of_ble_eq_true rfl) (fun X9 C E hh hnm => ?_)
  generalize (f_s X9).heap = H, ([] : List Loc) = locs at hh ⊢
  refine r_iconst C (nI 0) dX5_looks_0 rfl ?_
  refine r_istore_n C dX5_looks_1 rfl rfl ?_
  have lp2 : ∀ (d9 : Nat) (x : Nat) (H : Heap) (locs : List Loc), 8 - x < d9 → x ≤ 8 → f_HS Γ B0 (wj F X (mw Γ ad (rs M 25 (loT M x)))) X9 H locs → f_W X9 H locs 0 0 2 [some (.ref (ad 30 0)), some (.int (nI (x)))] [] := by
    intro d9
    induction d9 with
    | zero => intro x H locs hd9 hl hh; exact absurd hd9 (Nat.not_lt_zero _)
    | succ d9 ih2 =>
      intro x H locs hd9 hl hh
      refine r_iload_n C dX5_looks_2 rfl ?_
      refine r_bipush C (nI 8) dX5_looks_3 rfl ?_
      refine r_icmp_geN (tgt := 25) C dX5_looks_5 (by decide) (by omega) (by omega) (fun h5 => ?_) (fun h5 => ?_)
      · obtain rfl : x = 8 := by omega
        exact r_vret C E hh dX5_looks_25 (by omega) (by omega) ⟨rfl, rfl⟩
      · refine r_aload_n C dX5_looks_8 rfl ?_
        refine g_X5_59 C hh dX5_looks_9 ?_
        refine r_iload_n C dX5_looks_12 rfl ?_
        refine r_aload_n C dX5_looks_13 rfl ?_
        refine r_iload_n C dX5_looks_14 rfl ?_
        refine r_callV C E hh (c_X5_may E.2.1 Γ B0 ad _ F X x (by omega) (show M 14 x 0 < 2 ^ 31 from by have := (h14 x).1; omega)) lk_X5_152 (tr := .inr (.inr 0)) rfl rfl rfl rfl (Nat.le_of_ble_eq_true rfl) dX5_looks_15 ⟨by decide, by decide⟩ ⟨by omega, by omega⟩ (fun _ _ z9 => False.elim z9) (kk_is (fun H locs hs9 hh => ?_))
        refine as_m_could C hh (by omega) dX5_looks_18 (fun H locs hh => ?_)
        replace hh : f_HS Γ B0 (wj F X (mw Γ ad (rs M 25 (loT M (x + 1))))) X9 H locs := by
          rw [← loT_s, ← rs_rs M 25 (loT M x)]
          exact hh
        refine r_iincN C dX5_looks_19 rfl rfl ?_
        refine r_goto (tgt := 2) C dX5_looks_22 (by decide) ?_
        exact ih2 (x + 1) _ _ (by omega) (by omega) hh
  rw [← loT_0 M] at hh
  exact lp2 9 0 _ _ (by omega) (by omega) hh

