/-! ===== the model: leaf, leafOf, isTurned ===== -/
def lfM (M : fR) (s p : Nat) : Nat → Int32
  | 0 => -1
  | k + 1 => if plJ M s (k % 2) (k / 2) = nI p then nI (16 * (k % 2) + k / 2) else lfM M s p k
def lfV (M : fR) (p : Nat) : Int32 := lfM M (p / (2 * (M 4 0 0 * M 5 0 0))) p (2 * (M 4 0 0 * M 5 0 0))
set_option maxHeartbeats 4000000 in
set_option maxRecDepth 100000 in
theorem c_X5_leaf {l : Launch} (hl : l.stackTraces = false) (Γ : fG) (B0 : Nat) (ad : Nat → Nat → Nat) (M : fR) (F : Nat → fO) (X : Nat × Nat → fO) (p : Nat) (hp : p < 64) (hI : MI M) (h2 : 2 ≤ M 4 0 0 * M 5 0 0) : f_Met l yX5_leaf cX5_leaf 5 (some .int) 2 0 0 44 Γ B0 [.ref (ad 30 0), .int (nI (p))] (wj F X (mw Γ ad M)) (f_is (lfV M p) (wj F X (mw Γ ad M))) f_no := by
  refine f_of hl (by decide) rfl (Nat.le_of_ble_eq_true rfl) (fun X9 C E hh hnm => ?_)
  generalize (f_s X9).heap = H, ([] : List Loc) = locs at hh ⊢
  obtain ⟨i2, i45, i9, i10, i13, i14, i17, i0, i1, -⟩ := id hI
  have hs17 : p / (2 * (M 4 0 0 * M 5 0 0)) ≤ 17 := by
    rw [Nat.div_le_iff_le_mul (by omega)]
    omega
  refine r_iload_n C dX5_leaf_0 rfl ?_
  refine r_iconst C (nI 2) dX5_leaf_1 rfl ?_
  refine r_aload_n C dX5_leaf_2 rfl ?_
  refine r_callV C E hh (c_X5_leaves E.2.1 Γ B0 ad M F X) lk_X5_90 (tr := .inr (.inr 0)) rfl rfl rfl rfl (Nat.le_of_ble_eq_true rfl) dX5_leaf_3 ⟨by decide, by decide⟩ ⟨by omega, by omega⟩ (fun _ _ z9 => False.elim z9) (kk_is (fun H locs hs9 hh => ?_))
  refine r_imulN C dX5_leaf_6 ?_
  refine r_idivN C dX5_leaf_7 (by omega) (by omega) (by omega) ?_
  refine r_istore_n C dX5_leaf_8 rfl rfl ?_
  refine r_iconst C (-1) dX5_leaf_9 rfl ?_
  refine r_istore_n C dX5_leaf_10 rfl rfl ?_
  refine r_iconst C (nI 0) dX5_leaf_11 rfl ?_
  refine r_istore C dX5_leaf_12 rfl rfl ?_
  have lp14 : ∀ (d9 : Nat) (k : Nat) (H : Heap) (locs : List Loc), 2 * (M 4 0 0 * M 5 0 0) - k < d9 → k ≤ 2 * (M 4 0 0 * M 5 0 0) → f_HS Γ B0 (wj F X (mw Γ ad M)) X9 H locs → f_W X9 H locs 0 0 14 [some (.ref (ad 30 0)), some (.int (nI (p))), some (.int (nI (p / (2 * (M 4 0 0 * M 5 0 0))))), some (.int (lfM M (p / (2 * (M 4 0 0 * M 5 0 0))) p k)), some (.int (nI (k)))] [] := by
    intro d9
    induction d9 with
    | zero => intro k H locs hd9 hl hh; exact absurd hd9 (Nat.not_lt_zero _)
    | succ d9 ih14 =>
      intro k H locs hd9 hl hh
      have j17 := i17 (k / 2)
      refine r_iload C dX5_leaf_14 rfl ?_
      refine r_iconst C (nI 2) dX5_leaf_16 rfl ?_
      refine r_aload_n C dX5_leaf_17 rfl ?_
      refine r_callV C E hh (c_X5_leaves E.2.1 Γ B0 ad M F X) lk_X5_90 (tr := .inr (.inr 0)) rfl rfl rfl rfl (Nat.le_of_ble_eq_true rfl) dX5_leaf_18 ⟨by decide, by decide⟩ ⟨by omega, by omega⟩ (fun _ _ z9 => False.elim z9) (kk_is (fun H locs hs9 hh => ?_))
      refine r_imulN C dX5_leaf_21 ?_
      refine r_icmp_geN (tgt := 65) C dX5_leaf_22 (by decide) (by omega) (by omega) (fun h22 => ?_) (fun h22 => ?_)
      · obtain rfl : k = 2 * (M 4 0 0 * M 5 0 0) := by omega
        refine r_iload_n C dX5_leaf_65 rfl ?_
        exact r_iret C E hh dX5_leaf_66 (by omega) (by omega) ⟨rfl, rfl⟩
      · refine r_aload_n C dX5_leaf_25 rfl ?_
        refine r_iload_n C dX5_leaf_26 rfl ?_
        refine r_iload C dX5_leaf_27 rfl ?_
        refine r_iconst C (nI 2) dX5_leaf_29 rfl ?_
        refine r_iremN C dX5_leaf_30 (by omega) (by omega) (by omega) ?_
        refine r_iload C dX5_leaf_31 rfl ?_
        refine r_iconst C (nI 2) dX5_leaf_33 rfl ?_
        refine r_idivN C dX5_leaf_34 (by omega) (by omega) (by omega) ?_
        refine r_callV C E hh (c_X5_pageOn E.2.1 Γ B0 ad M F X (p / (2 * (M 4 0 0 * M 5 0 0))) (k % 2) (k / 2) i2 i45 hs17 (by omega) (by omega) j17.1 j17.2.1) lk_X5_138 (tr := .inr (.inr 0)) rfl rfl rfl rfl (Nat.le_of_ble_eq_true rfl) dX5_leaf_35 ⟨by decide, by decide⟩ ⟨by omega, by omega⟩ (fun _ _ z9 => False.elim z9) (kk_is (fun H locs hs9 hh => ?_))
        refine r_iload_n C dX5_leaf_38 rfl ?_
        refine r_icmp_ne (tgt := 57) C dX5_leaf_39 (by decide) (fun h39 => ?_) (fun h39 => ?_)
        · have e9 : lfM M (p / (2 * (M 4 0 0 * M 5 0 0))) p (k + 1) = lfM M (p / (2 * (M 4 0 0 * M 5 0 0))) p k := if_neg h39
          refine r_iload_n C dX5_leaf_57 rfl ?_
          refine r_istore_n C dX5_leaf_58 rfl rfl ?_
          refine r_iincN C dX5_leaf_59 rfl rfl ?_
          refine r_goto (tgt := 14) C dX5_leaf_62 (by decide) ?_
          have w9 := ih14 (k + 1) H locs (by omega) (by omega) hh
          rw [e9] at w9
          exact w9
        · have e9 : lfM M (p / (2 * (M 4 0 0 * M 5 0 0))) p (k + 1) = nI (16 * (k % 2) + k / 2) := if_pos h39
          refine r_bipush C (nI 16) dX5_leaf_42 rfl ?_
          refine r_iload C dX5_leaf_44 rfl ?_
          refine r_iconst C (nI 2) dX5_leaf_46 rfl ?_
          refine r_iremN C dX5_leaf_47 (by omega) (by omega) (by omega) ?_
          refine r_imulN C dX5_leaf_48 ?_
          refine r_iload C dX5_leaf_49 rfl ?_
          refine r_iconst C (nI 2) dX5_leaf_51 rfl ?_
          refine r_idivN C dX5_leaf_52 (by omega) (by omega) (by omega) ?_
          refine r_iaddN C dX5_leaf_53 ?_
          refine r_goto (tgt := 58) C dX5_leaf_54 (by decide) ?_
          refine r_istore_n C dX5_leaf_58 rfl rfl ?_
          refine r_iincN C dX5_leaf_59 rfl rfl ?_
          refine r_goto (tgt := 14) C dX5_leaf_62 (by decide) ?_
          have w9 := ih14 (k + 1) H locs (by omega) (by omega) hh
          rw [e9] at w9
          exact w9
  exact lp14 (2 * (M 4 0 0 * M 5 0 0) + 1) 0 _ _ (by omega) (by omega) hh

theorem lfM_8 (M : fR) (f : Nat → Nat → Nat) (s p : Nat) : ∀ k, lfM (rs M 8 f) s p k = lfM M s p k
  | 0 => rfl
  | k + 1 => by
    show (if plJ M s (k % 2) (k / 2) = nI p then nI (16 * (k % 2) + k / 2) else lfM (rs M 8 f) s p k) = (if plJ M s (k % 2) (k / 2) = nI p then nI (16 * (k % 2) + k / 2) else lfM M s p k)
    rw [lfM_8 M f s p k]
theorem lfV_8 (M : fR) (f : Nat → Nat → Nat) (p : Nat) : lfV (rs M 8 f) p = lfV M p := lfM_8 M f _ p _
def lfW (M : fR) (x : Int32) : Int32 := if rgB x (M 2 0 0) = true then lfV M (xN x) else 0
set_option maxHeartbeats 4000000 in
set_option maxRecDepth 100000 in
theorem c_X5_leafOf {l : Launch} (hl : l.stackTraces = false) (Γ : fG) (B0 : Nat) (ad : Nat → Nat → Nat) (M : fR) (F : Nat → fO) (X : Nat × Nat → fO) (x : Int32) (hI : MI M) (h2 : 2 ≤ M 4 0 0 * M 5 0 0) : f_Met l yX5_leafOf cX5_leafOf 2 (some .int) 3 0 0 68 Γ B0 [.ref (ad 30 0), .int x] (wj F X (mw Γ ad M)) (f_is (lfW M x) (wj F X (mw Γ ad (rs M 8 (k0 (thr (rgB x (M 2 0 0)) true true)))))) f_no := by
  refine f_of hl (by decide) rfl (Nat.le_of_ble_eq_true rfl) (fun X9 C E hh hnm => ?_)
  generalize (f_s X9).heap = H, ([] : List Loc) = locs at hh ⊢
  obtain ⟨i2, i45, i9, i10, i13, i14, i17, i0, i1, -⟩ := id hI
  refine r_aload_n C dX5_leafOf_0 rfl ?_
  refine r_aload_n C dX5_leafOf_1 rfl ?_
  refine r_iload_n C dX5_leafOf_2 rfl ?_
  refine r_callV C E hh (c_X5_isPage E.2.1 Γ B0 ad M F X x) lk_X5_105 (tr := .inr (.inr 0)) rfl rfl rfl rfl (Nat.le_of_ble_eq_true rfl) dX5_leafOf_3 ⟨by decide, by decide⟩ ⟨by omega, by omega⟩ (fun _ _ z9 => False.elim z9) (kk_is (fun H locs hs9 hh => ?_))
  refine r_iconst C (bI true) dX5_leafOf_6 rfl ?_
  refine r_iconst C (bI true) dX5_leafOf_7 rfl ?_
  refine r_callV C E hh (c_X5_goes E.2.1 Γ B0 ad M F X (rgB x (M 2 0 0)) true true) lk_X5_101 (tr := .inr (.inr 0)) rfl rfl rfl rfl (Nat.le_of_ble_eq_true rfl) dX5_leafOf_8 ⟨by decide, by decide⟩ ⟨by omega, by omega⟩ (fun _ _ z9 => False.elim z9) (kk_is (fun H locs hs9 hh => ?_))
  rw [Bool.and_true, Bool.and_true]
  refine r_if_eqB (tgt := 22) C dX5_leafOf_11 (by decide) (fun h11 => ?_) (fun h11 => ?_)
  · have hv : nI 0 = lfW M x := by unfold lfW; rw [if_neg (by rw [h11]; decide)]; rfl
    refine r_iconst C (nI 0) dX5_leafOf_22 rfl ?_
    exact r_iret C E hh dX5_leafOf_23 (by omega) (by omega) (ri2 hv)
  · obtain ⟨jx, hjx, ex⟩ := rg_of ((rgB_rg (by omega)).mp h11) (by omega)
    have e1 : xN x = jx := by rw [ex]; exact xN_nI (by omega)
    rw [ex]
    have hv : lfV M jx = lfW M x := by unfold lfW; rw [if_pos h11, e1]
    refine r_aload_n C dX5_leafOf_14 rfl ?_
    refine r_iload_n C dX5_leafOf_15 rfl ?_
    refine r_callV C E hh (c_X5_leaf E.2.1 Γ B0 ad (rs M 8 (k0 (thr (rgB x (M 2 0 0)) true true))) F X jx (by omega) hI h2) lk_X5_146 (tr := .inr (.inr 0)) rfl rfl rfl rfl (Nat.le_of_ble_eq_true rfl) dX5_leafOf_16 ⟨by decide, by decide⟩ ⟨by omega, by omega⟩ (fun _ _ z9 => False.elim z9) (kk_is (fun H locs hs9 hh => ?_))
    rw [show lfV (rs M 8 (k0 (thr (rgB x (M 2 0 0)) true true))) jx = lfV M jx from lfV_8 _ _ _]
    refine r_goto (tgt := 23) C dX5_leafOf_19 (by decide) ?_
    exact r_iret C E hh dX5_leafOf_23 (by omega) (by omega) (ri2 hv)

set_option maxHeartbeats 4000000 in
set_option maxRecDepth 100000 in
theorem c_X5_isTurned {l : Launch} (hl : l.stackTraces = false) (Γ : fG) (B0 : Nat) (ad : Nat → Nat → Nat) (M : fR) (F : Nat → fO) (X : Nat × Nat → fO) (x : Int32) (hf : ∀ j, j < M 2 0 0 → ∃ v : Nat, v < 32 ∧ lfV M j = nI v) (hI : MI M) (h2 : 2 ≤ M 4 0 0 * M 5 0 0) : f_Met l yX5_isTurned cX5_isTurned 2 (some .boolean) 3 0 0 68 Γ B0 [.ref (ad 30 0), .int x] (wj F X (mw Γ ad M)) (f_is (bI (rgB x (M 2 0 0) && decide (M 19 (xN (lfV M (xN x)) % 16) 0 = 1))) (wj F X (mw Γ ad (rs M 8 (k0 (thr (rgB x (M 2 0 0)) true true)))))) f_no := by
  refine f_of hl (by decide) rfl (Nat.le_of_ble_eq_true rfl) (fun X9 C E hh hnm => ?_)
  generalize (f_s X9).heap = H, ([] : List Loc) = locs at hh ⊢
  obtain ⟨i2, i45, i9, i10, i13, i14, i17, i0, i1, -⟩ := id hI
  refine r_aload_n C dX5_isTurned_0 rfl ?_
  refine r_aload_n C dX5_isTurned_1 rfl ?_
  refine r_iload_n C dX5_isTurned_2 rfl ?_
  refine r_callV C E hh (c_X5_isPage E.2.1 Γ B0 ad M F X x) lk_X5_105 (tr := .inr (.inr 0)) rfl rfl rfl rfl (Nat.le_of_ble_eq_true rfl) dX5_isTurned_3 ⟨by decide, by decide⟩ ⟨by omega, by omega⟩ (fun _ _ z9 => False.elim z9) (kk_is (fun H locs hs9 hh => ?_))
  refine r_iconst C (bI true) dX5_isTurned_6 rfl ?_
  refine r_iconst C (bI true) dX5_isTurned_7 rfl ?_
  refine r_callV C E hh (c_X5_goes E.2.1 Γ B0 ad M F X (rgB x (M 2 0 0)) true true) lk_X5_101 (tr := .inr (.inr 0)) rfl rfl rfl rfl (Nat.le_of_ble_eq_true rfl) dX5_isTurned_8 ⟨by decide, by decide⟩ ⟨by omega, by omega⟩ (fun _ _ z9 => False.elim z9) (kk_is (fun H locs hs9 hh => ?_))
  rw [Bool.and_true, Bool.and_true]
  refine r_if_eqB (tgt := 35) C dX5_isTurned_11 (by decide) (fun h11 => ?_) (fun h11 => ?_)
  · have hv : (rgB x (M 2 0 0) && decide (M 19 (xN (lfV M (xN x)) % 16) 0 = 1)) = false := by rw [h11]; rfl
    refine r_iconst C (bI false) dX5_isTurned_35 rfl ?_
    exact r_zret C E hh dX5_isTurned_36 (by omega) (by omega) (rb hv)
  · obtain ⟨jx, hjx, ex⟩ := rg_of ((rgB_rg (by omega)).mp h11) (by omega)
    have e1 : xN x = jx := by rw [ex]; exact xN_nI (by omega)
    rw [ex]
    obtain ⟨v, hv1, hv2⟩ := hf jx hjx
    have j17 := i17 (v % 16)
    have ev : (rgB x (M 2 0 0) && decide (M 19 (xN (lfV M (xN x)) % 16) 0 = 1)) = decide (M 19 (v % 16) 0 = 1) := by rw [h11, e1, hv2, xN_nI (by omega)]; rfl
    refine r_aload_n C dX5_isTurned_14 rfl ?_
    refine g_X5_40 C hh dX5_isTurned_15 ?_
    refine r_aload_n C dX5_isTurned_18 rfl ?_
    refine r_iload_n C dX5_isTurned_19 rfl ?_
    refine r_callV C E hh (c_X5_leaf E.2.1 Γ B0 ad (rs M 8 (k0 (thr (rgB x (M 2 0 0)) true true))) F X jx (by omega) hI h2) lk_X5_146 (tr := .inr (.inr 0)) rfl rfl rfl rfl (Nat.le_of_ble_eq_true rfl) dX5_isTurned_20 ⟨by decide, by decide⟩ ⟨by omega, by omega⟩ (fun _ _ z9 => False.elim z9) (kk_is (fun H locs hs9 hh => ?_))
    rw [show lfV (rs M 8 (k0 (thr (rgB x (M 2 0 0)) true true))) jx = lfV M jx from lfV_8 _ _ _, hv2]
    refine r_bipush C (nI 16) dX5_isTurned_23 rfl ?_
    refine r_iremN C dX5_isTurned_25 (by omega) (by omega) (by omega) ?_
    refine al_m_turned C hh (by omega) dX5_isTurned_26 ?_
    rw [show (rs M 8 (k0 (thr (rgB x (M 2 0 0)) true true))) 19 (v % 16) 0 = M 19 (v % 16) 0 from rfl]
    refine r_iconst C (nI 1) dX5_isTurned_27 rfl ?_
    refine r_icmp_neN (tgt := 35) C dX5_isTurned_28 (by decide) (by omega) (by omega) (fun h28 => ?_) (fun h28 => ?_)
    · have hv : (rgB x (M 2 0 0) && decide (M 19 (xN (lfV M (xN x)) % 16) 0 = 1)) = false := by rw [ev]; exact decide_eq_false h28
      refine r_iconst C (bI false) dX5_isTurned_35 rfl ?_
      exact r_zret C E hh dX5_isTurned_36 (by omega) (by omega) (rb hv)
    · have hv : (rgB x (M 2 0 0) && decide (M 19 (xN (lfV M (xN x)) % 16) 0 = 1)) = true := by rw [ev]; exact decide_eq_true h28
      refine r_iconst C (bI true) dX5_isTurned_31 rfl ?_
      refine r_goto (tgt := 36) C dX5_isTurned_32 (by decide) ?_
      exact r_zret C E hh dX5_isTurned_36 (by omega) (by omega) (rb hv)

