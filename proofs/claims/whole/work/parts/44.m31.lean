/-! ===== the model: withdraw ===== -/
set_option maxHeartbeats 4000000 in
set_option maxRecDepth 100000 in
theorem c_X5_withdraw_i {l : Launch} (hl : l.stackTraces = false) (Γ : fG) (B0 : Nat) (ad : Nat → Nat → Nat) (M : fR) (F : Nat → fO) (X : Nat × Nat → fO) (jx : Nat) (hjx : jx < 8) (hI : MI M) (h2 : 2 ≤ M 4 0 0 * M 5 0 0) : f_Met l yX5_withdraw cX5_withdraw 3 (some .int) 7 0 0 157 Γ B0 [.ref (ad 30 0), .int (nI (jx))] (wj F X (mw Γ ad M)) (f_is (wdV M (nI jx)) (wj F X (mw Γ ad (wdM M (nI jx))))) f_no := by
  refine f_of hl (by decide) rfl (Nat.le_of_ble_eq_true rfl) (fun X9 C E hh hnm => ?_)
  generalize (f_s X9).heap = H, ([] : List Loc) = locs at hh ⊢
  obtain ⟨i2, i45, i9, i10, i13, i14, i17, i0, i1, -⟩ := id hI
  have e1 : xN (nI jx) = jx := xN_nI (by omega)
  have hr : rgB (nI jx) 8 = true := (rgB_rg (by decide)).mpr (rg_N hjx (by decide))
  refine r_iload_n C dX5_withdraw_0 rfl ?_
  refine r_callS C E hh (c_X5_isFont E.2.1 Γ B0 _ (nI jx)) lk_X5_119 rfl rfl (Nat.le_of_ble_eq_true rfl) dX5_withdraw_1 ⟨by decide, by decide⟩ ⟨by omega, by omega⟩ (fun _ _ z9 => False.elim z9) (kk_is (fun H locs hs9 hh => ?_))
  refine r_istore_n C dX5_withdraw_4 rfl rfl ?_
  refine r_aload_n C dX5_withdraw_5 rfl ?_
  refine r_iload_n C dX5_withdraw_6 rfl ?_
  refine r_iload_n C dX5_withdraw_7 rfl ?_
  refine r_if_eqB (tgt := 25) C dX5_withdraw_8 (by decide) (fun h8 => ?_) (fun h8 => ?_)
  · rw [hr] at h8; cases h8
  · refine r_aload_n C dX5_withdraw_11 rfl ?_
    refine g_X5_25 C hh dX5_withdraw_12 ?_
    refine r_iload_n C dX5_withdraw_15 rfl ?_
    refine al_m_from C hh (by omega) dX5_withdraw_16 ?_
    refine r_iconst C (-1) dX5_withdraw_17 rfl ?_
    refine r_icmp_eq (tgt := 25) C dX5_withdraw_18 (by decide) (fun h18 => ?_) (fun h18 => ?_)
    · have e18 := iM_m1 h18 (by have := (i14 jx).1; omega)
      have hv : okW M (nI jx) = false := by unfold okW; rw [e1, e18, hr]; rfl
      refine r_iconst C (bI (okW M (nI jx))) dX5_withdraw_25 (by rw [hv]; rfl) ?_
      refine r_iconst C (bI true) dX5_withdraw_26 rfl ?_
      refine r_callV C E hh (c_X5_goes E.2.1 Γ B0 ad M F X (rgB (nI jx) 8) (okW M (nI jx)) true) lk_X5_101 (tr := .inr (.inr 0)) rfl rfl rfl rfl (Nat.le_of_ble_eq_true rfl) dX5_withdraw_27 ⟨by decide, by decide⟩ ⟨by omega, by omega⟩ (fun _ _ z9 => False.elim z9) (kk_is (fun H locs hs9 hh => ?_))
      rw [Bool.and_true]
      refine r_if_neB (tgt := 35) C dX5_withdraw_30 (by decide) (fun h30 => ?_) (fun h30 => ?_)
      · have hq := h30
        rw [Bool.and_eq_true] at hq
        rw [hq.1, hq.2, show thr true true true = 0 from rfl] at hh
        refine r_aload_n C dX5_withdraw_35 rfl ?_
        refine r_iload_n C dX5_withdraw_36 rfl ?_
        refine r_iconst C (-1) dX5_withdraw_37 rfl ?_
        refine r_iconst C (-1) dX5_withdraw_38 rfl ?_
        refine r_callV C E hh (c_X5_gives E.2.1 Γ B0 ad (rs M 8 (k0 0)) F X jx 0 0 hjx (by omega) (by omega) hI h2) lk_X5_176 (tr := .inr (.inr 0)) rfl rfl rfl rfl (Nat.le_of_ble_eq_true rfl) dX5_withdraw_39 ⟨by decide, by decide⟩ ⟨by omega, by omega⟩ (fun _ _ z9 => False.elim z9) (kk_is (fun H locs hs9 hh => ?_))
        have epa : wdM M (nI jx) = gvM (rs M 8 (k0 0)) jx 0 0 := by unfold wdM; rw [if_pos h30, e1]
        rw [← epa] at hh
        rw [← epa]
        have hw : nI (sbM (wdM M (nI jx)) (shM (rs M 8 (k0 0)))) = wdV M (nI jx) := (if_pos h30).symm
        exact r_iret C E hh dX5_withdraw_42 (by omega) (by omega) (ri2 hw)
      · rw [show rs M 8 (k0 (thr (rgB (nI jx) 8) (okW M (nI jx)) true)) = wdM M (nI jx) from (if_neg (by rw [h30]; decide)).symm] at hh
        have hw : nI 0 = wdV M (nI jx) := by unfold wdV; rw [if_neg (by rw [h30]; decide)]; rfl
        refine r_iconst C (nI 0) dX5_withdraw_33 rfl ?_
        exact r_iret C E hh dX5_withdraw_34 (by omega) (by omega) (ri2 hw)
    · have e18 : M 14 jx 0 ≠ 0 := fun z => h18 (by rw [z]; rfl)
      have hv : okW M (nI jx) = true := by unfold okW; rw [e1, hr]; simp [e18]
      refine r_iconst C (bI (okW M (nI jx))) dX5_withdraw_21 (by rw [hv]; rfl) ?_
      refine r_goto (tgt := 26) C dX5_withdraw_22 (by decide) ?_
      refine r_iconst C (bI true) dX5_withdraw_26 rfl ?_
      refine r_callV C E hh (c_X5_goes E.2.1 Γ B0 ad M F X (rgB (nI jx) 8) (okW M (nI jx)) true) lk_X5_101 (tr := .inr (.inr 0)) rfl rfl rfl rfl (Nat.le_of_ble_eq_true rfl) dX5_withdraw_27 ⟨by decide, by decide⟩ ⟨by omega, by omega⟩ (fun _ _ z9 => False.elim z9) (kk_is (fun H locs hs9 hh => ?_))
      rw [Bool.and_true]
      refine r_if_neB (tgt := 35) C dX5_withdraw_30 (by decide) (fun h30 => ?_) (fun h30 => ?_)
      · have hq := h30
        rw [Bool.and_eq_true] at hq
        rw [hq.1, hq.2, show thr true true true = 0 from rfl] at hh
        refine r_aload_n C dX5_withdraw_35 rfl ?_
        refine r_iload_n C dX5_withdraw_36 rfl ?_
        refine r_iconst C (-1) dX5_withdraw_37 rfl ?_
        refine r_iconst C (-1) dX5_withdraw_38 rfl ?_
        refine r_callV C E hh (c_X5_gives E.2.1 Γ B0 ad (rs M 8 (k0 0)) F X jx 0 0 hjx (by omega) (by omega) hI h2) lk_X5_176 (tr := .inr (.inr 0)) rfl rfl rfl rfl (Nat.le_of_ble_eq_true rfl) dX5_withdraw_39 ⟨by decide, by decide⟩ ⟨by omega, by omega⟩ (fun _ _ z9 => False.elim z9) (kk_is (fun H locs hs9 hh => ?_))
        have epa : wdM M (nI jx) = gvM (rs M 8 (k0 0)) jx 0 0 := by unfold wdM; rw [if_pos h30, e1]
        rw [← epa] at hh
        rw [← epa]
        have hw : nI (sbM (wdM M (nI jx)) (shM (rs M 8 (k0 0)))) = wdV M (nI jx) := (if_pos h30).symm
        exact r_iret C E hh dX5_withdraw_42 (by omega) (by omega) (ri2 hw)
      · rw [show rs M 8 (k0 (thr (rgB (nI jx) 8) (okW M (nI jx)) true)) = wdM M (nI jx) from (if_neg (by rw [h30]; decide)).symm] at hh
        have hw : nI 0 = wdV M (nI jx) := by unfold wdV; rw [if_neg (by rw [h30]; decide)]; rfl
        refine r_iconst C (nI 0) dX5_withdraw_33 rfl ?_
        exact r_iret C E hh dX5_withdraw_34 (by omega) (by omega) (ri2 hw)

set_option maxHeartbeats 4000000 in
set_option maxRecDepth 100000 in
theorem c_X5_withdraw_o {l : Launch} (hl : l.stackTraces = false) (Γ : fG) (B0 : Nat) (ad : Nat → Nat → Nat) (M : fR) (F : Nat → fO) (X : Nat × Nat → fO) (x : Int32) (hx : rgB x 8 = false) : f_Met l yX5_withdraw cX5_withdraw 3 (some .int) 2 0 0 42 Γ B0 [.ref (ad 30 0), .int x] (wj F X (mw Γ ad M)) (f_is (wdV M x) (wj F X (mw Γ ad (wdM M x)))) f_no := by
  refine f_of hl (by decide) rfl (Nat.le_of_ble_eq_true rfl) (fun X9 C E hh hnm => ?_)
  generalize (f_s X9).heap = H, ([] : List Loc) = locs at hh ⊢
  have hv : okW M x = false := by unfold okW; rw [hx]; rfl
  refine r_iload_n C dX5_withdraw_0 rfl ?_
  refine r_callS C E hh (c_X5_isFont E.2.1 Γ B0 _ x) lk_X5_119 rfl rfl (Nat.le_of_ble_eq_true rfl) dX5_withdraw_1 ⟨by decide, by decide⟩ ⟨by omega, by omega⟩ (fun _ _ z9 => False.elim z9) (kk_is (fun H locs hs9 hh => ?_))
  refine r_istore_n C dX5_withdraw_4 rfl rfl ?_
  refine r_aload_n C dX5_withdraw_5 rfl ?_
  refine r_iload_n C dX5_withdraw_6 rfl ?_
  refine r_iload_n C dX5_withdraw_7 rfl ?_
  refine r_if_eqB (tgt := 25) C dX5_withdraw_8 (by decide) (fun h8 => ?_) (fun h8 => ?_)
  · refine r_iconst C (bI (okW M x)) dX5_withdraw_25 (by rw [hv]; rfl) ?_
    refine r_iconst C (bI true) dX5_withdraw_26 rfl ?_
    refine r_callV C E hh (c_X5_goes E.2.1 Γ B0 ad M F X (rgB x 8) (okW M x) true) lk_X5_101 (tr := .inr (.inr 0)) rfl rfl rfl rfl (Nat.le_of_ble_eq_true rfl) dX5_withdraw_27 ⟨by decide, by decide⟩ ⟨by omega, by omega⟩ (fun _ _ z9 => False.elim z9) (kk_is (fun H locs hs9 hh => ?_))
    rw [Bool.and_true]
    refine r_if_neB (tgt := 35) C dX5_withdraw_30 (by decide) (fun h30 => ?_) (fun h30 => ?_)
    · rw [hx] at h30; cases h30
    · rw [show rs M 8 (k0 (thr (rgB x 8) (okW M x) true)) = wdM M x from (if_neg (by rw [h30]; decide)).symm] at hh
      have hw : nI 0 = wdV M x := by unfold wdV; rw [if_neg (by rw [h30]; decide)]; rfl
      refine r_iconst C (nI 0) dX5_withdraw_33 rfl ?_
      exact r_iret C E hh dX5_withdraw_34 (by omega) (by omega) (ri2 hw)
  · rw [hx] at h8; cases h8

