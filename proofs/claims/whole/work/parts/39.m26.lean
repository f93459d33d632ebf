/-! ===== the model: queries with conditions ===== -/
set_option maxHeartbeats 4000000 in
set_option maxRecDepth 100000 in
theorem c_X5_mayUse {l : Launch} (hl : l.stackTraces = false) (Γ : fG) (B0 : Nat) (ad : Nat → Nat → Nat) (M : fR) (F : Nat → fO) (X : Nat × Nat → fO) (x : Int32) (hI : MI M) : f_Met l yX5_mayUse cX5_mayUse 2 (some .boolean) 2 0 0 43 Γ B0 [.ref (ad 30 0), .int x] (wj F X (mw Γ ad M)) (f_is (bI (rgB x 8 && mayB M (xN x))) (wj F X (mw Γ ad (rs M 8 (k0 (thr (rgB x 8) true true)))))) f_no := by
  refine f_of hl (by decide) rfl (Nat.le_of_ble_eq_true rfl) (fun X9 C E hh hnm => ?_)
  generalize (f_s X9).heap = H, ([] : List Loc) = locs at hh ⊢
  obtain ⟨i2, i45, i9, i10, i13, i14, i17, i0, i1, -⟩ := id hI
  refine r_aload_n C dX5_mayUse_0 rfl ?_
  refine r_iload_n C dX5_mayUse_1 rfl ?_
  refine r_callS C E hh (c_X5_isFont E.2.1 Γ B0 _ x) lk_X5_119 rfl rfl (Nat.le_of_ble_eq_true rfl) dX5_mayUse_2 ⟨by decide, by decide⟩ ⟨by omega, by omega⟩ (fun _ _ z9 => False.elim z9) (kk_is (fun H locs hs9 hh => ?_))
  refine r_iconst C (bI true) dX5_mayUse_5 rfl ?_
  refine r_iconst C (bI true) dX5_mayUse_6 rfl ?_
  refine r_callV C E hh (c_X5_goes E.2.1 Γ B0 ad M F X (rgB x 8) true true) lk_X5_101 (tr := .inr (.inr 0)) rfl rfl rfl rfl (Nat.le_of_ble_eq_true rfl) dX5_mayUse_7 ⟨by decide, by decide⟩ ⟨by omega, by omega⟩ (fun _ _ z9 => False.elim z9) (kk_is (fun H locs hs9 hh => ?_))
  rw [Bool.and_true, Bool.and_true]
  refine r_if_eqB (tgt := 25) C dX5_mayUse_10 (by decide) (fun h10 => ?_) (fun h10 => ?_)
  · have hv : (rgB x 8 && mayB M (xN x)) = false := by rw [h10]; rfl
    refine r_iconst C (bI false) dX5_mayUse_25 rfl ?_
    exact r_zret C E hh dX5_mayUse_26 (by omega) (by omega) (rb hv)
  · obtain ⟨jx, hjx, ex⟩ := rg_of ((rgB_rg (by omega)).mp h10) (by omega)
    have e1 : xN x = jx := by rw [ex]; exact xN_nI (by omega)
    rw [ex]
    refine r_aload_n C dX5_mayUse_13 rfl ?_
    refine r_iload_n C dX5_mayUse_14 rfl ?_
    refine r_callV C E hh (c_X5_may E.2.1 Γ B0 ad (rs M 8 (k0 (thr (rgB x 8) true true))) F X jx hjx (show M 14 jx 0 < 2 ^ 31 from by have := (i14 jx).1; omega)) lk_X5_152 (tr := .inr (.inr 0)) rfl rfl rfl rfl (Nat.le_of_ble_eq_true rfl) dX5_mayUse_15 ⟨by decide, by decide⟩ ⟨by omega, by omega⟩ (fun _ _ z9 => False.elim z9) (kk_is (fun H locs hs9 hh => ?_))
    rw [show mayB (rs M 8 (k0 (thr (rgB x 8) true true))) jx = mayB M jx from rfl]
    refine r_if_eqB (tgt := 25) C dX5_mayUse_18 (by decide) (fun h18 => ?_) (fun h18 => ?_)
    · have hv : (rgB x 8 && mayB M (xN x)) = false := by rw [h10, e1, h18]; rfl
      refine r_iconst C (bI false) dX5_mayUse_25 rfl ?_
      exact r_zret C E hh dX5_mayUse_26 (by omega) (by omega) (rb hv)
    · have hv : (rgB x 8 && mayB M (xN x)) = true := by rw [h10, e1, h18]; rfl
      refine r_iconst C (bI true) dX5_mayUse_21 rfl ?_
      refine r_goto (tgt := 26) C dX5_mayUse_22 (by decide) ?_
      exact r_zret C E hh dX5_mayUse_26 (by omega) (by omega) (rb hv)

set_option maxHeartbeats 4000000 in
set_option maxRecDepth 100000 in
theorem c_X5_isReady {l : Launch} (hl : l.stackTraces = false) (Γ : fG) (B0 : Nat) (ad : Nat → Nat → Nat) (M : fR) (F : Nat → fO) (X : Nat × Nat → fO) (x : Int32) (hI : MI M) (h2 : 2 ≤ M 4 0 0 * M 5 0 0) : f_Met l yX5_isReady cX5_isReady 2 (some .boolean) 5 0 0 112 Γ B0 [.ref (ad 30 0), .int x] (wj F X (mw Γ ad M)) (f_is (bI (rgB x (shM M) && rdY M (xN x))) (wj F X (mw Γ ad (rs M 8 (k0 (thr (rgB x (shM M)) true true)))))) f_no := by
  refine f_of hl (by decide) rfl (Nat.le_of_ble_eq_true rfl) (fun X9 C E hh hnm => ?_)
  generalize (f_s X9).heap = H, ([] : List Loc) = locs at hh ⊢
  obtain ⟨i2, i45, i9, i10, i13, i14, i17, i0, i1, -⟩ := id hI
  have h16 := shM_16 hI h2
  have rd8 : ∀ (f : Nat → Nat → Nat) (s x : Nat), rdM (rs M 8 f) s x = rdM M s x := fun f s x => by
    induction x with
    | zero => rfl
    | succ x ih =>
      show (rdM (rs M 8 f) s x && fnM (rs M 8 f) (M 9 (bsM M s + x) 0) 4) = (rdM M s x && fnM M (M 9 (bsM M s + x) 0) 4)
      rw [ih]
      rfl
  refine r_aload_n C dX5_isReady_0 rfl ?_
  refine r_aload_n C dX5_isReady_1 rfl ?_
  refine r_iload_n C dX5_isReady_2 rfl ?_
  refine r_callV C E hh (c_X5_isSheet E.2.1 Γ B0 ad M F X i2 i45 x) lk_X5_132 (tr := .inr (.inr 0)) rfl rfl rfl rfl (Nat.le_of_ble_eq_true rfl) dX5_isReady_3 ⟨by decide, by decide⟩ ⟨by omega, by omega⟩ (fun _ _ z9 => False.elim z9) (kk_is (fun H locs hs9 hh => ?_))
  refine r_iconst C (bI true) dX5_isReady_6 rfl ?_
  refine r_iconst C (bI true) dX5_isReady_7 rfl ?_
  refine r_callV C E hh (c_X5_goes E.2.1 Γ B0 ad M F X (rgB x (shM M)) true true) lk_X5_101 (tr := .inr (.inr 0)) rfl rfl rfl rfl (Nat.le_of_ble_eq_true rfl) dX5_isReady_8 ⟨by decide, by decide⟩ ⟨by omega, by omega⟩ (fun _ _ z9 => False.elim z9) (kk_is (fun H locs hs9 hh => ?_))
  rw [Bool.and_true, Bool.and_true]
  refine r_if_eqB (tgt := 26) C dX5_isReady_11 (by decide) (fun h11 => ?_) (fun h11 => ?_)
  · have hv : (rgB x (shM M) && rdY M (xN x)) = false := by rw [h11]; rfl
    refine r_iconst C (bI false) dX5_isReady_26 rfl ?_
    exact r_zret C E hh dX5_isReady_27 (by omega) (by omega) (rb hv)
  · obtain ⟨jx, hjx, ex⟩ := rg_of ((rgB_rg (by omega)).mp h11) (by omega)
    have e1 : xN x = jx := by rw [ex]; exact xN_nI (by omega)
    rw [ex]
    refine r_aload_n C dX5_isReady_14 rfl ?_
    refine r_iload_n C dX5_isReady_15 rfl ?_
    refine r_callV C E hh (c_X5_isReadyNow E.2.1 Γ B0 ad (rs M 8 (k0 (thr (rgB x (shM M)) true true))) F X jx (by omega) hI) lk_X5_161 (tr := .inr (.inr 0)) rfl rfl rfl rfl (Nat.le_of_ble_eq_true rfl) dX5_isReady_16 ⟨by decide, by decide⟩ ⟨by omega, by omega⟩ (fun _ _ z9 => False.elim z9) (kk_is (fun H locs hs9 hh => ?_))
    rw [show rdY (rs M 8 (k0 (thr (rgB x (shM M)) true true))) jx = rdY M jx from rd8 _ _ _]
    refine r_if_eqB (tgt := 26) C dX5_isReady_19 (by decide) (fun h19 => ?_) (fun h19 => ?_)
    · have hv : (rgB x (shM M) && rdY M (xN x)) = false := by rw [h11, e1, h19]; rfl
      refine r_iconst C (bI false) dX5_isReady_26 rfl ?_
      exact r_zret C E hh dX5_isReady_27 (by omega) (by omega) (rb hv)
    · have hv : (rgB x (shM M) && rdY M (xN x)) = true := by rw [h11, e1, h19]; rfl
      refine r_iconst C (bI true) dX5_isReady_22 rfl ?_
      refine r_goto (tgt := 27) C dX5_isReady_23 (by decide) ?_
      exact r_zret C E hh dX5_isReady_27 (by omega) (by omega) (rb hv)

def edV (M : fR) (x : Int32) : Int32 := if rgB x (M 2 0 0) = true then nI (M 12 (M 9 (xN x) 0) 0) else 0
set_option maxHeartbeats 4000000 in
set_option maxRecDepth 100000 in
theorem c_X5_edition {l : Launch} (hl : l.stackTraces = false) (Γ : fG) (B0 : Nat) (ad : Nat → Nat → Nat) (M : fR) (F : Nat → fO) (X : Nat × Nat → fO) (x : Int32) (hI : MI M) : f_Met l yX5_edition cX5_edition 2 (some .int) 2 0 0 43 Γ B0 [.ref (ad 30 0), .int x] (wj F X (mw Γ ad M)) (f_is (edV M x) (wj F X (mw Γ ad (rs M 8 (k0 (thr (rgB x (M 2 0 0)) true true)))))) f_no := by
  refine f_of hl (by decide) rfl (Nat.le_of_ble_eq_true rfl) (fun X9 C E hh hnm => ?_)
  generalize (f_s X9).heap = H, ([] : List Loc) = locs at hh ⊢
  obtain ⟨i2, i45, i9, i10, i13, i14, i17, i0, i1, -⟩ := id hI
  refine r_aload_n C dX5_edition_0 rfl ?_
  refine r_aload_n C dX5_edition_1 rfl ?_
  refine r_iload_n C dX5_edition_2 rfl ?_
  refine r_callV C E hh (c_X5_isPage E.2.1 Γ B0 ad M F X x) lk_X5_105 (tr := .inr (.inr 0)) rfl rfl rfl rfl (Nat.le_of_ble_eq_true rfl) dX5_edition_3 ⟨by decide, by decide⟩ ⟨by omega, by omega⟩ (fun _ _ z9 => False.elim z9) (kk_is (fun H locs hs9 hh => ?_))
  refine r_iconst C (bI true) dX5_edition_6 rfl ?_
  refine r_iconst C (bI true) dX5_edition_7 rfl ?_
  refine r_callV C E hh (c_X5_goes E.2.1 Γ B0 ad M F X (rgB x (M 2 0 0)) true true) lk_X5_101 (tr := .inr (.inr 0)) rfl rfl rfl rfl (Nat.le_of_ble_eq_true rfl) dX5_edition_8 ⟨by decide, by decide⟩ ⟨by omega, by omega⟩ (fun _ _ z9 => False.elim z9) (kk_is (fun H locs hs9 hh => ?_))
  rw [Bool.and_true, Bool.and_true]
  refine r_if_eqB (tgt := 28) C dX5_edition_11 (by decide) (fun h11 => ?_) (fun h11 => ?_)
  · have hv : nI 0 = edV M x := by unfold edV; rw [if_neg (by rw [h11]; decide)]; rfl
    refine r_iconst C (nI 0) dX5_edition_28 rfl ?_
    exact r_iret C E hh dX5_edition_29 (by omega) (by omega) (ri2 hv)
  · obtain ⟨jx, hjx, ex⟩ := rg_of ((rgB_rg (by omega)).mp h11) (by omega)
    have e1 : xN x = jx := by rw [ex]; exact xN_nI (by omega)
    rw [ex]
    have j9 := i9 jx
    have hv : nI (M 12 (M 9 jx 0) 0) = edV M x := by unfold edV; rw [if_pos h11, e1]
    refine r_aload_n C dX5_edition_14 rfl ?_
    refine g_X5_19 C hh dX5_edition_15 ?_
    refine r_aload_n C dX5_edition_18 rfl ?_
    refine g_X5_7 C hh dX5_edition_19 ?_
    refine r_iload_n C dX5_edition_22 rfl ?_
    refine al_m_order C hh (by omega) dX5_edition_23 ?_
    rw [show (rs M 8 (k0 (thr (rgB x (M 2 0 0)) true true))) 9 jx 0 = M 9 jx 0 from rfl]
    refine al_m_edition C hh (by omega) dX5_edition_24 ?_
    rw [show (rs M 8 (k0 (thr (rgB x (M 2 0 0)) true true))) 12 (M 9 jx 0) 0 = M 12 (M 9 jx 0) 0 from rfl]
    refine r_goto (tgt := 29) C dX5_edition_25 (by decide) ?_
    exact r_iret C E hh dX5_edition_29 (by omega) (by omega) (ri2 hv)

def prM (M : fR) (p c : Nat) : Int32 := if tb (M 11 p 0) c = true then nI (M 13 (4 * p + c) 0) else -1
def pfV (M : fR) (x y : Int32) : Int32 := if (rgB x (M 2 0 0) && rgB y 4) = true then prM M (M 9 (xN x) 0) (xN y) else 0
set_option maxHeartbeats 4000000 in
set_option maxRecDepth 100000 in
theorem c_X5_proof {l : Launch} (hl : l.stackTraces = false) (Γ : fG) (B0 : Nat) (ad : Nat → Nat → Nat) (M : fR) (F : Nat → fO) (X : Nat × Nat → fO) (x y : Int32) (hI : MI M) : f_Met l yX5_proof cX5_proof 3 (some .int) 2 0 0 43 Γ B0 [.ref (ad 30 0), .int x, .int y] (wj F X (mw Γ ad M)) (f_is (pfV M x y) (wj F X (mw Γ ad (rs M 8 (k0 (thr (rgB x (M 2 0 0)) (rgB y 4) true)))))) f_no := by
  refine f_of hl (by decide) rfl (Nat.le_of_ble_eq_true rfl) (fun X9 C E hh hnm => ?_)
  generalize (f_s X9).heap = H, ([] : List Loc) = locs at hh ⊢
  obtain ⟨i2, i45, i9, i10, i13, i14, i17, i0, i1, -⟩ := id hI
  refine r_aload_n C dX5_proof_0 rfl ?_
  refine r_aload_n C dX5_proof_1 rfl ?_
  refine r_iload_n C dX5_proof_2 rfl ?_
  refine r_callV C E hh (c_X5_isPage E.2.1 Γ B0 ad M F X x) lk_X5_105 (tr := .inr (.inr 0)) rfl rfl rfl rfl (Nat.le_of_ble_eq_true rfl) dX5_proof_3 ⟨by decide, by decide⟩ ⟨by omega, by omega⟩ (fun _ _ z9 => False.elim z9) (kk_is (fun H locs hs9 hh => ?_))
  refine r_iload_n C dX5_proof_6 rfl ?_
  refine r_callS C E hh (c_X5_isColor E.2.1 Γ B0 _ y) lk_X5_179 rfl rfl (Nat.le_of_ble_eq_true rfl) dX5_proof_7 ⟨by decide, by decide⟩ ⟨by omega, by omega⟩ (fun _ _ z9 => False.elim z9) (kk_is (fun H locs hs9 hh => ?_))
  refine r_iconst C (bI true) dX5_proof_10 rfl ?_
  refine r_callV C E hh (c_X5_goes E.2.1 Γ B0 ad M F X (rgB x (M 2 0 0)) (rgB y 4) true) lk_X5_101 (tr := .inr (.inr 0)) rfl rfl rfl rfl (Nat.le_of_ble_eq_true rfl) dX5_proof_11 ⟨by decide, by decide⟩ ⟨by omega, by omega⟩ (fun _ _ z9 => False.elim z9) (kk_is (fun H locs hs9 hh => ?_))
  rw [Bool.and_true]
  refine r_if_neB (tgt := 19) C dX5_proof_14 (by decide) (fun h14 => ?_) (fun h14 => ?_)
  · have hq := h14
    rw [Bool.and_eq_true] at hq
    obtain ⟨jx, hjx, ex⟩ := rg_of ((rgB_rg (by omega)).mp hq.1) (by omega)
    obtain ⟨jy, hjy, ey⟩ := rg_of ((rgB_rg (by omega)).mp hq.2) (by omega)
    have e1 : xN x = jx := by rw [ex]; exact xN_nI (by omega)
    have e2 : xN y = jy := by rw [ey]; exact xN_nI (by omega)
    rw [ex, ey]
    have j9 := i9 jx
    have j10 := i10 (M 9 jx 0)
    refine r_aload_n C dX5_proof_19 rfl ?_
    refine g_X5_16 C hh dX5_proof_20 ?_
    refine r_aload_n C dX5_proof_23 rfl ?_
    refine g_X5_7 C hh dX5_proof_24 ?_
    refine r_iload_n C dX5_proof_27 rfl ?_
    refine al_m_order C hh (by omega) dX5_proof_28 ?_
    rw [show (rs M 8 (k0 (thr (rgB x (M 2 0 0)) (rgB y 4) true))) 9 jx 0 = M 9 jx 0 from rfl]
    refine al_m_colors C hh (by omega) dX5_proof_29 ?_
    rw [show (rs M 8 (k0 (thr (rgB x (M 2 0 0)) (rgB y 4) true))) 11 (M 9 jx 0) 0 = M 11 (M 9 jx 0) 0 from rfl]
    refine r_iload_n C dX5_proof_30 rfl ?_
    refine r_callS C E hh (c_X5_has E.2.1 Γ B0 _ _ _ (by omega) (by omega)) lk_X5_122 rfl rfl (Nat.le_of_ble_eq_true rfl) dX5_proof_31 ⟨by decide, by decide⟩ ⟨by omega, by omega⟩ (fun _ _ z9 => False.elim z9) (kk_is (fun H locs hs9 hh => ?_))
    refine r_if_eqB (tgt := 55) C dX5_proof_34 (by decide) (fun h34 => ?_) (fun h34 => ?_)
    · have hv : (-1 : Int32) = pfV M x y := by unfold pfV prM; rw [if_pos h14, e1, e2, if_neg (by rw [h34]; decide)]
      refine r_iconst C (-1) dX5_proof_55 rfl ?_
      exact r_iret C E hh dX5_proof_56 (by omega) (by omega) (ri2 hv)
    · have hv : nI (M 13 (4 * M 9 jx 0 + jy) 0) = pfV M x y := by unfold pfV prM; rw [if_pos h14, e1, e2, if_pos h34]
      refine r_aload_n C dX5_proof_37 rfl ?_
      refine g_X5_22 C hh dX5_proof_38 ?_
      refine r_iconst C (nI 4) dX5_proof_41 rfl ?_
      refine r_aload_n C dX5_proof_42 rfl ?_
      refine g_X5_7 C hh dX5_proof_43 ?_
      refine r_iload_n C dX5_proof_46 rfl ?_
      refine al_m_order C hh (by omega) dX5_proof_47 ?_
      rw [show (rs M 8 (k0 (thr (rgB x (M 2 0 0)) (rgB y 4) true))) 9 jx 0 = M 9 jx 0 from rfl]
      refine r_imulN C dX5_proof_48 ?_
      refine r_iload_n C dX5_proof_49 rfl ?_
      refine r_iaddN C dX5_proof_50 ?_
      refine al_m_proof C hh (by omega) dX5_proof_51 ?_
      rw [show (rs M 8 (k0 (thr (rgB x (M 2 0 0)) (rgB y 4) true))) 13 (4 * M 9 jx 0 + jy) 0 = M 13 (4 * M 9 jx 0 + jy) 0 from rfl]
      refine r_goto (tgt := 56) C dX5_proof_52 (by decide) ?_
      exact r_iret C E hh dX5_proof_56 (by omega) (by omega) (ri2 hv)
  · have hv : nI 0 = pfV M x y := by unfold pfV; rw [if_neg (by rw [h14]; decide)]; rfl
    refine r_iconst C (nI 0) dX5_proof_17 rfl ?_
    exact r_iret C E hh dX5_proof_18 (by omega) (by omega) (ri2 hv)

