/-! ===== the model: setRight, withdraw, queries ===== -/
def okS (x y z : Int32) : Bool := rgB x 8 && (inn y (nI 0) (nI 9999) && inn z y (nI 9999))
theorem okS_of {x y z : Int32} (h : okS x y z = true) : ∃ jx jy jz : Nat, jx < 8 ∧ jy ≤ 9999 ∧ jz ≤ 9999 ∧ x = nI jx ∧ y = nI jy ∧ z = nI jz := by
  unfold okS at h
  rw [Bool.and_eq_true, Bool.and_eq_true] at h
  obtain ⟨hx, hy, hz⟩ := h
  obtain ⟨jx, hjx, ex⟩ := rg_of ((rgB_rg (by decide)).mp hx) (by decide)
  unfold inn at hy hz
  have hy9 := of_decide_eq_true hy
  have hz9 := of_decide_eq_true hz
  obtain ⟨jy, hjy, ey⟩ := rg_of (x := y) (n := 10000) ⟨hy9.1, (rg_le (by decide)).mpr hy9.2⟩ (by decide)
  obtain ⟨jz, hjz, ez⟩ := rg_of (x := z) (n := 10000) ⟨Int32.le_trans hy9.1 hz9.1, (rg_le (by decide)).mpr hz9.2⟩ (by decide)
  exact ⟨jx, jy, jz, hjx, by omega, by omega, ex, ey, ez⟩
def srM (M : fR) (x y z : Int32) : fR := if okS x y z = true then gvM (rs M 8 (k0 0)) (xN x) (xN y + 1) (xN z + 1) else rs M 8 (k0 1)
def srV (M : fR) (x y z : Int32) : Int32 := if okS x y z = true then nI (sbM (srM M x y z) (shM M)) else 0
set_option maxHeartbeats 4000000 in
set_option maxRecDepth 100000 in
theorem c_X5_setRight {l : Launch} (hl : l.stackTraces = false) (Γ : fG) (B0 : Nat) (ad : Nat → Nat → Nat) (M : fR) (F : Nat → fO) (X : Nat × Nat → fO) (x y z : Int32) (hI : MI M) (h2 : 2 ≤ M 4 0 0 * M 5 0 0) : f_Met l yX5_setRight cX5_setRight 4 (some .int) 7 0 0 157 Γ B0 [.ref (ad 30 0), .int x, .int y, .int z] (wj F X (mw Γ ad M)) (f_is (srV M x y z) (wj F X (mw Γ ad (srM M x y z)))) f_no := by
  refine f_of hl (by decide) rfl (Nat.le_of_ble_eq_true rfl) (fun X9 C E hh hnm => ?_)
  generalize (f_s X9).heap = H, ([] : List Loc) = locs at hh ⊢
  refine r_aload_n C dX5_setRight_0 rfl ?_
  refine r_iload_n C dX5_setRight_1 rfl ?_
  refine r_callS C E hh (c_X5_isFont E.2.1 Γ B0 _ x) lk_X5_119 rfl rfl (Nat.le_of_ble_eq_true rfl) dX5_setRight_2 ⟨by decide, by decide⟩ ⟨by omega, by omega⟩ (fun _ _ z9 => False.elim z9) (kk_is (fun H locs hs9 hh => ?_))
  refine r_if_eqB (tgt := 34) C dX5_setRight_5 (by decide) (fun h5 => ?_) (fun h5 => ?_)
  · have hv : okS x y z = false := by unfold okS; rw [h5]; rfl
    refine r_iconst C (bI (okS x y z)) dX5_setRight_34 (by rw [hv]; rfl) ?_
    refine r_iconst C (bI true) dX5_setRight_35 rfl ?_
    refine r_iconst C (bI true) dX5_setRight_36 rfl ?_
    refine r_callV C E hh (c_X5_goes E.2.1 Γ B0 ad M F X (okS x y z) true true) lk_X5_101 (tr := .inr (.inr 0)) rfl rfl rfl rfl (Nat.le_of_ble_eq_true rfl) dX5_setRight_37 ⟨by decide, by decide⟩ ⟨by omega, by omega⟩ (fun _ _ z9 => False.elim z9) (kk_is (fun H locs hs9 hh => ?_))
    rw [Bool.and_true, Bool.and_true]
    refine r_if_neB (tgt := 45) C dX5_setRight_40 (by decide) (fun h40 => ?_) (fun h40 => ?_)
    · obtain ⟨jx, jy, jz, hjx, hjy, hjz, ex, ey, ez⟩ := okS_of h40
      have e1 : xN x = jx := by rw [ex]; exact xN_nI (by omega)
      have e2 : xN y + 1 = jy + 1 := by rw [ey, xN_nI (by omega)]
      have e3 : xN z + 1 = jz + 1 := by rw [ez, xN_nI (by omega)]
      rw [ex, show y = iM (jy + 1) by rw [ey, iM_pos (by omega)]; rfl, show z = iM (jz + 1) by rw [ez, iM_pos (by omega)]; rfl]
      rw [h40, show thr true true true = 0 from rfl] at hh
      refine r_aload_n C dX5_setRight_45 rfl ?_
      refine r_iload_n C dX5_setRight_46 rfl ?_
      refine r_iload_n C dX5_setRight_47 rfl ?_
      refine r_iload_n C dX5_setRight_48 rfl ?_
      refine r_callV C E hh (c_X5_gives E.2.1 Γ B0 ad (rs M 8 (k0 0)) F X jx (jy + 1) (jz + 1) hjx (by omega) (by omega) hI h2) lk_X5_176 (tr := .inr (.inr 0)) rfl rfl rfl rfl (Nat.le_of_ble_eq_true rfl) dX5_setRight_49 ⟨by decide, by decide⟩ ⟨by omega, by omega⟩ (fun _ _ z9 => False.elim z9) (kk_is (fun H locs hs9 hh => ?_))
      have epa : srM M x y z = gvM (rs M 8 (k0 0)) jx (jy + 1) (jz + 1) := by unfold srM; rw [if_pos h40, e1, e2, e3]
      rw [← epa] at hh
      rw [← epa]
      exact r_iret C E hh dX5_setRight_52 (by omega) (by omega) (ri2 (by unfold srV; rw [if_pos h40]; rfl))
    · rw [h40, show thr false true true = 1 from rfl] at hh
      rw [show rs M 8 (k0 1) = srM M x y z from (if_neg (by rw [h40]; decide)).symm] at hh
      refine r_iconst C (nI 0) dX5_setRight_43 rfl ?_
      exact r_iret C E hh dX5_setRight_44 (by omega) (by omega) (ri2 (by unfold srV; rw [if_neg (by rw [h40]; decide)]; rfl))
  · refine r_iload_n C dX5_setRight_8 rfl ?_
    refine r_iconst C (nI 0) dX5_setRight_9 rfl ?_
    refine r_sipush C (nI 9999) dX5_setRight_10 rfl ?_
    refine r_callS C E hh (c_X5_in E.2.1 Γ B0 _ y (nI 0) (nI 9999)) lk_X5_73 rfl rfl (Nat.le_of_ble_eq_true rfl) dX5_setRight_13 ⟨by decide, by decide⟩ ⟨by omega, by omega⟩ (fun _ _ z9 => False.elim z9) (kk_is (fun H locs hs9 hh => ?_))
    refine r_if_eqB (tgt := 34) C dX5_setRight_16 (by decide) (fun h16 => ?_) (fun h16 => ?_)
    · have hv : okS x y z = false := by unfold okS; rw [h5, h16]; rfl
      refine r_iconst C (bI (okS x y z)) dX5_setRight_34 (by rw [hv]; rfl) ?_
      refine r_iconst C (bI true) dX5_setRight_35 rfl ?_
      refine r_iconst C (bI true) dX5_setRight_36 rfl ?_
      refine r_callV C E hh (c_X5_goes E.2.1 Γ B0 ad M F X (okS x y z) true true) lk_X5_101 (tr := .inr (.inr 0)) rfl rfl rfl rfl (Nat.le_of_ble_eq_true rfl) dX5_setRight_37 ⟨by decide, by decide⟩ ⟨by omega, by omega⟩ (fun _ _ z9 => False.elim z9) (kk_is (fun H locs hs9 hh => ?_))
      rw [Bool.and_true, Bool.and_true]
      refine r_if_neB (tgt := 45) C dX5_setRight_40 (by decide) (fun h40 => ?_) (fun h40 => ?_)
      · obtain ⟨jx, jy, jz, hjx, hjy, hjz, ex, ey, ez⟩ := okS_of h40
        have e1 : xN x = jx := by rw [ex]; exact xN_nI (by omega)
        have e2 : xN y + 1 = jy + 1 := by rw [ey, xN_nI (by omega)]
        have e3 : xN z + 1 = jz + 1 := by rw [ez, xN_nI (by omega)]
        rw [ex, show y = iM (jy + 1) by rw [ey, iM_pos (by omega)]; rfl, show z = iM (jz + 1) by rw [ez, iM_pos (by omega)]; rfl]
        rw [h40, show thr true true true = 0 from rfl] at hh
        refine r_aload_n C dX5_setRight_45 rfl ?_
        refine r_iload_n C dX5_setRight_46 rfl ?_
        refine r_iload_n C dX5_setRight_47 rfl ?_
        refine r_iload_n C dX5_setRight_48 rfl ?_
        refine r_callV C E hh (c_X5_gives E.2.1 Γ B0 ad (rs M 8 (k0 0)) F X jx (jy + 1) (jz + 1) hjx (by omega) (by omega) hI h2) lk_X5_176 (tr := .inr (.inr 0)) rfl rfl rfl rfl (Nat.le_of_ble_eq_true rfl) dX5_setRight_49 ⟨by decide, by decide⟩ ⟨by omega, by omega⟩ (fun _ _ z9 => False.elim z9) (kk_is (fun H locs hs9 hh => ?_))
        have epa : srM M x y z = gvM (rs M 8 (k0 0)) jx (jy + 1) (jz + 1) := by unfold srM; rw [if_pos h40, e1, e2, e3]
        rw [← epa] at hh
        rw [← epa]
        exact r_iret C E hh dX5_setRight_52 (by omega) (by omega) (ri2 (by unfold srV; rw [if_pos h40]; rfl))
      · rw [h40, show thr false true true = 1 from rfl] at hh
        rw [show rs M 8 (k0 1) = srM M x y z from (if_neg (by rw [h40]; decide)).symm] at hh
        refine r_iconst C (nI 0) dX5_setRight_43 rfl ?_
        exact r_iret C E hh dX5_setRight_44 (by omega) (by omega) (ri2 (by unfold srV; rw [if_neg (by rw [h40]; decide)]; rfl))
    · refine r_iload_n C dX5_setRight_19 rfl ?_
      refine r_iload_n C dX5_setRight_20 rfl ?_
      refine r_sipush C (nI 9999) dX5_setRight_21 rfl ?_
      refine r_callS C E hh (c_X5_in E.2.1 Γ B0 _ z y (nI 9999)) lk_X5_73 rfl rfl (Nat.le_of_ble_eq_true rfl) dX5_setRight_24 ⟨by decide, by decide⟩ ⟨by omega, by omega⟩ (fun _ _ z9 => False.elim z9) (kk_is (fun H locs hs9 hh => ?_))
      refine r_if_eqB (tgt := 34) C dX5_setRight_27 (by decide) (fun h27 => ?_) (fun h27 => ?_)
      · have hv : okS x y z = false := by unfold okS; rw [h5, h16, h27]; rfl
        refine r_iconst C (bI (okS x y z)) dX5_setRight_34 (by rw [hv]; rfl) ?_
        refine r_iconst C (bI true) dX5_setRight_35 rfl ?_
        refine r_iconst C (bI true) dX5_setRight_36 rfl ?_
        refine r_callV C E hh (c_X5_goes E.2.1 Γ B0 ad M F X (okS x y z) true true) lk_X5_101 (tr := .inr (.inr 0)) rfl rfl rfl rfl (Nat.le_of_ble_eq_true rfl) dX5_setRight_37 ⟨by decide, by decide⟩ ⟨by omega, by omega⟩ (fun _ _ z9 => False.elim z9) (kk_is (fun H locs hs9 hh => ?_))
        rw [Bool.and_true, Bool.and_true]
        refine r_if_neB (tgt := 45) C dX5_setRight_40 (by decide) (fun h40 => ?_) (fun h40 => ?_)
        · obtain ⟨jx, jy, jz, hjx, hjy, hjz, ex, ey, ez⟩ := okS_of h40
          have e1 : xN x = jx := by rw [ex]; exact xN_nI (by omega)
          have e2 : xN y + 1 = jy + 1 := by rw [ey, xN_nI (by omega)]
          have e3 : xN z + 1 = jz + 1 := by rw [ez, xN_nI (by omega)]
          rw [ex, show y = iM (jy + 1) by rw [ey, iM_pos (by omega)]; rfl, show z = iM (jz + 1) by rw [ez, iM_pos (by omega)]; rfl]
          rw [h40, show thr true true true = 0 from rfl] at hh
          refine r_aload_n C dX5_setRight_45 rfl ?_
          refine r_iload_n C dX5_setRight_46 rfl ?_
          refine r_iload_n C dX5_setRight_47 rfl ?_
          refine r_iload_n C dX5_setRight_48 rfl ?_
          refine r_callV C E hh (c_X5_gives E.2.1 Γ B0 ad (rs M 8 (k0 0)) F X jx (jy + 1) (jz + 1) hjx (by omega) (by omega) hI h2) lk_X5_176 (tr := .inr (.inr 0)) rfl rfl rfl rfl (Nat.le_of_ble_eq_true rfl) dX5_setRight_49 ⟨by decide, by decide⟩ ⟨by omega, by omega⟩ (fun _ _ z9 => False.elim z9) (kk_is (fun H locs hs9 hh => ?_))
          have epa : srM M x y z = gvM (rs M 8 (k0 0)) jx (jy + 1) (jz + 1) := by unfold srM; rw [if_pos h40, e1, e2, e3]
          rw [← epa] at hh
          rw [← epa]
          exact r_iret C E hh dX5_setRight_52 (by omega) (by omega) (ri2 (by unfold srV; rw [if_pos h40]; rfl))
        · rw [h40, show thr false true true = 1 from rfl] at hh
          rw [show rs M 8 (k0 1) = srM M x y z from (if_neg (by rw [h40]; decide)).symm] at hh
          refine r_iconst C (nI 0) dX5_setRight_43 rfl ?_
          exact r_iret C E hh dX5_setRight_44 (by omega) (by omega) (ri2 (by unfold srV; rw [if_neg (by rw [h40]; decide)]; rfl))
      · have hv : okS x y z = true := by unfold okS; rw [h5, h16, h27]; rfl
        refine r_iconst C (bI (okS x y z)) dX5_setRight_30 (by rw [hv]; rfl) ?_
        refine r_goto (tgt := 35) C dX5_setRight_31 (by decide) ?_
        refine r_iconst C (bI true) dX5_setRight_35 rfl ?_
        refine r_iconst C (bI true) dX5_setRight_36 rfl ?_
        refine r_callV C E hh (c_X5_goes E.2.1 Γ B0 ad M F X (okS x y z) true true) lk_X5_101 (tr := .inr (.inr 0)) rfl rfl rfl rfl (Nat.le_of_ble_eq_true rfl) dX5_setRight_37 ⟨by decide, by decide⟩ ⟨by omega, by omega⟩ (fun _ _ z9 => False.elim z9) (kk_is (fun H locs hs9 hh => ?_))
        rw [Bool.and_true, Bool.and_true]
        refine r_if_neB (tgt := 45) C dX5_setRight_40 (by decide) (fun h40 => ?_) (fun h40 => ?_)
        · obtain ⟨jx, jy, jz, hjx, hjy, hjz, ex, ey, ez⟩ := okS_of h40
          have e1 : xN x = jx := by rw [ex]; exact xN_nI (by omega)
          have e2 : xN y + 1 = jy + 1 := by rw [ey, xN_nI (by omega)]
          have e3 : xN z + 1 = jz + 1 := by rw [ez, xN_nI (by omega)]
          rw [ex, show y = iM (jy + 1) by rw [ey, iM_pos (by omega)]; rfl, show z = iM (jz + 1) by rw [ez, iM_pos (by omega)]; rfl]
          rw [h40, show thr true true true = 0 from rfl] at hh
          refine r_aload_n C dX5_setRight_45 rfl ?_
          refine r_iload_n C dX5_setRight_46 rfl ?_
          refine r_iload_n C dX5_setRight_47 rfl ?_
          refine r_iload_n C dX5_setRight_48 rfl ?_
          refine r_callV C E hh (c_X5_gives E.2.1 Γ B0 ad (rs M 8 (k0 0)) F X jx (jy + 1) (jz + 1) hjx (by omega) (by omega) hI h2) lk_X5_176 (tr := .inr (.inr 0)) rfl rfl rfl rfl (Nat.le_of_ble_eq_true rfl) dX5_setRight_49 ⟨by decide, by decide⟩ ⟨by omega, by omega⟩ (fun _ _ z9 => False.elim z9) (kk_is (fun H locs hs9 hh => ?_))
          have epa : srM M x y z = gvM (rs M 8 (k0 0)) jx (jy + 1) (jz + 1) := by unfold srM; rw [if_pos h40, e1, e2, e3]
          rw [← epa] at hh
          rw [← epa]
          exact r_iret C E hh dX5_setRight_52 (by omega) (by omega) (ri2 (by unfold srV; rw [if_pos h40]; rfl))
        · rw [h40, show thr false true true = 1 from rfl] at hh
          rw [show rs M 8 (k0 1) = srM M x y z from (if_neg (by rw [h40]; decide)).symm] at hh
          refine r_iconst C (nI 0) dX5_setRight_43 rfl ?_
          exact r_iret C E hh dX5_setRight_44 (by omega) (by omega) (ri2 (by unfold srV; rw [if_neg (by rw [h40]; decide)]; rfl))

def okW (M : fR) (x : Int32) : Bool := rgB x 8 && (M 14 (xN x) 0 != 0)
def wdM (M : fR) (x : Int32) : fR := if (rgB x 8 && okW M x) = true then gvM (rs M 8 (k0 0)) (xN x) 0 0 else rs M 8 (k0 (thr (rgB x 8) (okW M x) true))
def wdV (M : fR) (x : Int32) : Int32 := if (rgB x 8 && okW M x) = true then nI (sbM (wdM M x) (shM M)) else 0
set_option maxHeartbeats 4000000 in
set_option maxRecDepth 100000 in
theorem c_X5_pages {l : Launch} (hl : l.stackTraces = false) (Γ : fG) (B0 : Nat) (ad : Nat → Nat → Nat) (M : fR) (F : Nat → fO) (X : Nat × Nat → fO) : f_Met l yX5_pages cX5_pages 1 (some .int) 1 0 0 21 Γ B0 [.ref (ad 30 0)] (wj F X (mw Γ ad M)) (f_is (nI (M 2 0 0)) (wj F X (mw Γ ad (rs M 8 (k0 0))))) f_no := by
  refine f_of hl (by decide) rfl (Nat.le_of_ble_eq_true rfl) (fun X9 C E hh hnm => ?_)
  generalize (f_s X9).heap = H, ([] : List Loc) = locs at hh ⊢
  refine r_aload_n C dX5_pages_0 rfl ?_
  refine r_aload_n C dX5_pages_1 rfl ?_
  refine g_X5_70 C hh dX5_pages_2 ?_
  refine r_callV C E hh (c_X5_told E.2.1 Γ B0 ad M F X _) lk_X5_125 (tr := .inr (.inr 0)) rfl rfl rfl rfl (Nat.le_of_ble_eq_true rfl) dX5_pages_5 ⟨by decide, by decide⟩ ⟨by omega, by omega⟩ (fun _ _ z9 => False.elim z9) (kk_is (fun H locs hs9 hh => ?_))
  exact r_iret C E hh dX5_pages_8 (by omega) (by omega) ⟨rfl, rfl⟩

set_option maxHeartbeats 4000000 in
set_option maxRecDepth 100000 in
theorem c_X5_rows {l : Launch} (hl : l.stackTraces = false) (Γ : fG) (B0 : Nat) (ad : Nat → Nat → Nat) (M : fR) (F : Nat → fO) (X : Nat × Nat → fO) : f_Met l yX5_rows cX5_rows 1 (some .int) 1 0 0 21 Γ B0 [.ref (ad 30 0)] (wj F X (mw Γ ad M)) (f_is (nI (M 4 0 0)) (wj F X (mw Γ ad (rs M 8 (k0 0))))) f_no := by
  refine f_of hl (by decide) rfl (Nat.le_of_ble_eq_true rfl) (fun X9 C E hh hnm => ?_)
  generalize (f_s X9).heap = H, ([] : List Loc) = locs at hh ⊢
  refine r_aload_n C dX5_rows_0 rfl ?_
  refine r_aload_n C dX5_rows_1 rfl ?_
  refine g_X5_80 C hh dX5_rows_2 ?_
  refine r_callV C E hh (c_X5_told E.2.1 Γ B0 ad M F X _) lk_X5_125 (tr := .inr (.inr 0)) rfl rfl rfl rfl (Nat.le_of_ble_eq_true rfl) dX5_rows_5 ⟨by decide, by decide⟩ ⟨by omega, by omega⟩ (fun _ _ z9 => False.elim z9) (kk_is (fun H locs hs9 hh => ?_))
  exact r_iret C E hh dX5_rows_8 (by omega) (by omega) ⟨rfl, rfl⟩

set_option maxHeartbeats 4000000 in
set_option maxRecDepth 100000 in
theorem c_X5_columns {l : Launch} (hl : l.stackTraces = false) (Γ : fG) (B0 : Nat) (ad : Nat → Nat → Nat) (M : fR) (F : Nat → fO) (X : Nat × Nat → fO) : f_Met l yX5_columns cX5_columns 1 (some .int) 1 0 0 21 Γ B0 [.ref (ad 30 0)] (wj F X (mw Γ ad M)) (f_is (nI (M 5 0 0)) (wj F X (mw Γ ad (rs M 8 (k0 0))))) f_no := by
  refine f_of hl (by decide) rfl (Nat.le_of_ble_eq_true rfl) (fun X9 C E hh hnm => ?_)
  generalize (f_s X9).heap = H, ([] : List Loc) = locs at hh ⊢
  refine r_aload_n C dX5_columns_0 rfl ?_
  refine r_aload_n C dX5_columns_1 rfl ?_
  refine g_X5_83 C hh dX5_columns_2 ?_
  refine r_callV C E hh (c_X5_told E.2.1 Γ B0 ad M F X _) lk_X5_125 (tr := .inr (.inr 0)) rfl rfl rfl rfl (Nat.le_of_ble_eq_true rfl) dX5_columns_5 ⟨by decide, by decide⟩ ⟨by omega, by omega⟩ (fun _ _ z9 => False.elim z9) (kk_is (fun H locs hs9 hh => ?_))
  exact r_iret C E hh dX5_columns_8 (by omega) (by omega) ⟨rfl, rfl⟩

set_option maxHeartbeats 4000000 in
set_option maxRecDepth 100000 in
theorem c_X5_today {l : Launch} (hl : l.stackTraces = false) (Γ : fG) (B0 : Nat) (ad : Nat → Nat → Nat) (M : fR) (F : Nat → fO) (X : Nat × Nat → fO) : f_Met l yX5_today cX5_today 1 (some .int) 1 0 0 21 Γ B0 [.ref (ad 30 0)] (wj F X (mw Γ ad M)) (f_is (nI (M 0 0 0)) (wj F X (mw Γ ad (rs M 8 (k0 0))))) f_no := by
  refine f_of hl (by decide) rfl (Nat.le_of_ble_eq_true rfl) (fun X9 C E hh hnm => ?_)
  generalize (f_s X9).heap = H, ([] : List Loc) = locs at hh ⊢
  refine r_aload_n C dX5_today_0 rfl ?_
  refine r_aload_n C dX5_today_1 rfl ?_
  refine g_X5_149 C hh dX5_today_2 ?_
  refine r_callV C E hh (c_X5_told E.2.1 Γ B0 ad M F X _) lk_X5_125 (tr := .inr (.inr 0)) rfl rfl rfl rfl (Nat.le_of_ble_eq_true rfl) dX5_today_5 ⟨by decide, by decide⟩ ⟨by omega, by omega⟩ (fun _ _ z9 => False.elim z9) (kk_is (fun H locs hs9 hh => ?_))
  exact r_iret C E hh dX5_today_8 (by omega) (by omega) ⟨rfl, rfl⟩

set_option maxHeartbeats 4000000 in
set_option maxRecDepth 100000 in
theorem c_X5_plates {l : Launch} (hl : l.stackTraces = false) (Γ : fG) (B0 : Nat) (ad : Nat → Nat → Nat) (M : fR) (F : Nat → fO) (X : Nat × Nat → fO) : f_Met l yX5_plates cX5_plates 1 (some .int) 1 0 0 21 Γ B0 [.ref (ad 30 0)] (wj F X (mw Γ ad M)) (f_is (nI (M 6 0 0)) (wj F X (mw Γ ad (rs M 8 (k0 0))))) f_no := by
  refine f_of hl (by decide) rfl (Nat.le_of_ble_eq_true rfl) (fun X9 C E hh hnm => ?_)
  generalize (f_s X9).heap = H, ([] : List Loc) = locs at hh ⊢
  refine r_aload_n C dX5_plates_0 rfl ?_
  refine r_aload_n C dX5_plates_1 rfl ?_
  refine g_X5_191 C hh dX5_plates_2 ?_
  refine r_callV C E hh (c_X5_told E.2.1 Γ B0 ad M F X _) lk_X5_125 (tr := .inr (.inr 0)) rfl rfl rfl rfl (Nat.le_of_ble_eq_true rfl) dX5_plates_5 ⟨by decide, by decide⟩ ⟨by omega, by omega⟩ (fun _ _ z9 => False.elim z9) (kk_is (fun H locs hs9 hh => ?_))
  exact r_iret C E hh dX5_plates_8 (by omega) (by omega) ⟨rfl, rfl⟩

set_option maxHeartbeats 4000000 in
set_option maxRecDepth 100000 in
theorem c_X5_sheets {l : Launch} (hl : l.stackTraces = false) (Γ : fG) (B0 : Nat) (ad : Nat → Nat → Nat) (M : fR) (F : Nat → fO) (X : Nat × Nat → fO) (hI : MI M) : f_Met l yX5_sheets cX5_sheets 1 (some .int) 2 0 0 40 Γ B0 [.ref (ad 30 0)] (wj F X (mw Γ ad M)) (f_is (nI (shM M)) (wj F X (mw Γ ad (rs M 8 (k0 0))))) f_no := by
  refine f_of hl (by decide) rfl (Nat.le_of_ble_eq_true rfl) (fun X9 C E hh hnm => ?_)
  generalize (f_s X9).heap = H, ([] : List Loc) = locs at hh ⊢
  refine r_aload_n C dX5_sheets_0 rfl ?_
  refine r_aload_n C dX5_sheets_1 rfl ?_
  refine r_callV C E hh (c_X5_sheetsOf E.2.1 Γ B0 ad M F X hI.1 hI.2.1) lk_X5_129 (tr := .inr (.inr 0)) rfl rfl rfl rfl (Nat.le_of_ble_eq_true rfl) dX5_sheets_2 ⟨by decide, by decide⟩ ⟨by omega, by omega⟩ (fun _ _ z9 => False.elim z9) (kk_is (fun H locs hs9 hh => ?_))
  refine r_callV C E hh (c_X5_told E.2.1 Γ B0 ad M F X _) lk_X5_125 (tr := .inr (.inr 0)) rfl rfl rfl rfl (Nat.le_of_ble_eq_true rfl) dX5_sheets_5 ⟨by decide, by decide⟩ ⟨by omega, by omega⟩ (fun _ _ z9 => False.elim z9) (kk_is (fun H locs hs9 hh => ?_))
  exact r_iret C E hh dX5_sheets_8 (by omega) (by omega) ⟨rfl, rfl⟩

