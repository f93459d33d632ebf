/-! ===== the model: wear, canPrint, print ===== -/
/-- the same in all that says what a plate would show -/
def sL (M' M : fR) : Prop := ∀ k, k ≠ 7 → k ≠ 8 → k ≠ 20 → k ≠ 21 → k ≠ 22 → k ≠ 23 → M' k = M k
theorem sL_N {M' M : fR} (h : sL M' M) (t : Nat) : ∀ l, lnN M' t l = lnN M t l
  | 0 => rfl
  | l + 1 => by
    have hC : lnC M' t l = lnC M t l := by
      unfold lnC lnP plM
      rw [h 2 (by decide) (by decide) (by decide) (by decide) (by decide) (by decide), h 4 (by decide) (by decide) (by decide) (by decide) (by decide) (by decide), h 5 (by decide) (by decide) (by decide) (by decide) (by decide) (by decide), h 9 (by decide) (by decide) (by decide) (by decide) (by decide) (by decide), h 11 (by decide) (by decide) (by decide) (by decide) (by decide) (by decide), h 17 (by decide) (by decide) (by decide) (by decide) (by decide) (by decide), h 18 (by decide) (by decide) (by decide) (by decide) (by decide) (by decide)]
    unfold lnN
    rw [hC, sL_N h t l]
theorem sL_n {M' M : fR} (h : sL M' M) (t : Nat) : lnn M' t = lnn M t := by
  unfold lnn
  rw [sL_N h t, h 4 (by decide) (by decide) (by decide) (by decide) (by decide) (by decide), h 5 (by decide) (by decide) (by decide) (by decide) (by decide) (by decide)]
def wrB (y z : Int32) : Bool := rgB y 2 && rgB z 4
def wrM (M : fR) (x y z : Int32) : fR := rs M 8 (k0 (thr (rgB x (shM M)) (wrB y z) true))
def wrI (M : fR) (t : Nat) : Int32 := if gdM M t = true then nI (M 21 t 0) else -1
def wrW (M : fR) (x y z : Int32) : Int32 := if (rgB x (shM M) && wrB y z) = true then wrI (rs M 8 (k0 0)) (8 * xN x + 4 * xN y + xN z) else 0
set_option maxHeartbeats 4000000 in
set_option maxRecDepth 100000 in
theorem c_X5_wear {l : Launch} (hl : l.stackTraces = false) (Γ : fG) (B0 : Nat) (ad : Nat → Nat → Nat) (M : fR) (F : Nat → fO) (X : Nat × Nat → fO) (x y z : Int32) (hI : MI M) (h2 : 2 ≤ M 4 0 0 * M 5 0 0) : f_Met l yX5_wear cX5_wear 5 (some .int) 4 0 0 95 Γ B0 [.ref (ad 30 0), .int x, .int y, .int z] (wj F X (mw Γ ad M)) (f_rI (fun r9 w9 => r9 = wrW M x y z ∧ ∃ T : Nat → Nat → Nat, (∀ k, T k 0 < 134217728) ∧ w9 = wj F X (mw Γ ad (rs (wrM M x y z) 23 T)))) f_no := by
  refine f_of hl (by decide) rfl (Nat.le_of_ble_eq_true rfl) (fun X9 C E hh hnm => ?_)
  generalize (f_s X9).heap = H, ([] : List Loc) = locs at hh ⊢
  obtain ⟨i2, i45, i9, i10, i13, i14, i17, i0, i1, -⟩ := id hI
  have h16 := shM_16 hI h2
  refine r_aload_n C dX5_wear_0 rfl ?_
  refine r_aload_n C dX5_wear_1 rfl ?_
  refine r_iload_n C dX5_wear_2 rfl ?_
  refine r_callV C E hh (c_X5_isSheet E.2.1 Γ B0 ad M F X i2 i45 x) lk_X5_132 (tr := .inr (.inr 0)) rfl rfl rfl rfl (Nat.le_of_ble_eq_true rfl) dX5_wear_3 ⟨by decide, by decide⟩ ⟨by omega, by omega⟩ (fun _ _ z9 => False.elim z9) (kk_is (fun H locs hs9 hh => ?_))
  refine r_iload_n C dX5_wear_6 rfl ?_
  refine r_callS C E hh (c_X5_isSide E.2.1 Γ B0 _ y) lk_X5_135 rfl rfl (Nat.le_of_ble_eq_true rfl) dX5_wear_7 ⟨by decide, by decide⟩ ⟨by omega, by omega⟩ (fun _ _ z9 => False.elim z9) (kk_is (fun H locs hs9 hh => ?_))
  refine r_if_eqB (tgt := 24) C dX5_wear_10 (by decide) (fun h10 => ?_) (fun h10 => ?_)
  · have hv : wrB y z = false := by unfold wrB; rw [h10]; rfl
    refine r_iconst C (bI (wrB y z)) dX5_wear_24 (by rw [hv]; rfl) ?_
    refine r_iconst C (bI true) dX5_wear_25 rfl ?_
    refine r_callV C E hh (c_X5_goes E.2.1 Γ B0 ad M F X (rgB x (shM M)) (wrB y z) true) lk_X5_101 (tr := .inr (.inr 0)) rfl rfl rfl rfl (Nat.le_of_ble_eq_true rfl) dX5_wear_26 ⟨by decide, by decide⟩ ⟨by omega, by omega⟩ (fun _ _ z9 => False.elim z9) (kk_is (fun H locs hs9 hh => ?_))
    rw [Bool.and_true]
    refine r_if_neB (tgt := 34) C dX5_wear_29 (by decide) (fun h29 => ?_) (fun h29 => ?_)
    · have hq := h29
      unfold wrB at hq
      rw [Bool.and_eq_true, Bool.and_eq_true] at hq
      obtain ⟨jx, hjx, ex⟩ := rg_of ((rgB_rg (by omega)).mp hq.1) (by omega)
      obtain ⟨jy, hjy, ey⟩ := rg_of ((rgB_rg (by decide)).mp hq.2.1) (by decide)
      obtain ⟨jz, hjz, ez⟩ := rg_of ((rgB_rg (by decide)).mp hq.2.2) (by decide)
      have e1 : xN x = jx := by rw [ex]; exact xN_nI (by omega)
      have e2 : xN y = jy := by rw [ey]; exact xN_nI (by omega)
      have e3 : xN z = jz := by rw [ez]; exact xN_nI (by omega)
      have hq2 := h29
      rw [Bool.and_eq_true] at hq2
      have ewr : wrM M x y z = rs M 8 (k0 0) := by unfold wrM; rw [hq2.1, hq2.2]; rfl
      replace hh : f_HS Γ B0 (wj F X (mw Γ ad (rs M 8 (k0 0)))) X9 H locs := by
        rw [← ewr]; exact hh
      have hI0 : MI (rs M 8 (k0 0)) := hI
      have ew : wrW M x y z = wrI (rs M 8 (k0 0)) (8 * jx + 4 * jy + jz) := by unfold wrW; rw [if_pos h29, e1, e2, e3]
      rw [ex, ey, ez]
      refine r_iload_n C dX5_wear_34 rfl ?_
      refine r_iload_n C dX5_wear_35 rfl ?_
      refine r_iload_n C dX5_wear_36 rfl ?_
      refine r_callS C E hh (c_X5_plate E.2.1 Γ B0 _ jx jy jz) lk_X5_185 rfl rfl (Nat.le_of_ble_eq_true rfl) dX5_wear_37 ⟨by decide, by decide⟩ ⟨by omega, by omega⟩ (fun _ _ z9 => False.elim z9) (kk_is (fun H locs hs9 hh => ?_))
      refine r_istore C dX5_wear_40 rfl rfl ?_
      refine r_aload_n C dX5_wear_42 rfl ?_
      refine r_iload C dX5_wear_43 rfl ?_
      refine r_callV C E hh (c_X5_isGood E.2.1 Γ B0 ad (rs M 8 (k0 0)) F X (8 * jx + 4 * jy + jz) (by omega) hI0) lk_X5_188 (tr := .inr (.inr 0)) rfl rfl rfl rfl (Nat.le_of_ble_eq_true rfl) dX5_wear_45 ⟨by decide, by decide⟩ ⟨by omega, by omega⟩ (fun _ _ z9 => False.elim z9) (kk_is (fun H locs hs9 hh => ?_))
      refine r_if_eqB (tgt := 61) C dX5_wear_48 (by decide) (fun h48 => ?_) (fun h48 => ?_)
      · have hw : (-1 : Int32) = wrW M x y z := by rw [ew]; unfold wrI; rw [if_neg (by rw [h48]; decide)]
        refine r_iconst C (-1) dX5_wear_61 rfl ?_
        exact r_iret C E hh dX5_wear_62 (by omega) (by omega) ⟨_, rfl, hw, _, MI_lnt hI0 (8 * jx + 4 * jy + jz), by rw [ewr]⟩
      · have hw : nI (M 21 (8 * jx + 4 * jy + jz) 0) = wrW M x y z := by rw [ew]; unfold wrI; rw [if_pos h48]; rfl
        refine r_aload_n C dX5_wear_51 rfl ?_
        refine g_X5_46 C hh dX5_wear_52 ?_
        refine r_iload C dX5_wear_55 rfl ?_
        refine al_m_used C hh (by omega) dX5_wear_57 ?_
        rw [show rs (rs M 8 (k0 0)) 23 (lnt (rs M 8 (k0 0)) (8 * jx + 4 * jy + jz)) 21 (8 * jx + 4 * jy + jz) 0 = M 21 (8 * jx + 4 * jy + jz) 0 from rfl]
        refine r_goto (tgt := 62) C dX5_wear_58 (by decide) ?_
        exact r_iret C E hh dX5_wear_62 (by omega) (by omega) ⟨_, rfl, hw, _, MI_lnt hI0 (8 * jx + 4 * jy + jz), by rw [ewr]⟩
    · refine r_iconst C (nI 0) dX5_wear_32 rfl ?_
      exact r_iret C E hh dX5_wear_33 (by omega) (by omega) ⟨_, rfl, by unfold wrW; rw [if_neg (by rw [h29]; decide)]; rfl, M 23, MI_23 hI, by exact congrArg (fun z => wj F X (mw Γ ad z)) (rs_id (wrM M x y z) 23).symm⟩
  · refine r_iload_n C dX5_wear_13 rfl ?_
    refine r_callS C E hh (c_X5_isColor E.2.1 Γ B0 _ z) lk_X5_179 rfl rfl (Nat.le_of_ble_eq_true rfl) dX5_wear_14 ⟨by decide, by decide⟩ ⟨by omega, by omega⟩ (fun _ _ z9 => False.elim z9) (kk_is (fun H locs hs9 hh => ?_))
    refine r_if_eqB (tgt := 24) C dX5_wear_17 (by decide) (fun h17 => ?_) (fun h17 => ?_)
    · have hv : wrB y z = false := by unfold wrB; rw [h10, h17]; rfl
      refine r_iconst C (bI (wrB y z)) dX5_wear_24 (by rw [hv]; rfl) ?_
      refine r_iconst C (bI true) dX5_wear_25 rfl ?_
      refine r_callV C E hh (c_X5_goes E.2.1 Γ B0 ad M F X (rgB x (shM M)) (wrB y z) true) lk_X5_101 (tr := .inr (.inr 0)) rfl rfl rfl rfl (Nat.le_of_ble_eq_true rfl) dX5_wear_26 ⟨by decide, by decide⟩ ⟨by omega, by omega⟩ (fun _ _ z9 => False.elim z9) (kk_is (fun H locs hs9 hh => ?_))
      rw [Bool.and_true]
      refine r_if_neB (tgt := 34) C dX5_wear_29 (by decide) (fun h29 => ?_) (fun h29 => ?_)
      · have hq := h29
        unfold wrB at hq
        rw [Bool.and_eq_true, Bool.and_eq_true] at hq
        obtain ⟨jx, hjx, ex⟩ := rg_of ((rgB_rg (by omega)).mp hq.1) (by omega)
        obtain ⟨jy, hjy, ey⟩ := rg_of ((rgB_rg (by decide)).mp hq.2.1) (by decide)
        obtain ⟨jz, hjz, ez⟩ := rg_of ((rgB_rg (by decide)).mp hq.2.2) (by decide)
        have e1 : xN x = jx := by rw [ex]; exact xN_nI (by omega)
        have e2 : xN y = jy := by rw [ey]; exact xN_nI (by omega)
        have e3 : xN z = jz := by rw [ez]; exact xN_nI (by omega)
        have hq2 := h29
        rw [Bool.and_eq_true] at hq2
        have ewr : wrM M x y z = rs M 8 (k0 0) := by unfold wrM; rw [hq2.1, hq2.2]; rfl
        replace hh : f_HS Γ B0 (wj F X (mw Γ ad (rs M 8 (k0 0)))) X9 H locs := by
          rw [← ewr]; exact hh
        have hI0 : MI (rs M 8 (k0 0)) := hI
        have ew : wrW M x y z = wrI (rs M 8 (k0 0)) (8 * jx + 4 * jy + jz) := by unfold wrW; rw [if_pos h29, e1, e2, e3]
        rw [ex, ey, ez]
        refine r_iload_n C dX5_wear_34 rfl ?_
        refine r_iload_n C dX5_wear_35 rfl ?_
        refine r_iload_n C dX5_wear_36 rfl ?_
        refine r_callS C E hh (c_X5_plate E.2.1 Γ B0 _ jx jy jz) lk_X5_185 rfl rfl (Nat.le_of_ble_eq_true rfl) dX5_wear_37 ⟨by decide, by decide⟩ ⟨by omega, by omega⟩ (fun _ _ z9 => False.elim z9) (kk_is (fun H locs hs9 hh => ?_))
        refine r_istore C dX5_wear_40 rfl rfl ?_
        refine r_aload_n C dX5_wear_42 rfl ?_
        refine r_iload C dX5_wear_43 rfl ?_
        refine r_callV C E hh (c_X5_isGood E.2.1 Γ B0 ad (rs M 8 (k0 0)) F X (8 * jx + 4 * jy + jz) (by omega) hI0) lk_X5_188 (tr := .inr (.inr 0)) rfl rfl rfl rfl (Nat.le_of_ble_eq_true rfl) dX5_wear_45 ⟨by decide, by decide⟩ ⟨by omega, by omega⟩ (fun _ _ z9 => False.elim z9) (kk_is (fun H locs hs9 hh => ?_))
        refine r_if_eqB (tgt := 61) C dX5_wear_48 (by decide) (fun h48 => ?_) (fun h48 => ?_)
        · have hw : (-1 : Int32) = wrW M x y z := by rw [ew]; unfold wrI; rw [if_neg (by rw [h48]; decide)]
          refine r_iconst C (-1) dX5_wear_61 rfl ?_
          exact r_iret C E hh dX5_wear_62 (by omega) (by omega) ⟨_, rfl, hw, _, MI_lnt hI0 (8 * jx + 4 * jy + jz), by rw [ewr]⟩
        · have hw : nI (M 21 (8 * jx + 4 * jy + jz) 0) = wrW M x y z := by rw [ew]; unfold wrI; rw [if_pos h48]; rfl
          refine r_aload_n C dX5_wear_51 rfl ?_
          refine g_X5_46 C hh dX5_wear_52 ?_
          refine r_iload C dX5_wear_55 rfl ?_
          refine al_m_used C hh (by omega) dX5_wear_57 ?_
          rw [show rs (rs M 8 (k0 0)) 23 (lnt (rs M 8 (k0 0)) (8 * jx + 4 * jy + jz)) 21 (8 * jx + 4 * jy + jz) 0 = M 21 (8 * jx + 4 * jy + jz) 0 from rfl]
          refine r_goto (tgt := 62) C dX5_wear_58 (by decide) ?_
          exact r_iret C E hh dX5_wear_62 (by omega) (by omega) ⟨_, rfl, hw, _, MI_lnt hI0 (8 * jx + 4 * jy + jz), by rw [ewr]⟩
      · refine r_iconst C (nI 0) dX5_wear_32 rfl ?_
        exact r_iret C E hh dX5_wear_33 (by omega) (by omega) ⟨_, rfl, by unfold wrW; rw [if_neg (by rw [h29]; decide)]; rfl, M 23, MI_23 hI, by exact congrArg (fun z => wj F X (mw Γ ad z)) (rs_id (wrM M x y z) 23).symm⟩
    · have hv : wrB y z = true := by unfold wrB; rw [h10, h17]; rfl
      refine r_iconst C (bI (wrB y z)) dX5_wear_20 (by rw [hv]; rfl) ?_
      refine r_goto (tgt := 25) C dX5_wear_21 (by decide) ?_
      refine r_iconst C (bI true) dX5_wear_25 rfl ?_
      refine r_callV C E hh (c_X5_goes E.2.1 Γ B0 ad M F X (rgB x (shM M)) (wrB y z) true) lk_X5_101 (tr := .inr (.inr 0)) rfl rfl rfl rfl (Nat.le_of_ble_eq_true rfl) dX5_wear_26 ⟨by decide, by decide⟩ ⟨by omega, by omega⟩ (fun _ _ z9 => False.elim z9) (kk_is (fun H locs hs9 hh => ?_))
      rw [Bool.and_true]
      refine r_if_neB (tgt := 34) C dX5_wear_29 (by decide) (fun h29 => ?_) (fun h29 => ?_)
      · have hq := h29
        unfold wrB at hq
        rw [Bool.and_eq_true, Bool.and_eq_true] at hq
        obtain ⟨jx, hjx, ex⟩ := rg_of ((rgB_rg (by omega)).mp hq.1) (by omega)
        obtain ⟨jy, hjy, ey⟩ := rg_of ((rgB_rg (by decide)).mp hq.2.1) (by decide)
        obtain ⟨jz, hjz, ez⟩ := rg_of ((rgB_rg (by decide)).mp hq.2.2) (by decide)
        have e1 : xN x = jx := by rw [ex]; exact xN_nI (by omega)
        have e2 : xN y = jy := by rw [ey]; exact xN_nI (by omega)
        have e3 : xN z = jz := by rw [ez]; exact xN_nI (by omega)
        have hq2 := h29
        rw [Bool.and_eq_true] at hq2
        have ewr : wrM M x y z = rs M 8 (k0 0) := by unfold wrM; rw [hq2.1, hq2.2]; rfl
        replace hh : f_HS Γ B0 (wj F X (mw Γ ad (rs M 8 (k0 0)))) X9 H locs := by
          rw [← ewr]; exact hh
        have hI0 : MI (rs M 8 (k0 0)) := hI
        have ew : wrW M x y z = wrI (rs M 8 (k0 0)) (8 * jx + 4 * jy + jz) := by unfold wrW; rw [if_pos h29, e1, e2, e3]
        rw [ex, ey, ez]
        refine r_iload_n C dX5_wear_34 rfl ?_
        refine r_iload_n C dX5_wear_35 rfl ?_
        refine r_iload_n C dX5_wear_36 rfl ?_
        refine r_callS C E hh (c_X5_plate E.2.1 Γ B0 _ jx jy jz) lk_X5_185 rfl rfl (Nat.le_of_ble_eq_true rfl) dX5_wear_37 ⟨by decide, by decide⟩ ⟨by omega, by omega⟩ (fun _ _ z9 => False.elim z9) (kk_is (fun H locs hs9 hh => ?_))
        refine r_istore C dX5_wear_40 rfl rfl ?_
        refine r_aload_n C dX5_wear_42 rfl ?_
        refine r_iload C dX5_wear_43 rfl ?_
        refine r_callV C E hh (c_X5_isGood E.2.1 Γ B0 ad (rs M 8 (k0 0)) F X (8 * jx + 4 * jy + jz) (by omega) hI0) lk_X5_188 (tr := .inr (.inr 0)) rfl rfl rfl rfl (Nat.le_of_ble_eq_true rfl) dX5_wear_45 ⟨by decide, by decide⟩ ⟨by omega, by omega⟩ (fun _ _ z9 => False.elim z9) (kk_is (fun H locs hs9 hh => ?_))
        refine r_if_eqB (tgt := 61) C dX5_wear_48 (by decide) (fun h48 => ?_) (fun h48 => ?_)
        · have hw : (-1 : Int32) = wrW M x y z := by rw [ew]; unfold wrI; rw [if_neg (by rw [h48]; decide)]
          refine r_iconst C (-1) dX5_wear_61 rfl ?_
          exact r_iret C E hh dX5_wear_62 (by omega) (by omega) ⟨_, rfl, hw, _, MI_lnt hI0 (8 * jx + 4 * jy + jz), by rw [ewr]⟩
        · have hw : nI (M 21 (8 * jx + 4 * jy + jz) 0) = wrW M x y z := by rw [ew]; unfold wrI; rw [if_pos h48]; rfl
          refine r_aload_n C dX5_wear_51 rfl ?_
          refine g_X5_46 C hh dX5_wear_52 ?_
          refine r_iload C dX5_wear_55 rfl ?_
          refine al_m_used C hh (by omega) dX5_wear_57 ?_
          rw [show rs (rs M 8 (k0 0)) 23 (lnt (rs M 8 (k0 0)) (8 * jx + 4 * jy + jz)) 21 (8 * jx + 4 * jy + jz) 0 = M 21 (8 * jx + 4 * jy + jz) 0 from rfl]
          refine r_goto (tgt := 62) C dX5_wear_58 (by decide) ?_
          exact r_iret C E hh dX5_wear_62 (by omega) (by omega) ⟨_, rfl, hw, _, MI_lnt hI0 (8 * jx + 4 * jy + jz), by rw [ewr]⟩
      · refine r_iconst C (nI 0) dX5_wear_32 rfl ?_
        exact r_iret C E hh dX5_wear_33 (by omega) (by omega) ⟨_, rfl, by unfold wrW; rw [if_neg (by rw [h29]; decide)]; rfl, M 23, MI_23 hI, by exact congrArg (fun z => wj F X (mw Γ ad z)) (rs_id (wrM M x y z) 23).symm⟩

def cpk (M : fR) (s m : Nat) : Nat → Bool
  | 0 => rdY M s
  | x + 1 => cpk M s m x && (decide (lnn M (8 * s + x) = 0) || (gdM M (8 * s + x) && decide (M 21 (8 * s + x) 0 + m ≤ 1000)))
def prB (M : fR) (s m : Nat) : Bool := cpk M s m 8
theorem cpk_t {M : fR} {s m : Nat} : ∀ {x : Nat}, cpk M s m x = true → ∀ y, y < x → lnn M (8 * s + y) = 0 ∨ M 21 (8 * s + y) 0 + m ≤ 1000
  | 0, _, y, hy => absurd hy (Nat.not_lt_zero y)
  | x + 1, h, y, hy => by
    have h' : (cpk M s m x && (decide (lnn M (8 * s + x) = 0) || (gdM M (8 * s + x) && decide (M 21 (8 * s + x) 0 + m ≤ 1000)))) = true := h
    rw [Bool.and_eq_true, Bool.or_eq_true, Bool.and_eq_true, decide_eq_true_iff, decide_eq_true_iff] at h'
    by_cases z : y = x
    · rw [z]
      rcases h'.2 with q | q
      · exact Or.inl q
      · exact Or.inr q.2
    · exact cpk_t h'.1 y (by omega)
set_option maxHeartbeats 4000000 in
set_option maxRecDepth 100000 in
theorem c_X5_canPrint {l : Launch} (hl : l.stackTraces = false) (Γ : fG) (B0 : Nat) (ad : Nat → Nat → Nat) (M : fR) (F : Nat → fO) (X : Nat × Nat → fO) (jx m : Nat) (hjx : jx < 16) (hm : m ≤ 500) (hI : MI M) : f_Met l yX5_canPrint cX5_canPrint 5 (some .boolean) 5 0 0 112 Γ B0 [.ref (ad 30 0), .int (nI (jx)), .int (nI (m))] (wj F X (mw Γ ad M)) (f_rI (fun r9 w9 => r9 = bI (prB M jx m) ∧ ∃ T : Nat → Nat → Nat, (∀ k, T k 0 < 134217728) ∧ w9 = wj F X (mw Γ ad (rs M 23 T)))) f_no := by
  refine f_of hl (by decide) rfl (Nat.le_of_ble_eq_true rfl) (fun X9 C E hh hnm => ?_)
  generalize (f_s X9).heap = H, ([] : List Loc) = locs at hh ⊢
  obtain ⟨i2, i45, i9, i10, i13, i14, i17, i0, i1, -⟩ := id hI
  obtain ⟨-, -, -, -, -, -, -, -, -, -, i20, -⟩ := id hI
  refine r_aload_n C dX5_canPrint_0 rfl ?_
  refine r_iload_n C dX5_canPrint_1 rfl ?_
  refine r_callV C E hh (c_X5_isReadyNow E.2.1 Γ B0 ad M F X jx (by omega) hI) lk_X5_161 (tr := .inr (.inr 0)) rfl rfl rfl rfl (Nat.le_of_ble_eq_true rfl) dX5_canPrint_2 ⟨by decide, by decide⟩ ⟨by omega, by omega⟩ (fun _ _ z9 => False.elim z9) (kk_is (fun H locs hs9 hh => ?_))
  refine r_istore_n C dX5_canPrint_5 rfl rfl ?_
  refine r_iload_n C dX5_canPrint_6 rfl ?_
  refine r_iconst C (nI 0) dX5_canPrint_7 rfl ?_
  refine r_iconst C (nI 0) dX5_canPrint_8 rfl ?_
  refine r_callS C E hh (c_X5_plate E.2.1 Γ B0 _ jx 0 0) lk_X5_185 rfl rfl (Nat.le_of_ble_eq_true rfl) dX5_canPrint_9 ⟨by decide, by decide⟩ ⟨by omega, by omega⟩ (fun _ _ z9 => False.elim z9) (kk_is (fun H locs hs9 hh => ?_))
  rw [show 8 * jx + 4 * 0 + 0 = 8 * jx + 0 from rfl]
  refine r_istore C dX5_canPrint_12 rfl rfl ?_
  have lp14 : ∀ (d9 : Nat) (x : Nat) (T : Nat → Nat → Nat) (H : Heap) (locs : List Loc), 8 - x < d9 → x ≤ 8 → (∀ k, T k 0 < 134217728) → f_HS Γ B0 (wj F X (mw Γ ad (rs M 23 T))) X9 H locs → f_W X9 H locs 0 0 14 [some (.ref (ad 30 0)), some (.int (nI (jx))), some (.int (nI (m))), some (.int (bI (cpk M jx m x))), some (.int (nI (8 * jx + x)))] [] := by
    intro d9
    induction d9 with
    | zero => intro x T H locs hd9 hl hT hh; exact absurd hd9 (Nat.not_lt_zero _)
    | succ d9 ih14 =>
      intro x T H locs hd9 hl hT hh
      have hnn : lnn M (8 * jx + x) ≤ 16 := Nat.le_trans (lnN_le _ _ _) i45.2
      have j20 := i20 (8 * jx + x)
      refine r_iload C dX5_canPrint_14 rfl ?_
      refine r_iload_n C dX5_canPrint_16 rfl ?_
      refine r_iconst C (nI 1) dX5_canPrint_17 rfl ?_
      refine r_iaddN C dX5_canPrint_18 ?_
      refine r_iconst C (nI 0) dX5_canPrint_19 rfl ?_
      refine r_iconst C (nI 0) dX5_canPrint_20 rfl ?_
      refine r_callS C E hh (c_X5_plate E.2.1 Γ B0 _ (jx + 1) 0 0) lk_X5_185 rfl rfl (Nat.le_of_ble_eq_true rfl) dX5_canPrint_21 ⟨by decide, by decide⟩ ⟨by omega, by omega⟩ (fun _ _ z9 => False.elim z9) (kk_is (fun H locs hs9 hh => ?_))
      rw [show 8 * (jx + 1) + 4 * 0 + 0 = 8 * jx + 8 by omega]
      refine r_icmp_geN (tgt := 76) C dX5_canPrint_24 (by decide) (by omega) (by omega) (fun h24 => ?_) (fun h24 => ?_)
      · have x8 : x = 8 := by omega
        refine r_iload_n C dX5_canPrint_76 rfl ?_
        exact r_zret C E hh dX5_canPrint_77 (by omega) (by omega) ⟨_, rfl, by rw [x8]; rfl, T, hT, rfl⟩
      · refine r_iload_n C dX5_canPrint_27 rfl ?_
        refine r_if_eqB (tgt := 68) C dX5_canPrint_28 (by decide) (fun h28 => ?_) (fun h28 => ?_)
        · have hv : cpk M jx m (x + 1) = false := by
            show (cpk M jx m x && (decide (lnn M (8 * jx + x) = 0) || (gdM M (8 * jx + x) && decide (M 21 (8 * jx + x) 0 + m ≤ 1000)))) = _
            rw [h28, Bool.false_and]
          have hU := hT
          refine r_iconst C (bI (cpk M jx m (x + 1))) dX5_canPrint_68 (by rw [hv]; rfl) ?_
          refine r_istore_n C dX5_canPrint_69 rfl rfl ?_
          refine r_iincN C dX5_canPrint_70 rfl rfl ?_
          refine r_goto (tgt := 14) C dX5_canPrint_73 (by decide) ?_
          exact ih14 (x + 1) _ _ _ (by omega) (by omega) hU hh
        · refine r_aload_n C dX5_canPrint_31 rfl ?_
          refine r_iload C dX5_canPrint_32 rfl ?_
          refine r_callV C E hh (c_X5_laysNow E.2.1 Γ B0 ad (rs M 23 T) F X (8 * jx + x) (by omega) (MI_rs23 hI hT)) lk_X5_182 (tr := .inr (.inr 0)) rfl rfl rfl rfl (Nat.le_of_ble_eq_true rfl) dX5_canPrint_34 ⟨by decide, by decide⟩ ⟨by omega, by omega⟩ (fun _ _ z9 => False.elim z9) (kk_is (fun H locs hs9 hh => ?_))
          rw [lnn_23]
          rw [rs23] at hh
          have hU1 := MI_lnt (MI_rs23 hI hT) (8 * jx + x)
          generalize lnt (rs M 23 T) (8 * jx + x) = U1 at hh hU1
          refine r_if_eqN (tgt := 64) C dX5_canPrint_37 (by decide) (by omega) (fun h37 => ?_) (fun h37 => ?_)
          · have hv : cpk M jx m (x + 1) = true := by
              show (cpk M jx m x && (decide (lnn M (8 * jx + x) = 0) || (gdM M (8 * jx + x) && decide (M 21 (8 * jx + x) 0 + m ≤ 1000)))) = _
              rw [h28, decide_eq_true h37]; rfl
            have hU := hU1
            refine r_iconst C (bI (cpk M jx m (x + 1))) dX5_canPrint_64 (by rw [hv]; rfl) ?_
            refine r_goto (tgt := 69) C dX5_canPrint_65 (by decide) ?_
            refine r_istore_n C dX5_canPrint_69 rfl rfl ?_
            refine r_iincN C dX5_canPrint_70 rfl rfl ?_
            refine r_goto (tgt := 14) C dX5_canPrint_73 (by decide) ?_
            exact ih14 (x + 1) _ _ _ (by omega) (by omega) hU hh
          · refine r_aload_n C dX5_canPrint_40 rfl ?_
            refine r_iload C dX5_canPrint_41 rfl ?_
            refine r_callV C E hh (c_X5_isGood E.2.1 Γ B0 ad (rs M 23 U1) F X (8 * jx + x) (by omega) (MI_rs23 hI hU1)) lk_X5_188 (tr := .inr (.inr 0)) rfl rfl rfl rfl (Nat.le_of_ble_eq_true rfl) dX5_canPrint_43 ⟨by decide, by decide⟩ ⟨by omega, by omega⟩ (fun _ _ z9 => False.elim z9) (kk_is (fun H locs hs9 hh => ?_))
            rw [gdM_23]
            rw [rs23] at hh
            have hU2 := MI_lnt (MI_rs23 hI hU1) (8 * jx + x)
            generalize lnt (rs M 23 U1) (8 * jx + x) = U2 at hh hU2
            have hU := hU2
            refine r_if_eqB (tgt := 68) C dX5_canPrint_46 (by decide) (fun h46 => ?_) (fun h46 => ?_)
            · have hv : cpk M jx m (x + 1) = false := by
                show (cpk M jx m x && (decide (lnn M (8 * jx + x) = 0) || (gdM M (8 * jx + x) && decide (M 21 (8 * jx + x) 0 + m ≤ 1000)))) = _
                rw [h46, decide_eq_false h37, Bool.false_and, Bool.or_false, Bool.and_false]
              refine r_iconst C (bI (cpk M jx m (x + 1))) dX5_canPrint_68 (by rw [hv]; rfl) ?_
              refine r_istore_n C dX5_canPrint_69 rfl rfl ?_
              refine r_iincN C dX5_canPrint_70 rfl rfl ?_
              refine r_goto (tgt := 14) C dX5_canPrint_73 (by decide) ?_
              exact ih14 (x + 1) _ _ _ (by omega) (by omega) hU hh
            · refine r_aload_n C dX5_canPrint_49 rfl ?_
              refine g_X5_46 C hh dX5_canPrint_50 ?_
              refine r_iload C dX5_canPrint_53 rfl ?_
              refine al_m_used C hh (by omega) dX5_canPrint_55 ?_
              rw [show (rs M 23 U2) 21 (8 * jx + x) 0 = M 21 (8 * jx + x) 0 from rfl]
              refine r_iload_n C dX5_canPrint_56 rfl ?_
              refine r_iaddN C dX5_canPrint_57 ?_
              refine r_sipush C (nI 1000) dX5_canPrint_58 rfl ?_
              refine r_icmp_gtN (tgt := 68) C dX5_canPrint_61 (by decide) (by omega) (by omega) (fun h61 => ?_) (fun h61 => ?_)
              · have hv : cpk M jx m (x + 1) = false := by
                  show (cpk M jx m x && (decide (lnn M (8 * jx + x) = 0) || (gdM M (8 * jx + x) && decide (M 21 (8 * jx + x) 0 + m ≤ 1000)))) = _
                  rw [decide_eq_false h37, decide_eq_false (p := M 21 (8 * jx + x) 0 + m ≤ 1000) (by omega), Bool.and_false, Bool.or_false, Bool.and_false]
                refine r_iconst C (bI (cpk M jx m (x + 1))) dX5_canPrint_68 (by rw [hv]; rfl) ?_
                refine r_istore_n C dX5_canPrint_69 rfl rfl ?_
                refine r_iincN C dX5_canPrint_70 rfl rfl ?_
                refine r_goto (tgt := 14) C dX5_canPrint_73 (by decide) ?_
                exact ih14 (x + 1) _ _ _ (by omega) (by omega) hU hh
              · have hv : cpk M jx m (x + 1) = true := by
                  show (cpk M jx m x && (decide (lnn M (8 * jx + x) = 0) || (gdM M (8 * jx + x) && decide (M 21 (8 * jx + x) 0 + m ≤ 1000)))) = _
                  rw [h28, h46, decide_eq_true (p := M 21 (8 * jx + x) 0 + m ≤ 1000) (by omega), Bool.true_and, Bool.and_self, Bool.or_true]
                refine r_iconst C (bI (cpk M jx m (x + 1))) dX5_canPrint_64 (by rw [hv]; rfl) ?_
                refine r_goto (tgt := 69) C dX5_canPrint_65 (by decide) ?_
                refine r_istore_n C dX5_canPrint_69 rfl rfl ?_
                refine r_iincN C dX5_canPrint_70 rfl rfl ?_
                refine r_goto (tgt := 14) C dX5_canPrint_73 (by decide) ?_
                exact ih14 (x + 1) _ _ _ (by omega) (by omega) hU hh
  exact lp14 9 0 (M 23) _ _ (by omega) (by omega) (MI_23 hI) (by rw [rs_id]; exact hh)

def puT (M : fR) (s m n : Nat) : Nat → Nat → Nat := fun t j => if 8 * s ≤ t ∧ t < 8 * s + n then M 21 t 0 + (if lnn M t = 0 then 0 else m) else M 21 t j
theorem puT_0 (M : fR) (s m : Nat) : rs M 21 (puT M s m 0) = M := by
  rw [show puT M s m 0 = M 21 by funext t j; exact if_neg (by omega), rs_id]
theorem puT_n (M : fR) (s m n : Nat) : puT M s m n (8 * s + n) 0 = M 21 (8 * s + n) 0 := if_neg (by omega)
theorem puT_s (M : fR) (s m n v : Nat) (hv : (if lnn M (8 * s + n) = 0 then 0 else m) = v) : u1 (puT M s m n) (8 * s + n) (M 21 (8 * s + n) 0 + v) = puT M s m (n + 1) := by
  funext i j
  unfold u1 puT
  by_cases h : i = 8 * s + n
  · rw [if_pos h, if_pos (show 8 * s ≤ i ∧ i < 8 * s + (n + 1) by omega), h, hv]
  · rw [if_neg h]
    by_cases h2 : 8 * s ≤ i ∧ i < 8 * s + n
    · rw [if_pos h2, if_pos (show 8 * s ≤ i ∧ i < 8 * s + (n + 1) by omega)]
    · rw [if_neg h2, if_neg (show ¬ (8 * s ≤ i ∧ i < 8 * s + (n + 1)) by omega)]
theorem MI_puT {M : fR} (hI : MI M) {s m : Nat} (h : prB M s m = true) {n : Nat} (hn : n ≤ 8) : MI (rs M 21 (puT M s m n)) := by
  obtain ⟨a1, a2, a3, a4, a5, a6, a7, a8, a9, a10, a11, a12, a13, a14⟩ := hI
  refine ⟨a1, a2, a3, a4, a5, a6, a7, a8, a9, a10, fun k => ⟨(a11 k).1, ?_⟩, a12, a13, a14⟩
  show puT M s m n k 0 ≤ 1000
  have h1 := (a11 k).2
  unfold puT
  by_cases h2 : 8 * s ≤ k ∧ k < 8 * s + n
  · rw [if_pos h2]
    have h3 := cpk_t (show cpk M s m 8 = true from h) (k - 8 * s) (by omega)
    rw [show 8 * s + (k - 8 * s) = k by omega] at h3
    split <;> omega
  · rw [if_neg h2]; exact h1
theorem sL_21 (M : fR) (f : Nat → Nat → Nat) : sL (rs M 21 f) M := fun k _ _ _ h _ _ => rs_ne M f h
theorem sL_8 (M : fR) (f : Nat → Nat → Nat) : sL (rs M 8 f) M := fun k _ h _ _ _ _ => rs_ne M f h
theorem rdM_8 (M : fR) (f : Nat → Nat → Nat) (s : Nat) : ∀ x, rdM (rs M 8 f) s x = rdM M s x
  | 0 => rfl
  | x + 1 => by
    show (rdM (rs M 8 f) s x && fnM M (M 9 (bsM M s + x) 0) 4) = (rdM M s x && fnM M (M 9 (bsM M s + x) 0) 4)
    rw [rdM_8 M f s x]
theorem rdY_8 (M : fR) (f : Nat → Nat → Nat) (s : Nat) : rdY (rs M 8 f) s = rdY M s := rdM_8 M f s _
theorem lnT_8 (M : fR) (f : Nat → Nat → Nat) (t : Nat) : ∀ l, lnT (rs M 8 f) t l = lnT M t l
  | 0 => rfl
  | l + 1 => by
    show (if lnC M t l = true then u1 (lnT (rs M 8 f) t l) (lnN (rs M 8 f) t l) (lnv M t l) else lnT (rs M 8 f) t l) = _
    rw [lnT_8 M f t l, sL_N (sL_8 M f) t l]
    rfl
theorem gdk_8 (M : fR) (f : Nat → Nat → Nat) (t : Nat) : ∀ k, gdk (rs M 8 f) t k = gdk M t k
  | 0 => by
    show (decide (0 < lnn (rs M 8 f) t) && (decide (M 20 t 0 = lnn (rs M 8 f) t) && decide (M 21 t 0 < 1000))) = _
    rw [sL_n (sL_8 M f)]; rfl
  | k + 1 => by
    show (gdk (rs M 8 f) t k && decide (M 22 (16 * t + k) 0 = lnt (rs M 8 f) t k 0)) = (gdk M t k && decide (M 22 (16 * t + k) 0 = lnt M t k 0))
    rw [gdk_8 M f t k, show lnt (rs M 8 f) t = lnt M t from lnT_8 M f t _]
theorem gdM_8 (M : fR) (f : Nat → Nat → Nat) (t : Nat) : gdM (rs M 8 f) t = gdM M t := by
  unfold gdM
  rw [sL_n (sL_8 M f)]
  exact gdk_8 M f t _
theorem cpk_8 (M : fR) (f : Nat → Nat → Nat) (s m : Nat) : ∀ x, cpk (rs M 8 f) s m x = cpk M s m x
  | 0 => rdY_8 M f s
  | x + 1 => by
    show (cpk (rs M 8 f) s m x && (decide (lnn (rs M 8 f) (8 * s + x) = 0) || (gdM (rs M 8 f) (8 * s + x) && decide (M 21 (8 * s + x) 0 + m ≤ 1000)))) = _
    rw [cpk_8 M f s m x, sL_n (sL_8 M f), gdM_8]
    rfl
theorem prB_8 (M : fR) (f : Nat → Nat → Nat) (s m : Nat) : prB (rs M 8 f) s m = prB M s m := cpk_8 M f s m 8
def ptC (y : Int32) : Bool := inn y (nI 1) (nI 500)
def ptO (M : fR) (x y : Int32) : Bool := rgB x (shM M) && ptC y && prB M (xN x) (xN y)
def prM1 (M : fR) (s m : Nat) : fR := rs (rs M 21 (puT M s m 8)) 7 (k0 (M 7 0 0 + m))
def ptM (M : fR) (x y : Int32) : fR := if ptO M x y = true then prM1 (rs M 8 (k0 0)) (xN x) (xN y) else rs M 8 (k0 (thr (rgB x (shM M)) (ptC y) (ptO M x y)))
def ptW (M : fR) (x y : Int32) : Int32 := if ptO M x y = true then nI (M 7 0 0 + xN y) else 0
set_option maxHeartbeats 4000000 in
set_option maxRecDepth 100000 in
theorem c_X5_print_i {l : Launch} (hl : l.stackTraces = false) (Γ : fG) (B0 : Nat) (ad : Nat → Nat → Nat) (M : fR) (F : Nat → fO) (X : Nat × Nat → fO) (jx jy : Nat) (hjx : jx < shM M) (hjy : 1 ≤ jy ∧ jy ≤ 500) (hI : MI M) (h2 : 2 ≤ M 4 0 0 * M 5 0 0) : f_Met l yX5_print cX5_print 6 (some .int) 6 0 0 136 Γ B0 [.ref (ad 30 0), .int (nI (jx)), .int (nI (jy))] (wj F X (mw Γ ad M)) (f_rI (fun r9 w9 => r9 = ptW M (nI jx) (nI jy) ∧ ∃ T : Nat → Nat → Nat, (∀ k, T k 0 < 134217728) ∧ w9 = wj F X (mw Γ ad (rs (ptM M (nI jx) (nI jy)) 23 T)))) f_no := by
  refine f_of hl (by decide) rfl (Nat.le_of_ble_eq_true rfl) (fun X9 C E hh hnm => ?_)
  generalize (f_s X9).heap = H, ([] : List Loc) = locs at hh ⊢
  obtain ⟨i2, i45, i9, i10, i13, i14, i17, i0, i1, -⟩ := id hI
  have h16 := shM_16 hI h2
  have e1 : xN (nI jx) = jx := xN_nI (by omega)
  have e2 : xN (nI jy) = jy := xN_nI (by omega)
  have hr : rgB (nI jx) (shM M) = true := (rgB_rg (by omega)).mpr (rg_N hjx (by omega))
  have hr2 : ptC (nI jy) = true := decide_eq_true ⟨Int32.not_lt.mp fun z => absurd ((nI_ltI (by omega) (by decide)).mp z) (by omega), Int32.not_lt.mp fun z => absurd ((nI_ltI (by decide) (by omega)).mp z) (by omega)⟩
  have eo : ptO M (nI jx) (nI jy) = prB M jx jy := by unfold ptO; rw [hr, hr2, e1, e2]; rfl
  refine r_aload_n C dX5_print_0 rfl ?_
  refine r_iload_n C dX5_print_1 rfl ?_
  refine r_callV C E hh (c_X5_isSheet E.2.1 Γ B0 ad M F X i2 i45 (nI jx)) lk_X5_132 (tr := .inr (.inr 0)) rfl rfl rfl rfl (Nat.le_of_ble_eq_true rfl) dX5_print_2 ⟨by decide, by decide⟩ ⟨by omega, by omega⟩ (fun _ _ z9 => False.elim z9) (kk_is (fun H locs hs9 hh => ?_))
  rw [hr]
  refine r_istore_n C dX5_print_5 rfl rfl ?_
  refine r_iload_n C dX5_print_6 rfl ?_
  refine r_iconst C (nI 1) dX5_print_7 rfl ?_
  refine r_sipush C (nI 500) dX5_print_8 rfl ?_
  refine r_callS C E hh (c_X5_in E.2.1 Γ B0 _ (nI jy) (nI 1) (nI 500)) lk_X5_73 rfl rfl (Nat.le_of_ble_eq_true rfl) dX5_print_11 ⟨by decide, by decide⟩ ⟨by omega, by omega⟩ (fun _ _ z9 => False.elim z9) (kk_is (fun H locs hs9 hh => ?_))
  rw [show inn (nI jy) (nI 1) (nI 500) = true from hr2]
  refine r_istore C dX5_print_14 rfl rfl ?_
  refine r_aload_n C dX5_print_16 rfl ?_
  refine r_iload_n C dX5_print_17 rfl ?_
  refine r_iload C dX5_print_18 rfl ?_
  refine r_iload_n C dX5_print_20 rfl ?_
  refine r_if_eqB (tgt := 42) C dX5_print_21 (by decide) (fun h21 => ?_) (fun h21 => ?_)
  · cases h21
  · refine r_iload C dX5_print_24 rfl ?_
    refine r_if_eqB (tgt := 42) C dX5_print_26 (by decide) (fun h26 => ?_) (fun h26 => ?_)
    · cases h26
    · refine r_aload_n C dX5_print_29 rfl ?_
      refine r_iload_n C dX5_print_30 rfl ?_
      refine r_iload_n C dX5_print_31 rfl ?_
      refine r_callV C E hh (c_X5_canPrint E.2.1 Γ B0 ad M F X jx jy (by omega) hjy.2 hI) lk_X5_194 (tr := .inr (.inr 0)) rfl rfl rfl rfl (Nat.le_of_ble_eq_true rfl) dX5_print_32 ⟨by decide, by decide⟩ ⟨by omega, by omega⟩ (fun _ _ z9 => False.elim z9) (kk_rI (fun r9 w9 H locs hs9 hp9 hh => ?_))
      obtain ⟨rfl, T0, hT0, rfl⟩ := hp9
      have jn43 : ∀ (H : Heap) (locs : List Loc), f_HS Γ B0 (wj F X (mw Γ ad (rs M 23 T0))) X9 H locs → f_W X9 H locs 0 0 43 [some (.ref (ad 30 0)), some (.int (nI jx)), some (.int (nI jy)), none, none, none] [.int (bI (prB M jx jy)), .int (bI true), .int (bI true), .ref (ad 30 0)] := by
        intro H locs hh
        refine r_callV C E hh (c_X5_goes E.2.1 Γ B0 ad (rs M 23 T0) F X true true (prB M jx jy)) lk_X5_101 (tr := .inr (.inr 0)) rfl rfl rfl rfl (Nat.le_of_ble_eq_true rfl) dX5_print_43 ⟨by decide, by decide⟩ ⟨by omega, by omega⟩ (fun _ _ z9 => False.elim z9) (kk_is (fun H locs hs9 hh => ?_))
        rw [show (true && true && prB M jx jy) = prB M jx jy from rfl]
        rw [rs_com _ (show 23 ≠ 8 by decide)] at hh
        refine r_if_neB (tgt := 51) C dX5_print_46 (by decide) (fun h46 => ?_) (fun h46 => ?_)
        · rw [h46, show thr true true true = 0 from rfl] at hh
          have h46q : prB (rs M 8 (k0 0)) jx jy = true := (prB_8 _ _ _ _).trans h46
          refine r_iload_n C dX5_print_51 rfl ?_
          refine r_iconst C (nI 0) dX5_print_52 rfl ?_
          refine r_iconst C (nI 0) dX5_print_53 rfl ?_
          refine r_callS C E hh (c_X5_plate E.2.1 Γ B0 _ jx 0 0) lk_X5_185 rfl rfl (Nat.le_of_ble_eq_true rfl) dX5_print_54 ⟨by decide, by decide⟩ ⟨by omega, by omega⟩ (fun _ _ z9 => False.elim z9) (kk_is (fun H locs hs9 hh => ?_))
          rw [show 8 * jx + 4 * 0 + 0 = 8 * jx + 0 from rfl]
          refine r_istore C dX5_print_57 rfl rfl ?_
          have lp59 : ∀ (d9 : Nat) (x : Nat) (T : Nat → Nat → Nat) (H : Heap) (locs : List Loc), 8 - x < d9 → x ≤ 8 → (∀ k, T k 0 < 134217728) → f_HS Γ B0 (wj F X (mw Γ ad (rs (rs (rs M 8 (k0 0)) 21 (puT (rs M 8 (k0 0)) jx jy x)) 23 T))) X9 H locs → f_W X9 H locs 0 0 59 [some (.ref (ad 30 0)), some (.int (nI (jx))), some (.int (nI (jy))), none, none, some (.int (nI (8 * jx + x)))] [] := by
            intro d9
            induction d9 with
            | zero => intro x T H locs hd9 hl hT hh; exact absurd hd9 (Nat.not_lt_zero _)
            | succ d9 ih59 =>
              intro x T H locs hd9 hl hT hh
              have hZ := MI_puT (M := (rs M 8 (k0 0))) hI h46q (n := x) hl
              have hnn : lnn (rs M 8 (k0 0)) (8 * jx + x) ≤ 16 := Nat.le_trans (lnN_le _ _ _) i45.2
              refine r_iload C dX5_print_59 rfl ?_
              refine r_iload_n C dX5_print_61 rfl ?_
              refine r_iconst C (nI 1) dX5_print_62 rfl ?_
              refine r_iaddN C dX5_print_63 ?_
              refine r_iconst C (nI 0) dX5_print_64 rfl ?_
              refine r_iconst C (nI 0) dX5_print_65 rfl ?_
              refine r_callS C E hh (c_X5_plate E.2.1 Γ B0 _ (jx + 1) 0 0) lk_X5_185 rfl rfl (Nat.le_of_ble_eq_true rfl) dX5_print_66 ⟨by decide, by decide⟩ ⟨by omega, by omega⟩ (fun _ _ z9 => False.elim z9) (kk_is (fun H locs hs9 hh => ?_))
              rw [show 8 * (jx + 1) + 4 * 0 + 0 = 8 * jx + 8 by omega]
              refine r_icmp_geN (tgt := 102) C dX5_print_69 (by decide) (by omega) (by omega) (fun h69 => ?_) (fun h69 => ?_)
              · have x8 : x = 8 := by omega
                refine r_aload_n C dX5_print_102 rfl ?_
                refine r_dup C dX5_print_103 rfl ?_
                refine g_X5_197 C hh dX5_print_104 ?_
                rw [show (rs (rs (rs M 8 (k0 0)) 21 (puT (rs M 8 (k0 0)) jx jy x)) 23 T) 7 0 0 = M 7 0 0 from rfl]
                refine r_iload_n C dX5_print_107 rfl ?_
                refine r_iaddN C dX5_print_108 ?_
                refine p_X5_197 C hh dX5_print_109 (fun H locs hh => ?_)
                refine r_aload_n C dX5_print_112 rfl ?_
                refine g_X5_197 C hh dX5_print_113 ?_
                rw [show rs (rs (rs (rs M 8 (k0 0)) 21 (puT (rs M 8 (k0 0)) jx jy x)) 23 T) 7 (k0 (M 7 0 0 + jy)) 7 0 0 = M 7 0 0 + jy from rfl]
                exact r_iret C E hh dX5_print_116 (by omega) (by omega) ⟨_, rfl, by unfold ptW; rw [eo, if_pos h46, e2], T, hT, by unfold ptM prM1; rw [eo, if_pos h46, e1, e2, x8]; exact congrArg (fun z => wj F X (mw Γ ad z)) (rs_com _ (by decide) _ _)⟩
              · refine r_aload_n C dX5_print_72 rfl ?_
                refine g_X5_46 C hh dX5_print_73 ?_
                refine r_iload C dX5_print_76 rfl ?_
                refine r_dup2 C dX5_print_78 rfl rfl ?_
                refine al_m_used C hh (by omega) dX5_print_79 ?_
                rw [show (rs (rs (rs M 8 (k0 0)) 21 (puT (rs M 8 (k0 0)) jx jy x)) 23 T) 21 (8 * jx + x) 0 = M 21 (8 * jx + x) 0 from puT_n (rs M 8 (k0 0)) jx jy x]
                refine r_aload_n C dX5_print_80 rfl ?_
                refine r_iload C dX5_print_81 rfl ?_
                refine r_callV C E hh (c_X5_laysNow E.2.1 Γ B0 ad (rs (rs (rs M 8 (k0 0)) 21 (puT (rs M 8 (k0 0)) jx jy x)) 23 T) F X (8 * jx + x) (by omega) (MI_rs23 hZ hT)) lk_X5_182 (tr := .inr (.inr 0)) rfl rfl rfl rfl (Nat.le_of_ble_eq_true rfl) dX5_print_83 ⟨by decide, by decide⟩ ⟨by omega, by omega⟩ (fun _ _ z9 => False.elim z9) (kk_is (fun H locs hs9 hh => ?_))
                rw [lnn_23, sL_n (sL_21 _ _)]
                rw [rs23] at hh
                have hU1 := MI_lnt (MI_rs23 hZ hT) (8 * jx + x)
                generalize lnt (rs (rs (rs M 8 (k0 0)) 21 (puT (rs M 8 (k0 0)) jx jy x)) 23 T) (8 * jx + x) = U1 at hh hU1
                refine r_if_leN (tgt := 93) C dX5_print_86 (by decide) (by omega) (fun h86 => ?_) (fun h86 => ?_)
                · have ew : rs (rs (rs M 8 (k0 0)) 21 (puT (rs M 8 (k0 0)) jx jy (x + 1))) 23 U1 = rs (rs (rs (rs M 8 (k0 0)) 21 (puT (rs M 8 (k0 0)) jx jy x)) 23 U1) 21 (u1 (puT (rs M 8 (k0 0)) jx jy x) (8 * jx + x) (M 21 (8 * jx + x) 0 + 0)) := by
                    rw [rs_com _ (show 23 ≠ 21 by decide), rs_rs, show M 21 (8 * jx + x) 0 + 0 = (rs M 8 (k0 0)) 21 (8 * jx + x) 0 + 0 from rfl, puT_s (rs M 8 (k0 0)) jx jy x 0 (if_pos h86)]
                  refine r_iconst C (nI 0) dX5_print_93 rfl ?_
                  refine r_iaddN C dX5_print_94 ?_
                  refine as_m_used C hh (by omega) dX5_print_95 (fun H locs hh => ?_)
                  refine r_iincN C dX5_print_96 rfl rfl ?_
                  refine r_goto (tgt := 59) C dX5_print_99 (by decide) ?_
                  refine f_W.le ?_ (ih59 (x + 1) _ _ _ (by omega) (by omega) hU1 (by rw [ew]; exact hh))
                  exact (And.intro rfl (And.intro rfl (And.intro rfl (And.intro rfl trivial))))
                · have ew : rs (rs (rs M 8 (k0 0)) 21 (puT (rs M 8 (k0 0)) jx jy (x + 1))) 23 U1 = rs (rs (rs (rs M 8 (k0 0)) 21 (puT (rs M 8 (k0 0)) jx jy x)) 23 U1) 21 (u1 (puT (rs M 8 (k0 0)) jx jy x) (8 * jx + x) (M 21 (8 * jx + x) 0 + jy)) := by
                    rw [rs_com _ (show 23 ≠ 21 by decide), rs_rs, show M 21 (8 * jx + x) 0 + jy = (rs M 8 (k0 0)) 21 (8 * jx + x) 0 + jy from rfl, puT_s (rs M 8 (k0 0)) jx jy x jy (if_neg (by omega))]
                  refine r_iload_n C dX5_print_89 rfl ?_
                  refine r_goto (tgt := 94) C dX5_print_90 (by decide) ?_
                  refine r_iaddN C dX5_print_94 ?_
                  refine as_m_used C hh (by omega) dX5_print_95 (fun H locs hh => ?_)
                  refine r_iincN C dX5_print_96 rfl rfl ?_
                  refine r_goto (tgt := 59) C dX5_print_99 (by decide) ?_
                  refine f_W.le ?_ (ih59 (x + 1) _ _ _ (by omega) (by omega) hU1 (by rw [ew]; exact hh))
                  exact (And.intro rfl (And.intro rfl (And.intro rfl (And.intro rfl trivial))))
          refine f_W.le ?_ (lp59 9 0 T0 _ _ (by omega) (by omega) hT0 (by rw [puT_0]; exact hh))
          exact (And.intro rfl (And.intro rfl (And.intro rfl (And.intro rfl trivial))))
        · refine r_iconst C (nI 0) dX5_print_49 rfl ?_
          exact r_iret C E hh dX5_print_50 (by omega) (by omega) ⟨_, rfl, by unfold ptW; rw [eo, if_neg (by rw [h46]; decide)]; rfl, T0, hT0, by unfold ptM; rw [eo, if_neg (by rw [h46]; decide), hr, hr2]⟩
      refine r_if_eqB (tgt := 42) C dX5_print_35 (by decide) (fun h35 => ?_) (fun h35 => ?_)
      · have hv : prB M jx jy = false := h35
        refine r_iconst C (bI (prB M jx jy)) dX5_print_42 (by rw [hv]; rfl) ?_
        refine f_W.le ?_ (jn43 _ _ hh)
        exact (And.intro rfl (And.intro rfl (And.intro rfl trivial)))
      · have hv : prB M jx jy = true := h35
        refine r_iconst C (bI (prB M jx jy)) dX5_print_38 (by rw [hv]; rfl) ?_
        refine r_goto (tgt := 43) C dX5_print_39 (by decide) ?_
        refine f_W.le ?_ (jn43 _ _ hh)
        exact (And.intro rfl (And.intro rfl (And.intro rfl trivial)))

set_option maxHeartbeats 4000000 in
set_option maxRecDepth 100000 in
theorem c_X5_print_o {l : Launch} (hl : l.stackTraces = false) (Γ : fG) (B0 : Nat) (ad : Nat → Nat → Nat) (M : fR) (F : Nat → fO) (X : Nat × Nat → fO) (x y : Int32) (hx : (rgB x (shM M) && ptC y) = false) (hI : MI M) : f_Met l yX5_print cX5_print 6 (some .int) 3 0 0 61 Γ B0 [.ref (ad 30 0), .int x, .int y] (wj F X (mw Γ ad M)) (f_rI (fun r9 w9 => r9 = ptW M x y ∧ ∃ T : Nat → Nat → Nat, (∀ k, T k 0 < 134217728) ∧ w9 = wj F X (mw Γ ad (rs (ptM M x y) 23 T)))) f_no := by
  refine f_of hl (by decide) rfl (Nat.le_of_ble_eq_true rfl) (fun X9 C E hh hnm => ?_)
  generalize (f_s X9).heap = H, ([] : List Loc) = locs at hh ⊢
  obtain ⟨i2, i45, i9, i10, i13, i14, i17, i0, i1, -⟩ := id hI
  have hv : ptO M x y = false := by unfold ptO; rw [hx]; rfl
  refine r_aload_n C dX5_print_0 rfl ?_
  refine r_iload_n C dX5_print_1 rfl ?_
  refine r_callV C E hh (c_X5_isSheet E.2.1 Γ B0 ad M F X i2 i45 x) lk_X5_132 (tr := .inr (.inr 0)) rfl rfl rfl rfl (Nat.le_of_ble_eq_true rfl) dX5_print_2 ⟨by decide, by decide⟩ ⟨by omega, by omega⟩ (fun _ _ z9 => False.elim z9) (kk_is (fun H locs hs9 hh => ?_))
  refine r_istore_n C dX5_print_5 rfl rfl ?_
  refine r_iload_n C dX5_print_6 rfl ?_
  refine r_iconst C (nI 1) dX5_print_7 rfl ?_
  refine r_sipush C (nI 500) dX5_print_8 rfl ?_
  refine r_callS C E hh (c_X5_in E.2.1 Γ B0 _ y (nI 1) (nI 500)) lk_X5_73 rfl rfl (Nat.le_of_ble_eq_true rfl) dX5_print_11 ⟨by decide, by decide⟩ ⟨by omega, by omega⟩ (fun _ _ z9 => False.elim z9) (kk_is (fun H locs hs9 hh => ?_))
  rw [show inn y (nI 1) (nI 500) = ptC y from rfl]
  refine r_istore C dX5_print_14 rfl rfl ?_
  refine r_aload_n C dX5_print_16 rfl ?_
  refine r_iload_n C dX5_print_17 rfl ?_
  refine r_iload C dX5_print_18 rfl ?_
  refine r_iload_n C dX5_print_20 rfl ?_
  refine r_if_eqB (tgt := 42) C dX5_print_21 (by decide) (fun h21 => ?_) (fun h21 => ?_)
  · refine r_iconst C (bI (ptO M x y)) dX5_print_42 (by rw [hv]; rfl) ?_
    refine r_callV C E hh (c_X5_goes E.2.1 Γ B0 ad M F X (rgB x (shM M)) (ptC y) (ptO M x y)) lk_X5_101 (tr := .inr (.inr 0)) rfl rfl rfl rfl (Nat.le_of_ble_eq_true rfl) dX5_print_43 ⟨by decide, by decide⟩ ⟨by omega, by omega⟩ (fun _ _ z9 => False.elim z9) (kk_is (fun H locs hs9 hh => ?_))
    rw [hx, Bool.false_and]
    refine r_if_neB (tgt := 51) C dX5_print_46 (by decide) (fun h46 => ?_) (fun h46 => ?_)
    · cases h46
    · refine r_iconst C (nI 0) dX5_print_49 rfl ?_
      exact r_iret C E hh dX5_print_50 (by omega) (by omega) ⟨_, rfl, by unfold ptW; rw [if_neg (by rw [hv]; decide)]; rfl, M 23, MI_23 hI, by unfold ptM; rw [if_neg (by rw [hv]; decide)]; exact congrArg (fun z => wj F X (mw Γ ad z)) (rs_id _ 23).symm⟩
  · refine r_iload C dX5_print_24 rfl ?_
    refine r_if_eqB (tgt := 42) C dX5_print_26 (by decide) (fun h26 => ?_) (fun h26 => ?_)
    · refine r_iconst C (bI (ptO M x y)) dX5_print_42 (by rw [hv]; rfl) ?_
      refine r_callV C E hh (c_X5_goes E.2.1 Γ B0 ad M F X (rgB x (shM M)) (ptC y) (ptO M x y)) lk_X5_101 (tr := .inr (.inr 0)) rfl rfl rfl rfl (Nat.le_of_ble_eq_true rfl) dX5_print_43 ⟨by decide, by decide⟩ ⟨by omega, by omega⟩ (fun _ _ z9 => False.elim z9) (kk_is (fun H locs hs9 hh => ?_))
      rw [hx, Bool.false_and]
      refine r_if_neB (tgt := 51) C dX5_print_46 (by decide) (fun h46 => ?_) (fun h46 => ?_)
      · cases h46
      · refine r_iconst C (nI 0) dX5_print_49 rfl ?_
        exact r_iret C E hh dX5_print_50 (by omega) (by omega) ⟨_, rfl, by unfold ptW; rw [if_neg (by rw [hv]; decide)]; rfl, M 23, MI_23 hI, by unfold ptM; rw [if_neg (by rw [hv]; decide)]; exact congrArg (fun z => wj F X (mw Γ ad z)) (rs_id _ 23).symm⟩
    · exfalso
      rw [h21, h26] at hx
      cases hx

