/-! ===== the model: pageAt, pageByRule, plate ===== -/
def ptA (M : fR) (a c d : Int32) : Bool := rgB a (shM M) && (rgB c (M 4 0 0) && rgB d (M 5 0 0))
def ptV (M : fR) (a b c d : Int32) : Int32 := if (ptA M a c d && rgB b 2) = true then plJ M (xN a) (xN b) (M 5 0 0 * xN c + xN d) else 0
theorem MI_rc {M : fR} (hI : MI M) : M 4 0 0 ≤ 16 ∧ M 5 0 0 ≤ 16 := by
  have h := hI.2.1
  obtain ⟨h4, h5⟩ := mul_pos_of rfl (show 0 < M 4 0 0 * M 5 0 0 by omega)
  have a1 : M 4 0 0 * 1 ≤ M 4 0 0 * M 5 0 0 := Nat.mul_le_mul_left _ h5
  have a2 : 1 * M 5 0 0 ≤ M 4 0 0 * M 5 0 0 := Nat.mul_le_mul_right _ h4
  omega
set_option maxHeartbeats 4000000 in
set_option maxRecDepth 100000 in
theorem c_X5_pageAt {l : Launch} (hl : l.stackTraces = false) (Γ : fG) (B0 : Nat) (ad : Nat → Nat → Nat) (M : fR) (F : Nat → fO) (X : Nat × Nat → fO) (a b c d : Int32) (hI : MI M) (h2 : 2 ≤ M 4 0 0 * M 5 0 0) : f_Met l yX5_pageAt cX5_pageAt 6 (some .int) 3 0 0 61 Γ B0 [.ref (ad 30 0), .int a, .int b, .int c, .int d] (wj F X (mw Γ ad M)) (f_is (ptV M a b c d) (wj F X (mw Γ ad (rs M 8 (k0 (thr (ptA M a c d) (rgB b 2) true)))))) f_no := by
  refine f_of hl (by decide) rfl (Nat.le_of_ble_eq_true rfl) (fun X9 C E hh hnm => ?_)
  generalize (f_s X9).heap = H, ([] : List Loc) = locs at hh ⊢
  obtain ⟨i2, i45, i9, i10, i13, i14, i17, i0, i1, -⟩ := id hI
  have h16 := shM_16 hI h2
  have hrc := MI_rc hI
  refine r_aload_n C dX5_pageAt_0 rfl ?_
  refine r_iload_n C dX5_pageAt_1 rfl ?_
  refine r_callV C E hh (c_X5_isSheet E.2.1 Γ B0 ad M F X i2 i45 a) lk_X5_132 (tr := .inr (.inr 0)) rfl rfl rfl rfl (Nat.le_of_ble_eq_true rfl) dX5_pageAt_2 ⟨by decide, by decide⟩ ⟨by omega, by omega⟩ (fun _ _ z9 => False.elim z9) (kk_is (fun H locs hs9 hh => ?_))
  refine r_if_eqB (tgt := 41) C dX5_pageAt_5 (by decide) (fun h5 => ?_) (fun h5 => ?_)
  · have hv : ptA M a c d = false := by unfold ptA; rw [h5]; rfl
    refine r_iconst C (bI (ptA M a c d)) dX5_pageAt_41 (by rw [hv]; rfl) ?_
    refine r_istore C dX5_pageAt_42 rfl rfl ?_
    refine r_aload_n C dX5_pageAt_44 rfl ?_
    refine r_iload C dX5_pageAt_45 rfl ?_
    refine r_iload_n C dX5_pageAt_47 rfl ?_
    refine r_callS C E hh (c_X5_isSide E.2.1 Γ B0 _ b) lk_X5_135 rfl rfl (Nat.le_of_ble_eq_true rfl) dX5_pageAt_48 ⟨by decide, by decide⟩ ⟨by omega, by omega⟩ (fun _ _ z9 => False.elim z9) (kk_is (fun H locs hs9 hh => ?_))
    refine r_iconst C (bI true) dX5_pageAt_51 rfl ?_
    refine r_callV C E hh (c_X5_goes E.2.1 Γ B0 ad M F X (ptA M a c d) (rgB b 2) true) lk_X5_101 (tr := .inr (.inr 0)) rfl rfl rfl rfl (Nat.le_of_ble_eq_true rfl) dX5_pageAt_52 ⟨by decide, by decide⟩ ⟨by omega, by omega⟩ (fun _ _ z9 => False.elim z9) (kk_is (fun H locs hs9 hh => ?_))
    rw [Bool.and_true]
    refine r_if_eqB (tgt := 76) C dX5_pageAt_55 (by decide) (fun h55 => ?_) (fun h55 => ?_)
    · have hw : nI 0 = ptV M a b c d := by unfold ptV; rw [if_neg (by rw [h55]; decide)]; rfl
      refine r_iconst C (nI 0) dX5_pageAt_76 rfl ?_
      exact r_iret C E hh dX5_pageAt_77 (by omega) (by omega) (ri2 hw)
    · have hq := h55
      unfold ptA at hq
      rw [Bool.and_eq_true, Bool.and_eq_true, Bool.and_eq_true] at hq
      obtain ⟨ja, hja, ea⟩ := rg_of ((rgB_rg (by omega)).mp hq.1.1) (by omega)
      obtain ⟨jb, hjb, eb⟩ := rg_of ((rgB_rg (by omega)).mp hq.2) (by omega)
      obtain ⟨jc, hjc, ec⟩ := rg_of ((rgB_rg (by omega)).mp hq.1.2.1) (by omega)
      obtain ⟨jd, hjd, ed⟩ := rg_of ((rgB_rg (by omega)).mp hq.1.2.2) (by omega)
      have a1 : xN a = ja := by rw [ea]; exact xN_nI (by omega)
      have a2 : xN b = jb := by rw [eb]; exact xN_nI (by omega)
      have a3 : xN c = jc := by rw [ec]; exact xN_nI (by omega)
      have a4 : xN d = jd := by rw [ed]; exact xN_nI (by omega)
      have hll := leaf_lt hjc hjd
      rw [Nat.mul_comm jc] at hll
      have j17 := i17 (M 5 0 0 * jc + jd)
      have hw : plJ M ja jb (M 5 0 0 * jc + jd) = ptV M a b c d := by unfold ptV; rw [if_pos h55, a1, a2, a3, a4]
      rw [ea, eb, ec, ed]
      refine r_aload_n C dX5_pageAt_58 rfl ?_
      refine r_iload_n C dX5_pageAt_59 rfl ?_
      refine r_iload_n C dX5_pageAt_60 rfl ?_
      refine r_aload_n C dX5_pageAt_61 rfl ?_
      refine g_X5_83 C hh dX5_pageAt_62 ?_
      rw [show rs M 8 _ 5 0 0 = M 5 0 0 from rfl]
      refine r_iload_n C dX5_pageAt_65 rfl ?_
      refine r_imulN C dX5_pageAt_66 ?_
      refine r_iload C dX5_pageAt_67 rfl ?_
      refine r_iaddN C dX5_pageAt_69 ?_
      refine r_callV C E hh (c_X5_pageOn E.2.1 Γ B0 ad (rs M 8 (k0 (thr (ptA M a c d) (rgB b 2) true))) F X ja jb (M 5 0 0 * jc + jd) i2 i45 (by omega) hjb (by omega) j17.1 j17.2.1) lk_X5_138 (tr := .inr (.inr 0)) rfl rfl rfl rfl (Nat.le_of_ble_eq_true rfl) dX5_pageAt_70 ⟨by decide, by decide⟩ ⟨by omega, by omega⟩ (fun _ _ z9 => False.elim z9) (kk_is (fun H locs hs9 hh => ?_))
      rw [show plJ (rs M 8 (k0 (thr (ptA M a c d) (rgB b 2) true))) ja jb (M 5 0 0 * jc + jd) = plJ M ja jb (M 5 0 0 * jc + jd) from rfl]
      refine r_goto (tgt := 77) C dX5_pageAt_73 (by decide) ?_
      exact r_iret C E hh dX5_pageAt_77 (by omega) (by omega) (ri2 hw)
  · refine r_iload_n C dX5_pageAt_8 rfl ?_
    refine r_iconst C (nI 0) dX5_pageAt_9 rfl ?_
    refine r_aload_n C dX5_pageAt_10 rfl ?_
    refine g_X5_80 C hh dX5_pageAt_11 ?_
    refine r_iconst C (nI 1) dX5_pageAt_14 rfl ?_
    refine r_isub C dX5_pageAt_15 ?_
    refine r_callS C E hh (c_X5_in E.2.1 Γ B0 _ c (nI 0) (nI (M 4 0 0) - nI 1)) lk_X5_73 rfl rfl (Nat.le_of_ble_eq_true rfl) dX5_pageAt_16 ⟨by decide, by decide⟩ ⟨by omega, by omega⟩ (fun _ _ z9 => False.elim z9) (kk_is (fun H locs hs9 hh => ?_))
    rw [show inn c (nI 0) (nI (M 4 0 0) - nI 1) = rgB c (M 4 0 0) from rfl]
    refine r_if_eqB (tgt := 41) C dX5_pageAt_19 (by decide) (fun h19 => ?_) (fun h19 => ?_)
    · have hv : ptA M a c d = false := by unfold ptA; rw [h5, h19]; rfl
      refine r_iconst C (bI (ptA M a c d)) dX5_pageAt_41 (by rw [hv]; rfl) ?_
      refine r_istore C dX5_pageAt_42 rfl rfl ?_
      refine r_aload_n C dX5_pageAt_44 rfl ?_
      refine r_iload C dX5_pageAt_45 rfl ?_
      refine r_iload_n C dX5_pageAt_47 rfl ?_
      refine r_callS C E hh (c_X5_isSide E.2.1 Γ B0 _ b) lk_X5_135 rfl rfl (Nat.le_of_ble_eq_true rfl) dX5_pageAt_48 ⟨by decide, by decide⟩ ⟨by omega, by omega⟩ (fun _ _ z9 => False.elim z9) (kk_is (fun H locs hs9 hh => ?_))
      refine r_iconst C (bI true) dX5_pageAt_51 rfl ?_
      refine r_callV C E hh (c_X5_goes E.2.1 Γ B0 ad M F X (ptA M a c d) (rgB b 2) true) lk_X5_101 (tr := .inr (.inr 0)) rfl rfl rfl rfl (Nat.le_of_ble_eq_true rfl) dX5_pageAt_52 ⟨by decide, by decide⟩ ⟨by omega, by omega⟩ (fun _ _ z9 => False.elim z9) (kk_is (fun H locs hs9 hh => ?_))
      rw [Bool.and_true]
      refine r_if_eqB (tgt := 76) C dX5_pageAt_55 (by decide) (fun h55 => ?_) (fun h55 => ?_)
      · have hw : nI 0 = ptV M a b c d := by unfold ptV; rw [if_neg (by rw [h55]; decide)]; rfl
        refine r_iconst C (nI 0) dX5_pageAt_76 rfl ?_
        exact r_iret C E hh dX5_pageAt_77 (by omega) (by omega) (ri2 hw)
      · have hq := h55
        unfold ptA at hq
        rw [Bool.and_eq_true, Bool.and_eq_true, Bool.and_eq_true] at hq
        obtain ⟨ja, hja, ea⟩ := rg_of ((rgB_rg (by omega)).mp hq.1.1) (by omega)
        obtain ⟨jb, hjb, eb⟩ := rg_of ((rgB_rg (by omega)).mp hq.2) (by omega)
        obtain ⟨jc, hjc, ec⟩ := rg_of ((rgB_rg (by omega)).mp hq.1.2.1) (by omega)
        obtain ⟨jd, hjd, ed⟩ := rg_of ((rgB_rg (by omega)).mp hq.1.2.2) (by omega)
        have a1 : xN a = ja := by rw [ea]; exact xN_nI (by omega)
        have a2 : xN b = jb := by rw [eb]; exact xN_nI (by omega)
        have a3 : xN c = jc := by rw [ec]; exact xN_nI (by omega)
        have a4 : xN d = jd := by rw [ed]; exact xN_nI (by omega)
        have hll := leaf_lt hjc hjd
        rw [Nat.mul_comm jc] at hll
        have j17 := i17 (M 5 0 0 * jc + jd)
        have hw : plJ M ja jb (M 5 0 0 * jc + jd) = ptV M a b c d := by unfold ptV; rw [if_pos h55, a1, a2, a3, a4]
        rw [ea, eb, ec, ed]
        refine r_aload_n C dX5_pageAt_58 rfl ?_
        refine r_iload_n C dX5_pageAt_59 rfl ?_
        refine r_iload_n C dX5_pageAt_60 rfl ?_
        refine r_aload_n C dX5_pageAt_61 rfl ?_
        refine g_X5_83 C hh dX5_pageAt_62 ?_
        rw [show rs M 8 _ 5 0 0 = M 5 0 0 from rfl]
        refine r_iload_n C dX5_pageAt_65 rfl ?_
        refine r_imulN C dX5_pageAt_66 ?_
        refine r_iload C dX5_pageAt_67 rfl ?_
        refine r_iaddN C dX5_pageAt_69 ?_
        refine r_callV C E hh (c_X5_pageOn E.2.1 Γ B0 ad (rs M 8 (k0 (thr (ptA M a c d) (rgB b 2) true))) F X ja jb (M 5 0 0 * jc + jd) i2 i45 (by omega) hjb (by omega) j17.1 j17.2.1) lk_X5_138 (tr := .inr (.inr 0)) rfl rfl rfl rfl (Nat.le_of_ble_eq_true rfl) dX5_pageAt_70 ⟨by decide, by decide⟩ ⟨by omega, by omega⟩ (fun _ _ z9 => False.elim z9) (kk_is (fun H locs hs9 hh => ?_))
        rw [show plJ (rs M 8 (k0 (thr (ptA M a c d) (rgB b 2) true))) ja jb (M 5 0 0 * jc + jd) = plJ M ja jb (M 5 0 0 * jc + jd) from rfl]
        refine r_goto (tgt := 77) C dX5_pageAt_73 (by decide) ?_
        exact r_iret C E hh dX5_pageAt_77 (by omega) (by omega) (ri2 hw)
    · refine r_iload C dX5_pageAt_22 rfl ?_
      refine r_iconst C (nI 0) dX5_pageAt_24 rfl ?_
      refine r_aload_n C dX5_pageAt_25 rfl ?_
      refine g_X5_83 C hh dX5_pageAt_26 ?_
      refine r_iconst C (nI 1) dX5_pageAt_29 rfl ?_
      refine r_isub C dX5_pageAt_30 ?_
      refine r_callS C E hh (c_X5_in E.2.1 Γ B0 _ d (nI 0) (nI (M 5 0 0) - nI 1)) lk_X5_73 rfl rfl (Nat.le_of_ble_eq_true rfl) dX5_pageAt_31 ⟨by decide, by decide⟩ ⟨by omega, by omega⟩ (fun _ _ z9 => False.elim z9) (kk_is (fun H locs hs9 hh => ?_))
      rw [show inn d (nI 0) (nI (M 5 0 0) - nI 1) = rgB d (M 5 0 0) from rfl]
      refine r_if_eqB (tgt := 41) C dX5_pageAt_34 (by decide) (fun h34 => ?_) (fun h34 => ?_)
      · have hv : ptA M a c d = false := by unfold ptA; rw [h5, h19, h34]; rfl
        refine r_iconst C (bI (ptA M a c d)) dX5_pageAt_41 (by rw [hv]; rfl) ?_
        refine r_istore C dX5_pageAt_42 rfl rfl ?_
        refine r_aload_n C dX5_pageAt_44 rfl ?_
        refine r_iload C dX5_pageAt_45 rfl ?_
        refine r_iload_n C dX5_pageAt_47 rfl ?_
        refine r_callS C E hh (c_X5_isSide E.2.1 Γ B0 _ b) lk_X5_135 rfl rfl (Nat.le_of_ble_eq_true rfl) dX5_pageAt_48 ⟨by decide, by decide⟩ ⟨by omega, by omega⟩ (fun _ _ z9 => False.elim z9) (kk_is (fun H locs hs9 hh => ?_))
        refine r_iconst C (bI true) dX5_pageAt_51 rfl ?_
        refine r_callV C E hh (c_X5_goes E.2.1 Γ B0 ad M F X (ptA M a c d) (rgB b 2) true) lk_X5_101 (tr := .inr (.inr 0)) rfl rfl rfl rfl (Nat.le_of_ble_eq_true rfl) dX5_pageAt_52 ⟨by decide, by decide⟩ ⟨by omega, by omega⟩ (fun _ _ z9 => False.elim z9) (kk_is (fun H locs hs9 hh => ?_))
        rw [Bool.and_true]
        refine r_if_eqB (tgt := 76) C dX5_pageAt_55 (by decide) (fun h55 => ?_) (fun h55 => ?_)
        · have hw : nI 0 = ptV M a b c d := by unfold ptV; rw [if_neg (by rw [h55]; decide)]; rfl
          refine r_iconst C (nI 0) dX5_pageAt_76 rfl ?_
          exact r_iret C E hh dX5_pageAt_77 (by omega) (by omega) (ri2 hw)
        · have hq := h55
          unfold ptA at hq
          rw [Bool.and_eq_true, Bool.and_eq_true, Bool.and_eq_true] at hq
          obtain ⟨ja, hja, ea⟩ := rg_of ((rgB_rg (by omega)).mp hq.1.1) (by omega)
          obtain ⟨jb, hjb, eb⟩ := rg_of ((rgB_rg (by omega)).mp hq.2) (by omega)
          obtain ⟨jc, hjc, ec⟩ := rg_of ((rgB_rg (by omega)).mp hq.1.2.1) (by omega)
          obtain ⟨jd, hjd, ed⟩ := rg_of ((rgB_rg (by omega)).mp hq.1.2.2) (by omega)
          have a1 : xN a = ja := by rw [ea]; exact xN_nI (by omega)
          have a2 : xN b = jb := by rw [eb]; exact xN_nI (by omega)
          have a3 : xN c = jc := by rw [ec]; exact xN_nI (by omega)
          have a4 : xN d = jd := by rw [ed]; exact xN_nI (by omega)
          have hll := leaf_lt hjc hjd
          rw [Nat.mul_comm jc] at hll
          have j17 := i17 (M 5 0 0 * jc + jd)
          have hw : plJ M ja jb (M 5 0 0 * jc + jd) = ptV M a b c d := by unfold ptV; rw [if_pos h55, a1, a2, a3, a4]
          rw [ea, eb, ec, ed]
          refine r_aload_n C dX5_pageAt_58 rfl ?_
          refine r_iload_n C dX5_pageAt_59 rfl ?_
          refine r_iload_n C dX5_pageAt_60 rfl ?_
          refine r_aload_n C dX5_pageAt_61 rfl ?_
          refine g_X5_83 C hh dX5_pageAt_62 ?_
          rw [show rs M 8 _ 5 0 0 = M 5 0 0 from rfl]
          refine r_iload_n C dX5_pageAt_65 rfl ?_
          refine r_imulN C dX5_pageAt_66 ?_
          refine r_iload C dX5_pageAt_67 rfl ?_
          refine r_iaddN C dX5_pageAt_69 ?_
          refine r_callV C E hh (c_X5_pageOn E.2.1 Γ B0 ad (rs M 8 (k0 (thr (ptA M a c d) (rgB b 2) true))) F X ja jb (M 5 0 0 * jc + jd) i2 i45 (by omega) hjb (by omega) j17.1 j17.2.1) lk_X5_138 (tr := .inr (.inr 0)) rfl rfl rfl rfl (Nat.le_of_ble_eq_true rfl) dX5_pageAt_70 ⟨by decide, by decide⟩ ⟨by omega, by omega⟩ (fun _ _ z9 => False.elim z9) (kk_is (fun H locs hs9 hh => ?_))
          rw [show plJ (rs M 8 (k0 (thr (ptA M a c d) (rgB b 2) true))) ja jb (M 5 0 0 * jc + jd) = plJ M ja jb (M 5 0 0 * jc + jd) from rfl]
          refine r_goto (tgt := 77) C dX5_pageAt_73 (by decide) ?_
          exact r_iret C E hh dX5_pageAt_77 (by omega) (by omega) (ri2 hw)
      · have hv : ptA M a c d = true := by unfold ptA; rw [h5, h19, h34]; rfl
        refine r_iconst C (bI (ptA M a c d)) dX5_pageAt_37 (by rw [hv]; rfl) ?_
        refine r_goto (tgt := 42) C dX5_pageAt_38 (by decide) ?_
        refine r_istore C dX5_pageAt_42 rfl rfl ?_
        refine r_aload_n C dX5_pageAt_44 rfl ?_
        refine r_iload C dX5_pageAt_45 rfl ?_
        refine r_iload_n C dX5_pageAt_47 rfl ?_
        refine r_callS C E hh (c_X5_isSide E.2.1 Γ B0 _ b) lk_X5_135 rfl rfl (Nat.le_of_ble_eq_true rfl) dX5_pageAt_48 ⟨by decide, by decide⟩ ⟨by omega, by omega⟩ (fun _ _ z9 => False.elim z9) (kk_is (fun H locs hs9 hh => ?_))
        refine r_iconst C (bI true) dX5_pageAt_51 rfl ?_
        refine r_callV C E hh (c_X5_goes E.2.1 Γ B0 ad M F X (ptA M a c d) (rgB b 2) true) lk_X5_101 (tr := .inr (.inr 0)) rfl rfl rfl rfl (Nat.le_of_ble_eq_true rfl) dX5_pageAt_52 ⟨by decide, by decide⟩ ⟨by omega, by omega⟩ (fun _ _ z9 => False.elim z9) (kk_is (fun H locs hs9 hh => ?_))
        rw [Bool.and_true]
        refine r_if_eqB (tgt := 76) C dX5_pageAt_55 (by decide) (fun h55 => ?_) (fun h55 => ?_)
        · have hw : nI 0 = ptV M a b c d := by unfold ptV; rw [if_neg (by rw [h55]; decide)]; rfl
          refine r_iconst C (nI 0) dX5_pageAt_76 rfl ?_
          exact r_iret C E hh dX5_pageAt_77 (by omega) (by omega) (ri2 hw)
        · have hq := h55
          unfold ptA at hq
          rw [Bool.and_eq_true, Bool.and_eq_true, Bool.and_eq_true] at hq
          obtain ⟨ja, hja, ea⟩ := rg_of ((rgB_rg (by omega)).mp hq.1.1) (by omega)
          obtain ⟨jb, hjb, eb⟩ := rg_of ((rgB_rg (by omega)).mp hq.2) (by omega)
          obtain ⟨jc, hjc, ec⟩ := rg_of ((rgB_rg (by omega)).mp hq.1.2.1) (by omega)
          obtain ⟨jd, hjd, ed⟩ := rg_of ((rgB_rg (by omega)).mp hq.1.2.2) (by omega)
          have a1 : xN a = ja := by rw [ea]; exact xN_nI (by omega)
          have a2 : xN b = jb := by rw [eb]; exact xN_nI (by omega)
          have a3 : xN c = jc := by rw [ec]; exact xN_nI (by omega)
          have a4 : xN d = jd := by rw [ed]; exact xN_nI (by omega)
          have hll := leaf_lt hjc hjd
          rw [Nat.mul_comm jc] at hll
          have j17 := i17 (M 5 0 0 * jc + jd)
          have hw : plJ M ja jb (M 5 0 0 * jc + jd) = ptV M a b c d := by unfold ptV; rw [if_pos h55, a1, a2, a3, a4]
          rw [ea, eb, ec, ed]
          refine r_aload_n C dX5_pageAt_58 rfl ?_
          refine r_iload_n C dX5_pageAt_59 rfl ?_
          refine r_iload_n C dX5_pageAt_60 rfl ?_
          refine r_aload_n C dX5_pageAt_61 rfl ?_
          refine g_X5_83 C hh dX5_pageAt_62 ?_
          rw [show rs M 8 _ 5 0 0 = M 5 0 0 from rfl]
          refine r_iload_n C dX5_pageAt_65 rfl ?_
          refine r_imulN C dX5_pageAt_66 ?_
          refine r_iload C dX5_pageAt_67 rfl ?_
          refine r_iaddN C dX5_pageAt_69 ?_
          refine r_callV C E hh (c_X5_pageOn E.2.1 Γ B0 ad (rs M 8 (k0 (thr (ptA M a c d) (rgB b 2) true))) F X ja jb (M 5 0 0 * jc + jd) i2 i45 (by omega) hjb (by omega) j17.1 j17.2.1) lk_X5_138 (tr := .inr (.inr 0)) rfl rfl rfl rfl (Nat.le_of_ble_eq_true rfl) dX5_pageAt_70 ⟨by decide, by decide⟩ ⟨by omega, by omega⟩ (fun _ _ z9 => False.elim z9) (kk_is (fun H locs hs9 hh => ?_))
          rw [show plJ (rs M 8 (k0 (thr (ptA M a c d) (rgB b 2) true))) ja jb (M 5 0 0 * jc + jd) = plJ M ja jb (M 5 0 0 * jc + jd) from rfl]
          refine r_goto (tgt := 77) C dX5_pageAt_73 (by decide) ?_
          exact r_iret C E hh dX5_pageAt_77 (by omega) (by omega) (ri2 hw)

set_option maxHeartbeats 4000000 in
set_option maxRecDepth 100000 in
theorem c_X5_pageByRule {l : Launch} (hl : l.stackTraces = false) (Γ : fG) (B0 : Nat) (ad : Nat → Nat → Nat) (M : fR) (F : Nat → fO) (X : Nat × Nat → fO) (a b c d : Int32) (hI : MI M) (h2 : 2 ≤ M 4 0 0 * M 5 0 0) : f_Met l yX5_pageByRule cX5_pageByRule 5 (some .int) 4 0 0 86 Γ B0 [.ref (ad 30 0), .int a, .int b, .int c, .int d] (wj F X (mw Γ ad M)) (f_is (ptV M a b c d) (wj F X (mw Γ ad (rs M 8 (k0 (thr (ptA M a c d) (rgB b 2) true)))))) f_no := by
  refine f_of hl (by decide) rfl (Nat.le_of_ble_eq_true rfl) (fun X9 C E hh hnm => ?_)
  generalize (f_s X9).heap = H, ([] : List Loc) = locs at hh ⊢
  refine r_aload_n C dX5_pageByRule_0 rfl ?_
  refine r_iload_n C dX5_pageByRule_1 rfl ?_
  refine r_iload_n C dX5_pageByRule_2 rfl ?_
  refine r_iload_n C dX5_pageByRule_3 rfl ?_
  refine r_iload C dX5_pageByRule_4 rfl ?_
  refine r_callV C E hh (c_X5_pageAt E.2.1 Γ B0 ad M F X a b c d hI h2) lk_X5_142 (tr := .inr (.inr 0)) rfl rfl rfl rfl (Nat.le_of_ble_eq_true rfl) dX5_pageByRule_6 ⟨by decide, by decide⟩ ⟨by omega, by omega⟩ (fun _ _ z9 => False.elim z9) (kk_is (fun H locs hs9 hh => ?_))
  exact r_iret C E hh dX5_pageByRule_9 (by omega) (by omega) ⟨rfl, rfl⟩

set_option maxHeartbeats 4000000 in
set_option maxRecDepth 100000 in
theorem c_X5_plate {l : Launch} (hl : l.stackTraces = false) (Γ : fG) (B0 : Nat) (w : fV) (s i c : Nat) : f_Met l yX5_plate cX5_plate 3 (some .int) 0 0 0 0 Γ B0 [.int (nI (s)), .int (nI (i)), .int (nI (c))] (w) (f_is (nI (8 * s + 4 * i + c)) w) f_no := by
  refine f_of hl (by decide) rfl (Nat.le_of_ble_eq_true rfl) (fun X9 C E hh hnm => ?_)
  generalize (f_s X9).heap = H, ([] : List Loc) = locs at hh ⊢
  refine r_bipush C (nI 8) dX5_plate_0 rfl ?_
  refine r_iload_n C dX5_plate_2 rfl ?_
  refine r_imulN C dX5_plate_3 ?_
  refine r_iconst C (nI 4) dX5_plate_4 rfl ?_
  refine r_iload_n C dX5_plate_5 rfl ?_
  refine r_imulN C dX5_plate_6 ?_
  refine r_iaddN C dX5_plate_7 ?_
  refine r_iload_n C dX5_plate_8 rfl ?_
  refine r_iaddN C dX5_plate_9 ?_
  exact r_iret C E hh dX5_plate_10 (by omega) (by omega) ⟨rfl, rfl⟩

