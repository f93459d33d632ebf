/-! ===== the model: small methods ===== -/
def inn (v a b : Int32) : Bool := decide (a ≤ v ∧ v ≤ b)
def rgB (x : Int32) (n : Nat) : Bool := inn x (nI 0) (nI n - nI 1)
theorem rgB_rg {x : Int32} {n : Nat} (hn : n < 2 ^ 31) : rgB x n = true ↔ rg x n := by
  unfold rgB inn rg
  rw [decide_eq_true_iff]
  rcases Nat.eq_zero_or_pos n with z | z
  · subst z
    constructor
    · intro h
      exact absurd (Int32.le_trans h.1 h.2) (by decide)
    · intro h
      exact absurd h.2 (Int32.not_lt.mpr h.1)
  · obtain ⟨m, rfl⟩ : ∃ m, n = m + 1 := ⟨n - 1, by omega⟩
    have e : nI (m + 1) - nI 1 = nI m := by rw [pk_sub (by omega), Nat.add_sub_cancel]
    rw [e, rg_le hn]
    exact Iff.rfl
def thr (a b c : Bool) : Nat := if a = false then 1 else if b = false then 2 else if c = false then 3 else 0
set_option maxHeartbeats 4000000 in
set_option maxRecDepth 100000 in
theorem c_X5_in {l : Launch} (hl : l.stackTraces = false) (Γ : fG) (B0 : Nat) (w : fV) (v a b : Int32) : f_Met l yX5_in cX5_in 3 (some .boolean) 0 0 0 0 Γ B0 [.int v, .int a, .int b] (w) (f_is (bI (inn v a b)) w) f_no := by
  refine f_of hl (by decide) rfl (Nat.le_of_ble_eq_true rfl) (fun X9 C E hh hnm => ?_)
  generalize (f_s X9).heap = H, ([] : List Loc) = locs at hh ⊢
  refine r_iload_n C dX5_in_0 rfl ?_
  refine r_iload_n C dX5_in_1 rfl ?_
  refine r_icmp_lt (tgt := 14) C dX5_in_2 (by decide) (fun h2 => ?_) (fun h2 => ?_)
  · have hv : inn v a b = false := decide_eq_false (fun z => Int32.not_lt.mpr z.1 h2)
    refine r_iconst C (bI false) dX5_in_14 rfl ?_
    exact r_zret C E hh dX5_in_15 (by omega) (by omega) (rb hv)
  · refine r_iload_n C dX5_in_5 rfl ?_
    refine r_iload_n C dX5_in_6 rfl ?_
    refine r_icmp_gt (tgt := 14) C dX5_in_7 (by decide) (fun h7 => ?_) (fun h7 => ?_)
    · have hv : inn v a b = false := decide_eq_false (fun z => Int32.not_lt.mpr z.2 h7)
      refine r_iconst C (bI false) dX5_in_14 rfl ?_
      exact r_zret C E hh dX5_in_15 (by omega) (by omega) (rb hv)
    · have hv : inn v a b = true := decide_eq_true ⟨Int32.not_lt.mp h2, Int32.not_lt.mp h7⟩
      refine r_iconst C (bI true) dX5_in_10 rfl ?_
      refine r_goto (tgt := 15) C dX5_in_11 (by decide) ?_
      exact r_zret C E hh dX5_in_15 (by omega) (by omega) (rb hv)

set_option maxHeartbeats 4000000 in
set_option maxRecDepth 100000 in
theorem c_X5_goes {l : Launch} (hl : l.stackTraces = false) (Γ : fG) (B0 : Nat) (ad : Nat → Nat → Nat) (M : fR) (F : Nat → fO) (X : Nat × Nat → fO) (a b c : Bool) : f_Met l yX5_goes cX5_goes 4 (some .boolean) 0 0 0 0 Γ B0 [.ref (ad 30 0), .int (bI a), .int (bI b), .int (bI c)] (wj F X (mw Γ ad M)) (f_is (bI (a && b && c)) (wj F X (mw Γ ad (rs M 8 (k0 (thr a b c)))))) f_no := by
  refine f_of hl (by decide) rfl (Nat.le_of_ble_eq_true rfl) (fun X9 C E hh hnm => ?_)
  generalize (f_s X9).heap = H, ([] : List Loc) = locs at hh ⊢
  refine r_aload_n C dX5_goes_0 rfl ?_
  refine r_iload_n C dX5_goes_1 rfl ?_
  refine r_if_neB (tgt := 9) C dX5_goes_2 (by decide) (fun h2 => ?_) (fun h2 => ?_)
  · subst h2
    refine r_iload_n C dX5_goes_9 rfl ?_
    refine r_if_neB (tgt := 17) C dX5_goes_10 (by decide) (fun h10 => ?_) (fun h10 => ?_)
    · subst h10
      refine r_iload_n C dX5_goes_17 rfl ?_
      refine r_if_neB (tgt := 25) C dX5_goes_18 (by decide) (fun h18 => ?_) (fun h18 => ?_)
      · subst h18
        refine r_iconst C (nI 0) dX5_goes_25 rfl ?_
        refine p_X5_66 C hh dX5_goes_26 (fun H locs hh => ?_)
        refine r_aload_n C dX5_goes_29 rfl ?_
        refine g_X5_66 C hh dX5_goes_30 ?_
        rw [rs_same]
        unfold k0
        refine r_if_neN (tgt := 40) C dX5_goes_33 (by decide) (by omega) (fun h33 => ?_) (fun h33 => ?_)
        · refine r_iconst C (bI false) dX5_goes_40 rfl ?_
          exact r_zret C E hh dX5_goes_41 (by omega) (by omega) (by first | exact ⟨rfl, rfl⟩ | (exfalso; revert h33; decide))
        · refine r_iconst C (bI true) dX5_goes_36 rfl ?_
          refine r_goto (tgt := 41) C dX5_goes_37 (by decide) ?_
          exact r_zret C E hh dX5_goes_41 (by omega) (by omega) (by first | exact ⟨rfl, rfl⟩ | (exfalso; revert h33; decide))
      · subst h18
        refine r_iconst C (nI 3) dX5_goes_21 rfl ?_
        refine r_goto (tgt := 26) C dX5_goes_22 (by decide) ?_
        refine p_X5_66 C hh dX5_goes_26 (fun H locs hh => ?_)
        refine r_aload_n C dX5_goes_29 rfl ?_
        refine g_X5_66 C hh dX5_goes_30 ?_
        rw [rs_same]
        unfold k0
        refine r_if_neN (tgt := 40) C dX5_goes_33 (by decide) (by omega) (fun h33 => ?_) (fun h33 => ?_)
        · refine r_iconst C (bI false) dX5_goes_40 rfl ?_
          exact r_zret C E hh dX5_goes_41 (by omega) (by omega) (by first | exact ⟨rfl, rfl⟩ | (exfalso; revert h33; decide))
        · refine r_iconst C (bI true) dX5_goes_36 rfl ?_
          refine r_goto (tgt := 41) C dX5_goes_37 (by decide) ?_
          exact r_zret C E hh dX5_goes_41 (by omega) (by omega) (by first | exact ⟨rfl, rfl⟩ | (exfalso; revert h33; decide))
    · subst h10
      refine r_iconst C (nI 2) dX5_goes_13 rfl ?_
      refine r_goto (tgt := 26) C dX5_goes_14 (by decide) ?_
      refine p_X5_66 C hh dX5_goes_26 (fun H locs hh => ?_)
      refine r_aload_n C dX5_goes_29 rfl ?_
      refine g_X5_66 C hh dX5_goes_30 ?_
      rw [rs_same]
      unfold k0
      refine r_if_neN (tgt := 40) C dX5_goes_33 (by decide) (by omega) (fun h33 => ?_) (fun h33 => ?_)
      · refine r_iconst C (bI false) dX5_goes_40 rfl ?_
        exact r_zret C E hh dX5_goes_41 (by omega) (by omega) (by first | exact ⟨rfl, rfl⟩ | (exfalso; revert h33; decide))
      · refine r_iconst C (bI true) dX5_goes_36 rfl ?_
        refine r_goto (tgt := 41) C dX5_goes_37 (by decide) ?_
        exact r_zret C E hh dX5_goes_41 (by omega) (by omega) (by first | exact ⟨rfl, rfl⟩ | (exfalso; revert h33; decide))
  · subst h2
    refine r_iconst C (nI 1) dX5_goes_5 rfl ?_
    refine r_goto (tgt := 26) C dX5_goes_6 (by decide) ?_
    refine p_X5_66 C hh dX5_goes_26 (fun H locs hh => ?_)
    refine r_aload_n C dX5_goes_29 rfl ?_
    refine g_X5_66 C hh dX5_goes_30 ?_
    rw [rs_same]
    unfold k0
    refine r_if_neN (tgt := 40) C dX5_goes_33 (by decide) (by omega) (fun h33 => ?_) (fun h33 => ?_)
    · refine r_iconst C (bI false) dX5_goes_40 rfl ?_
      exact r_zret C E hh dX5_goes_41 (by omega) (by omega) (by first | exact ⟨rfl, rfl⟩ | (exfalso; revert h33; decide))
    · refine r_iconst C (bI true) dX5_goes_36 rfl ?_
      refine r_goto (tgt := 41) C dX5_goes_37 (by decide) ?_
      exact r_zret C E hh dX5_goes_41 (by omega) (by omega) (by first | exact ⟨rfl, rfl⟩ | (exfalso; revert h33; decide))

set_option maxHeartbeats 4000000 in
set_option maxRecDepth 100000 in
theorem c_X5_told {l : Launch} (hl : l.stackTraces = false) (Γ : fG) (B0 : Nat) (ad : Nat → Nat → Nat) (M : fR) (F : Nat → fO) (X : Nat × Nat → fO) (v : Int32) : f_Met l yX5_told cX5_told 2 (some .int) 0 0 0 0 Γ B0 [.ref (ad 30 0), .int v] (wj F X (mw Γ ad M)) (f_is v (wj F X (mw Γ ad (rs M 8 (k0 0))))) f_no := by
  refine f_of hl (by decide) rfl (Nat.le_of_ble_eq_true rfl) (fun X9 C E hh hnm => ?_)
  generalize (f_s X9).heap = H, ([] : List Loc) = locs at hh ⊢
  refine r_aload_n C dX5_told_0 rfl ?_
  refine r_iconst C (nI 0) dX5_told_1 rfl ?_
  refine p_X5_66 C hh dX5_told_2 (fun H locs hh => ?_)
  refine r_iload_n C dX5_told_5 rfl ?_
  exact r_iret C E hh dX5_told_6 (by omega) (by omega) ⟨rfl, rfl⟩

set_option maxHeartbeats 4000000 in
set_option maxRecDepth 100000 in
theorem c_X5_thrown {l : Launch} (hl : l.stackTraces = false) (Γ : fG) (B0 : Nat) (ad : Nat → Nat → Nat) (M : fR) (F : Nat → fO) (X : Nat × Nat → fO) : f_Met l yX5_thrown cX5_thrown 1 (some .int) 0 0 0 0 Γ B0 [.ref (ad 30 0)] (wj F X (mw Γ ad M)) (f_is (nI (M 8 0 0)) (wj F X (mw Γ ad M))) f_no := by
  refine f_of hl (by decide) rfl (Nat.le_of_ble_eq_true rfl) (fun X9 C E hh hnm => ?_)
  generalize (f_s X9).heap = H, ([] : List Loc) = locs at hh ⊢
  refine r_aload_n C dX5_thrown_0 rfl ?_
  refine g_X5_66 C hh dX5_thrown_1 ?_
  exact r_iret C E hh dX5_thrown_4 (by omega) (by omega) ⟨rfl, rfl⟩

set_option maxHeartbeats 4000000 in
set_option maxRecDepth 100000 in
theorem c_X5_isPage {l : Launch} (hl : l.stackTraces = false) (Γ : fG) (B0 : Nat) (ad : Nat → Nat → Nat) (M : fR) (F : Nat → fO) (X : Nat × Nat → fO) (x : Int32) : f_Met l yX5_isPage cX5_isPage 2 (some .boolean) 1 0 0 22 Γ B0 [.ref (ad 30 0), .int x] (wj F X (mw Γ ad M)) (f_is (bI (rgB x (M 2 0 0))) (wj F X (mw Γ ad M))) f_no := by
  refine f_of hl (by decide) rfl (Nat.le_of_ble_eq_true rfl) (fun X9 C E hh hnm => ?_)
  generalize (f_s X9).heap = H, ([] : List Loc) = locs at hh ⊢
  refine r_iload_n C dX5_isPage_0 rfl ?_
  refine r_iconst C (nI 0) dX5_isPage_1 rfl ?_
  refine r_aload_n C dX5_isPage_2 rfl ?_
  refine g_X5_70 C hh dX5_isPage_3 ?_
  refine r_iconst C (nI 1) dX5_isPage_6 rfl ?_
  refine r_isub C dX5_isPage_7 ?_
  refine r_callS C E hh (c_X5_in E.2.1 Γ B0 _ _ _ _) lk_X5_73 rfl rfl (Nat.le_of_ble_eq_true rfl) dX5_isPage_8 ⟨by decide, by decide⟩ ⟨by omega, by omega⟩ (fun _ _ z9 => False.elim z9) (kk_is (fun H locs hs9 hh => ?_))
  exact r_zret C E hh dX5_isPage_11 (by omega) (by omega) ⟨rfl, rfl⟩

set_option maxHeartbeats 4000000 in
set_option maxRecDepth 100000 in
theorem c_X5_isFont {l : Launch} (hl : l.stackTraces = false) (Γ : fG) (B0 : Nat) (w : fV) (x : Int32) : f_Met l yX5_isFont cX5_isFont 1 (some .boolean) 1 0 0 22 Γ B0 [.int x] (w) (f_is (bI (rgB x 8)) w) f_no := by
  refine f_of hl (by decide) rfl (Nat.le_of_ble_eq_true rfl) (fun X9 C E hh hnm => ?_)
  generalize (f_s X9).heap = H, ([] : List Loc) = locs at hh ⊢
  refine r_iload_n C dX5_isFont_0 rfl ?_
  refine r_iconst C (nI 0) dX5_isFont_1 rfl ?_
  refine r_bipush C (nI 7) dX5_isFont_2 rfl ?_
  refine r_callS C E hh (c_X5_in E.2.1 Γ B0 _ _ _ _) lk_X5_73 rfl rfl (Nat.le_of_ble_eq_true rfl) dX5_isFont_4 ⟨by decide, by decide⟩ ⟨by omega, by omega⟩ (fun _ _ z9 => False.elim z9) (kk_is (fun H locs hs9 hh => ?_))
  exact r_zret C E hh dX5_isFont_7 (by omega) (by omega) (rb (by unfold rgB; rw [show nI 8 - nI 1 = nI 7 from by decide]))

set_option maxHeartbeats 4000000 in
set_option maxRecDepth 100000 in
theorem c_X5_isColor {l : Launch} (hl : l.stackTraces = false) (Γ : fG) (B0 : Nat) (w : fV) (x : Int32) : f_Met l yX5_isColor cX5_isColor 1 (some .boolean) 1 0 0 22 Γ B0 [.int x] (w) (f_is (bI (rgB x 4)) w) f_no := by
  refine f_of hl (by decide) rfl (Nat.le_of_ble_eq_true rfl) (fun X9 C E hh hnm => ?_)
  generalize (f_s X9).heap = H, ([] : List Loc) = locs at hh ⊢
  refine r_iload_n C dX5_isColor_0 rfl ?_
  refine r_iconst C (nI 0) dX5_isColor_1 rfl ?_
  refine r_iconst C (nI 3) dX5_isColor_2 rfl ?_
  refine r_callS C E hh (c_X5_in E.2.1 Γ B0 _ _ _ _) lk_X5_73 rfl rfl (Nat.le_of_ble_eq_true rfl) dX5_isColor_3 ⟨by decide, by decide⟩ ⟨by omega, by omega⟩ (fun _ _ z9 => False.elim z9) (kk_is (fun H locs hs9 hh => ?_))
  exact r_zret C E hh dX5_isColor_6 (by omega) (by omega) (rb (by unfold rgB; rw [show nI 4 - nI 1 = nI 3 from by decide]))

set_option maxHeartbeats 4000000 in
set_option maxRecDepth 100000 in
theorem c_X5_isSide {l : Launch} (hl : l.stackTraces = false) (Γ : fG) (B0 : Nat) (w : fV) (x : Int32) : f_Met l yX5_isSide cX5_isSide 1 (some .boolean) 1 0 0 22 Γ B0 [.int x] (w) (f_is (bI (rgB x 2)) w) f_no := by
  refine f_of hl (by decide) rfl (Nat.le_of_ble_eq_true rfl) (fun X9 C E hh hnm => ?_)
  generalize (f_s X9).heap = H, ([] : List Loc) = locs at hh ⊢
  refine r_iload_n C dX5_isSide_0 rfl ?_
  refine r_iconst C (nI 0) dX5_isSide_1 rfl ?_
  refine r_iconst C (nI 1) dX5_isSide_2 rfl ?_
  refine r_callS C E hh (c_X5_in E.2.1 Γ B0 _ _ _ _) lk_X5_73 rfl rfl (Nat.le_of_ble_eq_true rfl) dX5_isSide_3 ⟨by decide, by decide⟩ ⟨by omega, by omega⟩ (fun _ _ z9 => False.elim z9) (kk_is (fun H locs hs9 hh => ?_))
  exact r_zret C E hh dX5_isSide_6 (by omega) (by omega) (rb (by unfold rgB; rw [show nI 2 - nI 1 = nI 1 from by decide]))

set_option maxHeartbeats 4000000 in
set_option maxRecDepth 100000 in
theorem c_X5_has {l : Launch} (hl : l.stackTraces = false) (Γ : fG) (B0 : Nat) (w : fV) (a f : Nat) (ha : a < 2 ^ 31) (hf : f < 32) : f_Met l yX5_has cX5_has 2 (some .boolean) 0 0 0 0 Γ B0 [.int (nI (a)), .int (nI (f))] (w) (f_is (bI (tb a f)) w) f_no := by
  refine f_of hl (by decide) rfl (Nat.le_of_ble_eq_true rfl) (fun X9 C E hh hnm => ?_)
  generalize (f_s X9).heap = H, ([] : List Loc) = locs at hh ⊢
  refine r_iload_n C dX5_has_0 rfl ?_
  refine r_iload_n C dX5_has_1 rfl ?_
  refine r_ishrN C dX5_has_2 (by omega) (by omega) ?_
  refine r_iconst C (nI 1) dX5_has_3 rfl ?_
  refine r_iandN C dX5_has_4 ?_
  have hm : a / 2 ^ f &&& 1 < 2 := by rw [Nat.and_one_is_mod]; omega
  refine r_iconst C (nI 1) dX5_has_5 rfl ?_
  refine r_icmp_neN (tgt := 13) C dX5_has_6 (by decide) (by omega) (by omega) (fun h6 => ?_) (fun h6 => ?_)
  · refine r_iconst C (bI false) dX5_has_13 rfl ?_
    exact r_zret C E hh dX5_has_14 (by omega) (by omega) (rb (by unfold tb; symm; first | (rw [h6]; rfl) | (rw [show a / 2 ^ f &&& 1 = 0 by omega]; rfl)))
  · refine r_iconst C (bI true) dX5_has_9 rfl ?_
    refine r_goto (tgt := 14) C dX5_has_10 (by decide) ?_
    exact r_zret C E hh dX5_has_14 (by omega) (by omega) (rb (by unfold tb; symm; first | (rw [h6]; rfl) | (rw [show a / 2 ^ f &&& 1 = 0 by omega]; rfl)))

set_option maxHeartbeats 4000000 in
set_option maxRecDepth 100000 in
theorem c_X5_leaves {l : Launch} (hl : l.stackTraces = false) (Γ : fG) (B0 : Nat) (ad : Nat → Nat → Nat) (M : fR) (F : Nat → fO) (X : Nat × Nat → fO) : f_Met l yX5_leaves cX5_leaves 1 (some .int) 0 0 0 0 Γ B0 [.ref (ad 30 0)] (wj F X (mw Γ ad M)) (f_is (nI (M 4 0 0 * M 5 0 0)) (wj F X (mw Γ ad M))) f_no := by
  refine f_of hl (by decide) rfl (Nat.le_of_ble_eq_true rfl) (fun X9 C E hh hnm => ?_)
  generalize (f_s X9).heap = H, ([] : List Loc) = locs at hh ⊢
  refine r_aload_n C dX5_leaves_0 rfl ?_
  refine g_X5_80 C hh dX5_leaves_1 ?_
  refine r_aload_n C dX5_leaves_4 rfl ?_
  refine g_X5_83 C hh dX5_leaves_5 ?_
  refine r_imulN C dX5_leaves_8 ?_
  exact r_iret C E hh dX5_leaves_9 (by omega) (by omega) ⟨rfl, rfl⟩

def shM (M : fR) : Nat := (M 2 0 0 + 2 * (M 4 0 0 * M 5 0 0) - 1) / (2 * (M 4 0 0 * M 5 0 0))
set_option maxHeartbeats 4000000 in
set_option maxRecDepth 100000 in
theorem c_X5_sheetsOf {l : Launch} (hl : l.stackTraces = false) (Γ : fG) (B0 : Nat) (ad : Nat → Nat → Nat) (M : fR) (F : Nat → fO) (X : Nat × Nat → fO) (hn : M 2 0 0 ≤ 64) (hlv : 1 ≤ M 4 0 0 * M 5 0 0 ∧ M 4 0 0 * M 5 0 0 ≤ 16) : f_Met l yX5_sheetsOf cX5_sheetsOf 1 (some .int) 1 0 0 20 Γ B0 [.ref (ad 30 0)] (wj F X (mw Γ ad M)) (f_is (nI (shM M)) (wj F X (mw Γ ad M))) f_no := by
  refine f_of hl (by decide) rfl (Nat.le_of_ble_eq_true rfl) (fun X9 C E hh hnm => ?_)
  generalize (f_s X9).heap = H, ([] : List Loc) = locs at hh ⊢
  refine r_aload_n C dX5_sheetsOf_0 rfl ?_
  refine g_X5_70 C hh dX5_sheetsOf_1 ?_
  refine r_iconst C (nI 2) dX5_sheetsOf_4 rfl ?_
  refine r_aload_n C dX5_sheetsOf_5 rfl ?_
  refine r_callV C E hh (c_X5_leaves E.2.1 Γ B0 ad M F X) lk_X5_90 (tr := .inr (.inr 0)) rfl rfl rfl rfl (Nat.le_of_ble_eq_true rfl) dX5_sheetsOf_6 ⟨by decide, by decide⟩ ⟨by omega, by omega⟩ (fun _ _ z9 => False.elim z9) (kk_is (fun H locs hs9 hh => ?_))
  refine r_imulN C dX5_sheetsOf_9 ?_
  refine r_iaddN C dX5_sheetsOf_10 ?_
  refine r_iconst C (nI 1) dX5_sheetsOf_11 rfl ?_
  refine r_isubN C dX5_sheetsOf_12 (by omega) ?_
  refine r_iconst C (nI 2) dX5_sheetsOf_13 rfl ?_
  refine r_aload_n C dX5_sheetsOf_14 rfl ?_
  refine r_callV C E hh (c_X5_leaves E.2.1 Γ B0 ad M F X) lk_X5_90 (tr := .inr (.inr 0)) rfl rfl rfl rfl (Nat.le_of_ble_eq_true rfl) dX5_sheetsOf_15 ⟨by decide, by decide⟩ ⟨by omega, by omega⟩ (fun _ _ z9 => False.elim z9) (kk_is (fun H locs hs9 hh => ?_))
  refine r_imulN C dX5_sheetsOf_18 ?_
  refine r_idivN C dX5_sheetsOf_19 (by omega) (by omega) (by omega) ?_
  exact r_iret C E hh dX5_sheetsOf_20 (by omega) (by omega) ⟨rfl, rfl⟩

set_option maxHeartbeats 4000000 in
set_option maxRecDepth 100000 in
theorem c_X5_isSheet {l : Launch} (hl : l.stackTraces = false) (Γ : fG) (B0 : Nat) (ad : Nat → Nat → Nat) (M : fR) (F : Nat → fO) (X : Nat × Nat → fO) (hn : M 2 0 0 ≤ 64) (hlv : 1 ≤ M 4 0 0 * M 5 0 0 ∧ M 4 0 0 * M 5 0 0 ≤ 16) (x : Int32) : f_Met l yX5_isSheet cX5_isSheet 2 (some .boolean) 2 0 0 40 Γ B0 [.ref (ad 30 0), .int x] (wj F X (mw Γ ad M)) (f_is (bI (rgB x (shM M))) (wj F X (mw Γ ad M))) f_no := by
  refine f_of hl (by decide) rfl (Nat.le_of_ble_eq_true rfl) (fun X9 C E hh hnm => ?_)
  generalize (f_s X9).heap = H, ([] : List Loc) = locs at hh ⊢
  refine r_iload_n C dX5_isSheet_0 rfl ?_
  refine r_iconst C (nI 0) dX5_isSheet_1 rfl ?_
  refine r_aload_n C dX5_isSheet_2 rfl ?_
  refine r_callV C E hh (c_X5_sheetsOf E.2.1 Γ B0 ad M F X hn hlv) lk_X5_129 (tr := .inr (.inr 0)) rfl rfl rfl rfl (Nat.le_of_ble_eq_true rfl) dX5_isSheet_3 ⟨by decide, by decide⟩ ⟨by omega, by omega⟩ (fun _ _ z9 => False.elim z9) (kk_is (fun H locs hs9 hh => ?_))
  refine r_iconst C (nI 1) dX5_isSheet_6 rfl ?_
  refine r_isub C dX5_isSheet_7 ?_
  refine r_callS C E hh (c_X5_in E.2.1 Γ B0 _ _ _ _) lk_X5_73 rfl rfl (Nat.le_of_ble_eq_true rfl) dX5_isSheet_8 ⟨by decide, by decide⟩ ⟨by omega, by omega⟩ (fun _ _ z9 => False.elim z9) (kk_is (fun H locs hs9 hh => ?_))
  exact r_zret C E hh dX5_isSheet_11 (by omega) (by omega) ⟨rfl, rfl⟩

def plM (M : fR) (s sd l : Nat) : Nat := 2 * (M 4 0 0 * M 5 0 0) * s + 2 * M 17 l 0 + (if sd = M 18 l 0 then 0 else 1)
def plJ (M : fR) (s sd l : Nat) : Int32 := if plM M s sd l < M 2 0 0 then nI (plM M s sd l) else -1
set_option maxHeartbeats 4000000 in
set_option maxRecDepth 100000 in
theorem c_X5_pageOn {l : Launch} (hl : l.stackTraces = false) (Γ : fG) (B0 : Nat) (ad : Nat → Nat → Nat) (M : fR) (F : Nat → fO) (X : Nat × Nat → fO) (s sd lf : Nat) (hn : M 2 0 0 ≤ 64) (hlv : 1 ≤ M 4 0 0 * M 5 0 0 ∧ M 4 0 0 * M 5 0 0 ≤ 16) (hs : s ≤ 17) (hsd : sd < 2) (hlf : lf < 16) (hah : M 17 lf 0 < 16) (hov : M 18 lf 0 < 2) : f_Met l yX5_pageOn cX5_pageOn 5 (some .int) 1 0 0 20 Γ B0 [.ref (ad 30 0), .int (nI (s)), .int (nI (sd)), .int (nI (lf))] (wj F X (mw Γ ad M)) (f_is (plJ M s sd lf) (wj F X (mw Γ ad M))) f_no := by
  refine f_of hl (by decide) rfl (Nat.le_of_ble_eq_true rfl) (fun X9 C E hh hnm => ?_)
  generalize (f_s X9).heap = H, ([] : List Loc) = locs at hh ⊢
  have hb : 2 * (M 4 0 0 * M 5 0 0) * s ≤ 544 := Nat.le_trans (Nat.mul_le_mul (Nat.mul_le_mul_left 2 hlv.2) hs) (by decide)
  refine r_iconst C (nI 2) dX5_pageOn_0 rfl ?_
  refine r_aload_n C dX5_pageOn_1 rfl ?_
  refine r_callV C E hh (c_X5_leaves E.2.1 Γ B0 ad M F X) lk_X5_90 (tr := .inr (.inr 0)) rfl rfl rfl rfl (Nat.le_of_ble_eq_true rfl) dX5_pageOn_2 ⟨by decide, by decide⟩ ⟨by omega, by omega⟩ (fun _ _ z9 => False.elim z9) (kk_is (fun H locs hs9 hh => ?_))
  refine r_imulN C dX5_pageOn_5 ?_
  refine r_iload_n C dX5_pageOn_6 rfl ?_
  refine r_imulN C dX5_pageOn_7 ?_
  refine r_iconst C (nI 2) dX5_pageOn_8 rfl ?_
  refine r_aload_n C dX5_pageOn_9 rfl ?_
  refine g_X5_34 C hh dX5_pageOn_10 ?_
  refine r_iload_n C dX5_pageOn_13 rfl ?_
  refine al_m_ahead C hh (by omega) dX5_pageOn_14 ?_
  refine r_imulN C dX5_pageOn_15 ?_
  refine r_iaddN C dX5_pageOn_16 ?_
  refine r_iload_n C dX5_pageOn_17 rfl ?_
  refine r_aload_n C dX5_pageOn_18 rfl ?_
  refine g_X5_37 C hh dX5_pageOn_19 ?_
  refine r_iload_n C dX5_pageOn_22 rfl ?_
  refine al_m_over C hh (by omega) dX5_pageOn_23 ?_
  refine r_icmp_neN (tgt := 31) C dX5_pageOn_24 (by decide) (by omega) (by omega) (fun h24 => ?_) (fun h24 => ?_)
  · have e24 : 2 * (M 4 0 0 * M 5 0 0) * s + 2 * M 17 lf 0 + 1 = plM M s sd lf := by unfold plM; rw [if_neg h24]
    refine r_iconst C (nI 1) dX5_pageOn_31 rfl ?_
    refine r_iaddN C dX5_pageOn_32 ?_
    rw [e24]
    refine r_istore C dX5_pageOn_33 rfl rfl ?_
    refine r_iload C dX5_pageOn_35 rfl ?_
    refine r_aload_n C dX5_pageOn_37 rfl ?_
    refine g_X5_70 C hh dX5_pageOn_38 ?_
    refine r_icmp_geN (tgt := 49) C dX5_pageOn_41 (by decide) (by omega) (by omega) (fun h41 => ?_) (fun h41 => ?_)
    · refine r_iconst C (-1) dX5_pageOn_49 rfl ?_
      exact r_iret C E hh dX5_pageOn_50 (by omega) (by omega) (ri2 (by unfold plJ; first | rw [if_pos (by omega)] | rw [if_neg (by omega)]))
    · refine r_iload C dX5_pageOn_44 rfl ?_
      refine r_goto (tgt := 50) C dX5_pageOn_46 (by decide) ?_
      exact r_iret C E hh dX5_pageOn_50 (by omega) (by omega) (ri2 (by unfold plJ; first | rw [if_pos (by omega)] | rw [if_neg (by omega)]))
  · have e24 : 2 * (M 4 0 0 * M 5 0 0) * s + 2 * M 17 lf 0 + 0 = plM M s sd lf := by unfold plM; rw [if_pos h24]
    refine r_iconst C (nI 0) dX5_pageOn_27 rfl ?_
    refine r_goto (tgt := 32) C dX5_pageOn_28 (by decide) ?_
    refine r_iaddN C dX5_pageOn_32 ?_
    rw [e24]
    refine r_istore C dX5_pageOn_33 rfl rfl ?_
    refine r_iload C dX5_pageOn_35 rfl ?_
    refine r_aload_n C dX5_pageOn_37 rfl ?_
    refine g_X5_70 C hh dX5_pageOn_38 ?_
    refine r_icmp_geN (tgt := 49) C dX5_pageOn_41 (by decide) (by omega) (by omega) (fun h41 => ?_) (fun h41 => ?_)
    · refine r_iconst C (-1) dX5_pageOn_49 rfl ?_
      exact r_iret C E hh dX5_pageOn_50 (by omega) (by omega) (ri2 (by unfold plJ; first | rw [if_pos (by omega)] | rw [if_neg (by omega)]))
    · refine r_iload C dX5_pageOn_44 rfl ?_
      refine r_goto (tgt := 50) C dX5_pageOn_46 (by decide) ?_
      exact r_iret C E hh dX5_pageOn_50 (by omega) (by omega) (ri2 (by unfold plJ; first | rw [if_pos (by omega)] | rw [if_neg (by omega)]))

set_option maxHeartbeats 4000000 in
set_option maxRecDepth 100000 in
theorem c_X5_areSets {l : Launch} (hl : l.stackTraces = false) (Γ : fG) (B0 : Nat) (w : fV) (x y : Int32) : f_Met l yX5_areSets cX5_areSets 2 (some .boolean) 1 0 0 22 Γ B0 [.int x, .int y] (w) (f_is (bI (rgB x 256 && rgB y 16)) w) f_no := by
  refine f_of hl (by decide) rfl (Nat.le_of_ble_eq_true rfl) (fun X9 C E hh hnm => ?_)
  generalize (f_s X9).heap = H, ([] : List Loc) = locs at hh ⊢
  refine r_iload_n C dX5_areSets_0 rfl ?_
  refine r_iconst C (nI 0) dX5_areSets_1 rfl ?_
  refine r_sipush C (nI 255) dX5_areSets_2 rfl ?_
  refine r_callS C E hh (c_X5_in E.2.1 Γ B0 _ _ _ _) lk_X5_73 rfl rfl (Nat.le_of_ble_eq_true rfl) dX5_areSets_5 ⟨by decide, by decide⟩ ⟨by omega, by omega⟩ (fun _ _ z9 => False.elim z9) (kk_is (fun H locs hs9 hh => ?_))
  refine r_if_eqB (tgt := 25) C dX5_areSets_8 (by decide) (fun h8 => ?_) (fun h8 => ?_)
  · refine r_iconst C (bI false) dX5_areSets_25 rfl ?_
    exact r_zret C E hh dX5_areSets_26 (by omega) (by omega) (rb (by unfold rgB; rw [show nI 256 - nI 1 = nI 255 from by decide, show nI 16 - nI 1 = nI 15 from by decide]; first | (rw [h8, h18]; rfl) | (rw [h8]; rfl)))
  · refine r_iload_n C dX5_areSets_11 rfl ?_
    refine r_iconst C (nI 0) dX5_areSets_12 rfl ?_
    refine r_bipush C (nI 15) dX5_areSets_13 rfl ?_
    refine r_callS C E hh (c_X5_in E.2.1 Γ B0 _ _ _ _) lk_X5_73 rfl rfl (Nat.le_of_ble_eq_true rfl) dX5_areSets_15 ⟨by decide, by decide⟩ ⟨by omega, by omega⟩ (fun _ _ z9 => False.elim z9) (kk_is (fun H locs hs9 hh => ?_))
    refine r_if_eqB (tgt := 25) C dX5_areSets_18 (by decide) (fun h18 => ?_) (fun h18 => ?_)
    · refine r_iconst C (bI false) dX5_areSets_25 rfl ?_
      exact r_zret C E hh dX5_areSets_26 (by omega) (by omega) (rb (by unfold rgB; rw [show nI 256 - nI 1 = nI 255 from by decide, show nI 16 - nI 1 = nI 15 from by decide]; first | (rw [h8, h18]; rfl) | (rw [h8]; rfl)))
    · refine r_iconst C (bI true) dX5_areSets_21 rfl ?_
      refine r_goto (tgt := 26) C dX5_areSets_22 (by decide) ?_
      exact r_zret C E hh dX5_areSets_26 (by omega) (by omega) (rb (by unfold rgB; rw [show nI 256 - nI 1 = nI 255 from by decide, show nI 16 - nI 1 = nI 15 from by decide]; first | (rw [h8, h18]; rfl) | (rw [h8]; rfl)))

def clM (f : Nat → Nat → Nat) (p x : Nat) : Nat → Nat → Nat := fun i j => if 4 * p ≤ i ∧ i < 4 * p + x then 0 else f i j
theorem clM_0 (M : fR) (p : Nat) : rs M 13 (clM (M 13) p 0) = M := by
  rw [show clM (M 13) p 0 = M 13 by funext i j; exact if_neg (by omega), rs_id]
theorem clM_s (f : Nat → Nat → Nat) (p x : Nat) : u1 (clM f p x) (4 * p + x) 0 = clM f p (x + 1) := by
  funext i j
  unfold u1 clM
  by_cases h : i = 4 * p + x
  · rw [if_pos h, if_pos (by omega)]
  · rw [if_neg h]
    by_cases h2 : 4 * p ≤ i ∧ i < 4 * p + x
    · rw [if_pos h2, if_pos (by omega)]
    · rw [if_neg h2, if_neg (by omega)]
set_option maxHeartbeats 4000000 in
set_option maxRecDepth 100000 in
theorem c_X5_clears {l : Launch} (hl : l.stackTraces = false) (Γ : fG) (B0 : Nat) (ad : Nat → Nat → Nat) (M : fR) (F : Nat → fO) (X : Nat × Nat → fO) (p : Nat) (hp : p < 100) : f_Met l yX5_clears cX5_clears 3 none 0 0 0 0 Γ B0 [.ref (ad 30 0), .int (nI (p))] (wj F X (mw Γ ad M)) (f_to (wj F X (mw Γ ad (rs M 13 (clM (M 13) p 4))))) f_no := by
  refine f_of hl (by decide) rfl (Nat.le_of_ble_eq_true rfl) (fun X9 C E hh hnm => ?_)
  generalize (f_s X9).heap = H, ([] : List Loc) = locs at hh ⊢
  refine r_iconst C (nI 0) dX5_clears_0 rfl ?_
  refine r_istore_n C dX5_clears_1 rfl rfl ?_
  have lp2 : ∀ (d9 : Nat) (x : Nat) (H : Heap) (locs : List Loc), 4 - x < d9 → x ≤ 4 → f_HS Γ B0 (wj F X (mw Γ ad (rs M 13 (clM (M 13) p x)))) X9 H locs → f_W X9 H locs 0 0 2 [some (.ref (ad 30 0)), some (.int (nI (p))), some (.int (nI (x)))] [] := by
    intro d9
    induction d9 with
    | zero => intro x H locs hd9 hl hh; exact absurd hd9 (Nat.not_lt_zero _)
    | succ d9 ih2 =>
      intro x H locs hd9 hl hh
      refine r_iload_n C dX5_clears_2 rfl ?_
      refine r_iconst C (nI 4) dX5_clears_3 rfl ?_
      refine r_icmp_geN (tgt := 24) C dX5_clears_4 (by decide) (by omega) (by omega) (fun h4 => ?_) (fun h4 => ?_)
      · obtain rfl : x = 4 := by omega
        exact r_vret C E hh dX5_clears_24 (by omega) (by omega) ⟨rfl, rfl⟩
      · refine r_aload_n C dX5_clears_7 rfl ?_
        refine g_X5_22 C hh dX5_clears_8 ?_
        refine r_iconst C (nI 4) dX5_clears_11 rfl ?_
        refine r_iload_n C dX5_clears_12 rfl ?_
        refine r_imulN C dX5_clears_13 ?_
        refine r_iload_n C dX5_clears_14 rfl ?_
        refine r_iaddN C dX5_clears_15 ?_
        refine r_iconst C (nI 0) dX5_clears_16 rfl ?_
        refine as_m_proof C hh (by omega) dX5_clears_17 (fun H locs hh => ?_)
        rw [rs_same, rs_rs, clM_s] at hh
        refine r_iincN C dX5_clears_18 rfl rfl ?_
        refine r_goto (tgt := 2) C dX5_clears_21 (by decide) ?_
        exact ih2 (x + 1) _ _ (by omega) (by omega) hh
  rw [← clM_0 M p] at hh
  exact lp2 5 0 _ _ (by omega) (by omega) hh

theorem iM_m1 {v : Nat} (h : iM v = -1) (hv : v < 2 ^ 31) : v = 0 := by
  rcases Nat.eq_zero_or_pos v with z | z
  · exact z
  · rw [iM_pos z] at h
    have := nI_pos (n := v - 1) (by omega)
    rw [h] at this
    exact absurd (by decide) this
def mayB (M : fR) (f : Nat) : Bool := M 14 f 0 != 0 && inn (nI (M 0 0 0)) (iM (M 14 f 0)) (iM (M 15 f 0))
set_option maxHeartbeats 4000000 in
set_option maxRecDepth 100000 in
theorem c_X5_may {l : Launch} (hl : l.stackTraces = false) (Γ : fG) (B0 : Nat) (ad : Nat → Nat → Nat) (M : fR) (F : Nat → fO) (X : Nat × Nat → fO) (f : Nat) (hf : f < 8) (h14 : M 14 f 0 < 2 ^ 31) : f_Met l yX5_may cX5_may 2 (some .boolean) 1 0 0 22 Γ B0 [.ref (ad 30 0), .int (nI (f))] (wj F X (mw Γ ad M)) (f_is (bI (mayB M f)) (wj F X (mw Γ ad M))) f_no := by
  refine f_of hl (by decide) rfl (Nat.le_of_ble_eq_true rfl) (fun X9 C E hh hnm => ?_)
  generalize (f_s X9).heap = H, ([] : List Loc) = locs at hh ⊢
  refine r_aload_n C dX5_may_0 rfl ?_
  refine g_X5_25 C hh dX5_may_1 ?_
  refine r_iload_n C dX5_may_4 rfl ?_
  refine al_m_from C hh (by omega) dX5_may_5 ?_
  refine r_iconst C (-1) dX5_may_6 rfl ?_
  refine r_icmp_eq (tgt := 36) C dX5_may_7 (by decide) (fun h7 => ?_) (fun h7 => ?_)
  · have e7 := iM_m1 h7 h14
    refine r_iconst C (bI false) dX5_may_36 rfl ?_
    exact r_zret C E hh dX5_may_37 (by omega) (by omega) (rb (by unfold mayB; first | (rw [h29]; simp [e7]; done) | (simp [e7]; done)))
  · have e7 : M 14 f 0 ≠ 0 := fun z => h7 (by rw [z]; rfl)
    refine r_aload_n C dX5_may_10 rfl ?_
    refine g_X5_149 C hh dX5_may_11 ?_
    refine r_aload_n C dX5_may_14 rfl ?_
    refine g_X5_25 C hh dX5_may_15 ?_
    refine r_iload_n C dX5_may_18 rfl ?_
    refine al_m_from C hh (by omega) dX5_may_19 ?_
    refine r_aload_n C dX5_may_20 rfl ?_
    refine g_X5_28 C hh dX5_may_21 ?_
    refine r_iload_n C dX5_may_24 rfl ?_
    refine al_m_to C hh (by omega) dX5_may_25 ?_
    refine r_callS C E hh (c_X5_in E.2.1 Γ B0 _ _ _ _) lk_X5_73 rfl rfl (Nat.le_of_ble_eq_true rfl) dX5_may_26 ⟨by decide, by decide⟩ ⟨by omega, by omega⟩ (fun _ _ z9 => False.elim z9) (kk_is (fun H locs hs9 hh => ?_))
    refine r_if_eqB (tgt := 36) C dX5_may_29 (by decide) (fun h29 => ?_) (fun h29 => ?_)
    · refine r_iconst C (bI false) dX5_may_36 rfl ?_
      exact r_zret C E hh dX5_may_37 (by omega) (by omega) (rb (by unfold mayB; first | (rw [h29]; simp [e7]; done) | (simp [e7]; done)))
    · refine r_iconst C (bI true) dX5_may_32 rfl ?_
      refine r_goto (tgt := 37) C dX5_may_33 (by decide) ?_
      exact r_zret C E hh dX5_may_37 (by omega) (by omega) (rb (by unfold mayB; first | (rw [h29]; simp [e7]; done) | (simp [e7]; done)))

def mya (M : fR) (p : Nat) : Nat → Bool
  | 0 => true
  | x + 1 => mya M p x && (!tb (M 10 p 0) x || mayB M x)
set_option maxHeartbeats 4000000 in
set_option maxRecDepth 100000 in
theorem c_X5_mayAll {l : Launch} (hl : l.stackTraces = false) (Γ : fG) (B0 : Nat) (ad : Nat → Nat → Nat) (M : fR) (F : Nat → fO) (X : Nat × Nat → fO) (p : Nat) (hp : p < 100) (h10 : M 10 p 0 < 2 ^ 31) (h14 : ∀ f, M 14 f 0 < 2 ^ 31) : f_Met l yX5_mayAll cX5_mayAll 4 (some .boolean) 2 0 0 43 Γ B0 [.ref (ad 30 0), .int (nI (p))] (wj F X (mw Γ ad M)) (f_is (bI (mya M p 8)) (wj F X (mw Γ ad M))) f_no := by
  refine f_of hl (by decide) rfl (Nat.le_of_ble_eq_true rfl) (fun X9 C E hh hnm => ?_)
  generalize (f_s X9).heap = H, ([] : List Loc) = locs at hh ⊢
  refine r_iconst C (bI true) dX5_mayAll_0 rfl ?_
  refine r_istore_n C dX5_mayAll_1 rfl rfl ?_
  refine r_iconst C (nI 0) dX5_mayAll_2 rfl ?_
  refine r_istore_n C dX5_mayAll_3 rfl rfl ?_
  have lp4 : ∀ (d9 : Nat) (x : Nat) (H : Heap) (locs : List Loc), 8 - x < d9 → x ≤ 8 → f_HS Γ B0 (wj F X (mw Γ ad M)) X9 H locs → f_W X9 H locs 0 0 4 [some (.ref (ad 30 0)), some (.int (nI (p))), some (.int (bI (mya M p x))), some (.int (nI (x)))] [] := by
    intro d9
    induction d9 with
    | zero => intro x H locs hd9 hl hh; exact absurd hd9 (Nat.not_lt_zero _)
    | succ d9 ih4 =>
      intro x H locs hd9 hl hh
      refine r_iload_n C dX5_mayAll_4 rfl ?_
      refine r_bipush C (nI 8) dX5_mayAll_5 rfl ?_
      refine r_icmp_geN (tgt := 47) C dX5_mayAll_7 (by decide) (by omega) (by omega) (fun h7 => ?_) (fun h7 => ?_)
      · obtain rfl : x = 8 := by omega
        refine r_iload_n C dX5_mayAll_47 rfl ?_
        exact r_zret C E hh dX5_mayAll_48 (by omega) (by omega) ⟨rfl, rfl⟩
      · refine r_iload_n C dX5_mayAll_10 rfl ?_
        refine r_if_eqB (tgt := 39) C dX5_mayAll_11 (by decide) (fun h11 => ?_) (fun h11 => ?_)
        · have hv : mya M p (x + 1) = false := by simp [mya, h11]
          refine r_iconst C (bI (mya M p (x + 1))) dX5_mayAll_39 (by rw [hv]; rfl) ?_
          refine r_istore_n C dX5_mayAll_40 rfl rfl ?_
          refine r_iincN C dX5_mayAll_41 rfl rfl ?_
          refine r_goto (tgt := 4) C dX5_mayAll_44 (by decide) ?_
          exact ih4 (x + 1) _ _ (by omega) (by omega) hh
        · refine r_aload_n C dX5_mayAll_14 rfl ?_
          refine g_X5_13 C hh dX5_mayAll_15 ?_
          refine r_iload_n C dX5_mayAll_18 rfl ?_
          refine al_m_fonts C hh (by omega) dX5_mayAll_19 ?_
          refine r_iload_n C dX5_mayAll_20 rfl ?_
          refine r_callS C E hh (c_X5_has E.2.1 Γ B0 _ _ _ h10 (by omega)) lk_X5_122 rfl rfl (Nat.le_of_ble_eq_true rfl) dX5_mayAll_21 ⟨by decide, by decide⟩ ⟨by omega, by omega⟩ (fun _ _ z9 => False.elim z9) (kk_is (fun H locs hs9 hh => ?_))
          refine r_if_eqB (tgt := 35) C dX5_mayAll_24 (by decide) (fun h24 => ?_) (fun h24 => ?_)
          · have hv : mya M p (x + 1) = true := by simp [mya, h11, h24]
            refine r_iconst C (bI (mya M p (x + 1))) dX5_mayAll_35 (by rw [hv]; rfl) ?_
            refine r_goto (tgt := 40) C dX5_mayAll_36 (by decide) ?_
            refine r_istore_n C dX5_mayAll_40 rfl rfl ?_
            refine r_iincN C dX5_mayAll_41 rfl rfl ?_
            refine r_goto (tgt := 4) C dX5_mayAll_44 (by decide) ?_
            exact ih4 (x + 1) _ _ (by omega) (by omega) hh
          · refine r_aload_n C dX5_mayAll_27 rfl ?_
            refine r_iload_n C dX5_mayAll_28 rfl ?_
            refine r_callV C E hh (c_X5_may E.2.1 Γ B0 ad M F X x (by omega) (h14 x)) lk_X5_152 (tr := .inr (.inr 0)) rfl rfl rfl rfl (Nat.le_of_ble_eq_true rfl) dX5_mayAll_29 ⟨by decide, by decide⟩ ⟨by omega, by omega⟩ (fun _ _ z9 => False.elim z9) (kk_is (fun H locs hs9 hh => ?_))
            refine r_if_eqB (tgt := 39) C dX5_mayAll_32 (by decide) (fun h32 => ?_) (fun h32 => ?_)
            · have hv : mya M p (x + 1) = false := by simp [mya, h24, h32]
              refine r_iconst C (bI (mya M p (x + 1))) dX5_mayAll_39 (by rw [hv]; rfl) ?_
              refine r_istore_n C dX5_mayAll_40 rfl rfl ?_
              refine r_iincN C dX5_mayAll_41 rfl rfl ?_
              refine r_goto (tgt := 4) C dX5_mayAll_44 (by decide) ?_
              exact ih4 (x + 1) _ _ (by omega) (by omega) hh
            · have hv : mya M p (x + 1) = true := by simp [mya, h11, h32]
              refine r_iconst C (bI (mya M p (x + 1))) dX5_mayAll_35 (by rw [hv]; rfl) ?_
              refine r_goto (tgt := 40) C dX5_mayAll_36 (by decide) ?_
              refine r_istore_n C dX5_mayAll_40 rfl rfl ?_
              refine r_iincN C dX5_mayAll_41 rfl rfl ?_
              refine r_goto (tgt := 4) C dX5_mayAll_44 (by decide) ?_
              exact ih4 (x + 1) _ _ (by omega) (by omega) hh
  exact lp4 9 0 _ _ (by omega) (by omega) hh

