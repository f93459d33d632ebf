/-! ===== the model: takesOut, remove, edits, edit ===== -/
def tkF (f : Nat → Nat → Nat) (p a : Nat) : Nat → Nat → Nat := tk (fun _ => f) p a
theorem tkF_0 (f : Nat → Nat → Nat) (p : Nat) : tkF f p p = f := by
  funext i j
  have h2 : ¬ (p ≤ i ∧ i < p) := by omega
  simp [tkF, tk, h2]
theorem tkF_s (f : Nat → Nat → Nat) {p a : Nat} (hp : p ≤ a) : u1 (tkF f p a) a (tkF f p a (a + 1) 0) = tkF f p (a + 1) :=
  tk_s (fun _ => f) hp (tk_n (fun _ => f) (Nat.le_succ a)).symm
def toX (M : fR) (p a : Nat) : fR := rs (rs M 2 (k0 (M 2 0 0 - 1))) 9 (tkF (M 9) p a)
def toM (M : fR) (p : Nat) : fR := toX M p (M 2 0 0 - 1)
set_option maxHeartbeats 4000000 in
set_option maxRecDepth 100000 in
theorem c_X5_takesOut {l : Launch} (hl : l.stackTraces = false) (Γ : fG) (B0 : Nat) (ad : Nat → Nat → Nat) (M : fR) (F : Nat → fO) (X : Nat × Nat → fO) (p : Nat) (hp : p < M 2 0 0) (hI : MI M) : f_Met l yX5_takesOut cX5_takesOut 3 none 0 0 0 0 Γ B0 [.ref (ad 30 0), .int (nI (p))] (wj F X (mw Γ ad M)) (f_to (wj F X (mw Γ ad (toM M p)))) f_no := by
  refine f_of hl (by decide) rfl (Nat.le_of_ble_eq_true rfl) (fun X9 C E hh hnm => ?_)
  generalize (f_s X9).heap = H, ([] : List Loc) = locs at hh ⊢
  obtain ⟨i2, i45, i9, i10, i13, i14, i17, i0, i1, -⟩ := id hI
  refine r_aload_n C dX5_takesOut_0 rfl ?_
  refine r_dup C dX5_takesOut_1 rfl ?_
  refine g_X5_70 C hh dX5_takesOut_2 ?_
  refine r_iconst C (nI 1) dX5_takesOut_5 rfl ?_
  refine r_isubN C dX5_takesOut_6 (by omega) ?_
  refine p_X5_70 C hh dX5_takesOut_7 (fun H locs hh => ?_)
  refine r_iload_n C dX5_takesOut_10 rfl ?_
  refine r_istore_n C dX5_takesOut_11 rfl rfl ?_
  have lp12 : ∀ (d9 : Nat) (a : Nat) (H : Heap) (locs : List Loc), M 2 0 0 - a < d9 → p ≤ a → a ≤ M 2 0 0 - 1 → f_HS Γ B0 (wj F X (mw Γ ad (toX M p a))) X9 H locs → f_W X9 H locs 0 0 12 [some (.ref (ad 30 0)), some (.int (nI (p))), some (.int (nI (a)))] [] := by
    intro d9
    induction d9 with
    | zero => intro a H locs hd9 ha1 ha2 hh; exact absurd hd9 (Nat.not_lt_zero _)
    | succ d9 ih12 =>
      intro a H locs hd9 ha1 ha2 hh
      refine r_iload_n C dX5_takesOut_12 rfl ?_
      refine r_aload_n C dX5_takesOut_13 rfl ?_
      refine g_X5_70 C hh dX5_takesOut_14 ?_
      rw [show toX M p a 2 0 0 = M 2 0 0 - 1 from rfl]
      refine r_icmp_geN (tgt := 40) C dX5_takesOut_17 (by decide) (by omega) (by omega) (fun h17 => ?_) (fun h17 => ?_)
      · obtain rfl : a = M 2 0 0 - 1 := by omega
        exact r_vret C E hh dX5_takesOut_40 (by omega) (by omega) ⟨rfl, rfl⟩
      · refine r_aload_n C dX5_takesOut_20 rfl ?_
        refine g_X5_7 C hh dX5_takesOut_21 ?_
        refine r_iload_n C dX5_takesOut_24 rfl ?_
        refine r_aload_n C dX5_takesOut_25 rfl ?_
        refine g_X5_7 C hh dX5_takesOut_26 ?_
        refine r_iload_n C dX5_takesOut_29 rfl ?_
        refine r_iconst C (nI 1) dX5_takesOut_30 rfl ?_
        refine r_iaddN C dX5_takesOut_31 ?_
        refine al_m_order C hh (by omega) dX5_takesOut_32 ?_
        refine as_m_order C hh (by omega) dX5_takesOut_33 (fun H locs hh => ?_)
        replace hh : f_HS Γ B0 (wj F X (mw Γ ad (toX M p (a + 1)))) X9 H locs := by
          unfold toX
          rw [← tkF_s (M 9) ha1, ← rs_rs (rs M 2 (k0 (M 2 0 0 - 1))) 9 (tkF (M 9) p a)]
          exact hh
        refine r_iincN C dX5_takesOut_34 rfl rfl ?_
        refine r_goto (tgt := 12) C dX5_takesOut_37 (by decide) ?_
        exact ih12 (a + 1) _ _ (by omega) (by omega) (by omega) hh
  replace hh : f_HS Γ B0 (wj F X (mw Γ ad (toX M p p))) X9 H locs := by
    unfold toX
    rw [tkF_0, show M 9 = rs M 2 (k0 (M 2 0 0 - 1)) 9 from rfl, rs_id]
    exact hh
  exact lp12 (M 2 0 0 + 1) p _ _ (by omega) (by omega) (by omega) hh

def rvM (M : fR) (x : Int32) : fR := if rgB x (M 2 0 0) = true then toM (rs M 8 (k0 0)) (xN x) else rs M 8 (k0 1)
def rvV (M : fR) (x : Int32) : Int32 := if rgB x (M 2 0 0) = true then nI (M 2 0 0 - 1) else 0
set_option maxHeartbeats 4000000 in
set_option maxRecDepth 100000 in
theorem c_X5_remove {l : Launch} (hl : l.stackTraces = false) (Γ : fG) (B0 : Nat) (ad : Nat → Nat → Nat) (M : fR) (F : Nat → fO) (X : Nat × Nat → fO) (x : Int32) (hI : MI M) : f_Met l yX5_remove cX5_remove 2 (some .int) 2 0 0 43 Γ B0 [.ref (ad 30 0), .int x] (wj F X (mw Γ ad M)) (f_is (rvV M x) (wj F X (mw Γ ad (rvM M x)))) f_no := by
  refine f_of hl (by decide) rfl (Nat.le_of_ble_eq_true rfl) (fun X9 C E hh hnm => ?_)
  generalize (f_s X9).heap = H, ([] : List Loc) = locs at hh ⊢
  obtain ⟨i2, i45, i9, i10, i13, i14, i17, i0, i1, -⟩ := id hI
  refine r_aload_n C dX5_remove_0 rfl ?_
  refine r_aload_n C dX5_remove_1 rfl ?_
  refine r_iload_n C dX5_remove_2 rfl ?_
  refine r_callV C E hh (c_X5_isPage E.2.1 Γ B0 ad M F X x) lk_X5_105 (tr := .inr (.inr 0)) rfl rfl rfl rfl (Nat.le_of_ble_eq_true rfl) dX5_remove_3 ⟨by decide, by decide⟩ ⟨by omega, by omega⟩ (fun _ _ z9 => False.elim z9) (kk_is (fun H locs hs9 hh => ?_))
  refine r_iconst C (bI true) dX5_remove_6 rfl ?_
  refine r_iconst C (bI true) dX5_remove_7 rfl ?_
  refine r_callV C E hh (c_X5_goes E.2.1 Γ B0 ad M F X (rgB x (M 2 0 0)) true true) lk_X5_101 (tr := .inr (.inr 0)) rfl rfl rfl rfl (Nat.le_of_ble_eq_true rfl) dX5_remove_8 ⟨by decide, by decide⟩ ⟨by omega, by omega⟩ (fun _ _ z9 => False.elim z9) (kk_is (fun H locs hs9 hh => ?_))
  rw [Bool.and_true, Bool.and_true]
  refine r_if_neB (tgt := 16) C dX5_remove_11 (by decide) (fun h11 => ?_) (fun h11 => ?_)
  · obtain ⟨jx, hjx, ex⟩ := rg_of ((rgB_rg (by omega)).mp h11) (by omega)
    have e1 : xN x = jx := by rw [ex]; exact xN_nI (by omega)
    rw [ex]
    rw [h11, show thr true true true = 0 from rfl] at hh
    refine r_aload_n C dX5_remove_16 rfl ?_
    refine r_iload_n C dX5_remove_17 rfl ?_
    refine r_callV C E hh (c_X5_takesOut E.2.1 Γ B0 ad (rs M 8 (k0 0)) F X jx hjx hI) lk_X5_109 (tr := .inr (.inr 0)) rfl rfl rfl rfl (Nat.le_of_ble_eq_true rfl) dX5_remove_18 ⟨by decide, by decide⟩ ⟨by omega, by omega⟩ (fun _ _ z9 => False.elim z9) (kk_to (fun H locs hs9 hh => ?_))
    have epa : rvM M x = toM (rs M 8 (k0 0)) jx := by unfold rvM; rw [if_pos h11, e1]
    refine r_aload_n C dX5_remove_21 rfl ?_
    refine g_X5_70 C hh dX5_remove_22 ?_
    rw [show toM (rs M 8 (k0 0)) jx 2 0 0 = M 2 0 0 - 1 from rfl]
    rw [← epa] at hh
    have hv : nI (M 2 0 0 - 1) = rvV M x := (if_pos h11).symm
    exact r_iret C E hh dX5_remove_25 (by omega) (by omega) (ri2 hv)
  · rw [h11, show thr false true true = 1 from rfl] at hh
    rw [show rs M 8 (k0 1) = rvM M x from (if_neg (by rw [h11]; decide)).symm] at hh
    have hv : nI 0 = rvV M x := by unfold rvV; rw [if_neg (by rw [h11]; decide)]; rfl
    refine r_iconst C (nI 0) dX5_remove_14 rfl ?_
    exact r_iret C E hh dX5_remove_15 (by omega) (by omega) (ri2 hv)

def edM (M : fR) (p a b : Nat) : fR := rs (rs (rs (rs M 10 (u1 (M 10) p a)) 11 (u1 (M 11) p b)) 12 (u1 (M 12) p (M 12 p 0 + 1))) 13 (clM (M 13) p 4)
set_option maxHeartbeats 4000000 in
set_option maxRecDepth 100000 in
theorem c_X5_edits {l : Launch} (hl : l.stackTraces = false) (Γ : fG) (B0 : Nat) (ad : Nat → Nat → Nat) (M : fR) (F : Nat → fO) (X : Nat × Nat → fO) (p a b : Nat) (hp : p < 100) : f_Met l yX5_edits cX5_edits 4 none 1 0 0 22 Γ B0 [.ref (ad 30 0), .int (nI (p)), .int (nI (a)), .int (nI (b))] (wj F X (mw Γ ad M)) (f_to (wj F X (mw Γ ad (edM M p a b)))) f_no := by
  refine f_of hl (by decide) rfl (Nat.le_of_ble_eq_true rfl) (fun X9 C E hh hnm => ?_)
  generalize (f_s X9).heap = H, ([] : List Loc) = locs at hh ⊢
  refine r_aload_n C dX5_edits_0 rfl ?_
  refine g_X5_13 C hh dX5_edits_1 ?_
  refine r_iload_n C dX5_edits_4 rfl ?_
  refine r_iload_n C dX5_edits_5 rfl ?_
  refine as_m_fonts C hh (by omega) dX5_edits_6 (fun H locs hh => ?_)
  refine r_aload_n C dX5_edits_7 rfl ?_
  refine g_X5_16 C hh dX5_edits_8 ?_
  refine r_iload_n C dX5_edits_11 rfl ?_
  refine r_iload_n C dX5_edits_12 rfl ?_
  refine as_m_colors C hh (by omega) dX5_edits_13 (fun H locs hh => ?_)
  refine r_aload_n C dX5_edits_14 rfl ?_
  refine g_X5_19 C hh dX5_edits_15 ?_
  refine r_iload_n C dX5_edits_18 rfl ?_
  refine r_dup2 C dX5_edits_19 rfl rfl ?_
  refine al_m_edition C hh (by omega) dX5_edits_20 ?_
  refine r_iconst C (nI 1) dX5_edits_21 rfl ?_
  refine r_iaddN C dX5_edits_22 ?_
  refine as_m_edition C hh (by omega) dX5_edits_23 (fun H locs hh => ?_)
  refine r_aload_n C dX5_edits_24 rfl ?_
  refine r_iload_n C dX5_edits_25 rfl ?_
  refine r_callV C E hh (c_X5_clears E.2.1 Γ B0 ad _ F X p hp) lk_X5_112 (tr := .inr (.inr 0)) rfl rfl rfl rfl (Nat.le_of_ble_eq_true rfl) dX5_edits_26 ⟨by decide, by decide⟩ ⟨by omega, by omega⟩ (fun _ _ z9 => False.elim z9) (kk_to (fun H locs hs9 hh => ?_))
  exact r_vret C E hh dX5_edits_29 (by omega) (by omega) ⟨rfl, rfl⟩

def okE (M : fR) (x y z : Int32) : Bool := rgB x (M 2 0 0) && (rgB y 256 && rgB z 16)
def eiM (M : fR) (x y z : Int32) : fR := if okE M x y z = true then edM (rs M 8 (k0 0)) (M 9 (xN x) 0) (xN y) (xN z) else rs M 8 (k0 (thr (rgB x (M 2 0 0)) (rgB y 256 && rgB z 16) true))
def eiV (M : fR) (x y z : Int32) : Int32 := if okE M x y z = true then nI (M 12 (M 9 (xN x) 0) 0 + 1) else 0
set_option maxHeartbeats 4000000 in
set_option maxRecDepth 100000 in
theorem c_X5_edit {l : Launch} (hl : l.stackTraces = false) (Γ : fG) (B0 : Nat) (ad : Nat → Nat → Nat) (M : fR) (F : Nat → fO) (X : Nat × Nat → fO) (x y z : Int32) (hI : MI M) : f_Met l yX5_edit cX5_edit 4 (some .int) 2 0 0 45 Γ B0 [.ref (ad 30 0), .int x, .int y, .int z] (wj F X (mw Γ ad M)) (f_is (eiV M x y z) (wj F X (mw Γ ad (eiM M x y z)))) f_no := by
  refine f_of hl (by decide) rfl (Nat.le_of_ble_eq_true rfl) (fun X9 C E hh hnm => ?_)
  generalize (f_s X9).heap = H, ([] : List Loc) = locs at hh ⊢
  obtain ⟨i2, i45, i9, i10, i13, i14, i17, i0, i1, -⟩ := id hI
  refine r_aload_n C dX5_edit_0 rfl ?_
  refine r_aload_n C dX5_edit_1 rfl ?_
  refine r_iload_n C dX5_edit_2 rfl ?_
  refine r_callV C E hh (c_X5_isPage E.2.1 Γ B0 ad M F X x) lk_X5_105 (tr := .inr (.inr 0)) rfl rfl rfl rfl (Nat.le_of_ble_eq_true rfl) dX5_edit_3 ⟨by decide, by decide⟩ ⟨by omega, by omega⟩ (fun _ _ z9 => False.elim z9) (kk_is (fun H locs hs9 hh => ?_))
  refine r_iload_n C dX5_edit_6 rfl ?_
  refine r_iload_n C dX5_edit_7 rfl ?_
  refine r_callS C E hh (c_X5_areSets E.2.1 Γ B0 _ y z) lk_X5_94 rfl rfl (Nat.le_of_ble_eq_true rfl) dX5_edit_8 ⟨by decide, by decide⟩ ⟨by omega, by omega⟩ (fun _ _ z9 => False.elim z9) (kk_is (fun H locs hs9 hh => ?_))
  refine r_iconst C (bI true) dX5_edit_11 rfl ?_
  refine r_callV C E hh (c_X5_goes E.2.1 Γ B0 ad M F X (rgB x (M 2 0 0)) (rgB y 256 && rgB z 16) true) lk_X5_101 (tr := .inr (.inr 0)) rfl rfl rfl rfl (Nat.le_of_ble_eq_true rfl) dX5_edit_12 ⟨by decide, by decide⟩ ⟨by omega, by omega⟩ (fun _ _ z9 => False.elim z9) (kk_is (fun H locs hs9 hh => ?_))
  rw [Bool.and_true]
  refine r_if_neB (tgt := 20) C dX5_edit_15 (by decide) (fun h15 => ?_) (fun h15 => ?_)
  · have hok : okE M x y z = true := h15
    have hq := h15
    rw [Bool.and_eq_true, Bool.and_eq_true] at hq
    obtain ⟨jx, hjx, ex⟩ := rg_of ((rgB_rg (by omega)).mp hq.1) (by omega)
    obtain ⟨jy, hjy, ey⟩ := rg_of ((rgB_rg (by omega)).mp hq.2.1) (by omega)
    obtain ⟨jz, hjz, ez⟩ := rg_of ((rgB_rg (by omega)).mp hq.2.2) (by omega)
    have e1 : xN x = jx := by rw [ex]; exact xN_nI (by omega)
    have e2 : xN y = jy := by rw [ey]; exact xN_nI (by omega)
    have e3 : xN z = jz := by rw [ez]; exact xN_nI (by omega)
    rw [hq.1, hq.2.1, hq.2.2, show thr true (true && true) true = 0 from rfl] at hh
    rw [ex, ey, ez]
    have j9 := i9 jx
    have epa : eiM M x y z = edM (rs M 8 (k0 0)) (M 9 jx 0) jy jz := by unfold eiM; rw [if_pos hok, e1, e2, e3]
    refine r_aload_n C dX5_edit_20 rfl ?_
    refine r_aload_n C dX5_edit_21 rfl ?_
    refine g_X5_7 C hh dX5_edit_22 ?_
    refine r_iload_n C dX5_edit_25 rfl ?_
    refine al_m_order C hh (by omega) dX5_edit_26 ?_
    rw [show rs M 8 (k0 0) 9 jx 0 = M 9 jx 0 from rfl]
    refine r_iload_n C dX5_edit_27 rfl ?_
    refine r_iload_n C dX5_edit_28 rfl ?_
    refine r_callV C E hh (c_X5_edits E.2.1 Γ B0 ad (rs M 8 (k0 0)) F X (M 9 jx 0) jy jz j9) lk_X5_115 (tr := .inr (.inr 0)) rfl rfl rfl rfl (Nat.le_of_ble_eq_true rfl) dX5_edit_29 ⟨by decide, by decide⟩ ⟨by omega, by omega⟩ (fun _ _ z9 => False.elim z9) (kk_to (fun H locs hs9 hh => ?_))
    refine r_aload_n C dX5_edit_32 rfl ?_
    refine g_X5_19 C hh dX5_edit_33 ?_
    refine r_aload_n C dX5_edit_36 rfl ?_
    refine g_X5_7 C hh dX5_edit_37 ?_
    refine r_iload_n C dX5_edit_40 rfl ?_
    refine al_m_order C hh (by omega) dX5_edit_41 ?_
    rw [show edM (rs M 8 (k0 0)) (M 9 jx 0) jy jz 9 jx 0 = M 9 jx 0 from rfl]
    refine al_m_edition C hh (by omega) dX5_edit_42 ?_
    rw [show edM (rs M 8 (k0 0)) (M 9 jx 0) jy jz 12 (M 9 jx 0) 0 = M 12 (M 9 jx 0) 0 + 1 from if_pos rfl]
    rw [← epa] at hh
    have hv : nI (M 12 (M 9 jx 0) 0 + 1) = eiV M x y z := by unfold eiV; rw [if_pos hok, e1]
    exact r_iret C E hh dX5_edit_43 (by omega) (by omega) (ri2 hv)
  · have hv : nI 0 = eiV M x y z := by unfold eiV; rw [if_neg (by unfold okE; rw [h15]; decide)]; rfl
    rw [show rs M 8 (k0 (thr (rgB x (M 2 0 0)) (rgB y 256 && rgB z 16) true)) = eiM M x y z from (if_neg (by unfold okE; rw [h15]; decide)).symm] at hh
    refine r_iconst C (nI 0) dX5_edit_18 rfl ?_
    exact r_iret C E hh dX5_edit_19 (by omega) (by omega) (ri2 hv)

