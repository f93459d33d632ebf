/-! ===== the model: move ===== -/
def okV (M : fR) (x y : Int32) : Bool := rgB x (M 2 0 0) && rgB y (M 2 0 0)
def mvX (M : fR) (p o : Nat) : fR := rs (rs (toM M p) 9 (u1 (sr2 (toM M p 9) o (M 2 0 0 - 1)) o (M 9 p 0))) 2 (k0 (M 2 0 0 - 1 + 1))
def mvI (M : fR) (x y : Int32) : fR := if okV M x y = true then mvX (rs M 8 (k0 0)) (xN x) (xN y) else rs M 8 (k0 1)
set_option maxHeartbeats 4000000 in
set_option maxRecDepth 100000 in
theorem c_X5_move {l : Launch} (hl : l.stackTraces = false) (Γ : fG) (B0 : Nat) (ad : Nat → Nat → Nat) (M : fR) (F : Nat → fO) (X : Nat × Nat → fO) (x y : Int32) (hI : MI M) : f_Met l yX5_move cX5_move 5 none 2 0 0 43 Γ B0 [.ref (ad 30 0), .int x, .int y] (wj F X (mw Γ ad M)) (f_to (wj F X (mw Γ ad (mvI M x y)))) f_no := by
  refine f_of hl (by decide) rfl (Nat.le_of_ble_eq_true rfl) (fun X9 C E hh hnm => ?_)
  generalize (f_s X9).heap = H, ([] : List Loc) = locs at hh ⊢
  obtain ⟨i2, i45, i9, i10, i13, i14, i17, i0, i1, -⟩ := id hI
  refine r_aload_n C dX5_move_0 rfl ?_
  refine r_aload_n C dX5_move_1 rfl ?_
  refine r_iload_n C dX5_move_2 rfl ?_
  refine r_callV C E hh (c_X5_isPage E.2.1 Γ B0 ad M F X x) lk_X5_105 (tr := .inr (.inr 0)) rfl rfl rfl rfl (Nat.le_of_ble_eq_true rfl) dX5_move_3 ⟨by decide, by decide⟩ ⟨by omega, by omega⟩ (fun _ _ z9 => False.elim z9) (kk_is (fun H locs hs9 hh => ?_))
  refine r_if_eqB (tgt := 21) C dX5_move_6 (by decide) (fun h6 => ?_) (fun h6 => ?_)
  · have hv : okV M x y = false := by unfold okV; rw [h6]; rfl
    refine r_iconst C (bI (okV M x y)) dX5_move_21 (by rw [hv]; rfl) ?_
    refine r_iconst C (bI true) dX5_move_22 rfl ?_
    refine r_iconst C (bI true) dX5_move_23 rfl ?_
    refine r_callV C E hh (c_X5_goes E.2.1 Γ B0 ad M F X (okV M x y) true true) lk_X5_101 (tr := .inr (.inr 0)) rfl rfl rfl rfl (Nat.le_of_ble_eq_true rfl) dX5_move_24 ⟨by decide, by decide⟩ ⟨by omega, by omega⟩ (fun _ _ z9 => False.elim z9) (kk_is (fun H locs hs9 hh => ?_))
    rw [Bool.and_true, Bool.and_true]
    refine r_if_neB (tgt := 31) C dX5_move_27 (by decide) (fun h27 => ?_) (fun h27 => ?_)
    · have hq := h27
      unfold okV at hq
      rw [Bool.and_eq_true] at hq
      obtain ⟨jx, hjx, ex⟩ := rg_of ((rgB_rg (by omega)).mp hq.1) (by omega)
      obtain ⟨jy, hjy, ey⟩ := rg_of ((rgB_rg (by omega)).mp hq.2) (by omega)
      have e1 : xN x = jx := by rw [ex]; exact xN_nI (by omega)
      have e2 : xN y = jy := by rw [ey]; exact xN_nI (by omega)
      have epa : mvI M x y = mvX (rs M 8 (k0 0)) jx jy := by unfold mvI; rw [if_pos h27, e1, e2]
      rw [h27, show thr true true true = 0 from rfl] at hh
      rw [ex, ey]
      refine r_aload_n C dX5_move_31 rfl ?_
      refine g_X5_7 C hh dX5_move_32 ?_
      refine r_iload_n C dX5_move_35 rfl ?_
      refine al_m_order C hh (by omega) dX5_move_36 ?_
      rw [show rs M 8 (k0 0) 9 jx 0 = M 9 jx 0 from rfl]
      refine r_istore_n C dX5_move_37 rfl rfl ?_
      refine r_aload_n C dX5_move_38 rfl ?_
      refine r_iload_n C dX5_move_39 rfl ?_
      refine r_callV C E hh (c_X5_takesOut E.2.1 Γ B0 ad (rs M 8 (k0 0)) F X jx hjx hI) lk_X5_109 (tr := .inr (.inr 0)) rfl rfl rfl rfl (Nat.le_of_ble_eq_true rfl) dX5_move_40 ⟨by decide, by decide⟩ ⟨by omega, by omega⟩ (fun _ _ z9 => False.elim z9) (kk_to (fun H locs hs9 hh => ?_))
      refine r_aload_n C dX5_move_43 rfl ?_
      refine g_X5_70 C hh dX5_move_44 ?_
      rw [show toM (rs M 8 (k0 0)) jx 2 0 0 = M 2 0 0 - 1 from rfl]
      refine r_istore C dX5_move_47 rfl rfl ?_
      have lp49 : ∀ (d9 : Nat) (a : Nat) (H : Heap) (locs : List Loc), a < d9 → jy ≤ a → a ≤ M 2 0 0 - 1 → f_HS Γ B0 (wj F X (mw Γ ad (rs (toM (rs M 8 (k0 0)) jx) 9 (sr2 ((toM (rs M 8 (k0 0)) jx) 9) a (M 2 0 0 - 1))))) X9 H locs → f_W X9 H locs 0 0 49 [some (.ref (ad 30 0)), some (.int (nI (jx))), some (.int (nI (jy))), some (.int (nI (M 9 jx 0))), some (.int (nI (a)))] [] := by
        intro d9
        induction d9 with
        | zero => intro a H locs hd9 ha1 ha2 hh; exact absurd hd9 (Nat.not_lt_zero _)
        | succ d9 ih49 =>
          intro a H locs hd9 ha1 ha2 hh
          refine r_iload C dX5_move_49 rfl ?_
          refine r_iload_n C dX5_move_51 rfl ?_
          refine r_icmp_leN (tgt := 77) C dX5_move_52 (by decide) (by omega) (by omega) (fun h52 => ?_) (fun h52 => ?_)
          · obtain rfl : a = jy := by omega
            refine r_aload_n C dX5_move_77 rfl ?_
            refine g_X5_7 C hh dX5_move_78 ?_
            refine r_iload_n C dX5_move_81 rfl ?_
            refine r_iload_n C dX5_move_82 rfl ?_
            refine as_m_order C hh (by omega) dX5_move_83 (fun H locs hh => ?_)
            refine r_aload_n C dX5_move_84 rfl ?_
            refine r_dup C dX5_move_85 rfl ?_
            refine g_X5_70 C hh dX5_move_86 ?_
            simp only [rc9]
            rw [show (toM (rs M 8 (k0 0)) jx) 2 0 0 = M 2 0 0 - 1 from rfl]
            refine r_iconst C (nI 1) dX5_move_89 rfl ?_
            refine r_iaddN C dX5_move_90 ?_
            refine p_X5_70 C hh dX5_move_91 (fun H locs hh => ?_)
            replace hh : f_HS Γ B0 (wj F X (mw Γ ad (mvI M x y))) X9 H locs := by
              rw [epa]
              unfold mvX
              rw [← rs_rs (toM (rs M 8 (k0 0)) jx) 9 (sr2 ((toM (rs M 8 (k0 0)) jx) 9) a (M 2 0 0 - 1))]
              exact hh
            exact r_vret C E hh dX5_move_94 (by omega) (by omega) ⟨rfl, rfl⟩
          · refine r_aload_n C dX5_move_55 rfl ?_
            refine g_X5_7 C hh dX5_move_56 ?_
            refine r_iload C dX5_move_59 rfl ?_
            refine r_aload_n C dX5_move_61 rfl ?_
            refine g_X5_7 C hh dX5_move_62 ?_
            refine r_iload C dX5_move_65 rfl ?_
            refine r_iconst C (nI 1) dX5_move_67 rfl ?_
            refine r_isubN C dX5_move_68 (by omega) ?_
            refine al_m_order C hh (by omega) dX5_move_69 ?_
            refine as_m_order C hh (by omega) dX5_move_70 (fun H locs hh => ?_)
            replace hh : f_HS Γ B0 (wj F X (mw Γ ad (rs (toM (rs M 8 (k0 0)) jx) 9 (sr2 ((toM (rs M 8 (k0 0)) jx) 9) (a - 1) (M 2 0 0 - 1))))) X9 H locs := by
              rw [← sr2_s ((toM (rs M 8 (k0 0)) jx) 9) (a := a) (m := M 2 0 0 - 1) (by omega) ha2 (sr2_n ((toM (rs M 8 (k0 0)) jx) 9) (a := a) (m := M 2 0 0 - 1) (i := a - 1) (by omega)).symm, ← rs_rs (toM (rs M 8 (k0 0)) jx) 9 (sr2 ((toM (rs M 8 (k0 0)) jx) 9) a (M 2 0 0 - 1))]
              exact hh
            refine r_iincD C dX5_move_71 (by omega) rfl rfl ?_
            refine r_goto (tgt := 49) C dX5_move_74 (by decide) ?_
            exact ih49 (a - 1) _ _ (by omega) (by omega) (by omega) hh
      replace hh : f_HS Γ B0 (wj F X (mw Γ ad (rs (toM (rs M 8 (k0 0)) jx) 9 (sr2 ((toM (rs M 8 (k0 0)) jx) 9) (M 2 0 0 - 1) (M 2 0 0 - 1))))) X9 H locs := by
        rw [sr2_0, rs_id]
        exact hh
      exact lp49 (M 2 0 0 + 1) (M 2 0 0 - 1) _ _ (by omega) (by omega) (by omega) hh
    · rw [h27, show thr false true true = 1 from rfl, show rs M 8 (k0 1) = mvI M x y from (if_neg (by rw [h27]; decide)).symm] at hh
      exact r_vret C E hh dX5_move_30 (by omega) (by omega) ⟨rfl, rfl⟩
  · refine r_aload_n C dX5_move_9 rfl ?_
    refine r_iload_n C dX5_move_10 rfl ?_
    refine r_callV C E hh (c_X5_isPage E.2.1 Γ B0 ad M F X y) lk_X5_105 (tr := .inr (.inr 0)) rfl rfl rfl rfl (Nat.le_of_ble_eq_true rfl) dX5_move_11 ⟨by decide, by decide⟩ ⟨by omega, by omega⟩ (fun _ _ z9 => False.elim z9) (kk_is (fun H locs hs9 hh => ?_))
    refine r_if_eqB (tgt := 21) C dX5_move_14 (by decide) (fun h14 => ?_) (fun h14 => ?_)
    · have hv : okV M x y = false := by unfold okV; rw [h6, h14]; rfl
      refine r_iconst C (bI (okV M x y)) dX5_move_21 (by rw [hv]; rfl) ?_
      refine r_iconst C (bI true) dX5_move_22 rfl ?_
      refine r_iconst C (bI true) dX5_move_23 rfl ?_
      refine r_callV C E hh (c_X5_goes E.2.1 Γ B0 ad M F X (okV M x y) true true) lk_X5_101 (tr := .inr (.inr 0)) rfl rfl rfl rfl (Nat.le_of_ble_eq_true rfl) dX5_move_24 ⟨by decide, by decide⟩ ⟨by omega, by omega⟩ (fun _ _ z9 => False.elim z9) (kk_is (fun H locs hs9 hh => ?_))
      rw [Bool.and_true, Bool.and_true]
      refine r_if_neB (tgt := 31) C dX5_move_27 (by decide) (fun h27 => ?_) (fun h27 => ?_)
      · have hq := h27
        unfold okV at hq
        rw [Bool.and_eq_true] at hq
        obtain ⟨jx, hjx, ex⟩ := rg_of ((rgB_rg (by omega)).mp hq.1) (by omega)
        obtain ⟨jy, hjy, ey⟩ := rg_of ((rgB_rg (by omega)).mp hq.2) (by omega)
        have e1 : xN x = jx := by rw [ex]; exact xN_nI (by omega)
        have e2 : xN y = jy := by rw [ey]; exact xN_nI (by omega)
        have epa : mvI M x y = mvX (rs M 8 (k0 0)) jx jy := by unfold mvI; rw [if_pos h27, e1, e2]
        rw [h27, show thr true true true = 0 from rfl] at hh
        rw [ex, ey]
        refine r_aload_n C dX5_move_31 rfl ?_
        refine g_X5_7 C hh dX5_move_32 ?_
        refine r_iload_n C dX5_move_35 rfl ?_
        refine al_m_order C hh (by omega) dX5_move_36 ?_
        rw [show rs M 8 (k0 0) 9 jx 0 = M 9 jx 0 from rfl]
        refine r_istore_n C dX5_move_37 rfl rfl ?_
        refine r_aload_n C dX5_move_38 rfl ?_
        refine r_iload_n C dX5_move_39 rfl ?_
        refine r_callV C E hh (c_X5_takesOut E.2.1 Γ B0 ad (rs M 8 (k0 0)) F X jx hjx hI) lk_X5_109 (tr := .inr (.inr 0)) rfl rfl rfl rfl (Nat.le_of_ble_eq_true rfl) dX5_move_40 ⟨by decide, by decide⟩ ⟨by omega, by omega⟩ (fun _ _ z9 => False.elim z9) (kk_to (fun H locs hs9 hh => ?_))
        refine r_aload_n C dX5_move_43 rfl ?_
        refine g_X5_70 C hh dX5_move_44 ?_
        rw [show toM (rs M 8 (k0 0)) jx 2 0 0 = M 2 0 0 - 1 from rfl]
        refine r_istore C dX5_move_47 rfl rfl ?_
        have lp49 : ∀ (d9 : Nat) (a : Nat) (H : Heap) (locs : List Loc), a < d9 → jy ≤ a → a ≤ M 2 0 0 - 1 → f_HS Γ B0 (wj F X (mw Γ ad (rs (toM (rs M 8 (k0 0)) jx) 9 (sr2 ((toM (rs M 8 (k0 0)) jx) 9) a (M 2 0 0 - 1))))) X9 H locs → f_W X9 H locs 0 0 49 [some (.ref (ad 30 0)), some (.int (nI (jx))), some (.int (nI (jy))), some (.int (nI (M 9 jx 0))), some (.int (nI (a)))] [] := by
          intro d9
          induction d9 with
          | zero => intro a H locs hd9 ha1 ha2 hh; exact absurd hd9 (Nat.not_lt_zero _)
          | succ d9 ih49 =>
            intro a H locs hd9 ha1 ha2 hh
            refine r_iload C dX5_move_49 rfl ?_
            refine r_iload_n C dX5_move_51 rfl ?_
            refine r_icmp_leN (tgt := 77) C dX5_move_52 (by decide) (by omega) (by omega) (fun h52 => ?_) (fun h52 => ?_)
            · obtain rfl : a = jy := by omega
              refine r_aload_n C dX5_move_77 rfl ?_
              refine g_X5_7 C hh dX5_move_78 ?_
              refine r_iload_n C dX5_move_81 rfl ?_
              refine r_iload_n C dX5_move_82 rfl ?_
              refine as_m_order C hh (by omega) dX5_move_83 (fun H locs hh => ?_)
              refine r_aload_n C dX5_move_84 rfl ?_
              refine r_dup C dX5_move_85 rfl ?_
              refine g_X5_70 C hh dX5_move_86 ?_
              simp only [rc9]
              rw [show (toM (rs M 8 (k0 0)) jx) 2 0 0 = M 2 0 0 - 1 from rfl]
              refine r_iconst C (nI 1) dX5_move_89 rfl ?_
              refine r_iaddN C dX5_move_90 ?_
              refine p_X5_70 C hh dX5_move_91 (fun H locs hh => ?_)
              replace hh : f_HS Γ B0 (wj F X (mw Γ ad (mvI M x y))) X9 H locs := by
                rw [epa]
                unfold mvX
                rw [← rs_rs (toM (rs M 8 (k0 0)) jx) 9 (sr2 ((toM (rs M 8 (k0 0)) jx) 9) a (M 2 0 0 - 1))]
                exact hh
              exact r_vret C E hh dX5_move_94 (by omega) (by omega) ⟨rfl, rfl⟩
            · refine r_aload_n C dX5_move_55 rfl ?_
              refine g_X5_7 C hh dX5_move_56 ?_
              refine r_iload C dX5_move_59 rfl ?_
              refine r_aload_n C dX5_move_61 rfl ?_
              refine g_X5_7 C hh dX5_move_62 ?_
              refine r_iload C dX5_move_65 rfl ?_
              refine r_iconst C (nI 1) dX5_move_67 rfl ?_
              refine r_isubN C dX5_move_68 (by omega) ?_
              refine al_m_order C hh (by omega) dX5_move_69 ?_
              refine as_m_order C hh (by omega) dX5_move_70 (fun H locs hh => ?_)
              replace hh : f_HS Γ B0 (wj F X (mw Γ ad (rs (toM (rs M 8 (k0 0)) jx) 9 (sr2 ((toM (rs M 8 (k0 0)) jx) 9) (a - 1) (M 2 0 0 - 1))))) X9 H locs := by
                rw [← sr2_s ((toM (rs M 8 (k0 0)) jx) 9) (a := a) (m := M 2 0 0 - 1) (by omega) ha2 (sr2_n ((toM (rs M 8 (k0 0)) jx) 9) (a := a) (m := M 2 0 0 - 1) (i := a - 1) (by omega)).symm, ← rs_rs (toM (rs M 8 (k0 0)) jx) 9 (sr2 ((toM (rs M 8 (k0 0)) jx) 9) a (M 2 0 0 - 1))]
                exact hh
              refine r_iincD C dX5_move_71 (by omega) rfl rfl ?_
              refine r_goto (tgt := 49) C dX5_move_74 (by decide) ?_
              exact ih49 (a - 1) _ _ (by omega) (by omega) (by omega) hh
        replace hh : f_HS Γ B0 (wj F X (mw Γ ad (rs (toM (rs M 8 (k0 0)) jx) 9 (sr2 ((toM (rs M 8 (k0 0)) jx) 9) (M 2 0 0 - 1) (M 2 0 0 - 1))))) X9 H locs := by
          rw [sr2_0, rs_id]
          exact hh
        exact lp49 (M 2 0 0 + 1) (M 2 0 0 - 1) _ _ (by omega) (by omega) (by omega) hh
      · rw [h27, show thr false true true = 1 from rfl, show rs M 8 (k0 1) = mvI M x y from (if_neg (by rw [h27]; decide)).symm] at hh
        exact r_vret C E hh dX5_move_30 (by omega) (by omega) ⟨rfl, rfl⟩
    · have hv : okV M x y = true := by unfold okV; rw [h6, h14]; rfl
      refine r_iconst C (bI (okV M x y)) dX5_move_17 (by rw [hv]; rfl) ?_
      refine r_goto (tgt := 22) C dX5_move_18 (by decide) ?_
      refine r_iconst C (bI true) dX5_move_22 rfl ?_
      refine r_iconst C (bI true) dX5_move_23 rfl ?_
      refine r_callV C E hh (c_X5_goes E.2.1 Γ B0 ad M F X (okV M x y) true true) lk_X5_101 (tr := .inr (.inr 0)) rfl rfl rfl rfl (Nat.le_of_ble_eq_true rfl) dX5_move_24 ⟨by decide, by decide⟩ ⟨by omega, by omega⟩ (fun _ _ z9 => False.elim z9) (kk_is (fun H locs hs9 hh => ?_))
      rw [Bool.and_true, Bool.and_true]
      refine r_if_neB (tgt := 31) C dX5_move_27 (by decide) (fun h27 => ?_) (fun h27 => ?_)
      · have hq := h27
        unfold okV at hq
        rw [Bool.and_eq_true] at hq
        obtain ⟨jx, hjx, ex⟩ := rg_of ((rgB_rg (by omega)).mp hq.1) (by omega)
        obtain ⟨jy, hjy, ey⟩ := rg_of ((rgB_rg (by omega)).mp hq.2) (by omega)
        have e1 : xN x = jx := by rw [ex]; exact xN_nI (by omega)
        have e2 : xN y = jy := by rw [ey]; exact xN_nI (by omega)
        have epa : mvI M x y = mvX (rs M 8 (k0 0)) jx jy := by unfold mvI; rw [if_pos h27, e1, e2]
        rw [h27, show thr true true true = 0 from rfl] at hh
        rw [ex, ey]
        refine r_aload_n C dX5_move_31 rfl ?_
        refine g_X5_7 C hh dX5_move_32 ?_
        refine r_iload_n C dX5_move_35 rfl ?_
        refine al_m_order C hh (by omega) dX5_move_36 ?_
        rw [show rs M 8 (k0 0) 9 jx 0 = M 9 jx 0 from rfl]
        refine r_istore_n C dX5_move_37 rfl rfl ?_
        refine r_aload_n C dX5_move_38 rfl ?_
        refine r_iload_n C dX5_move_39 rfl ?_
        refine r_callV C E hh (c_X5_takesOut E.2.1 Γ B0 ad (rs M 8 (k0 0)) F X jx hjx hI) lk_X5_109 (tr := .inr (.inr 0)) rfl rfl rfl rfl (Nat.le_of_ble_eq_true rfl) dX5_move_40 ⟨by decide, by decide⟩ ⟨by omega, by omega⟩ (fun _ _ z9 => False.elim z9) (kk_to (fun H locs hs9 hh => ?_))
        refine r_aload_n C dX5_move_43 rfl ?_
        refine g_X5_70 C hh dX5_move_44 ?_
        rw [show toM (rs M 8 (k0 0)) jx 2 0 0 = M 2 0 0 - 1 from rfl]
        refine r_istore C dX5_move_47 rfl rfl ?_
        have lp49 : ∀ (d9 : Nat) (a : Nat) (H : Heap) (locs : List Loc), a < d9 → jy ≤ a → a ≤ M 2 0 0 - 1 → f_HS Γ B0 (wj F X (mw Γ ad (rs (toM (rs M 8 (k0 0)) jx) 9 (sr2 ((toM (rs M 8 (k0 0)) jx) 9) a (M 2 0 0 - 1))))) X9 H locs → f_W X9 H locs 0 0 49 [some (.ref (ad 30 0)), some (.int (nI (jx))), some (.int (nI (jy))), some (.int (nI (M 9 jx 0))), some (.int (nI (a)))] [] := by
          intro d9
          induction d9 with
          | zero => intro a H locs hd9 ha1 ha2 hh; exact absurd hd9 (Nat.not_lt_zero _)
          | succ d9 ih49 =>
            intro a H locs hd9 ha1 ha2 hh
            refine r_iload C dX5_move_49 rfl ?_
            refine r_iload_n C dX5_move_51 rfl ?_
            refine r_icmp_leN (tgt := 77) C dX5_move_52 (by decide) (by omega) (by omega) (fun h52 => ?_) (fun h52 => ?_)
            · obtain rfl : a = jy := by omega
              refine r_aload_n C dX5_move_77 rfl ?_
              refine g_X5_7 C hh dX5_move_78 ?_
              refine r_iload_n C dX5_move_81 rfl ?_
              refine r_iload_n C dX5_move_82 rfl ?_
              refine as_m_order C hh (by omega) dX5_move_83 (fun H locs hh => ?_)
              refine r_aload_n C dX5_move_84 rfl ?_
              refine r_dup C dX5_move_85 rfl ?_
              refine g_X5_70 C hh dX5_move_86 ?_
              simp only [rc9]
              rw [show (toM (rs M 8 (k0 0)) jx) 2 0 0 = M 2 0 0 - 1 from rfl]
              refine r_iconst C (nI 1) dX5_move_89 rfl ?_
              refine r_iaddN C dX5_move_90 ?_
              refine p_X5_70 C hh dX5_move_91 (fun H locs hh => ?_)
              replace hh : f_HS Γ B0 (wj F X (mw Γ ad (mvI M x y))) X9 H locs := by
                rw [epa]
                unfold mvX
                rw [← rs_rs (toM (rs M 8 (k0 0)) jx) 9 (sr2 ((toM (rs M 8 (k0 0)) jx) 9) a (M 2 0 0 - 1))]
                exact hh
              exact r_vret C E hh dX5_move_94 (by omega) (by omega) ⟨rfl, rfl⟩
            · refine r_aload_n C dX5_move_55 rfl ?_
              refine g_X5_7 C hh dX5_move_56 ?_
              refine r_iload C dX5_move_59 rfl ?_
              refine r_aload_n C dX5_move_61 rfl ?_
              refine g_X5_7 C hh dX5_move_62 ?_
              refine r_iload C dX5_move_65 rfl ?_
              refine r_iconst C (nI 1) dX5_move_67 rfl ?_
              refine r_isubN C dX5_move_68 (by omega) ?_
              refine al_m_order C hh (by omega) dX5_move_69 ?_
              refine as_m_order C hh (by omega) dX5_move_70 (fun H locs hh => ?_)
              replace hh : f_HS Γ B0 (wj F X (mw Γ ad (rs (toM (rs M 8 (k0 0)) jx) 9 (sr2 ((toM (rs M 8 (k0 0)) jx) 9) (a - 1) (M 2 0 0 - 1))))) X9 H locs := by
                rw [← sr2_s ((toM (rs M 8 (k0 0)) jx) 9) (a := a) (m := M 2 0 0 - 1) (by omega) ha2 (sr2_n ((toM (rs M 8 (k0 0)) jx) 9) (a := a) (m := M 2 0 0 - 1) (i := a - 1) (by omega)).symm, ← rs_rs (toM (rs M 8 (k0 0)) jx) 9 (sr2 ((toM (rs M 8 (k0 0)) jx) 9) a (M 2 0 0 - 1))]
                exact hh
              refine r_iincD C dX5_move_71 (by omega) rfl rfl ?_
              refine r_goto (tgt := 49) C dX5_move_74 (by decide) ?_
              exact ih49 (a - 1) _ _ (by omega) (by omega) (by omega) hh
        replace hh : f_HS Γ B0 (wj F X (mw Γ ad (rs (toM (rs M 8 (k0 0)) jx) 9 (sr2 ((toM (rs M 8 (k0 0)) jx) 9) (M 2 0 0 - 1) (M 2 0 0 - 1))))) X9 H locs := by
          rw [sr2_0, rs_id]
          exact hh
        exact lp49 (M 2 0 0 + 1) (M 2 0 0 - 1) _ _ (by omega) (by omega) (by omega) hh
      · rw [h27, show thr false true true = 1 from rfl, show rs M 8 (k0 1) = mvI M x y from (if_neg (by rw [h27]; decide)).symm] at hh
        exact r_vret C E hh dX5_move_30 (by omega) (by omega) ⟨rfl, rfl⟩

