/-! ===== the model: insert ===== -/
theorem ra8 (Q : fR) (f : Nat → Nat → Nat) : rs Q 8 f 1 = Q 1 := rs_ne Q f (by decide)
theorem rc8 (Q : fR) (f : Nat → Nat → Nat) : rs Q 8 f 2 = Q 2 := rs_ne Q f (by decide)
theorem ra9 (Q : fR) (f : Nat → Nat → Nat) : rs Q 9 f 1 = Q 1 := rs_ne Q f (by decide)
theorem rc9 (Q : fR) (f : Nat → Nat → Nat) : rs Q 9 f 2 = Q 2 := rs_ne Q f (by decide)
theorem ra10 (Q : fR) (f : Nat → Nat → Nat) : rs Q 10 f 1 = Q 1 := rs_ne Q f (by decide)
theorem rc10 (Q : fR) (f : Nat → Nat → Nat) : rs Q 10 f 2 = Q 2 := rs_ne Q f (by decide)
theorem ra11 (Q : fR) (f : Nat → Nat → Nat) : rs Q 11 f 1 = Q 1 := rs_ne Q f (by decide)
theorem rc11 (Q : fR) (f : Nat → Nat → Nat) : rs Q 11 f 2 = Q 2 := rs_ne Q f (by decide)
theorem ra12 (Q : fR) (f : Nat → Nat → Nat) : rs Q 12 f 1 = Q 1 := rs_ne Q f (by decide)
theorem rc12 (Q : fR) (f : Nat → Nat → Nat) : rs Q 12 f 2 = Q 2 := rs_ne Q f (by decide)
theorem rc1 (Q : fR) (f : Nat → Nat → Nat) : rs Q 1 f 2 = Q 2 := rs_ne Q f (by decide)
def iC (M : fR) : Bool := decide (M 2 0 0 < 64 ∧ M 1 0 0 < 100)
def iS (y z : Int32) : Bool := rgB y 256 && rgB z 16
def iP (M : fR) (x : Int32) : Bool := inn x (nI 0) (nI (M 2 0 0))
def inM (M : fR) (p a b : Nat) : fR := rs (rs (rs (rs (rs (rs M 9 (u1 (sr2 (M 9) p (M 2 0 0)) p (M 1 0 0))) 10 (u1 (M 10) (M 1 0 0) a)) 11 (u1 (M 11) (M 1 0 0) b)) 12 (u1 (M 12) (M 1 0 0) 1)) 1 (k0 (M 1 0 0 + 1))) 2 (k0 (M 2 0 0 + 1))
def okN (M : fR) (x y z : Int32) : Bool := iP M x && iS y z && iC M
def isM (M : fR) (x y z : Int32) : fR := if okN M x y z = true then inM (rs M 8 (k0 0)) (xN x) (xN y) (xN z) else rs M 8 (k0 (thr (iP M x) (iS y z) (iC M)))
def isV (M : fR) (x y z : Int32) : Int32 := if okN M x y z = true then nI (M 2 0 0 + 1) else 0
set_option maxHeartbeats 4000000 in
set_option maxRecDepth 100000 in
theorem c_X5_insert {l : Launch} (hl : l.stackTraces = false) (Γ : fG) (B0 : Nat) (ad : Nat → Nat → Nat) (M : fR) (F : Nat → fO) (X : Nat × Nat → fO) (x y z : Int32) (hI : MI M) : f_Met l yX5_insert cX5_insert 5 (some .int) 2 0 0 43 Γ B0 [.ref (ad 30 0), .int x, .int y, .int z] (wj F X (mw Γ ad M)) (f_is (isV M x y z) (wj F X (mw Γ ad (isM M x y z)))) f_no := by
  refine f_of hl (by decide) rfl (Nat.le_of_ble_eq_true rfl) (fun X9 C E hh hnm => ?_)
  generalize (f_s X9).heap = H, ([] : List Loc) = locs at hh ⊢
  obtain ⟨i2, i45, i9, i10, i13, i14, i17, i0, i1, -⟩ := id hI
  refine r_aload_n C dX5_insert_0 rfl ?_
  refine r_iload_n C dX5_insert_1 rfl ?_
  refine r_iconst C (nI 0) dX5_insert_2 rfl ?_
  refine r_aload_n C dX5_insert_3 rfl ?_
  refine g_X5_70 C hh dX5_insert_4 ?_
  refine r_callS C E hh (c_X5_in E.2.1 Γ B0 _ x (nI 0) (nI (M 2 0 0))) lk_X5_73 rfl rfl (Nat.le_of_ble_eq_true rfl) dX5_insert_7 ⟨by decide, by decide⟩ ⟨by omega, by omega⟩ (fun _ _ z9 => False.elim z9) (kk_is (fun H locs hs9 hh => ?_))
  rw [show inn x (nI 0) (nI (M 2 0 0)) = iP M x from rfl]
  refine r_iload_n C dX5_insert_10 rfl ?_
  refine r_iload_n C dX5_insert_11 rfl ?_
  refine r_callS C E hh (c_X5_areSets E.2.1 Γ B0 _ y z) lk_X5_94 rfl rfl (Nat.le_of_ble_eq_true rfl) dX5_insert_12 ⟨by decide, by decide⟩ ⟨by omega, by omega⟩ (fun _ _ z9 => False.elim z9) (kk_is (fun H locs hs9 hh => ?_))
  rw [show (rgB y 256 && rgB z 16) = iS y z from rfl]
  refine r_aload_n C dX5_insert_15 rfl ?_
  refine g_X5_70 C hh dX5_insert_16 ?_
  refine r_bipush C (nI 64) dX5_insert_19 rfl ?_
  refine r_icmp_geN (tgt := 37) C dX5_insert_21 (by decide) (by omega) (by omega) (fun h21 => ?_) (fun h21 => ?_)
  · have hv : iC M = false := decide_eq_false (by omega)
    refine r_iconst C (bI (iC M)) dX5_insert_37 (by rw [hv]; rfl) ?_
    refine r_callV C E hh (c_X5_goes E.2.1 Γ B0 ad M F X (iP M x) (iS y z) (iC M)) lk_X5_101 (tr := .inr (.inr 0)) rfl rfl rfl rfl (Nat.le_of_ble_eq_true rfl) dX5_insert_38 ⟨by decide, by decide⟩ ⟨by omega, by omega⟩ (fun _ _ z9 => False.elim z9) (kk_is (fun H locs hs9 hh => ?_))
    refine r_if_neB (tgt := 46) C dX5_insert_41 (by decide) (fun h41 => ?_) (fun h41 => ?_)
    · have hok : okN M x y z = true := h41
      have hq := h41
      rw [Bool.and_eq_true, Bool.and_eq_true] at hq
      have hc := of_decide_eq_true hq.2
      have hs := hq.1.2
      unfold iS at hs
      rw [Bool.and_eq_true] at hs
      have hp9 := of_decide_eq_true (show decide (nI 0 ≤ x ∧ x ≤ nI (M 2 0 0)) = true from hq.1.1)
      obtain ⟨jx, hjx, ex⟩ := rg_of (x := x) (n := M 2 0 0 + 1) ⟨hp9.1, (rg_le (by omega)).mpr hp9.2⟩ (by omega)
      obtain ⟨jy, hjy, ey⟩ := rg_of ((rgB_rg (by omega)).mp hs.1) (by omega)
      obtain ⟨jz, hjz, ez⟩ := rg_of ((rgB_rg (by omega)).mp hs.2) (by omega)
      have e1 : xN x = jx := by rw [ex]; exact xN_nI (by omega)
      have e2 : xN y = jy := by rw [ey]; exact xN_nI (by omega)
      have e3 : xN z = jz := by rw [ez]; exact xN_nI (by omega)
      have epa : isM M x y z = inM (rs M 8 (k0 0)) jx jy jz := by unfold isM; rw [if_pos hok, e1, e2, e3]
      have hv : nI (M 2 0 0 + 1) = isV M x y z := (if_pos hok).symm
      rw [hq.1.1, hq.1.2, hq.2, show thr true true true = 0 from rfl] at hh
      rw [ex, ey, ez]
      refine r_aload_n C dX5_insert_46 rfl ?_
      refine g_X5_70 C hh dX5_insert_47 ?_
      rw [show (rs M 8 (k0 0)) 2 0 0 = M 2 0 0 from rfl]
      refine r_istore C dX5_insert_50 rfl rfl ?_
      have lp52 : ∀ (d9 : Nat) (a : Nat) (H : Heap) (locs : List Loc), a < d9 → jx ≤ a → a ≤ M 2 0 0 → f_HS Γ B0 (wj F X (mw Γ ad (rs (rs M 8 (k0 0)) 9 (sr2 (M 9) a (M 2 0 0))))) X9 H locs → f_W X9 H locs 0 0 52 [some (.ref (ad 30 0)), some (.int (nI (jx))), some (.int (nI (jy))), some (.int (nI (jz))), some (.int (nI (a)))] [] := by
        intro d9
        induction d9 with
        | zero => intro a H locs hd9 ha1 ha2 hh; exact absurd hd9 (Nat.not_lt_zero _)
        | succ d9 ih52 =>
          intro a H locs hd9 ha1 ha2 hh
          refine r_iload C dX5_insert_52 rfl ?_
          refine r_iload_n C dX5_insert_54 rfl ?_
          refine r_icmp_leN (tgt := 80) C dX5_insert_55 (by decide) (by omega) (by omega) (fun h55 => ?_) (fun h55 => ?_)
          · obtain rfl : a = jx := by omega
            refine r_aload_n C dX5_insert_80 rfl ?_
            refine g_X5_7 C hh dX5_insert_81 ?_
            refine r_iload_n C dX5_insert_84 rfl ?_
            refine r_aload_n C dX5_insert_85 rfl ?_
            refine g_X5_98 C hh dX5_insert_86 ?_
            simp only [ra8, ra9, ra10, ra11, ra12]
            refine as_m_order C hh (by omega) dX5_insert_89 (fun H locs hh => ?_)
            refine r_aload_n C dX5_insert_90 rfl ?_
            refine g_X5_13 C hh dX5_insert_91 ?_
            refine r_aload_n C dX5_insert_94 rfl ?_
            refine g_X5_98 C hh dX5_insert_95 ?_
            simp only [ra8, ra9, ra10, ra11, ra12]
            refine r_iload_n C dX5_insert_98 rfl ?_
            refine as_m_fonts C hh (by omega) dX5_insert_99 (fun H locs hh => ?_)
            refine r_aload_n C dX5_insert_100 rfl ?_
            refine g_X5_16 C hh dX5_insert_101 ?_
            refine r_aload_n C dX5_insert_104 rfl ?_
            refine g_X5_98 C hh dX5_insert_105 ?_
            simp only [ra8, ra9, ra10, ra11, ra12]
            refine r_iload_n C dX5_insert_108 rfl ?_
            refine as_m_colors C hh (by omega) dX5_insert_109 (fun H locs hh => ?_)
            refine r_aload_n C dX5_insert_110 rfl ?_
            refine g_X5_19 C hh dX5_insert_111 ?_
            refine r_aload_n C dX5_insert_114 rfl ?_
            refine g_X5_98 C hh dX5_insert_115 ?_
            simp only [ra8, ra9, ra10, ra11, ra12]
            refine r_iconst C (nI 1) dX5_insert_118 rfl ?_
            refine as_m_edition C hh (by omega) dX5_insert_119 (fun H locs hh => ?_)
            refine r_aload_n C dX5_insert_120 rfl ?_
            refine r_dup C dX5_insert_121 rfl ?_
            refine g_X5_98 C hh dX5_insert_122 ?_
            simp only [ra8, ra9, ra10, ra11, ra12]
            refine r_iconst C (nI 1) dX5_insert_125 rfl ?_
            refine r_iaddN C dX5_insert_126 ?_
            refine p_X5_98 C hh dX5_insert_127 (fun H locs hh => ?_)
            refine r_aload_n C dX5_insert_130 rfl ?_
            refine r_dup C dX5_insert_131 rfl ?_
            refine g_X5_70 C hh dX5_insert_132 ?_
            simp only [rc8, rc9, rc10, rc11, rc12, rc1]
            refine r_iconst C (nI 1) dX5_insert_135 rfl ?_
            refine r_iaddN C dX5_insert_136 ?_
            refine p_X5_70 C hh dX5_insert_137 (fun H locs hh => ?_)
            replace hh : f_HS Γ B0 (wj F X (mw Γ ad (isM M x y z))) X9 H locs := by
              rw [epa]
              unfold inM
              rw [← rs_rs (rs M 8 (k0 0)) 9 (sr2 (M 9) a (M 2 0 0))]
              exact hh
            refine r_aload_n C dX5_insert_140 rfl ?_
            refine g_X5_70 C hh dX5_insert_141 ?_
            rw [show isM M x y z 2 0 0 = M 2 0 0 + 1 by rw [epa]; rfl]
            exact r_iret C E hh dX5_insert_144 (by omega) (by omega) (ri2 hv)
          · refine r_aload_n C dX5_insert_58 rfl ?_
            refine g_X5_7 C hh dX5_insert_59 ?_
            refine r_iload C dX5_insert_62 rfl ?_
            refine r_aload_n C dX5_insert_64 rfl ?_
            refine g_X5_7 C hh dX5_insert_65 ?_
            refine r_iload C dX5_insert_68 rfl ?_
            refine r_iconst C (nI 1) dX5_insert_70 rfl ?_
            refine r_isubN C dX5_insert_71 (by omega) ?_
            refine al_m_order C hh (by omega) dX5_insert_72 ?_
            refine as_m_order C hh (by omega) dX5_insert_73 (fun H locs hh => ?_)
            replace hh : f_HS Γ B0 (wj F X (mw Γ ad (rs (rs M 8 (k0 0)) 9 (sr2 (M 9) (a - 1) (M 2 0 0))))) X9 H locs := by
              rw [← sr2_s (M 9) (a := a) (m := M 2 0 0) (by omega) ha2 (sr2_n (M 9) (a := a) (m := M 2 0 0) (i := a - 1) (by omega)).symm, ← rs_rs (rs M 8 (k0 0)) 9 (sr2 (M 9) a (M 2 0 0))]
              exact hh
            refine r_iincD C dX5_insert_74 (by omega) rfl rfl ?_
            refine r_goto (tgt := 52) C dX5_insert_77 (by decide) ?_
            exact ih52 (a - 1) _ _ (by omega) (by omega) (by omega) hh
      replace hh : f_HS Γ B0 (wj F X (mw Γ ad (rs (rs M 8 (k0 0)) 9 (sr2 (M 9) (M 2 0 0) (M 2 0 0))))) X9 H locs := by
        rw [sr2_0, show M 9 = rs M 8 (k0 0) 9 from rfl, rs_id]
        exact hh
      exact lp52 (M 2 0 0 + 1) (M 2 0 0) _ _ (by omega) (by omega) (by omega) hh
    · have hv : nI 0 = isV M x y z := by unfold isV; rw [if_neg (by unfold okN; rw [h41]; decide)]; rfl
      rw [show rs M 8 (k0 (thr (iP M x) (iS y z) (iC M))) = isM M x y z from (if_neg (by unfold okN; rw [h41]; decide)).symm] at hh
      refine r_iconst C (nI 0) dX5_insert_44 rfl ?_
      exact r_iret C E hh dX5_insert_45 (by omega) (by omega) (ri2 hv)
  · refine r_aload_n C dX5_insert_24 rfl ?_
    refine g_X5_98 C hh dX5_insert_25 ?_
    refine r_bipush C (nI 100) dX5_insert_28 rfl ?_
    refine r_icmp_geN (tgt := 37) C dX5_insert_30 (by decide) (by omega) (by omega) (fun h30 => ?_) (fun h30 => ?_)
    · have hv : iC M = false := decide_eq_false (by omega)
      refine r_iconst C (bI (iC M)) dX5_insert_37 (by rw [hv]; rfl) ?_
      refine r_callV C E hh (c_X5_goes E.2.1 Γ B0 ad M F X (iP M x) (iS y z) (iC M)) lk_X5_101 (tr := .inr (.inr 0)) rfl rfl rfl rfl (Nat.le_of_ble_eq_true rfl) dX5_insert_38 ⟨by decide, by decide⟩ ⟨by omega, by omega⟩ (fun _ _ z9 => False.elim z9) (kk_is (fun H locs hs9 hh => ?_))
      refine r_if_neB (tgt := 46) C dX5_insert_41 (by decide) (fun h41 => ?_) (fun h41 => ?_)
      · have hok : okN M x y z = true := h41
        have hq := h41
        rw [Bool.and_eq_true, Bool.and_eq_true] at hq
        have hc := of_decide_eq_true hq.2
        have hs := hq.1.2
        unfold iS at hs
        rw [Bool.and_eq_true] at hs
        have hp9 := of_decide_eq_true (show decide (nI 0 ≤ x ∧ x ≤ nI (M 2 0 0)) = true from hq.1.1)
        obtain ⟨jx, hjx, ex⟩ := rg_of (x := x) (n := M 2 0 0 + 1) ⟨hp9.1, (rg_le (by omega)).mpr hp9.2⟩ (by omega)
        obtain ⟨jy, hjy, ey⟩ := rg_of ((rgB_rg (by omega)).mp hs.1) (by omega)
        obtain ⟨jz, hjz, ez⟩ := rg_of ((rgB_rg (by omega)).mp hs.2) (by omega)
        have e1 : xN x = jx := by rw [ex]; exact xN_nI (by omega)
        have e2 : xN y = jy := by rw [ey]; exact xN_nI (by omega)
        have e3 : xN z = jz := by rw [ez]; exact xN_nI (by omega)
        have epa : isM M x y z = inM (rs M 8 (k0 0)) jx jy jz := by unfold isM; rw [if_pos hok, e1, e2, e3]
        have hv : nI (M 2 0 0 + 1) = isV M x y z := (if_pos hok).symm
        rw [hq.1.1, hq.1.2, hq.2, show thr true true true = 0 from rfl] at hh
        rw [ex, ey, ez]
        refine r_aload_n C dX5_insert_46 rfl ?_
        refine g_X5_70 C hh dX5_insert_47 ?_
        rw [show (rs M 8 (k0 0)) 2 0 0 = M 2 0 0 from rfl]
        refine r_istore C dX5_insert_50 rfl rfl ?_
        have lp52 : ∀ (d9 : Nat) (a : Nat) (H : Heap) (locs : List Loc), a < d9 → jx ≤ a → a ≤ M 2 0 0 → f_HS Γ B0 (wj F X (mw Γ ad (rs (rs M 8 (k0 0)) 9 (sr2 (M 9) a (M 2 0 0))))) X9 H locs → f_W X9 H locs 0 0 52 [some (.ref (ad 30 0)), some (.int (nI (jx))), some (.int (nI (jy))), some (.int (nI (jz))), some (.int (nI (a)))] [] := by
          intro d9
          induction d9 with
          | zero => intro a H locs hd9 ha1 ha2 hh; exact absurd hd9 (Nat.not_lt_zero _)
          | succ d9 ih52 =>
            intro a H locs hd9 ha1 ha2 hh
            refine r_iload C dX5_insert_52 rfl ?_
            refine r_iload_n C dX5_insert_54 rfl ?_
            refine r_icmp_leN (tgt := 80) C dX5_insert_55 (by decide) (by omega) (by omega) (fun h55 => ?_) (fun h55 => ?_)
            · obtain rfl : a = jx := by omega
              refine r_aload_n C dX5_insert_80 rfl ?_
              refine g_X5_7 C hh dX5_insert_81 ?_
              refine r_iload_n C dX5_insert_84 rfl ?_
              refine r_aload_n C dX5_insert_85 rfl ?_
              refine g_X5_98 C hh dX5_insert_86 ?_
              simp only [ra8, ra9, ra10, ra11, ra12]
              refine as_m_order C hh (by omega) dX5_insert_89 (fun H locs hh => ?_)
              refine r_aload_n C dX5_insert_90 rfl ?_
              refine g_X5_13 C hh dX5_insert_91 ?_
              refine r_aload_n C dX5_insert_94 rfl ?_
              refine g_X5_98 C hh dX5_insert_95 ?_
              simp only [ra8, ra9, ra10, ra11, ra12]
              refine r_iload_n C dX5_insert_98 rfl ?_
              refine as_m_fonts C hh (by omega) dX5_insert_99 (fun H locs hh => ?_)
              refine r_aload_n C dX5_insert_100 rfl ?_
              refine g_X5_16 C hh dX5_insert_101 ?_
              refine r_aload_n C dX5_insert_104 rfl ?_
              refine g_X5_98 C hh dX5_insert_105 ?_
              simp only [ra8, ra9, ra10, ra11, ra12]
              refine r_iload_n C dX5_insert_108 rfl ?_
              refine as_m_colors C hh (by omega) dX5_insert_109 (fun H locs hh => ?_)
              refine r_aload_n C dX5_insert_110 rfl ?_
              refine g_X5_19 C hh dX5_insert_111 ?_
              refine r_aload_n C dX5_insert_114 rfl ?_
              refine g_X5_98 C hh dX5_insert_115 ?_
              simp only [ra8, ra9, ra10, ra11, ra12]
              refine r_iconst C (nI 1) dX5_insert_118 rfl ?_
              refine as_m_edition C hh (by omega) dX5_insert_119 (fun H locs hh => ?_)
              refine r_aload_n C dX5_insert_120 rfl ?_
              refine r_dup C dX5_insert_121 rfl ?_
              refine g_X5_98 C hh dX5_insert_122 ?_
              simp only [ra8, ra9, ra10, ra11, ra12]
              refine r_iconst C (nI 1) dX5_insert_125 rfl ?_
              refine r_iaddN C dX5_insert_126 ?_
              refine p_X5_98 C hh dX5_insert_127 (fun H locs hh => ?_)
              refine r_aload_n C dX5_insert_130 rfl ?_
              refine r_dup C dX5_insert_131 rfl ?_
              refine g_X5_70 C hh dX5_insert_132 ?_
              simp only [rc8, rc9, rc10, rc11, rc12, rc1]
              refine r_iconst C (nI 1) dX5_insert_135 rfl ?_
              refine r_iaddN C dX5_insert_136 ?_
              refine p_X5_70 C hh dX5_insert_137 (fun H locs hh => ?_)
              replace hh : f_HS Γ B0 (wj F X (mw Γ ad (isM M x y z))) X9 H locs := by
                rw [epa]
                unfold inM
                rw [← rs_rs (rs M 8 (k0 0)) 9 (sr2 (M 9) a (M 2 0 0))]
                exact hh
              refine r_aload_n C dX5_insert_140 rfl ?_
              refine g_X5_70 C hh dX5_insert_141 ?_
              rw [show isM M x y z 2 0 0 = M 2 0 0 + 1 by rw [epa]; rfl]
              exact r_iret C E hh dX5_insert_144 (by omega) (by omega) (ri2 hv)
            · refine r_aload_n C dX5_insert_58 rfl ?_
              refine g_X5_7 C hh dX5_insert_59 ?_
              refine r_iload C dX5_insert_62 rfl ?_
              refine r_aload_n C dX5_insert_64 rfl ?_
              refine g_X5_7 C hh dX5_insert_65 ?_
              refine r_iload C dX5_insert_68 rfl ?_
              refine r_iconst C (nI 1) dX5_insert_70 rfl ?_
              refine r_isubN C dX5_insert_71 (by omega) ?_
              refine al_m_order C hh (by omega) dX5_insert_72 ?_
              refine as_m_order C hh (by omega) dX5_insert_73 (fun H locs hh => ?_)
              replace hh : f_HS Γ B0 (wj F X (mw Γ ad (rs (rs M 8 (k0 0)) 9 (sr2 (M 9) (a - 1) (M 2 0 0))))) X9 H locs := by
                rw [← sr2_s (M 9) (a := a) (m := M 2 0 0) (by omega) ha2 (sr2_n (M 9) (a := a) (m := M 2 0 0) (i := a - 1) (by omega)).symm, ← rs_rs (rs M 8 (k0 0)) 9 (sr2 (M 9) a (M 2 0 0))]
                exact hh
              refine r_iincD C dX5_insert_74 (by omega) rfl rfl ?_
              refine r_goto (tgt := 52) C dX5_insert_77 (by decide) ?_
              exact ih52 (a - 1) _ _ (by omega) (by omega) (by omega) hh
        replace hh : f_HS Γ B0 (wj F X (mw Γ ad (rs (rs M 8 (k0 0)) 9 (sr2 (M 9) (M 2 0 0) (M 2 0 0))))) X9 H locs := by
          rw [sr2_0, show M 9 = rs M 8 (k0 0) 9 from rfl, rs_id]
          exact hh
        exact lp52 (M 2 0 0 + 1) (M 2 0 0) _ _ (by omega) (by omega) (by omega) hh
      · have hv : nI 0 = isV M x y z := by unfold isV; rw [if_neg (by unfold okN; rw [h41]; decide)]; rfl
        rw [show rs M 8 (k0 (thr (iP M x) (iS y z) (iC M))) = isM M x y z from (if_neg (by unfold okN; rw [h41]; decide)).symm] at hh
        refine r_iconst C (nI 0) dX5_insert_44 rfl ?_
        exact r_iret C E hh dX5_insert_45 (by omega) (by omega) (ri2 hv)
    · have hv : iC M = true := decide_eq_true ⟨h21, h30⟩
      refine r_iconst C (bI (iC M)) dX5_insert_33 (by rw [hv]; rfl) ?_
      refine r_goto (tgt := 38) C dX5_insert_34 (by decide) ?_
      refine r_callV C E hh (c_X5_goes E.2.1 Γ B0 ad M F X (iP M x) (iS y z) (iC M)) lk_X5_101 (tr := .inr (.inr 0)) rfl rfl rfl rfl (Nat.le_of_ble_eq_true rfl) dX5_insert_38 ⟨by decide, by decide⟩ ⟨by omega, by omega⟩ (fun _ _ z9 => False.elim z9) (kk_is (fun H locs hs9 hh => ?_))
      refine r_if_neB (tgt := 46) C dX5_insert_41 (by decide) (fun h41 => ?_) (fun h41 => ?_)
      · have hok : okN M x y z = true := h41
        have hq := h41
        rw [Bool.and_eq_true, Bool.and_eq_true] at hq
        have hc := of_decide_eq_true hq.2
        have hs := hq.1.2
        unfold iS at hs
        rw [Bool.and_eq_true] at hs
        have hp9 := of_decide_eq_true (show decide (nI 0 ≤ x ∧ x ≤ nI (M 2 0 0)) = true from hq.1.1)
        obtain ⟨jx, hjx, ex⟩ := rg_of (x := x) (n := M 2 0 0 + 1) ⟨hp9.1, (rg_le (by omega)).mpr hp9.2⟩ (by omega)
        obtain ⟨jy, hjy, ey⟩ := rg_of ((rgB_rg (by omega)).mp hs.1) (by omega)
        obtain ⟨jz, hjz, ez⟩ := rg_of ((rgB_rg (by omega)).mp hs.2) (by omega)
        have e1 : xN x = jx := by rw [ex]; exact xN_nI (by omega)
        have e2 : xN y = jy := by rw [ey]; exact xN_nI (by omega)
        have e3 : xN z = jz := by rw [ez]; exact xN_nI (by omega)
        have epa : isM M x y z = inM (rs M 8 (k0 0)) jx jy jz := by unfold isM; rw [if_pos hok, e1, e2, e3]
        have hv : nI (M 2 0 0 + 1) = isV M x y z := (if_pos hok).symm
        rw [hq.1.1, hq.1.2, hq.2, show thr true true true = 0 from rfl] at hh
        rw [ex, ey, ez]
        refine r_aload_n C dX5_insert_46 rfl ?_
        refine g_X5_70 C hh dX5_insert_47 ?_
        rw [show (rs M 8 (k0 0)) 2 0 0 = M 2 0 0 from rfl]
        refine r_istore C dX5_insert_50 rfl rfl ?_
        have lp52 : ∀ (d9 : Nat) (a : Nat) (H : Heap) (locs : List Loc), a < d9 → jx ≤ a → a ≤ M 2 0 0 → f_HS Γ B0 (wj F X (mw Γ ad (rs (rs M 8 (k0 0)) 9 (sr2 (M 9) a (M 2 0 0))))) X9 H locs → f_W X9 H locs 0 0 52 [some (.ref (ad 30 0)), some (.int (nI (jx))), some (.int (nI (jy))), some (.int (nI (jz))), some (.int (nI (a)))] [] := by
          intro d9
          induction d9 with
          | zero => intro a H locs hd9 ha1 ha2 hh; exact absurd hd9 (Nat.not_lt_zero _)
          | succ d9 ih52 =>
            intro a H locs hd9 ha1 ha2 hh
            refine r_iload C dX5_insert_52 rfl ?_
            refine r_iload_n C dX5_insert_54 rfl ?_
            refine r_icmp_leN (tgt := 80) C dX5_insert_55 (by decide) (by omega) (by omega) (fun h55 => ?_) (fun h55 => ?_)
            · obtain rfl : a = jx := by omega
              refine r_aload_n C dX5_insert_80 rfl ?_
              refine g_X5_7 C hh dX5_insert_81 ?_
              refine r_iload_n C dX5_insert_84 rfl ?_
              refine r_aload_n C dX5_insert_85 rfl ?_
              refine g_X5_98 C hh dX5_insert_86 ?_
              simp only [ra8, ra9, ra10, ra11, ra12]
              refine as_m_order C hh (by omega) dX5_insert_89 (fun H locs hh => ?_)
              refine r_aload_n C dX5_insert_90 rfl ?_
              refine g_X5_13 C hh dX5_insert_91 ?_
              refine r_aload_n C dX5_insert_94 rfl ?_
              refine g_X5_98 C hh dX5_insert_95 ?_
              simp only [ra8, ra9, ra10, ra11, ra12]
              refine r_iload_n C dX5_insert_98 rfl ?_
              refine as_m_fonts C hh (by omega) dX5_insert_99 (fun H locs hh => ?_)
              refine r_aload_n C dX5_insert_100 rfl ?_
              refine g_X5_16 C hh dX5_insert_101 ?_
              refine r_aload_n C dX5_insert_104 rfl ?_
              refine g_X5_98 C hh dX5_insert_105 ?_
              simp only [ra8, ra9, ra10, ra11, ra12]
              refine r_iload_n C dX5_insert_108 rfl ?_
              refine as_m_colors C hh (by omega) dX5_insert_109 (fun H locs hh => ?_)
              refine r_aload_n C dX5_insert_110 rfl ?_
              refine g_X5_19 C hh dX5_insert_111 ?_
              refine r_aload_n C dX5_insert_114 rfl ?_
              refine g_X5_98 C hh dX5_insert_115 ?_
              simp only [ra8, ra9, ra10, ra11, ra12]
              refine r_iconst C (nI 1) dX5_insert_118 rfl ?_
              refine as_m_edition C hh (by omega) dX5_insert_119 (fun H locs hh => ?_)
              refine r_aload_n C dX5_insert_120 rfl ?_
              refine r_dup C dX5_insert_121 rfl ?_
              refine g_X5_98 C hh dX5_insert_122 ?_
              simp only [ra8, ra9, ra10, ra11, ra12]
              refine r_iconst C (nI 1) dX5_insert_125 rfl ?_
              refine r_iaddN C dX5_insert_126 ?_
              refine p_X5_98 C hh dX5_insert_127 (fun H locs hh => ?_)
              refine r_aload_n C dX5_insert_130 rfl ?_
              refine r_dup C dX5_insert_131 rfl ?_
              refine g_X5_70 C hh dX5_insert_132 ?_
              simp only [rc8, rc9, rc10, rc11, rc12, rc1]
              refine r_iconst C (nI 1) dX5_insert_135 rfl ?_
              refine r_iaddN C dX5_insert_136 ?_
              refine p_X5_70 C hh dX5_insert_137 (fun H locs hh => ?_)
              replace hh : f_HS Γ B0 (wj F X (mw Γ ad (isM M x y z))) X9 H locs := by
                rw [epa]
                unfold inM
                rw [← rs_rs (rs M 8 (k0 0)) 9 (sr2 (M 9) a (M 2 0 0))]
                exact hh
              refine r_aload_n C dX5_insert_140 rfl ?_
              refine g_X5_70 C hh dX5_insert_141 ?_
              rw [show isM M x y z 2 0 0 = M 2 0 0 + 1 by rw [epa]; rfl]
              exact r_iret C E hh dX5_insert_144 (by omega) (by omega) (ri2 hv)
            · refine r_aload_n C dX5_insert_58 rfl ?_
              refine g_X5_7 C hh dX5_insert_59 ?_
              refine r_iload C dX5_insert_62 rfl ?_
              refine r_aload_n C dX5_insert_64 rfl ?_
              refine g_X5_7 C hh dX5_insert_65 ?_
              refine r_iload C dX5_insert_68 rfl ?_
              refine r_iconst C (nI 1) dX5_insert_70 rfl ?_
              refine r_isubN C dX5_insert_71 (by omega) ?_
              refine al_m_order C hh (by omega) dX5_insert_72 ?_
              refine as_m_order C hh (by omega) dX5_insert_73 (fun H locs hh => ?_)
              replace hh : f_HS Γ B0 (wj F X (mw Γ ad (rs (rs M 8 (k0 0)) 9 (sr2 (M 9) (a - 1) (M 2 0 0))))) X9 H locs := by
                rw [← sr2_s (M 9) (a := a) (m := M 2 0 0) (by omega) ha2 (sr2_n (M 9) (a := a) (m := M 2 0 0) (i := a - 1) (by omega)).symm, ← rs_rs (rs M 8 (k0 0)) 9 (sr2 (M 9) a (M 2 0 0))]
                exact hh
              refine r_iincD C dX5_insert_74 (by omega) rfl rfl ?_
              refine r_goto (tgt := 52) C dX5_insert_77 (by decide) ?_
              exact ih52 (a - 1) _ _ (by omega) (by omega) (by omega) hh
        replace hh : f_HS Γ B0 (wj F X (mw Γ ad (rs (rs M 8 (k0 0)) 9 (sr2 (M 9) (M 2 0 0) (M 2 0 0))))) X9 H locs := by
          rw [sr2_0, show M 9 = rs M 8 (k0 0) 9 from rfl, rs_id]
          exact hh
        exact lp52 (M 2 0 0 + 1) (M 2 0 0) _ _ (by omega) (by omega) (by omega) hh
      · have hv : nI 0 = isV M x y z := by unfold isV; rw [if_neg (by unfold okN; rw [h41]; decide)]; rfl
        rw [show rs M 8 (k0 (thr (iP M x) (iS y z) (iC M))) = isM M x y z from (if_neg (by unfold okN; rw [h41]; decide)).symm] at hh
        refine r_iconst C (nI 0) dX5_insert_44 rfl ?_
        exact r_iret C E hh dX5_insert_45 (by omega) (by omega) (ri2 hv)

