/-! ===== the model: replace ===== -/
def rpM (M : fR) (f o : Nat) : Nat → fR
  | 0 => M
  | k + 1 => if tb (rpM M f o k 10 (M 9 k 0) 0) f = true then edM (rpM M f o k) (M 9 k 0) (rpf (rpM M f o k 10 (M 9 k 0) 0) f o) (rpM M f o k 11 (M 9 k 0) 0) else rpM M f o k
def rpK (M : fR) (f o : Nat) : Nat → Nat
  | 0 => 0
  | k + 1 => rpK M f o k + (if tb (rpM M f o k 10 (M 9 k 0) 0) f = true then 1 else 0)
theorem edM_ne (M : fR) (p a b : Nat) {c : Nat} (h10 : c ≠ 10) (h11 : c ≠ 11) (h12 : c ≠ 12) (h13 : c ≠ 13) : edM M p a b c = M c := by simp [edM, rs, h10, h11, h12, h13]
theorem rpM_ne (M : fR) (f o : Nat) {c : Nat} (h10 : c ≠ 10) (h11 : c ≠ 11) (h12 : c ≠ 12) (h13 : c ≠ 13) : ∀ k, rpM M f o k c = M c
  | 0 => rfl
  | k + 1 => by
    unfold rpM; split
    · rw [edM_ne _ _ _ _ h10 h11 h12 h13, rpM_ne M f o h10 h11 h12 h13 k]
    · exact rpM_ne M f o h10 h11 h12 h13 k
theorem rpM_10 {M : fR} {f o : Nat} (h : ∀ p, M 10 p 0 < 256) (hf : f < 8) (ho : o < 8) : ∀ k p, rpM M f o k 10 p 0 < 256
  | 0, p => h p
  | k + 1, p => by
    unfold rpM; split
    · show u1 (rpM M f o k 10) (M 9 k 0) _ p 0 < 256
      unfold u1
      split
      · exact (rpf_ok _ (rpM_10 h hf ho k _) f hf o ho).1
      · exact rpM_10 h hf ho k p
    · exact rpM_10 h hf ho k p
def okQ (x y : Int32) : Bool := rgB x 8 && (rgB y 8 && !decide (x = y))
def rqM (M : fR) (x y : Int32) : fR := if okQ x y = true then rpM (rs M 8 (k0 0)) (xN x) (xN y) (M 2 0 0) else rs M 8 (k0 1)
def rqV (M : fR) (x y : Int32) : Int32 := if okQ x y = true then nI (rpK (rs M 8 (k0 0)) (xN x) (xN y) (M 2 0 0)) else 0
set_option maxHeartbeats 4000000 in
set_option maxRecDepth 100000 in
theorem c_X5_replace {l : Launch} (hl : l.stackTraces = false) (Γ : fG) (B0 : Nat) (ad : Nat → Nat → Nat) (M : fR) (F : Nat → fO) (X : Nat × Nat → fO) (x y : Int32) (hI : MI M) : f_Met l yX5_replace cX5_replace 6 (some .int) 2 0 0 45 Γ B0 [.ref (ad 30 0), .int x, .int y] (wj F X (mw Γ ad M)) (f_is (rqV M x y) (wj F X (mw Γ ad (rqM M x y)))) f_no := by
  refine f_of hl (by decide) rfl (Nat.le_of_ble_eq_true rfl) (fun X9 C E hh hnm => ?_)
  generalize (f_s X9).heap = H, ([] : List Loc) = locs at hh ⊢
  obtain ⟨i2, i45, i9, i10, i13, i14, i17, i0, i1, -⟩ := id hI
  refine r_aload_n C dX5_replace_0 rfl ?_
  refine r_iload_n C dX5_replace_1 rfl ?_
  refine r_callS C E hh (c_X5_isFont E.2.1 Γ B0 _ x) lk_X5_119 rfl rfl (Nat.le_of_ble_eq_true rfl) dX5_replace_2 ⟨by decide, by decide⟩ ⟨by omega, by omega⟩ (fun _ _ z9 => False.elim z9) (kk_is (fun H locs hs9 hh => ?_))
  refine r_if_eqB (tgt := 24) C dX5_replace_5 (by decide) (fun h5 => ?_) (fun h5 => ?_)
  · have hv : okQ x y = false := by unfold okQ; rw [h5]; rfl
    refine r_iconst C (bI (okQ x y)) dX5_replace_24 (by rw [hv]; rfl) ?_
    refine r_iconst C (bI true) dX5_replace_25 rfl ?_
    refine r_iconst C (bI true) dX5_replace_26 rfl ?_
    refine r_callV C E hh (c_X5_goes E.2.1 Γ B0 ad M F X (okQ x y) true true) lk_X5_101 (tr := .inr (.inr 0)) rfl rfl rfl rfl (Nat.le_of_ble_eq_true rfl) dX5_replace_27 ⟨by decide, by decide⟩ ⟨by omega, by omega⟩ (fun _ _ z9 => False.elim z9) (kk_is (fun H locs hs9 hh => ?_))
    rw [Bool.and_true, Bool.and_true]
    refine r_if_neB (tgt := 35) C dX5_replace_30 (by decide) (fun h30 => ?_) (fun h30 => ?_)
    · have hq := h30
      unfold okQ at hq
      rw [Bool.and_eq_true, Bool.and_eq_true] at hq
      obtain ⟨jx, hjx, ex⟩ := rg_of ((rgB_rg (by decide)).mp hq.1) (by decide)
      obtain ⟨jy, hjy, ey⟩ := rg_of ((rgB_rg (by decide)).mp hq.2.1) (by decide)
      have e1x : xN x = jx := by rw [ex]; exact xN_nI (by omega)
      have e1y : xN y = jy := by rw [ey]; exact xN_nI (by omega)
      have epa : rqM M x y = rpM (rs M 8 (k0 0)) jx jy (M 2 0 0) := by unfold rqM; rw [if_pos h30, e1x, e1y]
      have epv : rqV M x y = nI (rpK (rs M 8 (k0 0)) jx jy (M 2 0 0)) := by unfold rqV; rw [if_pos h30, e1x, e1y]
      rw [h30, show thr true true true = 0 from rfl] at hh
      rw [ex, ey]
      refine r_iconst C (nI 0) dX5_replace_35 rfl ?_
      refine r_istore_n C dX5_replace_36 rfl rfl ?_
      refine r_iconst C (nI 0) dX5_replace_37 rfl ?_
      refine r_istore C dX5_replace_38 rfl rfl ?_
      have lp40 : ∀ (d9 : Nat) (k : Nat) (H : Heap) (locs : List Loc), M 2 0 0 - k < d9 → k ≤ M 2 0 0 → f_HS Γ B0 (wj F X (mw Γ ad (rpM (rs M 8 (k0 0)) jx jy k))) X9 H locs → f_W X9 H locs 0 0 40 [some (.ref (ad 30 0)), some (.int (nI (jx))), some (.int (nI (jy))), some (.int (nI (rpK (rs M 8 (k0 0)) jx jy k))), some (.int (nI (k))), none] [] := by
        intro d9
        induction d9 with
        | zero => intro k H locs hd9 hl hh; exact absurd hd9 (Nat.not_lt_zero _)
        | succ d9 ih40 =>
          intro k H locs hd9 hl hh
          have e2 : (rpM (rs M 8 (k0 0)) jx jy k) 2 0 0 = M 2 0 0 := by rw [rpM_ne _ _ _ (by decide) (by decide) (by decide) (by decide)]; rfl
          have e3 : (rpM (rs M 8 (k0 0)) jx jy k) 9 k 0 = M 9 k 0 := by rw [rpM_ne _ _ _ (by decide) (by decide) (by decide) (by decide)]; rfl
          have hz := rpM_10 (M := (rs M 8 (k0 0))) (fun p => (i10 p).1) hjx hjy k (M 9 k 0)
          have j9 := i9 k
          refine r_iload C dX5_replace_40 rfl ?_
          refine r_aload_n C dX5_replace_42 rfl ?_
          refine g_X5_70 C hh dX5_replace_43 ?_
          rw [e2]
          refine r_icmp_geN (tgt := 111) C dX5_replace_46 (by decide) (by omega) (by omega) (fun h46 => ?_) (fun h46 => ?_)
          · obtain rfl : k = M 2 0 0 := by omega
            refine r_iload_n C dX5_replace_111 rfl ?_
            
            exact r_iret C E hh dX5_replace_112 (by omega) (by omega) (by rw [epa, epv]; exact ⟨rfl, rfl⟩)
          · refine r_aload_n C dX5_replace_49 rfl ?_
            refine g_X5_7 C hh dX5_replace_50 ?_
            refine r_iload C dX5_replace_53 rfl ?_
            refine al_m_order C hh (by omega) dX5_replace_55 ?_
            rw [e3]
            refine r_istore C dX5_replace_56 rfl rfl ?_
            refine r_aload_n C dX5_replace_58 rfl ?_
            refine g_X5_13 C hh dX5_replace_59 ?_
            refine r_iload C dX5_replace_62 rfl ?_
            refine al_m_fonts C hh (by omega) dX5_replace_64 ?_
            refine r_iload_n C dX5_replace_65 rfl ?_
            refine r_callS C E hh (c_X5_has E.2.1 Γ B0 _ _ _ (by omega) (by omega)) lk_X5_122 rfl rfl (Nat.le_of_ble_eq_true rfl) dX5_replace_66 ⟨by decide, by decide⟩ ⟨by omega, by omega⟩ (fun _ _ z9 => False.elim z9) (kk_is (fun H locs hs9 hh => ?_))
            refine r_if_eqB (tgt := 105) C dX5_replace_69 (by decide) (fun h69 => ?_) (fun h69 => ?_)
            · have e7 : rpM (rs M 8 (k0 0)) jx jy (k + 1) = rpM (rs M 8 (k0 0)) jx jy k := if_neg (show ¬ tb ((rpM (rs M 8 (k0 0)) jx jy k) 10 (M 9 k 0) 0) jx = true by rw [h69]; decide)
              have e8 : rpK (rs M 8 (k0 0)) jx jy (k + 1) = rpK (rs M 8 (k0 0)) jx jy k := by
                show rpK (rs M 8 (k0 0)) jx jy k + (if tb ((rpM (rs M 8 (k0 0)) jx jy k) 10 (M 9 k 0) 0) jx = true then 1 else 0) = _
                rw [if_neg (by rw [h69]; decide)]; rfl
              refine r_iincN C dX5_replace_105 rfl rfl ?_
              refine r_goto (tgt := 40) C dX5_replace_108 (by decide) ?_
              have w9 := ih40 (k + 1) H locs (by omega) (by omega) (by rw [e7]; exact hh)
              rw [e8] at w9
              refine f_W.le ?_ w9
              exact (And.intro rfl (And.intro rfl (And.intro rfl (And.intro rfl (And.intro rfl trivial)))))
            · have e7 : rpM (rs M 8 (k0 0)) jx jy (k + 1) = edM (rpM (rs M 8 (k0 0)) jx jy k) (M 9 k 0) (rpf ((rpM (rs M 8 (k0 0)) jx jy k) 10 (M 9 k 0) 0) jx jy) ((rpM (rs M 8 (k0 0)) jx jy k) 11 (M 9 k 0) 0) := if_pos h69
              have e8 : rpK (rs M 8 (k0 0)) jx jy (k + 1) = rpK (rs M 8 (k0 0)) jx jy k + 1 := by
                show rpK (rs M 8 (k0 0)) jx jy k + (if tb ((rpM (rs M 8 (k0 0)) jx jy k) 10 (M 9 k 0) 0) jx = true then 1 else 0) = _
                rw [if_pos h69]
              refine r_aload_n C dX5_replace_72 rfl ?_
              refine r_iload C dX5_replace_73 rfl ?_
              refine r_aload_n C dX5_replace_75 rfl ?_
              refine g_X5_13 C hh dX5_replace_76 ?_
              refine r_iload C dX5_replace_79 rfl ?_
              refine al_m_fonts C hh (by omega) dX5_replace_81 ?_
              refine r_iconst C (nI 1) dX5_replace_82 rfl ?_
              refine r_iload_n C dX5_replace_83 rfl ?_
              refine r_ishlN C dX5_replace_84 (by omega) (pow8 hjx) ?_
              rw [Nat.one_mul]
              refine r_iconst C (nI 4294967295) dX5_replace_85 rfl ?_
              refine r_ixorN C dX5_replace_86 ?_
              refine r_iandN C dX5_replace_87 ?_
              refine r_iconst C (nI 1) dX5_replace_88 rfl ?_
              refine r_iload_n C dX5_replace_89 rfl ?_
              refine r_ishlN C dX5_replace_90 (by omega) (pow8 hjy) ?_
              rw [Nat.one_mul]
              refine r_iorN C dX5_replace_91 ?_
              refine r_aload_n C dX5_replace_92 rfl ?_
              refine g_X5_16 C hh dX5_replace_93 ?_
              refine r_iload C dX5_replace_96 rfl ?_
              refine al_m_colors C hh (by omega) dX5_replace_98 ?_
              refine r_callV C E hh (c_X5_edits E.2.1 Γ B0 ad (rpM (rs M 8 (k0 0)) jx jy k) F X (M 9 k 0) _ _ j9) lk_X5_115 (tr := .inr (.inr 0)) rfl rfl rfl rfl (Nat.le_of_ble_eq_true rfl) dX5_replace_99 ⟨by decide, by decide⟩ ⟨by omega, by omega⟩ (fun _ _ z9 => False.elim z9) (kk_to (fun H locs hs9 hh => ?_))
              refine r_iincN C dX5_replace_102 rfl rfl ?_
              refine r_iincN C dX5_replace_105 rfl rfl ?_
              refine r_goto (tgt := 40) C dX5_replace_108 (by decide) ?_
              have w9 := ih40 (k + 1) H locs (by omega) (by omega) (by rw [e7]; exact hh)
              rw [e8] at w9
              refine f_W.le ?_ w9
              exact (And.intro rfl (And.intro rfl (And.intro rfl (And.intro rfl (And.intro rfl trivial)))))
      refine f_W.le ?_ (lp40 (M 2 0 0 + 1) 0 _ _ (by omega) (by omega) hh)
      exact (And.intro rfl (And.intro rfl (And.intro rfl (And.intro rfl (And.intro rfl trivial)))))
    · have hv2 : nI 0 = rqV M x y := by unfold rqV; rw [if_neg (by rw [h30]; decide)]; rfl
      rw [h30, show thr false true true = 1 from rfl, show rs M 8 (k0 1) = rqM M x y from (if_neg (by rw [h30]; decide)).symm] at hh
      refine r_iconst C (nI 0) dX5_replace_33 rfl ?_
      exact r_iret C E hh dX5_replace_34 (by omega) (by omega) (ri2 hv2)
  · refine r_iload_n C dX5_replace_8 rfl ?_
    refine r_callS C E hh (c_X5_isFont E.2.1 Γ B0 _ y) lk_X5_119 rfl rfl (Nat.le_of_ble_eq_true rfl) dX5_replace_9 ⟨by decide, by decide⟩ ⟨by omega, by omega⟩ (fun _ _ z9 => False.elim z9) (kk_is (fun H locs hs9 hh => ?_))
    refine r_if_eqB (tgt := 24) C dX5_replace_12 (by decide) (fun h12 => ?_) (fun h12 => ?_)
    · have hv : okQ x y = false := by unfold okQ; rw [h5, h12]; rfl
      refine r_iconst C (bI (okQ x y)) dX5_replace_24 (by rw [hv]; rfl) ?_
      refine r_iconst C (bI true) dX5_replace_25 rfl ?_
      refine r_iconst C (bI true) dX5_replace_26 rfl ?_
      refine r_callV C E hh (c_X5_goes E.2.1 Γ B0 ad M F X (okQ x y) true true) lk_X5_101 (tr := .inr (.inr 0)) rfl rfl rfl rfl (Nat.le_of_ble_eq_true rfl) dX5_replace_27 ⟨by decide, by decide⟩ ⟨by omega, by omega⟩ (fun _ _ z9 => False.elim z9) (kk_is (fun H locs hs9 hh => ?_))
      rw [Bool.and_true, Bool.and_true]
      refine r_if_neB (tgt := 35) C dX5_replace_30 (by decide) (fun h30 => ?_) (fun h30 => ?_)
      · have hq := h30
        unfold okQ at hq
        rw [Bool.and_eq_true, Bool.and_eq_true] at hq
        obtain ⟨jx, hjx, ex⟩ := rg_of ((rgB_rg (by decide)).mp hq.1) (by decide)
        obtain ⟨jy, hjy, ey⟩ := rg_of ((rgB_rg (by decide)).mp hq.2.1) (by decide)
        have e1x : xN x = jx := by rw [ex]; exact xN_nI (by omega)
        have e1y : xN y = jy := by rw [ey]; exact xN_nI (by omega)
        have epa : rqM M x y = rpM (rs M 8 (k0 0)) jx jy (M 2 0 0) := by unfold rqM; rw [if_pos h30, e1x, e1y]
        have epv : rqV M x y = nI (rpK (rs M 8 (k0 0)) jx jy (M 2 0 0)) := by unfold rqV; rw [if_pos h30, e1x, e1y]
        rw [h30, show thr true true true = 0 from rfl] at hh
        rw [ex, ey]
        refine r_iconst C (nI 0) dX5_replace_35 rfl ?_
        refine r_istore_n C dX5_replace_36 rfl rfl ?_
        refine r_iconst C (nI 0) dX5_replace_37 rfl ?_
        refine r_istore C dX5_replace_38 rfl rfl ?_
        have lp40 : ∀ (d9 : Nat) (k : Nat) (H : Heap) (locs : List Loc), M 2 0 0 - k < d9 → k ≤ M 2 0 0 → f_HS Γ B0 (wj F X (mw Γ ad (rpM (rs M 8 (k0 0)) jx jy k))) X9 H locs → f_W X9 H locs 0 0 40 [some (.ref (ad 30 0)), some (.int (nI (jx))), some (.int (nI (jy))), some (.int (nI (rpK (rs M 8 (k0 0)) jx jy k))), some (.int (nI (k))), none] [] := by
          intro d9
          induction d9 with
          | zero => intro k H locs hd9 hl hh; exact absurd hd9 (Nat.not_lt_zero _)
          | succ d9 ih40 =>
            intro k H locs hd9 hl hh
            have e2 : (rpM (rs M 8 (k0 0)) jx jy k) 2 0 0 = M 2 0 0 := by rw [rpM_ne _ _ _ (by decide) (by decide) (by decide) (by decide)]; rfl
            have e3 : (rpM (rs M 8 (k0 0)) jx jy k) 9 k 0 = M 9 k 0 := by rw [rpM_ne _ _ _ (by decide) (by decide) (by decide) (by decide)]; rfl
            have hz := rpM_10 (M := (rs M 8 (k0 0))) (fun p => (i10 p).1) hjx hjy k (M 9 k 0)
            have j9 := i9 k
            refine r_iload C dX5_replace_40 rfl ?_
            refine r_aload_n C dX5_replace_42 rfl ?_
            refine g_X5_70 C hh dX5_replace_43 ?_
            rw [e2]
            refine r_icmp_geN (tgt := 111) C dX5_replace_46 (by decide) (by omega) (by omega) (fun h46 => ?_) (fun h46 => ?_)
            · obtain rfl : k = M 2 0 0 := by omega
              refine r_iload_n C dX5_replace_111 rfl ?_
              
              exact r_iret C E hh dX5_replace_112 (by omega) (by omega) (by rw [epa, epv]; exact ⟨rfl, rfl⟩)
            · refine r_aload_n C dX5_replace_49 rfl ?_
              refine g_X5_7 C hh dX5_replace_50 ?_
              refine r_iload C dX5_replace_53 rfl ?_
              refine al_m_order C hh (by omega) dX5_replace_55 ?_
              rw [e3]
              refine r_istore C dX5_replace_56 rfl rfl ?_
              refine r_aload_n C dX5_replace_58 rfl ?_
              refine g_X5_13 C hh dX5_replace_59 ?_
              refine r_iload C dX5_replace_62 rfl ?_
              refine al_m_fonts C hh (by omega) dX5_replace_64 ?_
              refine r_iload_n C dX5_replace_65 rfl ?_
              refine r_callS C E hh (c_X5_has E.2.1 Γ B0 _ _ _ (by omega) (by omega)) lk_X5_122 rfl rfl (Nat.le_of_ble_eq_true rfl) dX5_replace_66 ⟨by decide, by decide⟩ ⟨by omega, by omega⟩ (fun _ _ z9 => False.elim z9) (kk_is (fun H locs hs9 hh => ?_))
              refine r_if_eqB (tgt := 105) C dX5_replace_69 (by decide) (fun h69 => ?_) (fun h69 => ?_)
              · have e7 : rpM (rs M 8 (k0 0)) jx jy (k + 1) = rpM (rs M 8 (k0 0)) jx jy k := if_neg (show ¬ tb ((rpM (rs M 8 (k0 0)) jx jy k) 10 (M 9 k 0) 0) jx = true by rw [h69]; decide)
                have e8 : rpK (rs M 8 (k0 0)) jx jy (k + 1) = rpK (rs M 8 (k0 0)) jx jy k := by
                  show rpK (rs M 8 (k0 0)) jx jy k + (if tb ((rpM (rs M 8 (k0 0)) jx jy k) 10 (M 9 k 0) 0) jx = true then 1 else 0) = _
                  rw [if_neg (by rw [h69]; decide)]; rfl
                refine r_iincN C dX5_replace_105 rfl rfl ?_
                refine r_goto (tgt := 40) C dX5_replace_108 (by decide) ?_
                have w9 := ih40 (k + 1) H locs (by omega) (by omega) (by rw [e7]; exact hh)
                rw [e8] at w9
                refine f_W.le ?_ w9
                exact (And.intro rfl (And.intro rfl (And.intro rfl (And.intro rfl (And.intro rfl trivial)))))
              · have e7 : rpM (rs M 8 (k0 0)) jx jy (k + 1) = edM (rpM (rs M 8 (k0 0)) jx jy k) (M 9 k 0) (rpf ((rpM (rs M 8 (k0 0)) jx jy k) 10 (M 9 k 0) 0) jx jy) ((rpM (rs M 8 (k0 0)) jx jy k) 11 (M 9 k 0) 0) := if_pos h69
                have e8 : rpK (rs M 8 (k0 0)) jx jy (k + 1) = rpK (rs M 8 (k0 0)) jx jy k + 1 := by
                  show rpK (rs M 8 (k0 0)) jx jy k + (if tb ((rpM (rs M 8 (k0 0)) jx jy k) 10 (M 9 k 0) 0) jx = true then 1 else 0) = _
                  rw [if_pos h69]
                refine r_aload_n C dX5_replace_72 rfl ?_
                refine r_iload C dX5_replace_73 rfl ?_
                refine r_aload_n C dX5_replace_75 rfl ?_
                refine g_X5_13 C hh dX5_replace_76 ?_
                refine r_iload C dX5_replace_79 rfl ?_
                refine al_m_fonts C hh (by omega) dX5_replace_81 ?_
                refine r_iconst C (nI 1) dX5_replace_82 rfl ?_
                refine r_iload_n C dX5_replace_83 rfl ?_
                refine r_ishlN C dX5_replace_84 (by omega) (pow8 hjx) ?_
                rw [Nat.one_mul]
                refine r_iconst C (nI 4294967295) dX5_replace_85 rfl ?_
                refine r_ixorN C dX5_replace_86 ?_
                refine r_iandN C dX5_replace_87 ?_
                refine r_iconst C (nI 1) dX5_replace_88 rfl ?_
                refine r_iload_n C dX5_replace_89 rfl ?_
                refine r_ishlN C dX5_replace_90 (by omega) (pow8 hjy) ?_
                rw [Nat.one_mul]
                refine r_iorN C dX5_replace_91 ?_
                refine r_aload_n C dX5_replace_92 rfl ?_
                refine g_X5_16 C hh dX5_replace_93 ?_
                refine r_iload C dX5_replace_96 rfl ?_
                refine al_m_colors C hh (by omega) dX5_replace_98 ?_
                refine r_callV C E hh (c_X5_edits E.2.1 Γ B0 ad (rpM (rs M 8 (k0 0)) jx jy k) F X (M 9 k 0) _ _ j9) lk_X5_115 (tr := .inr (.inr 0)) rfl rfl rfl rfl (Nat.le_of_ble_eq_true rfl) dX5_replace_99 ⟨by decide, by decide⟩ ⟨by omega, by omega⟩ (fun _ _ z9 => False.elim z9) (kk_to (fun H locs hs9 hh => ?_))
                refine r_iincN C dX5_replace_102 rfl rfl ?_
                refine r_iincN C dX5_replace_105 rfl rfl ?_
                refine r_goto (tgt := 40) C dX5_replace_108 (by decide) ?_
                have w9 := ih40 (k + 1) H locs (by omega) (by omega) (by rw [e7]; exact hh)
                rw [e8] at w9
                refine f_W.le ?_ w9
                exact (And.intro rfl (And.intro rfl (And.intro rfl (And.intro rfl (And.intro rfl trivial)))))
        refine f_W.le ?_ (lp40 (M 2 0 0 + 1) 0 _ _ (by omega) (by omega) hh)
        exact (And.intro rfl (And.intro rfl (And.intro rfl (And.intro rfl (And.intro rfl trivial)))))
      · have hv2 : nI 0 = rqV M x y := by unfold rqV; rw [if_neg (by rw [h30]; decide)]; rfl
        rw [h30, show thr false true true = 1 from rfl, show rs M 8 (k0 1) = rqM M x y from (if_neg (by rw [h30]; decide)).symm] at hh
        refine r_iconst C (nI 0) dX5_replace_33 rfl ?_
        exact r_iret C E hh dX5_replace_34 (by omega) (by omega) (ri2 hv2)
    · refine r_iload_n C dX5_replace_15 rfl ?_
      refine r_iload_n C dX5_replace_16 rfl ?_
      refine r_icmp_eq (tgt := 24) C dX5_replace_17 (by decide) (fun h17 => ?_) (fun h17 => ?_)
      · have hv : okQ x y = false := by unfold okQ; rw [h5, h12, decide_eq_true h17]; rfl
        refine r_iconst C (bI (okQ x y)) dX5_replace_24 (by rw [hv]; rfl) ?_
        refine r_iconst C (bI true) dX5_replace_25 rfl ?_
        refine r_iconst C (bI true) dX5_replace_26 rfl ?_
        refine r_callV C E hh (c_X5_goes E.2.1 Γ B0 ad M F X (okQ x y) true true) lk_X5_101 (tr := .inr (.inr 0)) rfl rfl rfl rfl (Nat.le_of_ble_eq_true rfl) dX5_replace_27 ⟨by decide, by decide⟩ ⟨by omega, by omega⟩ (fun _ _ z9 => False.elim z9) (kk_is (fun H locs hs9 hh => ?_))
        rw [Bool.and_true, Bool.and_true]
        refine r_if_neB (tgt := 35) C dX5_replace_30 (by decide) (fun h30 => ?_) (fun h30 => ?_)
        · have hq := h30
          unfold okQ at hq
          rw [Bool.and_eq_true, Bool.and_eq_true] at hq
          obtain ⟨jx, hjx, ex⟩ := rg_of ((rgB_rg (by decide)).mp hq.1) (by decide)
          obtain ⟨jy, hjy, ey⟩ := rg_of ((rgB_rg (by decide)).mp hq.2.1) (by decide)
          have e1x : xN x = jx := by rw [ex]; exact xN_nI (by omega)
          have e1y : xN y = jy := by rw [ey]; exact xN_nI (by omega)
          have epa : rqM M x y = rpM (rs M 8 (k0 0)) jx jy (M 2 0 0) := by unfold rqM; rw [if_pos h30, e1x, e1y]
          have epv : rqV M x y = nI (rpK (rs M 8 (k0 0)) jx jy (M 2 0 0)) := by unfold rqV; rw [if_pos h30, e1x, e1y]
          rw [h30, show thr true true true = 0 from rfl] at hh
          rw [ex, ey]
          refine r_iconst C (nI 0) dX5_replace_35 rfl ?_
          refine r_istore_n C dX5_replace_36 rfl rfl ?_
          refine r_iconst C (nI 0) dX5_replace_37 rfl ?_
          refine r_istore C dX5_replace_38 rfl rfl ?_
          have lp40 : ∀ (d9 : Nat) (k : Nat) (H : Heap) (locs : List Loc), M 2 0 0 - k < d9 → k ≤ M 2 0 0 → f_HS Γ B0 (wj F X (mw Γ ad (rpM (rs M 8 (k0 0)) jx jy k))) X9 H locs → f_W X9 H locs 0 0 40 [some (.ref (ad 30 0)), some (.int (nI (jx))), some (.int (nI (jy))), some (.int (nI (rpK (rs M 8 (k0 0)) jx jy k))), some (.int (nI (k))), none] [] := by
            intro d9
            induction d9 with
            | zero => intro k H locs hd9 hl hh; exact absurd hd9 (Nat.not_lt_zero _)
            | succ d9 ih40 =>
              intro k H locs hd9 hl hh
              have e2 : (rpM (rs M 8 (k0 0)) jx jy k) 2 0 0 = M 2 0 0 := by rw [rpM_ne _ _ _ (by decide) (by decide) (by decide) (by decide)]; rfl
              have e3 : (rpM (rs M 8 (k0 0)) jx jy k) 9 k 0 = M 9 k 0 := by rw [rpM_ne _ _ _ (by decide) (by decide) (by decide) (by decide)]; rfl
              have hz := rpM_10 (M := (rs M 8 (k0 0))) (fun p => (i10 p).1) hjx hjy k (M 9 k 0)
              have j9 := i9 k
              refine r_iload C dX5_replace_40 rfl ?_
              refine r_aload_n C dX5_replace_42 rfl ?_
              refine g_X5_70 C hh dX5_replace_43 ?_
              rw [e2]
              refine r_icmp_geN (tgt := 111) C dX5_replace_46 (by decide) (by omega) (by omega) (fun h46 => ?_) (fun h46 => ?_)
              · obtain rfl : k = M 2 0 0 := by omega
                refine r_iload_n C dX5_replace_111 rfl ?_
                
                exact r_iret C E hh dX5_replace_112 (by omega) (by omega) (by rw [epa, epv]; exact ⟨rfl, rfl⟩)
              · refine r_aload_n C dX5_replace_49 rfl ?_
                refine g_X5_7 C hh dX5_replace_50 ?_
                refine r_iload C dX5_replace_53 rfl ?_
                refine al_m_order C hh (by omega) dX5_replace_55 ?_
                rw [e3]
                refine r_istore C dX5_replace_56 rfl rfl ?_
                refine r_aload_n C dX5_replace_58 rfl ?_
                refine g_X5_13 C hh dX5_replace_59 ?_
                refine r_iload C dX5_replace_62 rfl ?_
                refine al_m_fonts C hh (by omega) dX5_replace_64 ?_
                refine r_iload_n C dX5_replace_65 rfl ?_
                refine r_callS C E hh (c_X5_has E.2.1 Γ B0 _ _ _ (by omega) (by omega)) lk_X5_122 rfl rfl (Nat.le_of_ble_eq_true rfl) dX5_replace_66 ⟨by decide, by decide⟩ ⟨by omega, by omega⟩ (fun _ _ z9 => False.elim z9) (kk_is (fun H locs hs9 hh => ?_))
                refine r_if_eqB (tgt := 105) C dX5_replace_69 (by decide) (fun h69 => ?_) (fun h69 => ?_)
                · have e7 : rpM (rs M 8 (k0 0)) jx jy (k + 1) = rpM (rs M 8 (k0 0)) jx jy k := if_neg (show ¬ tb ((rpM (rs M 8 (k0 0)) jx jy k) 10 (M 9 k 0) 0) jx = true by rw [h69]; decide)
                  have e8 : rpK (rs M 8 (k0 0)) jx jy (k + 1) = rpK (rs M 8 (k0 0)) jx jy k := by
                    show rpK (rs M 8 (k0 0)) jx jy k + (if tb ((rpM (rs M 8 (k0 0)) jx jy k) 10 (M 9 k 0) 0) jx = true then 1 else 0) = _
                    rw [if_neg (by rw [h69]; decide)]; rfl
                  refine r_iincN C dX5_replace_105 rfl rfl ?_
                  refine r_goto (tgt := 40) C dX5_replace_108 (by decide) ?_
                  have w9 := ih40 (k + 1) H locs (by omega) (by omega) (by rw [e7]; exact hh)
                  rw [e8] at w9
                  refine f_W.le ?_ w9
                  exact (And.intro rfl (And.intro rfl (And.intro rfl (And.intro rfl (And.intro rfl trivial)))))
                · have e7 : rpM (rs M 8 (k0 0)) jx jy (k + 1) = edM (rpM (rs M 8 (k0 0)) jx jy k) (M 9 k 0) (rpf ((rpM (rs M 8 (k0 0)) jx jy k) 10 (M 9 k 0) 0) jx jy) ((rpM (rs M 8 (k0 0)) jx jy k) 11 (M 9 k 0) 0) := if_pos h69
                  have e8 : rpK (rs M 8 (k0 0)) jx jy (k + 1) = rpK (rs M 8 (k0 0)) jx jy k + 1 := by
                    show rpK (rs M 8 (k0 0)) jx jy k + (if tb ((rpM (rs M 8 (k0 0)) jx jy k) 10 (M 9 k 0) 0) jx = true then 1 else 0) = _
                    rw [if_pos h69]
                  refine r_aload_n C dX5_replace_72 rfl ?_
                  refine r_iload C dX5_replace_73 rfl ?_
                  refine r_aload_n C dX5_replace_75 rfl ?_
                  refine g_X5_13 C hh dX5_replace_76 ?_
                  refine r_iload C dX5_replace_79 rfl ?_
                  refine al_m_fonts C hh (by omega) dX5_replace_81 ?_
                  refine r_iconst C (nI 1) dX5_replace_82 rfl ?_
                  refine r_iload_n C dX5_replace_83 rfl ?_
                  refine r_ishlN C dX5_replace_84 (by omega) (pow8 hjx) ?_
                  rw [Nat.one_mul]
                  refine r_iconst C (nI 4294967295) dX5_replace_85 rfl ?_
                  refine r_ixorN C dX5_replace_86 ?_
                  refine r_iandN C dX5_replace_87 ?_
                  refine r_iconst C (nI 1) dX5_replace_88 rfl ?_
                  refine r_iload_n C dX5_replace_89 rfl ?_
                  refine r_ishlN C dX5_replace_90 (by omega) (pow8 hjy) ?_
                  rw [Nat.one_mul]
                  refine r_iorN C dX5_replace_91 ?_
                  refine r_aload_n C dX5_replace_92 rfl ?_
                  refine g_X5_16 C hh dX5_replace_93 ?_
                  refine r_iload C dX5_replace_96 rfl ?_
                  refine al_m_colors C hh (by omega) dX5_replace_98 ?_
                  refine r_callV C E hh (c_X5_edits E.2.1 Γ B0 ad (rpM (rs M 8 (k0 0)) jx jy k) F X (M 9 k 0) _ _ j9) lk_X5_115 (tr := .inr (.inr 0)) rfl rfl rfl rfl (Nat.le_of_ble_eq_true rfl) dX5_replace_99 ⟨by decide, by decide⟩ ⟨by omega, by omega⟩ (fun _ _ z9 => False.elim z9) (kk_to (fun H locs hs9 hh => ?_))
                  refine r_iincN C dX5_replace_102 rfl rfl ?_
                  refine r_iincN C dX5_replace_105 rfl rfl ?_
                  refine r_goto (tgt := 40) C dX5_replace_108 (by decide) ?_
                  have w9 := ih40 (k + 1) H locs (by omega) (by omega) (by rw [e7]; exact hh)
                  rw [e8] at w9
                  refine f_W.le ?_ w9
                  exact (And.intro rfl (And.intro rfl (And.intro rfl (And.intro rfl (And.intro rfl trivial)))))
          refine f_W.le ?_ (lp40 (M 2 0 0 + 1) 0 _ _ (by omega) (by omega) hh)
          exact (And.intro rfl (And.intro rfl (And.intro rfl (And.intro rfl (And.intro rfl trivial)))))
        · have hv2 : nI 0 = rqV M x y := by unfold rqV; rw [if_neg (by rw [h30]; decide)]; rfl
          rw [h30, show thr false true true = 1 from rfl, show rs M 8 (k0 1) = rqM M x y from (if_neg (by rw [h30]; decide)).symm] at hh
          refine r_iconst C (nI 0) dX5_replace_33 rfl ?_
          exact r_iret C E hh dX5_replace_34 (by omega) (by omega) (ri2 hv2)
      · have hv : okQ x y = true := by unfold okQ; rw [h5, h12, decide_eq_false h17]; rfl
        refine r_iconst C (bI (okQ x y)) dX5_replace_20 (by rw [hv]; rfl) ?_
        refine r_goto (tgt := 25) C dX5_replace_21 (by decide) ?_
        refine r_iconst C (bI true) dX5_replace_25 rfl ?_
        refine r_iconst C (bI true) dX5_replace_26 rfl ?_
        refine r_callV C E hh (c_X5_goes E.2.1 Γ B0 ad M F X (okQ x y) true true) lk_X5_101 (tr := .inr (.inr 0)) rfl rfl rfl rfl (Nat.le_of_ble_eq_true rfl) dX5_replace_27 ⟨by decide, by decide⟩ ⟨by omega, by omega⟩ (fun _ _ z9 => False.elim z9) (kk_is (fun H locs hs9 hh => ?_))
        rw [Bool.and_true, Bool.and_true]
        refine r_if_neB (tgt := 35) C dX5_replace_30 (by decide) (fun h30 => ?_) (fun h30 => ?_)
        · have hq := h30
          unfold okQ at hq
          rw [Bool.and_eq_true, Bool.and_eq_true] at hq
          obtain ⟨jx, hjx, ex⟩ := rg_of ((rgB_rg (by decide)).mp hq.1) (by decide)
          obtain ⟨jy, hjy, ey⟩ := rg_of ((rgB_rg (by decide)).mp hq.2.1) (by decide)
          have e1x : xN x = jx := by rw [ex]; exact xN_nI (by omega)
          have e1y : xN y = jy := by rw [ey]; exact xN_nI (by omega)
          have epa : rqM M x y = rpM (rs M 8 (k0 0)) jx jy (M 2 0 0) := by unfold rqM; rw [if_pos h30, e1x, e1y]
          have epv : rqV M x y = nI (rpK (rs M 8 (k0 0)) jx jy (M 2 0 0)) := by unfold rqV; rw [if_pos h30, e1x, e1y]
          rw [h30, show thr true true true = 0 from rfl] at hh
          rw [ex, ey]
          refine r_iconst C (nI 0) dX5_replace_35 rfl ?_
          refine r_istore_n C dX5_replace_36 rfl rfl ?_
          refine r_iconst C (nI 0) dX5_replace_37 rfl ?_
          refine r_istore C dX5_replace_38 rfl rfl ?_
          have lp40 : ∀ (d9 : Nat) (k : Nat) (H : Heap) (locs : List Loc), M 2 0 0 - k < d9 → k ≤ M 2 0 0 → f_HS Γ B0 (wj F X (mw Γ ad (rpM (rs M 8 (k0 0)) jx jy k))) X9 H locs → f_W X9 H locs 0 0 40 [some (.ref (ad 30 0)), some (.int (nI (jx))), some (.int (nI (jy))), some (.int (nI (rpK (rs M 8 (k0 0)) jx jy k))), some (.int (nI (k))), none] [] := by
            intro d9
            induction d9 with
            | zero => intro k H locs hd9 hl hh; exact absurd hd9 (Nat.not_lt_zero _)
            | succ d9 ih40 =>
              intro k H locs hd9 hl hh
              have e2 : (rpM (rs M 8 (k0 0)) jx jy k) 2 0 0 = M 2 0 0 := by rw [rpM_ne _ _ _ (by decide) (by decide) (by decide) (by decide)]; rfl
              have e3 : (rpM (rs M 8 (k0 0)) jx jy k) 9 k 0 = M 9 k 0 := by rw [rpM_ne _ _ _ (by decide) (by decide) (by decide) (by decide)]; rfl
              have hz := rpM_10 (M := (rs M 8 (k0 0))) (fun p => (i10 p).1) hjx hjy k (M 9 k 0)
              have j9 := i9 k
              refine r_iload C dX5_replace_40 rfl ?_
              refine r_aload_n C dX5_replace_42 rfl ?_
              refine g_X5_70 C hh dX5_replace_43 ?_
              rw [e2]
              refine r_icmp_geN (tgt := 111) C dX5_replace_46 (by decide) (by omega) (by omega) (fun h46 => ?_) (fun h46 => ?_)
              · obtain rfl : k = M 2 0 0 := by omega
                refine r_iload_n C dX5_replace_111 rfl ?_
                
                exact r_iret C E hh dX5_replace_112 (by omega) (by omega) (by rw [epa, epv]; exact ⟨rfl, rfl⟩)
              · refine r_aload_n C dX5_replace_49 rfl ?_
                refine g_X5_7 C hh dX5_replace_50 ?_
                refine r_iload C dX5_replace_53 rfl ?_
                refine al_m_order C hh (by omega) dX5_replace_55 ?_
                rw [e3]
                refine r_istore C dX5_replace_56 rfl rfl ?_
                refine r_aload_n C dX5_replace_58 rfl ?_
                refine g_X5_13 C hh dX5_replace_59 ?_
                refine r_iload C dX5_replace_62 rfl ?_
                refine al_m_fonts C hh (by omega) dX5_replace_64 ?_
                refine r_iload_n C dX5_replace_65 rfl ?_
                refine r_callS C E hh (c_X5_has E.2.1 Γ B0 _ _ _ (by omega) (by omega)) lk_X5_122 rfl rfl (Nat.le_of_ble_eq_true rfl) dX5_replace_66 ⟨by decide, by decide⟩ ⟨by omega, by omega⟩ (fun _ _ z9 => False.elim z9) (kk_is (fun H locs hs9 hh => ?_))
                refine r_if_eqB (tgt := 105) C dX5_replace_69 (by decide) (fun h69 => ?_) (fun h69 => ?_)
                · have e7 : rpM (rs M 8 (k0 0)) jx jy (k + 1) = rpM (rs M 8 (k0 0)) jx jy k := if_neg (show ¬ tb ((rpM (rs M 8 (k0 0)) jx jy k) 10 (M 9 k 0) 0) jx = true by rw [h69]; decide)
                  have e8 : rpK (rs M 8 (k0 0)) jx jy (k + 1) = rpK (rs M 8 (k0 0)) jx jy k := by
                    show rpK (rs M 8 (k0 0)) jx jy k + (if tb ((rpM (rs M 8 (k0 0)) jx jy k) 10 (M 9 k 0) 0) jx = true then 1 else 0) = _
                    rw [if_neg (by rw [h69]; decide)]; rfl
                  refine r_iincN C dX5_replace_105 rfl rfl ?_
                  refine r_goto (tgt := 40) C dX5_replace_108 (by decide) ?_
                  have w9 := ih40 (k + 1) H locs (by omega) (by omega) (by rw [e7]; exact hh)
                  rw [e8] at w9
                  refine f_W.le ?_ w9
                  exact (And.intro rfl (And.intro rfl (And.intro rfl (And.intro rfl (And.intro rfl trivial)))))
                · have e7 : rpM (rs M 8 (k0 0)) jx jy (k + 1) = edM (rpM (rs M 8 (k0 0)) jx jy k) (M 9 k 0) (rpf ((rpM (rs M 8 (k0 0)) jx jy k) 10 (M 9 k 0) 0) jx jy) ((rpM (rs M 8 (k0 0)) jx jy k) 11 (M 9 k 0) 0) := if_pos h69
                  have e8 : rpK (rs M 8 (k0 0)) jx jy (k + 1) = rpK (rs M 8 (k0 0)) jx jy k + 1 := by
                    show rpK (rs M 8 (k0 0)) jx jy k + (if tb ((rpM (rs M 8 (k0 0)) jx jy k) 10 (M 9 k 0) 0) jx = true then 1 else 0) = _
                    rw [if_pos h69]
                  refine r_aload_n C dX5_replace_72 rfl ?_
                  refine r_iload C dX5_replace_73 rfl ?_
                  refine r_aload_n C dX5_replace_75 rfl ?_
                  refine g_X5_13 C hh dX5_replace_76 ?_
                  refine r_iload C dX5_replace_79 rfl ?_
                  refine al_m_fonts C hh (by omega) dX5_replace_81 ?_
                  refine r_iconst C (nI 1) dX5_replace_82 rfl ?_
                  refine r_iload_n C dX5_replace_83 rfl ?_
                  refine r_ishlN C dX5_replace_84 (by omega) (pow8 hjx) ?_
                  rw [Nat.one_mul]
                  refine r_iconst C (nI 4294967295) dX5_replace_85 rfl ?_
                  refine r_ixorN C dX5_replace_86 ?_
                  refine r_iandN C dX5_replace_87 ?_
                  refine r_iconst C (nI 1) dX5_replace_88 rfl ?_
                  refine r_iload_n C dX5_replace_89 rfl ?_
                  refine r_ishlN C dX5_replace_90 (by omega) (pow8 hjy) ?_
                  rw [Nat.one_mul]
                  refine r_iorN C dX5_replace_91 ?_
                  refine r_aload_n C dX5_replace_92 rfl ?_
                  refine g_X5_16 C hh dX5_replace_93 ?_
                  refine r_iload C dX5_replace_96 rfl ?_
                  refine al_m_colors C hh (by omega) dX5_replace_98 ?_
                  refine r_callV C E hh (c_X5_edits E.2.1 Γ B0 ad (rpM (rs M 8 (k0 0)) jx jy k) F X (M 9 k 0) _ _ j9) lk_X5_115 (tr := .inr (.inr 0)) rfl rfl rfl rfl (Nat.le_of_ble_eq_true rfl) dX5_replace_99 ⟨by decide, by decide⟩ ⟨by omega, by omega⟩ (fun _ _ z9 => False.elim z9) (kk_to (fun H locs hs9 hh => ?_))
                  refine r_iincN C dX5_replace_102 rfl rfl ?_
                  refine r_iincN C dX5_replace_105 rfl rfl ?_
                  refine r_goto (tgt := 40) C dX5_replace_108 (by decide) ?_
                  have w9 := ih40 (k + 1) H locs (by omega) (by omega) (by rw [e7]; exact hh)
                  rw [e8] at w9
                  refine f_W.le ?_ w9
                  exact (And.intro rfl (And.intro rfl (And.intro rfl (And.intro rfl (And.intro rfl trivial)))))
          refine f_W.le ?_ (lp40 (M 2 0 0 + 1) 0 _ _ (by omega) (by omega) hh)
          exact (And.intro rfl (And.intro rfl (And.intro rfl (And.intro rfl (And.intro rfl trivial)))))
        · have hv2 : nI 0 = rqV M x y := by unfold rqV; rw [if_neg (by rw [h30]; decide)]; rfl
          rw [h30, show thr false true true = 1 from rfl, show rs M 8 (k0 1) = rqM M x y from (if_neg (by rw [h30]; decide)).symm] at hh
          refine r_iconst C (nI 0) dX5_replace_33 rfl ?_
          exact r_iret C E hh dX5_replace_34 (by omega) (by omega) (ri2 hv2)

