/-! ===== the model: gives, pass ===== -/
theorem MI_ft {M : fR} (hI : MI M) {f a b : Nat} (ha : a ≤ 10000) (hb : b ≤ 10000) : MI (rs (rs M 14 (u1 (M 14) f a)) 15 (u1 (M 15) f b)) := by
  obtain ⟨i2, i45, i9, i10, i13, i14, rest⟩ := hI
  refine ⟨i2, i45, i9, i10, i13, fun g => ?_, rest⟩
  show u1 (M 14) f a g 0 ≤ 10000 ∧ u1 (M 15) f b g 0 ≤ 10000
  unfold u1
  have := i14 g
  split
  · exact ⟨ha, hb⟩
  · exact this
theorem MI_drM {M : fR} (hI : MI M) : MI (drM M) := by
  obtain ⟨i2, i45, i9, i10, i13, rest⟩ := hI
  exact ⟨i2, i45, i9, i10, dr_lt i13 _, rest⟩
def gfM (M : fR) (f a b : Nat) : fR := rs (rs (noM M) 14 (u1 (M 14) f a)) 15 (u1 (M 15) f b)
def gvM (M : fR) (f a b : Nat) : fR := drM (gfM M f a b)
theorem MI_gvM {M : fR} (hI : MI M) {f a b : Nat} (ha : a ≤ 10000) (hb : b ≤ 10000) : MI (gfM M f a b) := MI_ft (M := noM M) hI ha hb
def psM (M : fR) : Nat → fR
  | 0 => noM M
  | x + 1 => drM (rs (loM (psM M x)) 0 (k0 (psM M x 0 0 0 + 1)))
theorem psM_I {M : fR} (hI : MI M) (h0 : M 0 0 0 ≤ 99000) : ∀ x, x ≤ 100 → MI (psM M x) ∧ psM M x 0 0 0 = M 0 0 0 + x ∧ psM M x 4 0 0 = M 4 0 0 ∧ psM M x 5 0 0 = M 5 0 0 ∧ psM M x 2 0 0 = M 2 0 0
  | 0, _ => ⟨hI, rfl, rfl, rfl, rfl⟩
  | x + 1, hx => by
    obtain ⟨a, b, c, d, e⟩ := psM_I hI h0 x (by omega)
    refine ⟨?_, ?_, c, d, e⟩
    · unfold psM
      refine MI_drM ?_
      obtain ⟨i2, i45, i9, i10, i13, i14, i17, i0, rest⟩ := a
      exact ⟨i2, i45, i9, i10, i13, i14, i17, (show psM M x 0 0 0 + 1 ≤ 100000 by omega), rest⟩
    · show psM M x 0 0 0 + 1 = _
      omega
set_option maxHeartbeats 4000000 in
set_option maxRecDepth 100000 in
theorem c_X5_gives {l : Launch} (hl : l.stackTraces = false) (Γ : fG) (B0 : Nat) (ad : Nat → Nat → Nat) (M : fR) (F : Nat → fO) (X : Nat × Nat → fO) (f a b : Nat) (hf : f < 8) (ha : a ≤ 10000) (hb : b ≤ 10000) (hI : MI M) (h2 : 2 ≤ M 4 0 0 * M 5 0 0) : f_Met l yX5_gives cX5_gives 4 (some .int) 6 0 0 134 Γ B0 [.ref (ad 30 0), .int (nI (f)), .int (iM a), .int (iM b)] (wj F X (mw Γ ad M)) (f_is (nI (sbM (gvM M f a b) (shM M))) (wj F X (mw Γ ad (gvM M f a b)))) f_no := by
  refine f_of hl (by decide) rfl (Nat.le_of_ble_eq_true rfl) (fun X9 C E hh hnm => ?_)
  generalize (f_s X9).heap = H, ([] : List Loc) = locs at hh ⊢
  have hX := MI_gvM (f := f) hI ha hb
  have hY := MI_drM hX
  refine r_aload_n C dX5_gives_0 rfl ?_
  refine r_callV C E hh (c_X5_notes E.2.1 Γ B0 ad M F X hI h2) lk_X5_167 (tr := .inr (.inr 0)) rfl rfl rfl rfl (Nat.le_of_ble_eq_true rfl) dX5_gives_1 ⟨by decide, by decide⟩ ⟨by omega, by omega⟩ (fun _ _ z9 => False.elim z9) (kk_to (fun H locs hs9 hh => ?_))
  refine r_aload_n C dX5_gives_4 rfl ?_
  refine g_X5_25 C hh dX5_gives_5 ?_
  refine r_iload_n C dX5_gives_8 rfl ?_
  refine r_iload_n C dX5_gives_9 rfl ?_
  refine as_m_from C hh (by omega) dX5_gives_10 (fun H locs hh => ?_)
  refine r_aload_n C dX5_gives_11 rfl ?_
  refine g_X5_28 C hh dX5_gives_12 ?_
  refine r_iload_n C dX5_gives_15 rfl ?_
  refine r_iload_n C dX5_gives_16 rfl ?_
  refine as_m_to C hh (by omega) dX5_gives_17 (fun H locs hh => ?_)
  replace hh : f_HS Γ B0 (wj F X (mw Γ ad (gfM M f a b))) X9 H locs := hh
  refine r_aload_n C dX5_gives_18 rfl ?_
  refine r_callV C E hh (c_X5_drops E.2.1 Γ B0 ad (gfM M f a b) F X hX) lk_X5_170 (tr := .inr (.inr 0)) rfl rfl rfl rfl (Nat.le_of_ble_eq_true rfl) dX5_gives_19 ⟨by decide, by decide⟩ ⟨by omega, by omega⟩ (fun _ _ z9 => False.elim z9) (kk_to (fun H locs hs9 hh => ?_))
  replace hh : f_HS Γ B0 (wj F X (mw Γ ad (gvM M f a b))) X9 H locs := hh
  refine r_aload_n C dX5_gives_22 rfl ?_
  refine r_callV C E hh (c_X5_sentBack E.2.1 Γ B0 ad (gvM M f a b) F X hY h2) lk_X5_173 (tr := .inr (.inr 0)) rfl rfl rfl rfl (Nat.le_of_ble_eq_true rfl) dX5_gives_23 ⟨by decide, by decide⟩ ⟨by omega, by omega⟩ (fun _ _ z9 => False.elim z9) (kk_is (fun H locs hs9 hh => ?_))
  exact r_iret C E hh dX5_gives_26 (by omega) (by omega) ⟨rfl, rfl⟩

def passI (x : Int32) : Bool := inn x (nI 1) (nI 100)
theorem passI_of {x : Int32} (h : passI x = true) : ∃ j : Nat, j ≤ 100 ∧ x = nI j := by
  unfold passI inn at h
  have h9 := of_decide_eq_true h
  obtain ⟨j, hj, e⟩ := rg_of (x := x) (n := 101) ⟨Int32.le_trans (by decide) h9.1, (rg_le (by decide)).mpr h9.2⟩ (by decide)
  exact ⟨j, by omega, e⟩
def paM (M : fR) (x : Int32) : fR := if passI x = true then psM (rs M 8 (k0 0)) (xN x) else rs M 8 (k0 1)
def paV (M : fR) (x : Int32) : Int32 := if passI x = true then nI (sbM (paM M x) (shM M)) else 0
set_option maxHeartbeats 4000000 in
set_option maxRecDepth 100000 in
theorem c_X5_pass {l : Launch} (hl : l.stackTraces = false) (Γ : fG) (B0 : Nat) (ad : Nat → Nat → Nat) (M : fR) (F : Nat → fO) (X : Nat × Nat → fO) (x : Int32) (h0 : M 0 0 0 ≤ 99000) (hI : MI M) (h2 : 2 ≤ M 4 0 0 * M 5 0 0) : f_Met l yX5_pass cX5_pass 3 (some .int) 6 0 0 134 Γ B0 [.ref (ad 30 0), .int x] (wj F X (mw Γ ad M)) (f_is (paV M x) (wj F X (mw Γ ad (paM M x)))) f_no := by
  refine f_of hl (by decide) rfl (Nat.le_of_ble_eq_true rfl) (fun X9 C E hh hnm => ?_)
  generalize (f_s X9).heap = H, ([] : List Loc) = locs at hh ⊢
  refine r_aload_n C dX5_pass_0 rfl ?_
  refine r_iload_n C dX5_pass_1 rfl ?_
  refine r_iconst C (nI 1) dX5_pass_2 rfl ?_
  refine r_bipush C (nI 100) dX5_pass_3 rfl ?_
  refine r_callS C E hh (c_X5_in E.2.1 Γ B0 _ x (nI 1) (nI 100)) lk_X5_73 rfl rfl (Nat.le_of_ble_eq_true rfl) dX5_pass_5 ⟨by decide, by decide⟩ ⟨by omega, by omega⟩ (fun _ _ z9 => False.elim z9) (kk_is (fun H locs hs9 hh => ?_))
  rw [show inn x (nI 1) (nI 100) = passI x from rfl]
  refine r_iconst C (bI true) dX5_pass_8 rfl ?_
  refine r_iconst C (bI true) dX5_pass_9 rfl ?_
  refine r_callV C E hh (c_X5_goes E.2.1 Γ B0 ad M F X (passI x) true true) lk_X5_101 (tr := .inr (.inr 0)) rfl rfl rfl rfl (Nat.le_of_ble_eq_true rfl) dX5_pass_10 ⟨by decide, by decide⟩ ⟨by omega, by omega⟩ (fun _ _ z9 => False.elim z9) (kk_is (fun H locs hs9 hh => ?_))
  rw [Bool.and_true, Bool.and_true]
  refine r_if_neB (tgt := 18) C dX5_pass_13 (by decide) (fun h13 => ?_) (fun h13 => ?_)
  · obtain ⟨j, hj, ej⟩ := passI_of h13
    have hxj : xN x = j := by rw [ej]; exact xN_nI (by omega)
    rw [ej]
    rw [h13, show thr true true true = 0 from rfl] at hh
    refine r_aload_n C dX5_pass_18 rfl ?_
    refine r_callV C E hh (c_X5_notes E.2.1 Γ B0 ad (rs M 8 (k0 0)) F X hI h2) lk_X5_167 (tr := .inr (.inr 0)) rfl rfl rfl rfl (Nat.le_of_ble_eq_true rfl) dX5_pass_19 ⟨by decide, by decide⟩ ⟨by omega, by omega⟩ (fun _ _ z9 => False.elim z9) (kk_to (fun H locs hs9 hh => ?_))
    replace hh : f_HS Γ B0 (wj F X (mw Γ ad (psM (rs M 8 (k0 0)) 0))) X9 H locs := hh
    refine r_iconst C (nI 0) dX5_pass_22 rfl ?_
    refine r_istore_n C dX5_pass_23 rfl rfl ?_
    have lp24 : ∀ (d9 : Nat) (d : Nat) (H : Heap) (locs : List Loc), j - d < d9 → d ≤ j → f_HS Γ B0 (wj F X (mw Γ ad (psM (rs M 8 (k0 0)) d))) X9 H locs → f_W X9 H locs 0 0 24 [some (.ref (ad 30 0)), some (.int (nI (j))), some (.int (nI (d)))] [] := by
      intro d9
      induction d9 with
      | zero => intro d H locs hd9 hl hh; exact absurd hd9 (Nat.not_lt_zero _)
      | succ d9 ih24 =>
        intro d H locs hd9 hl hh
        have hps := psM_I (M := rs M 8 (k0 0)) hI h0 d (by omega)
        have hp0 : psM (rs M 8 (k0 0)) d 0 0 0 = M 0 0 0 + d := hps.2.1
        refine r_iload_n C dX5_pass_24 rfl ?_
        refine r_iload_n C dX5_pass_25 rfl ?_
        refine r_icmp_geN (tgt := 53) C dX5_pass_26 (by decide) (by omega) (by omega) (fun h26 => ?_) (fun h26 => ?_)
        · obtain rfl : d = j := by omega
          refine r_aload_n C dX5_pass_53 rfl ?_
          have hps2 := psM_I (M := rs M 8 (k0 0)) hI h0 d (by omega)
          have h45 : 2 ≤ psM (rs M 8 (k0 0)) d 4 0 0 * psM (rs M 8 (k0 0)) d 5 0 0 := by rw [hps2.2.2.1, hps2.2.2.2.1]; exact h2
          have esh : shM (psM (rs M 8 (k0 0)) d) = shM M := by unfold shM; rw [hps2.2.2.1, hps2.2.2.2.1, hps2.2.2.2.2]; rfl
          refine r_callV C E hh (c_X5_sentBack E.2.1 Γ B0 ad (psM (rs M 8 (k0 0)) d) F X hps2.1 h45) lk_X5_173 (tr := .inr (.inr 0)) rfl rfl rfl rfl (Nat.le_of_ble_eq_true rfl) dX5_pass_54 ⟨by decide, by decide⟩ ⟨by omega, by omega⟩ (fun _ _ z9 => False.elim z9) (kk_is (fun H locs hs9 hh => ?_))
          rw [esh]
          have epa : paM M x = psM (rs M 8 (k0 0)) d := by unfold paM; rw [if_pos h13, hxj]
          rw [← epa] at hh
          exact r_iret C E hh dX5_pass_57 (by omega) (by omega) (ri2 (by unfold paV; rw [if_pos h13, epa]))
        · refine r_aload_n C dX5_pass_29 rfl ?_
          refine r_callV C E hh (c_X5_looks E.2.1 Γ B0 ad (psM (rs M 8 (k0 0)) d) F X hps.1.2.2.2.2.2.1) lk_X5_164 (tr := .inr (.inr 0)) rfl rfl rfl rfl (Nat.le_of_ble_eq_true rfl) dX5_pass_30 ⟨by decide, by decide⟩ ⟨by omega, by omega⟩ (fun _ _ z9 => False.elim z9) (kk_to (fun H locs hs9 hh => ?_))
          refine r_aload_n C dX5_pass_33 rfl ?_
          refine r_dup C dX5_pass_34 rfl ?_
          refine g_X5_149 C hh dX5_pass_35 ?_
          refine r_iconst C (nI 1) dX5_pass_38 rfl ?_
          refine r_iaddN C dX5_pass_39 ?_
          refine p_X5_149 C hh dX5_pass_40 (fun H locs hh => ?_)
          refine r_aload_n C dX5_pass_43 rfl ?_
          have hQ : MI (rs (loM (psM (rs M 8 (k0 0)) d)) 0 (k0 (psM (rs M 8 (k0 0)) d 0 0 0 + 1))) := by
            obtain ⟨i2, i45, i9, i10, i13, i14, i17, i0, rest⟩ := hps.1
            exact ⟨i2, i45, i9, i10, i13, i14, i17, (show psM (rs M 8 (k0 0)) d 0 0 0 + 1 ≤ 100000 by omega), rest⟩
          refine r_callV C E hh (c_X5_drops E.2.1 Γ B0 ad (rs (loM (psM (rs M 8 (k0 0)) d)) 0 (k0 (psM (rs M 8 (k0 0)) d 0 0 0 + 1))) F X hQ) lk_X5_170 (tr := .inr (.inr 0)) rfl rfl rfl rfl (Nat.le_of_ble_eq_true rfl) dX5_pass_44 ⟨by decide, by decide⟩ ⟨by omega, by omega⟩ (fun _ _ z9 => False.elim z9) (kk_to (fun H locs hs9 hh => ?_))
          replace hh : f_HS Γ B0 (wj F X (mw Γ ad (psM (rs M 8 (k0 0)) (d + 1)))) X9 H locs := hh
          refine r_iincN C dX5_pass_47 rfl rfl ?_
          refine r_goto (tgt := 24) C dX5_pass_50 (by decide) ?_
          exact ih24 (d + 1) _ _ (by omega) (by omega) hh
    exact lp24 (j + 1) 0 _ _ (by omega) (by omega) hh
  · rw [h13, show thr false true true = 1 from rfl] at hh
    rw [show rs M 8 (k0 1) = paM M x from (if_neg (by rw [h13]; decide)).symm] at hh
    refine r_iconst C (nI 0) dX5_pass_16 rfl ?_
    exact r_iret C E hh dX5_pass_17 (by omega) (by omega) (ri2 (by unfold paV; rw [if_neg (by rw [h13]; decide)]; rfl))

