/-! ===== the model: notes, drops, gives, queries ===== -/
theorem rdM_24 (M : fR) (f : Nat → Nat → Nat) (s : Nat) : ∀ x, rdM (rs M 24 f) s x = rdM M s x
  | 0 => rfl
  | x + 1 => by
    have h := rdM_24 M f s x
    show (rdM (rs M 24 f) s x && fnM (rs M 24 f) (M 9 (bsM M s + x) 0) 4) = (rdM M s x && fnM M (M 9 (bsM M s + x) 0) 4)
    rw [h]
    rfl
theorem rdY_24 (M : fR) (f : Nat → Nat → Nat) (s : Nat) : rdY (rs M 24 f) s = rdY M s := rdM_24 M f s _
def noT (M : fR) (x : Nat) : Nat → Nat → Nat := fun i j => if i < x then (rdY M i).toNat else M 24 i j
theorem noT_0 (M : fR) : rs M 24 (noT M 0) = M := by rw [show noT M 0 = M 24 by funext i j; exact if_neg (Nat.not_lt_zero i), rs_id]
theorem noT_s (M : fR) (x : Nat) : u1 (noT M x) x (rdY M x).toNat = noT M (x + 1) := by
  funext i j
  unfold u1 noT
  by_cases h : i = x
  · subst h; rw [if_pos rfl, if_pos (Nat.lt_succ_self _)]
  · rw [if_neg h]
    by_cases h2 : i < x
    · rw [if_pos h2, if_pos (by omega)]
    · rw [if_neg h2, if_neg (by omega)]
def noM (M : fR) : fR := loM (rs M 24 (noT M (shM M)))
theorem shM_16 {M : fR} (hI : MI M) (h2 : 2 ≤ M 4 0 0 * M 5 0 0) : shM M ≤ 16 := by
  have h1 := hI.1
  have h3 := hI.2.1
  unfold shM
  rw [Nat.div_le_iff_le_mul (by omega)]
  omega
set_option maxHeartbeats 4000000 in
set_option maxRecDepth 100000 in
theorem c_X5_notes {l : Launch} (hl : l.stackTraces = false) (Γ : fG) (B0 : Nat) (ad : Nat → Nat → Nat) (M : fR) (F : Nat → fO) (X : Nat × Nat → fO) (hI : MI M) (h2 : 2 ≤ M 4 0 0 * M 5 0 0) : f_Met l yX5_notes cX5_notes 2 none 5 0 0 112 Γ B0 [.ref (ad 30 0)] (wj F X (mw Γ ad M)) (f_to (wj F X (mw Γ ad (noM M)))) f_no := by
  refine f_of hl (by decide) rfl (Nat.le_of_ble_eq_true rfl) (fun X9 C E hh hnm => ?_)
  generalize (f_s X9).heap = H, ([] : List Loc) = locs at hh ⊢
  obtain ⟨i2, i45, i9, i10, i13, i14, i17, i0, i1, -⟩ := id hI
  have h16 := shM_16 hI h2
  refine r_iconst C (nI 0) dX5_notes_0 rfl ?_
  refine r_istore_n C dX5_notes_1 rfl rfl ?_
  have lp2 : ∀ (d9 : Nat) (x : Nat) (H : Heap) (locs : List Loc), shM M - x < d9 → x ≤ shM M → f_HS Γ B0 (wj F X (mw Γ ad (rs M 24 (noT M x)))) X9 H locs → f_W X9 H locs 0 0 2 [some (.ref (ad 30 0)), some (.int (nI (x)))] [] := by
    intro d9
    induction d9 with
    | zero => intro x H locs hd9 hl hh; exact absurd hd9 (Nat.not_lt_zero _)
    | succ d9 ih2 =>
      intro x H locs hd9 hl hh
      refine r_iload_n C dX5_notes_2 rfl ?_
      refine r_aload_n C dX5_notes_3 rfl ?_
      refine r_callV C E hh (c_X5_sheetsOf E.2.1 Γ B0 ad _ F X i2 i45) lk_X5_129 (tr := .inr (.inr 0)) rfl rfl rfl rfl (Nat.le_of_ble_eq_true rfl) dX5_notes_4 ⟨by decide, by decide⟩ ⟨by omega, by omega⟩ (fun _ _ z9 => False.elim z9) (kk_is (fun H locs hs9 hh => ?_))
      rw [show shM (rs M 24 (noT M x)) = shM M from rfl]
      refine r_icmp_geN (tgt := 27) C dX5_notes_7 (by decide) (by omega) (by omega) (fun h7 => ?_) (fun h7 => ?_)
      · obtain rfl : x = shM M := by omega
        refine r_aload_n C dX5_notes_27 rfl ?_
        refine r_callV C E hh (c_X5_looks E.2.1 Γ B0 ad _ F X i14) lk_X5_164 (tr := .inr (.inr 0)) rfl rfl rfl rfl (Nat.le_of_ble_eq_true rfl) dX5_notes_28 ⟨by decide, by decide⟩ ⟨by omega, by omega⟩ (fun _ _ z9 => False.elim z9) (kk_to (fun H locs hs9 hh => ?_))
        exact r_vret C E hh dX5_notes_31 (by omega) (by omega) ⟨rfl, rfl⟩
      · refine r_aload_n C dX5_notes_10 rfl ?_
        refine g_X5_55 C hh dX5_notes_11 ?_
        refine r_iload_n C dX5_notes_14 rfl ?_
        refine r_aload_n C dX5_notes_15 rfl ?_
        refine r_iload_n C dX5_notes_16 rfl ?_
        refine r_callV C E hh (c_X5_isReadyNow E.2.1 Γ B0 ad _ F X x (by omega) (show MI (rs M 24 (noT M x)) from hI)) lk_X5_161 (tr := .inr (.inr 0)) rfl rfl rfl rfl (Nat.le_of_ble_eq_true rfl) dX5_notes_17 ⟨by decide, by decide⟩ ⟨by omega, by omega⟩ (fun _ _ z9 => False.elim z9) (kk_is (fun H locs hs9 hh => ?_))
        rw [rdY_24]
        refine as_m_ready C hh (by omega) dX5_notes_20 (fun H locs hh => ?_)
        replace hh : f_HS Γ B0 (wj F X (mw Γ ad (rs M 24 (noT M (x + 1))))) X9 H locs := by
          rw [← noT_s, ← rs_rs M 24 (noT M x)]
          exact hh
        refine r_iincN C dX5_notes_21 rfl rfl ?_
        refine r_goto (tgt := 2) C dX5_notes_24 (by decide) ?_
        exact ih2 (x + 1) _ _ (by omega) (by omega) hh
  rw [← noT_0 M] at hh
  exact lp2 (shM M + 1) 0 _ _ (by omega) (by omega) hh

def sbM (M : fR) : Nat → Nat
  | 0 => 0
  | x + 1 => sbM M x + (if (zB (M 24 x 0) && !rdY M x) = true then 1 else 0)
theorem sbM_le (M : fR) : ∀ x, sbM M x ≤ x
  | 0 => Nat.le_refl _
  | x + 1 => by
    have h := sbM_le M x
    unfold sbM
    split <;> omega
set_option maxHeartbeats 4000000 in
set_option maxRecDepth 100000 in
theorem c_X5_sentBack {l : Launch} (hl : l.stackTraces = false) (Γ : fG) (B0 : Nat) (ad : Nat → Nat → Nat) (M : fR) (F : Nat → fO) (X : Nat × Nat → fO) (hI : MI M) (h2 : 2 ≤ M 4 0 0 * M 5 0 0) : f_Met l yX5_sentBack cX5_sentBack 3 (some .int) 5 0 0 112 Γ B0 [.ref (ad 30 0)] (wj F X (mw Γ ad M)) (f_is (nI (sbM M (shM M))) (wj F X (mw Γ ad M))) f_no := by
  refine f_of hl (by decide) rfl (Nat.le_of_ble_eq_true rfl) (fun X9 C E hh hnm => ?_)
  generalize (f_s X9).heap = H, ([] : List Loc) = locs at hh ⊢
  obtain ⟨i2, i45, i9, i10, i13, i14, i17, i0, i1, -⟩ := id hI
  have h16 := shM_16 hI h2
  refine r_iconst C (nI 0) dX5_sentBack_0 rfl ?_
  refine r_istore_n C dX5_sentBack_1 rfl rfl ?_
  refine r_iconst C (nI 0) dX5_sentBack_2 rfl ?_
  refine r_istore_n C dX5_sentBack_3 rfl rfl ?_
  have lp4 : ∀ (d9 : Nat) (x : Nat) (H : Heap) (locs : List Loc), shM M - x < d9 → x ≤ shM M → f_HS Γ B0 (wj F X (mw Γ ad M)) X9 H locs → f_W X9 H locs 0 0 4 [some (.ref (ad 30 0)), some (.int (nI (sbM M x))), some (.int (nI (x)))] [] := by
    intro d9
    induction d9 with
    | zero => intro x H locs hd9 hl hh; exact absurd hd9 (Nat.not_lt_zero _)
    | succ d9 ih4 =>
      intro x H locs hd9 hl hh
      have hsb := sbM_le M x
      refine r_iload_n C dX5_sentBack_4 rfl ?_
      refine r_aload_n C dX5_sentBack_5 rfl ?_
      refine r_callV C E hh (c_X5_sheetsOf E.2.1 Γ B0 ad M F X i2 i45) lk_X5_129 (tr := .inr (.inr 0)) rfl rfl rfl rfl (Nat.le_of_ble_eq_true rfl) dX5_sentBack_6 ⟨by decide, by decide⟩ ⟨by omega, by omega⟩ (fun _ _ z9 => False.elim z9) (kk_is (fun H locs hs9 hh => ?_))
      refine r_icmp_geN (tgt := 43) C dX5_sentBack_9 (by decide) (by omega) (by omega) (fun h9 => ?_) (fun h9 => ?_)
      · obtain rfl : x = shM M := by omega
        refine r_iload_n C dX5_sentBack_43 rfl ?_
        exact r_iret C E hh dX5_sentBack_44 (by omega) (by omega) ⟨rfl, rfl⟩
      · refine r_iload_n C dX5_sentBack_12 rfl ?_
        refine r_aload_n C dX5_sentBack_13 rfl ?_
        refine g_X5_55 C hh dX5_sentBack_14 ?_
        refine r_iload_n C dX5_sentBack_17 rfl ?_
        refine al_m_ready C hh (by omega) dX5_sentBack_18 ?_
        refine r_if_eqB (tgt := 34) C dX5_sentBack_19 (by decide) (fun h19 => ?_) (fun h19 => ?_)
        · have e9 : sbM M (x + 1) = sbM M x + 0 := by simp [sbM, h19]
          refine r_iconst C (nI 0) dX5_sentBack_34 rfl ?_
          refine r_iaddN C dX5_sentBack_35 ?_
          refine r_istore_n C dX5_sentBack_36 rfl rfl ?_
          refine r_iincN C dX5_sentBack_37 rfl rfl ?_
          refine r_goto (tgt := 4) C dX5_sentBack_40 (by decide) ?_
          have w9 := ih4 (x + 1) H locs (by omega) (by omega) hh
          rw [e9] at w9
          exact w9
        · refine r_aload_n C dX5_sentBack_22 rfl ?_
          refine r_iload_n C dX5_sentBack_23 rfl ?_
          refine r_callV C E hh (c_X5_isReadyNow E.2.1 Γ B0 ad M F X x (by omega) hI) lk_X5_161 (tr := .inr (.inr 0)) rfl rfl rfl rfl (Nat.le_of_ble_eq_true rfl) dX5_sentBack_24 ⟨by decide, by decide⟩ ⟨by omega, by omega⟩ (fun _ _ z9 => False.elim z9) (kk_is (fun H locs hs9 hh => ?_))
          refine r_if_neB (tgt := 34) C dX5_sentBack_27 (by decide) (fun h27 => ?_) (fun h27 => ?_)
          · have e9 : sbM M (x + 1) = sbM M x + 0 := by simp [sbM, h27]
            refine r_iconst C (nI 0) dX5_sentBack_34 rfl ?_
            refine r_iaddN C dX5_sentBack_35 ?_
            refine r_istore_n C dX5_sentBack_36 rfl rfl ?_
            refine r_iincN C dX5_sentBack_37 rfl rfl ?_
            refine r_goto (tgt := 4) C dX5_sentBack_40 (by decide) ?_
            have w9 := ih4 (x + 1) H locs (by omega) (by omega) hh
            rw [e9] at w9
            exact w9
          · have e9 : sbM M (x + 1) = sbM M x + 1 := by simp [sbM, h19, h27]
            refine r_iconst C (nI 1) dX5_sentBack_30 rfl ?_
            refine r_goto (tgt := 35) C dX5_sentBack_31 (by decide) ?_
            refine r_iaddN C dX5_sentBack_35 ?_
            refine r_istore_n C dX5_sentBack_36 rfl rfl ?_
            refine r_iincN C dX5_sentBack_37 rfl rfl ?_
            refine r_goto (tgt := 4) C dX5_sentBack_40 (by decide) ?_
            have w9 := ih4 (x + 1) H locs (by omega) (by omega) hh
            rw [e9] at w9
            exact w9
  exact lp4 (shM M + 1) 0 _ _ (by omega) (by omega) hh

