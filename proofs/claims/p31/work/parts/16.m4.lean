/-! ===== the class: fonts and days ===== -/
def inO (R : fR) (q : Nat) : Nat → Bool
  | 0 => false
  | i + 1 => inO R q i || decide (R 6 i 0 = q + 1)
def dlp (R : fR) (f i : Nat) : Nat → Nat → Nat := fun q j => if (inO R q i && tb (R 13 q 0) f) = true ∧ j < 4 then 0 else R 16 q j
theorem dlp_0 (R : fR) (f : Nat) : rs R 16 (dlp R f 0) = R := by
  funext c a b
  by_cases h : c = 16
  · subst h; simp [rs, dlp, inO]
  · simp [rs, h]
theorem dlp_t (R : fR) {f i q : Nat} (hv : R 6 i 0 = q + 1) (h : tb (R 13 q 0) f = true) : drp (dlp R f i) q 4 = dlp R f (i + 1) := by
  funext a b
  unfold drp dlp
  by_cases ha : a = q
  · subst ha
    simp only [inO, hv, decide_true, Bool.or_true, Bool.true_and, h, true_and]
    by_cases hb : b < 4 <;> simp [hb]
  · have h2 : ¬ q = a := fun z => ha z.symm
    simp [ha, inO, hv, h2]
theorem dlp_f (R : fR) {f i q : Nat} (hv : R 6 i 0 = q + 1) (h : tb (R 13 q 0) f = false) : dlp R f i = dlp R f (i + 1) := by
  funext a b
  unfold dlp
  by_cases ha : a = q
  · subst ha; simp [h]
  · have h2 : ¬ q = a := fun z => ha z.symm
    simp [inO, hv, h2]
def dlf (R : fR) (f : Nat) (could : Bool) : fR := if (could && !us R f) = true then rs R 16 (dlp R f (R 0 0 0)) else R
def nrd (P R : fR) (i : Nat) : Nat → Nat → Nat := fun s j => if s < i then (decide (s < shc P R) && afo P R s).toNat else R 7 s j
theorem nrd_0 (P R : fR) : rs R 7 (nrd P R 0) = R := by
  funext c a b
  by_cases h : c = 7
  · subst h; simp [rs, nrd]
  · simp [rs, h]
theorem nrd_u (P R : fR) (i : Nat) {v : Bool} (hv : v = (decide (i < shc P R) && afo P R i)) : u1 (nrd P R i) i v.toNat = nrd P R (i + 1) := by
  funext s j
  unfold u1 nrd
  by_cases hs : s = i
  · subst hs; subst hv; simp
  · have h2 : s < i + 1 ↔ s < i := by omega
    simp [hs, h2]
theorem us_eq {R1 R : fR} (h2 : R1 2 = R 2) (h10 : R1 10 = R 10) (h11 : R1 11 = R 11) (h12 : R1 12 = R 12) (f : Nat) : us R1 f = us R f := by simp [us, fal, h2, h10, h11, h12]
theorem afu_eq {R1 R : fR} (h2 : R1 2 = R 2) (h10 : R1 10 = R 10) (h11 : R1 11 = R 11) (h12 : R1 12 = R 12) (h13 : R1 13 = R 13) (q : Nat) : ∀ f, afu R1 q f = afu R q f
  | 0 => rfl
  | f + 1 => by simp [afu, afu_eq h2 h10 h11 h12 h13 q f, us_eq h2 h10 h11 h12, h13]
theorem fin_eq {R1 R : fR} (h2 : R1 2 = R 2) (h10 : R1 10 = R 10) (h11 : R1 11 = R 11) (h12 : R1 12 = R 12) (h13 : R1 13 = R 13) (h14 : R1 14 = R 14) (h16 : R1 16 = R 16) (q : Nat) : fin R1 q = fin R q := by
  simp [fin, afu_eq h2 h10 h11 h12 h13, h14, h16]
theorem afl_eq {R1 R : fR} (h2 : R1 2 = R 2) (h6 : R1 6 = R 6) (h10 : R1 10 = R 10) (h11 : R1 11 = R 11) (h12 : R1 12 = R 12) (h13 : R1 13 = R 13) (h14 : R1 14 = R 14) (h16 : R1 16 = R 16) (a : Nat) : ∀ d, afl R1 a d = afl R a d
  | 0 => rfl
  | d + 1 => by simp [afl, afl_eq h2 h6 h10 h11 h12 h13 h14 h16 a d, fin_eq h2 h10 h11 h12 h13 h14 h16, h6]
theorem afo_eq (P : fR) {R1 R : fR} (h0 : R1 0 = R 0) (h2 : R1 2 = R 2) (h6 : R1 6 = R 6) (h10 : R1 10 = R 10) (h11 : R1 11 = R 11) (h12 : R1 12 = R 12) (h13 : R1 13 = R 13) (h14 : R1 14 = R 14) (h16 : R1 16 = R 16) (s : Nat) : afo P R1 s = afo P R s := by
  simp [afo, afl_eq h2 h6 h10 h11 h12 h13 h14 h16, h0]
def csb (P R : fR) : Nat → Nat
  | 0 => 0
  | i + 1 => csb P R i + (if (zB (R 7 i 0) && !afo P R i) = true then 1 else 0)
theorem csb_le (P R : fR) : ∀ i, csb P R i ≤ i
  | 0 => Nat.le_refl 0
  | i + 1 => by have := csb_le P R i; unfold csb; split <;> omega
theorem XI_16 {R : fR} {g : Nat → Nat → Nat} (h : XI R) (hg : ∀ q j, g q j < 4) : XI (rs R 16 g) := by
  obtain ⟨i0, i1, i2, i3, i4, i5, i6, i7, i8⟩ := h
  exact ⟨i0, i1, i2, i3, i4, i5, i6, hg, i8⟩
theorem XI_7 {R : fR} {g : Nat → Nat → Nat} (h : XI R) : XI (rs R 7 g) := h
theorem XI_10 {R : fR} {g : Nat → Nat → Nat} (h : XI R) : XI (rs R 10 g) := h
theorem XI_2 {R : fR} {v : Nat} (h : XI R) (hv : v ≤ 100000) : XI (rs R 2 (k0 v)) := by
  obtain ⟨i0, i1, i2, i3, i4, i5⟩ := h
  exact ⟨i0, i1, i2, i3, hv, i5⟩
theorem XI_dlp {R : fR} (h : XI R) (f i : Nat) : XI (rs R 16 (dlp R f i)) := XI_16 h fun q j => by
  have h8 := h.2.2.2.2.2.2.2.1 q j
  unfold dlp; split
  · decide
  · exact h8
theorem XI_dlf {R : fR} (h : XI R) (f : Nat) (c : Bool) : XI (dlf R f c) := by
  unfold dlf; split
  · exact XI_dlp h f _
  · exact h
def giv (R : fR) (f a b : Nat) : fR := rs (rs (rs R 10 (u1 (R 10) f 1)) 11 (u1 (R 11) f a)) 12 (u1 (R 12) f b)
theorem XI_giv {R : fR} (h : XI R) {f a b : Nat} (ha : a ≤ 9999) (hb : b ≤ 9999) : XI (giv R f a b) := by
  obtain ⟨i0, i1, i2, i3, i4, i5, i6⟩ := h
  refine ⟨i0, i1, i2, i3, i4, fun g => ?_, i6⟩
  have h5 := i5 g
  show u1 (R 11) f a g 0 ≤ 9999 ∧ u1 (R 12) f b g 0 ≤ 9999
  unfold u1
  split <;> omega
set_option maxHeartbeats 4000000 in
set_option maxRecDepth 100000 in
theorem c_X1_give {l : Launch} (hl : l.stackTraces = false) (Γ : fG) (B0 : Nat) (ad : Nat → Nat → Nat) (R : fR) (F : Nat → fO) (M : Nat → fO) (q a b : Nat) (hq : q < 8) : f_Met l yX1_give cX1_give 3 none 0 0 0 0 Γ B0 [.ref (ad 10 q), .int (nI (a)), .int (nI (b))] (wj F (xw Γ ad R) M) (f_to (wj F (xw Γ ad (giv R q a b)) M)) f_no := by
  refine f_of hl (by decide) rfl (Nat.le_of_ble_eq_true rfl) (fun X9 C E hh hnm => ?_)
  generalize (f_s X9).heap = H, ([] : List Loc) = locs at hh ⊢
  refine r_aload_n C dX1_give_0 rfl ?_
  refine r_iconst C (bI true) dX1_give_1 rfl ?_
  refine p_X1_7 C hh hq dX1_give_2 (fun H locs hh => ?_)
  refine r_aload_n C dX1_give_5 rfl ?_
  refine r_iload_n C dX1_give_6 rfl ?_
  refine p_X1_13 C hh hq dX1_give_7 (fun H locs hh => ?_)
  refine r_aload_n C dX1_give_10 rfl ?_
  refine r_iload_n C dX1_give_11 rfl ?_
  refine p_X1_17 C hh hq dX1_give_12 (fun H locs hh => ?_)
  exact r_vret C E hh dX1_give_15 (by omega) (by omega) ⟨rfl, rfl⟩

set_option maxHeartbeats 4000000 in
set_option maxRecDepth 100000 in
theorem c_X4_dropProofsOfLostFont {l : Launch} (hl : l.stackTraces = false) (Γ : fG) (B0 : Nat) (ad : Nat → Nat → Nat) (R : fR) (F : Nat → fO) (M : Nat → fO) (f : Nat) (c : Bool) (hf : f < 8) (hI : XI R) : f_Met l yX4_dropProofsOfLostFont cX4_dropProofsOfLostFont 4 none 2 0 0 42 Γ B0 [.ref (ad 1 0), .int (nI (f)), .int (bI c)] (wj F (xw Γ ad R) M) (f_to (wj F (xw Γ ad (dlf R f c)) M)) f_no := by
  refine f_of hl (by decide) rfl (Nat.le_of_ble_eq_true rfl) (fun X9 C E hh hnm => ?_)
  generalize (f_s X9).heap = H, ([] : List Loc) = locs at hh ⊢
  obtain ⟨i1, i2, -, -, -, -, i7, -⟩ := id hI
  refine r_iload_n C dX4_dropProofsOfLostFont_0 rfl ?_
  refine r_if_eqB (tgt := 12) C dX4_dropProofsOfLostFont_1 (by decide) (fun h1 => ?_) (fun h1 => ?_)
  · exact r_vret C E hh dX4_dropProofsOfLostFont_12 (by omega) (by omega) ⟨rfl, by unfold dlf; rw [if_neg (by simp_all)]⟩
  · refine r_aload_n C dX4_dropProofsOfLostFont_4 rfl ?_
    refine r_iload_n C dX4_dropProofsOfLostFont_5 rfl ?_
    refine r_callV C E hh (c_X4_usable E.2.1 Γ B0 ad R F M f hf hI) lk_X4_185 (tr := .inr (.inl (0, 0))) rfl rfl rfl rfl (Nat.le_of_ble_eq_true rfl) dX4_dropProofsOfLostFont_6 ⟨by decide, by decide⟩ ⟨by omega, by omega⟩ (fun _ _ z9 => False.elim z9) (kk_is (fun H locs hs9 hh => ?_))
    refine r_if_eqB (tgt := 13) C dX4_dropProofsOfLostFont_9 (by decide) (fun h9 => ?_) (fun h9 => ?_)
    · refine r_iconst C (nI 0) dX4_dropProofsOfLostFont_13 rfl ?_
      refine r_istore_n C dX4_dropProofsOfLostFont_14 rfl rfl ?_
      have lp15 : ∀ (d9 : Nat) (i : Nat) (H : Heap) (locs : List Loc), R 0 0 0 - i < d9 → i ≤ R 0 0 0 → f_HS Γ B0 (wj F (xw Γ ad (rs R 16 (dlp R f i))) M) X9 H locs → f_W X9 H locs 0 0 15 [some (.ref (ad 1 0)), some (.int (nI (f))), some (.int (bI c)), some (.int (nI (i)))] [] := by
        intro d9
        induction d9 with
        | zero => intro i H locs hd9 hi hh; exact absurd hd9 (Nat.not_lt_zero _)
        | succ d9 ih15 =>
          intro i H locs hd9 hi hh
          have e20 : rs R 16 (dlp R f i) 0 0 0 = R 0 0 0 := rfl
          refine r_iload_n C dX4_dropProofsOfLostFont_15 rfl ?_
          refine r_aload_n C dX4_dropProofsOfLostFont_16 rfl ?_
          refine g_X4_47 C hh dX4_dropProofsOfLostFont_17 ?_
          refine r_icmp_geN (tgt := 51) C dX4_dropProofsOfLostFont_20 (by decide) (by omega) (by omega) (fun h20 => ?_) (fun h20 => ?_)
          · obtain rfl : i = R 0 0 0 := by omega
            exact r_vret C E hh dX4_dropProofsOfLostFont_51 (by omega) (by omega) ⟨rfl, by unfold dlf; rw [if_pos (by simp_all)]⟩
          · obtain ⟨q, hv, hq⟩ := i2 i (by omega)
            have i9 := (i7 q).1
            refine r_aload_n C dX4_dropProofsOfLostFont_23 rfl ?_
            refine g_X4_11 C hh dX4_dropProofsOfLostFont_24 ?_
            refine r_iload_n C dX4_dropProofsOfLostFont_27 rfl ?_
            refine al_order C hh (by omega) hv dX4_dropProofsOfLostFont_28 ?_
            refine r_iload_n C dX4_dropProofsOfLostFont_29 rfl ?_
            refine r_callV C E hh (c_X2_usesFont E.2.1 Γ B0 ad _ F M q f hq hf i9) lk_X4_93 (tr := .inr (.inl (14, q))) (xw_page (Γ := Γ) hq) rfl rfl rfl (Nat.le_of_ble_eq_true rfl) dX4_dropProofsOfLostFont_30 ⟨by decide, by decide⟩ ⟨by omega, by omega⟩ (fun _ _ z9 => False.elim z9) (kk_is (fun H locs hs9 hh => ?_))
            refine r_if_eqB (tgt := 45) C dX4_dropProofsOfLostFont_33 (by decide) (fun h33 => ?_) (fun h33 => ?_)
            · rw [dlp_f R hv h33] at hh
              refine r_iincN C dX4_dropProofsOfLostFont_45 rfl rfl ?_
              refine r_goto (tgt := 15) C dX4_dropProofsOfLostFont_48 (by decide) ?_
              exact ih15 (i + 1) H locs (by omega) (by omega) hh
            · refine r_aload_n C dX4_dropProofsOfLostFont_36 rfl ?_
              refine g_X4_11 C hh dX4_dropProofsOfLostFont_37 ?_
              refine r_iload_n C dX4_dropProofsOfLostFont_40 rfl ?_
              refine al_order C hh (by omega) hv dX4_dropProofsOfLostFont_41 ?_
              refine r_callV C E hh (c_X2_dropProofs E.2.1 Γ B0 ad _ F M q hq) lk_X4_215 (tr := .inr (.inl (14, q))) (xw_page (Γ := Γ) hq) rfl rfl rfl (Nat.le_of_ble_eq_true rfl) dX4_dropProofsOfLostFont_42 ⟨by decide, by decide⟩ ⟨by omega, by omega⟩ (fun _ _ z9 => False.elim z9) (kk_to (fun H locs hs9 hh => ?_))
              rw [rs_same, rs_rs, dlp_t R hv h33] at hh
              refine r_iincN C dX4_dropProofsOfLostFont_45 rfl rfl ?_
              refine r_goto (tgt := 15) C dX4_dropProofsOfLostFont_48 (by decide) ?_
              exact ih15 (i + 1) H locs (by omega) (by omega) hh
      rw [← dlp_0 R f] at hh
      exact lp15 (R 0 0 0 + 1) 0 _ _ (by omega) (by omega) hh
    · exact r_vret C E hh dX4_dropProofsOfLostFont_12 (by omega) (by omega) ⟨rfl, by unfold dlf; rw [if_neg (by simp_all)]⟩

def nr (P R : fR) : fR := rs R 7 (nrd P R 16)
set_option maxHeartbeats 4000000 in
set_option maxRecDepth 100000 in
theorem c_X4_noteReadySheets {l : Launch} (hl : l.stackTraces = false) (Γ : fG) (B0 : Nat) (ad : Nat → Nat → Nat) (P R : fR) (M : Nat → fO) (hP : FI P) (hI : XI R) : f_Met l yX4_noteReadySheets cX4_noteReadySheets 3 none 5 0 0 109 Γ B0 [.ref (ad 1 0)] (wj (fw Γ ad P) (xw Γ ad R) M) (f_to (wj (fw Γ ad P) (xw Γ ad (nr P R)) M)) f_no := by
  refine f_of hl (by decide) rfl (Nat.le_of_ble_eq_true rfl) (fun X9 C E hh hnm => ?_)
  generalize (f_s X9).heap = H, ([] : List Loc) = locs at hh ⊢
  have hs6 := FI_sh (R := R) hP hI.1
  refine r_aload_n C dX4_noteReadySheets_0 rfl ?_
  refine r_callV C E hh (c_X4_sheetCount E.2.1 Γ B0 ad P R M hP.2.1 hI.1) lk_X4_113 (tr := .inr (.inl (0, 0))) rfl rfl rfl rfl (Nat.le_of_ble_eq_true rfl) dX4_noteReadySheets_1 ⟨by decide, by decide⟩ ⟨by omega, by omega⟩ (fun _ _ z9 => False.elim z9) (kk_is (fun H locs hs9 hh => ?_))
  refine r_istore_n C dX4_noteReadySheets_4 rfl rfl ?_
  refine r_iconst C (nI 0) dX4_noteReadySheets_5 rfl ?_
  refine r_istore_n C dX4_noteReadySheets_6 rfl rfl ?_
  have lp7 : ∀ (d9 : Nat) (i : Nat) (H : Heap) (locs : List Loc), 16 - i < d9 → i ≤ 16 → f_HS Γ B0 (wj (fw Γ ad P) (xw Γ ad (rs R 7 (nrd P R i))) M) X9 H locs → f_W X9 H locs 0 0 7 [some (.ref (ad 1 0)), some (.int (nI (shc P R))), some (.int (nI (i)))] [] := by
    intro d9
    induction d9 with
    | zero => intro i H locs hd9 hi hh; exact absurd hd9 (Nat.not_lt_zero _)
    | succ d9 ih7 =>
      intro i H locs hd9 hi hh
      refine r_iload_n C dX4_noteReadySheets_7 rfl ?_
      refine r_bipush C (nI 16) dX4_noteReadySheets_8 rfl ?_
      refine r_icmp_geN (tgt := 43) C dX4_noteReadySheets_10 (by decide) (by omega) (by omega) (fun h10 => ?_) (fun h10 => ?_)
      · obtain rfl : i = 16 := by omega
        exact r_vret C E hh dX4_noteReadySheets_43 (by omega) (by omega) ⟨rfl, rfl⟩
      · refine r_aload_n C dX4_noteReadySheets_13 rfl ?_
        refine g_X4_33 C hh dX4_noteReadySheets_14 ?_
        refine r_iload_n C dX4_noteReadySheets_17 rfl ?_
        refine r_iload_n C dX4_noteReadySheets_18 rfl ?_
        refine r_iload_n C dX4_noteReadySheets_19 rfl ?_
        refine r_icmp_geN (tgt := 35) C dX4_noteReadySheets_20 (by decide) (by omega) (by omega) (fun h20 => ?_) (fun h20 => ?_)
        · refine r_iconst C (bI false) dX4_noteReadySheets_35 rfl ?_
          refine as_ready C hh (by omega) dX4_noteReadySheets_36 (fun H locs hh => ?_)
          refine r_iincN C dX4_noteReadySheets_37 rfl rfl ?_
          refine r_goto (tgt := 7) C dX4_noteReadySheets_40 (by decide) ?_
          rw [rs_same, rs_rs, nrd_u P R i (by simp_all <;> omega)] at hh
          exact ih7 (i + 1) H locs (by omega) (by omega) hh
        · refine r_aload_n C dX4_noteReadySheets_23 rfl ?_
          refine r_iload_n C dX4_noteReadySheets_24 rfl ?_
          refine r_callV C E hh (c_X4_allFinishedOn E.2.1 Γ B0 ad P _ M i (by omega) hP.2.1 (XI_7 hI)) lk_X4_218 (tr := .inr (.inl (0, 0))) rfl rfl rfl rfl (Nat.le_of_ble_eq_true rfl) dX4_noteReadySheets_25 ⟨by decide, by decide⟩ ⟨by omega, by omega⟩ (fun _ _ z9 => False.elim z9) (kk_is (fun H locs hs9 hh => ?_))
          rw [afo_eq P (R1 := rs R 7 (nrd P R i)) (R := R) rfl rfl rfl rfl rfl rfl rfl rfl rfl]
          refine r_if_eqB (tgt := 35) C dX4_noteReadySheets_28 (by decide) (fun h28 => ?_) (fun h28 => ?_)
          · refine r_iconst C (bI false) dX4_noteReadySheets_35 rfl ?_
            refine as_ready C hh (by omega) dX4_noteReadySheets_36 (fun H locs hh => ?_)
            refine r_iincN C dX4_noteReadySheets_37 rfl rfl ?_
            refine r_goto (tgt := 7) C dX4_noteReadySheets_40 (by decide) ?_
            rw [rs_same, rs_rs, nrd_u P R i (by simp_all <;> omega)] at hh
            exact ih7 (i + 1) H locs (by omega) (by omega) hh
          · refine r_iconst C (bI true) dX4_noteReadySheets_31 rfl ?_
            refine r_goto (tgt := 36) C dX4_noteReadySheets_32 (by decide) ?_
            refine as_ready C hh (by omega) dX4_noteReadySheets_36 (fun H locs hh => ?_)
            refine r_iincN C dX4_noteReadySheets_37 rfl rfl ?_
            refine r_goto (tgt := 7) C dX4_noteReadySheets_40 (by decide) ?_
            rw [rs_same, rs_rs, nrd_u P R i (by simp_all <;> omega)] at hh
            exact ih7 (i + 1) H locs (by omega) (by omega) hh
  rw [← nrd_0 P R] at hh
  exact lp7 17 0 _ _ (by omega) (by omega) hh

set_option maxHeartbeats 4000000 in
set_option maxRecDepth 100000 in
theorem c_X4_countSentBack {l : Launch} (hl : l.stackTraces = false) (Γ : fG) (B0 : Nat) (ad : Nat → Nat → Nat) (P R : fR) (M : Nat → fO) (hP : FI P) (hI : XI R) : f_Met l yX4_countSentBack cX4_countSentBack 3 (some .int) 5 0 0 109 Γ B0 [.ref (ad 1 0)] (wj (fw Γ ad P) (xw Γ ad R) M) (f_is (nI (csb P R 16)) (wj (fw Γ ad P) (xw Γ ad R) M)) f_no := by
  refine f_of hl (by decide) rfl (Nat.le_of_ble_eq_true rfl) (fun X9 C E hh hnm => ?_)
  generalize (f_s X9).heap = H, ([] : List Loc) = locs at hh ⊢
  refine r_iconst C (nI 0) dX4_countSentBack_0 rfl ?_
  refine r_istore_n C dX4_countSentBack_1 rfl rfl ?_
  refine r_iconst C (nI 0) dX4_countSentBack_2 rfl ?_
  refine r_istore_n C dX4_countSentBack_3 rfl rfl ?_
  have lp4 : ∀ (d9 : Nat) (i : Nat) (H : Heap) (locs : List Loc), 16 - i < d9 → i ≤ 16 → f_HS Γ B0 (wj (fw Γ ad P) (xw Γ ad R) M) X9 H locs → f_W X9 H locs 0 0 4 [some (.ref (ad 1 0)), some (.int (nI (csb P R i))), some (.int (nI (i)))] [] := by
    intro d9
    induction d9 with
    | zero => intro i H locs hd9 hi hh; exact absurd hd9 (Nat.not_lt_zero _)
    | succ d9 ih4 =>
      intro i H locs hd9 hi hh
      have hc9 := csb_le P R i
      refine r_iload_n C dX4_countSentBack_4 rfl ?_
      refine r_bipush C (nI 16) dX4_countSentBack_5 rfl ?_
      refine r_icmp_geN (tgt := 36) C dX4_countSentBack_7 (by decide) (by omega) (by omega) (fun h7 => ?_) (fun h7 => ?_)
      · obtain rfl : i = 16 := by omega
        refine r_iload_n C dX4_countSentBack_36 rfl ?_
        exact r_iret C E hh dX4_countSentBack_37 (by omega) (by omega) ⟨rfl, rfl⟩
      · refine r_aload_n C dX4_countSentBack_10 rfl ?_
        refine g_X4_33 C hh dX4_countSentBack_11 ?_
        refine r_iload_n C dX4_countSentBack_14 rfl ?_
        refine al_ready C hh (by omega) dX4_countSentBack_15 ?_
        refine r_if_eqB (tgt := 30) C dX4_countSentBack_16 (by decide) (fun h16 => ?_) (fun h16 => ?_)
        · have e9 : csb P R (i + 1) = csb P R i := by simp [csb, h16]
          refine r_iincN C dX4_countSentBack_30 rfl rfl ?_
          refine r_goto (tgt := 4) C dX4_countSentBack_33 (by decide) ?_
          have w9 := ih4 (i + 1) H locs (by omega) (by omega) hh
          rw [e9] at w9
          exact w9
        · refine r_aload_n C dX4_countSentBack_19 rfl ?_
          refine r_iload_n C dX4_countSentBack_20 rfl ?_
          refine r_callV C E hh (c_X4_allFinishedOn E.2.1 Γ B0 ad P R M i (by omega) hP.2.1 hI) lk_X4_218 (tr := .inr (.inl (0, 0))) rfl rfl rfl rfl (Nat.le_of_ble_eq_true rfl) dX4_countSentBack_21 ⟨by decide, by decide⟩ ⟨by omega, by omega⟩ (fun _ _ z9 => False.elim z9) (kk_is (fun H locs hs9 hh => ?_))
          refine r_if_neB (tgt := 30) C dX4_countSentBack_24 (by decide) (fun h24 => ?_) (fun h24 => ?_)
          · have e9 : csb P R (i + 1) = csb P R i := by simp [csb, h24]
            refine r_iincN C dX4_countSentBack_30 rfl rfl ?_
            refine r_goto (tgt := 4) C dX4_countSentBack_33 (by decide) ?_
            have w9 := ih4 (i + 1) H locs (by omega) (by omega) hh
            rw [e9] at w9
            exact w9
          · have e9 : csb P R (i + 1) = csb P R i + 1 := by simp [csb, h16, h24]
            refine r_iincN C dX4_countSentBack_27 rfl rfl ?_
            refine r_iincN C dX4_countSentBack_30 rfl rfl ?_
            refine r_goto (tgt := 4) C dX4_countSentBack_33 (by decide) ?_
            have w9 := ih4 (i + 1) H locs (by omega) (by omega) hh
            rw [e9] at w9
            exact w9
  exact lp4 17 0 _ _ (by omega) (by omega) hh

def okR (x a b : Int32) : Prop := rg x 8 ∧ rg a 10000 ∧ (a ≤ b ∧ b < nI 10000)
def srR (P R : fR) (f a b : Nat) : fR := dlf (giv (nr P R) f a b) f (us R f)
def wdR (P R : fR) (f : Nat) : fR := dlf (rs (nr P R) 10 (u1 (R 10) f 0)) f (us R f)
set_option maxHeartbeats 4000000 in
set_option maxRecDepth 100000 in
theorem c_X4_setRight {l : Launch} (hl : l.stackTraces = false) (Γ : fG) (B0 : Nat) (ad : Nat → Nat → Nat) (P R : fR) (M : Nat → fO) (x a b : Int32) (hP : FI P) (hI : XI R) : f_Met l yX4_setRight cX4_setRight 5 (some .int) 7 2 12 131 Γ B0 [.ref (ad 1 0), .int x, .int a, .int b] (wj (fw Γ ad P) (xw Γ ad R) M) (f_rI (fun r9 w9 => okR x a b ∧ r9 = nI (csb P (srR P R (xN x) (xN a) (xN b)) 16) ∧ w9 = wj (fw Γ ad P) (xw Γ ad (srR P R (xN x) (xN a) (xN b))) M)) (fun E9 w9 => (E9 = "java/lang/IllegalArgumentException" ∧ ¬ okR x a b) ∧ w9 = wj (fw Γ ad P) (xw Γ ad R) M) := by
  refine f_of hl (by decide) rfl (Nat.le_of_ble_eq_true rfl) (fun X9 C E hh hnm => ?_)
  generalize (f_s X9).heap = H, ([] : List Loc) = locs at hh ⊢
  refine r_iload_n C dX4_setRight_0 rfl ?_
  refine r_callS C E hh (c_X4_checkFont E.2.1 Γ B0 _ x) lk_X4_85 rfl rfl (Nat.le_of_ble_eq_true rfl) dX4_setRight_1 ⟨by decide, by decide⟩ ⟨by omega, by omega⟩ (fun _ _ z9 => ⟨⟨z9.1.1, fun q => z9.1.2 q.1⟩, z9.2⟩) (kk_rV (fun w9 H locs hs9 hp9 hh => ?_))
  obtain ⟨r1, rfl⟩ := hp9
  refine r_iload_n C dX4_setRight_4 rfl ?_
  refine r_if_lt (tgt := 15) C dX4_setRight_5 (by decide) (fun h5 => ?_) (fun h5 => ?_)
  · exact r_throw C E hh th_IA (is := 178) (text := "from is out of range") (by decide) dX4_setRight_15 dX4_setRight_18 dX4_setRight_19 dX4_setRight_21 dX4_setRight_24 (by decide) (by decide) (Nat.le_of_ble_eq_true rfl) (by omega) (by omega) ⟨⟨rfl, by first | exact fun z => h12 ((rg_le (by decide)).mp z.2.1.2) | exact fun z => Int32.not_lt.mpr z.2.1.1 h5⟩, rfl⟩
  · refine r_iload_n C dX4_setRight_8 rfl ?_
    refine r_sipush C (nI 9999) dX4_setRight_9 rfl ?_
    refine r_icmp_le (tgt := 25) C dX4_setRight_12 (by decide) (fun h12 => ?_) (fun h12 => ?_)
    · refine r_iload_n C dX4_setRight_25 rfl ?_
      refine r_iload_n C dX4_setRight_26 rfl ?_
      refine r_icmp_lt (tgt := 37) C dX4_setRight_27 (by decide) (fun h27 => ?_) (fun h27 => ?_)
      · exact r_throw C E hh th_IA (is := 180) (text := "to is out of range") (by decide) dX4_setRight_37 dX4_setRight_40 dX4_setRight_41 dX4_setRight_43 dX4_setRight_46 (by decide) (by decide) (Nat.le_of_ble_eq_true rfl) (by omega) (by omega) ⟨⟨rfl, by first | exact fun z => h34 ((rg_le (by decide)).mp z.2.2.2) | exact fun z => Int32.not_lt.mpr z.2.2.1 h27⟩, rfl⟩
      · refine r_iload_n C dX4_setRight_30 rfl ?_
        refine r_sipush C (nI 9999) dX4_setRight_31 rfl ?_
        refine r_icmp_le (tgt := 47) C dX4_setRight_34 (by decide) (fun h34 => ?_) (fun h34 => ?_)
        · have rr : okR x a b := ⟨r1, ⟨Int32.not_lt.mp h5, (rg_le (by decide)).mpr h12⟩, Int32.not_lt.mp h27, (rg_le (by decide)).mpr h34⟩
          obtain ⟨f, hf, rfl⟩ := rg_of r1 (by omega)
          obtain ⟨ja, hja, rfl⟩ := rg_of rr.2.1 (by omega)
          obtain ⟨jb, hjb, rfl⟩ := rg_of (x := b) (n := 10000) ⟨Int32.le_trans rr.2.1.1 rr.2.2.1, rr.2.2.2⟩ (by omega)
          clear h5 h12 h27 h34
          refine r_aload_n C dX4_setRight_47 rfl ?_
          refine r_callV C E hh (c_X4_noteReadySheets E.2.1 Γ B0 ad P R M hP hI) lk_X4_182 (tr := .inr (.inl (0, 0))) rfl rfl rfl rfl (Nat.le_of_ble_eq_true rfl) dX4_setRight_48 ⟨by decide, by decide⟩ ⟨by omega, by omega⟩ (fun _ _ z9 => False.elim z9) (kk_to (fun H locs hs9 hh => ?_))
          refine r_aload_n C dX4_setRight_51 rfl ?_
          refine r_iload_n C dX4_setRight_52 rfl ?_
          refine r_callV C E hh (c_X4_usable E.2.1 Γ B0 ad (nr P R) _ M f hf (XI_7 hI)) lk_X4_185 (tr := .inr (.inl (0, 0))) rfl rfl rfl rfl (Nat.le_of_ble_eq_true rfl) dX4_setRight_53 ⟨by decide, by decide⟩ ⟨by omega, by omega⟩ (fun _ _ z9 => False.elim z9) (kk_is (fun H locs hs9 hh => ?_))
          rw [us_eq (R1 := nr P R) (R := R) rfl rfl rfl rfl]
          refine r_istore C dX4_setRight_56 rfl rfl ?_
          refine r_aload_n C dX4_setRight_58 rfl ?_
          refine g_X4_28 C hh dX4_setRight_59 ?_
          refine r_iload_n C dX4_setRight_62 rfl ?_
          refine al_fontRow C hh (by omega) dX4_setRight_63 ?_
          refine r_iload_n C dX4_setRight_64 rfl ?_
          refine r_iload_n C dX4_setRight_65 rfl ?_
          refine r_callV C E hh (c_X1_give E.2.1 Γ B0 ad (nr P R) _ M f ja jb hf) lk_X4_188 (tr := .inr (.inl (10, _))) (xw_font (Γ := Γ) (by omega)) rfl rfl rfl (Nat.le_of_ble_eq_true rfl) dX4_setRight_66 ⟨by decide, by decide⟩ ⟨by omega, by omega⟩ (fun _ _ z9 => False.elim z9) (kk_to (fun H locs hs9 hh => ?_))
          refine r_aload_n C dX4_setRight_69 rfl ?_
          refine r_iload_n C dX4_setRight_70 rfl ?_
          refine r_iload C dX4_setRight_71 rfl ?_
          refine r_callV C E hh (c_X4_dropProofsOfLostFont E.2.1 Γ B0 ad (giv (nr P R) f ja jb) _ M f _ hf (XI_giv (XI_7 hI) (by omega) (by omega))) lk_X4_191 (tr := .inr (.inl (0, 0))) rfl rfl rfl rfl (Nat.le_of_ble_eq_true rfl) dX4_setRight_73 ⟨by decide, by decide⟩ ⟨by omega, by omega⟩ (fun _ _ z9 => False.elim z9) (kk_to (fun H locs hs9 hh => ?_))
          refine r_aload_n C dX4_setRight_76 rfl ?_
          refine r_callV C E hh (c_X4_countSentBack E.2.1 Γ B0 ad P _ M hP (XI_dlf (XI_giv (XI_7 hI) (by omega) (by omega)) f _)) lk_X4_195 (tr := .inr (.inl (0, 0))) rfl rfl rfl rfl (Nat.le_of_ble_eq_true rfl) dX4_setRight_77 ⟨by decide, by decide⟩ ⟨by omega, by omega⟩ (fun _ _ z9 => False.elim z9) (kk_is (fun H locs hs9 hh => ?_))
          exact r_iret C E hh dX4_setRight_80 (by omega) (by omega) ⟨_, rfl, rr, by rw [xN_nI (by omega), xN_nI (by omega), xN_nI (by omega)]; rfl, by rw [xN_nI (by omega), xN_nI (by omega), xN_nI (by omega)]; rfl⟩
        · exact r_throw C E hh th_IA (is := 180) (text := "to is out of range") (by decide) dX4_setRight_37 dX4_setRight_40 dX4_setRight_41 dX4_setRight_43 dX4_setRight_46 (by decide) (by decide) (Nat.le_of_ble_eq_true rfl) (by omega) (by omega) ⟨⟨rfl, by first | exact fun z => h34 ((rg_le (by decide)).mp z.2.2.2) | exact fun z => Int32.not_lt.mpr z.2.2.1 h27⟩, rfl⟩
    · exact r_throw C E hh th_IA (is := 178) (text := "from is out of range") (by decide) dX4_setRight_15 dX4_setRight_18 dX4_setRight_19 dX4_setRight_21 dX4_setRight_24 (by decide) (by decide) (Nat.le_of_ble_eq_true rfl) (by omega) (by omega) ⟨⟨rfl, by first | exact fun z => h12 ((rg_le (by decide)).mp z.2.1.2) | exact fun z => Int32.not_lt.mpr z.2.1.1 h5⟩, rfl⟩

set_option maxHeartbeats 4000000 in
set_option maxRecDepth 100000 in
theorem c_X4_withdraw {l : Launch} (hl : l.stackTraces = false) (Γ : fG) (B0 : Nat) (ad : Nat → Nat → Nat) (P R : fR) (M : Nat → fO) (x : Int32) (hP : FI P) (hI : XI R) : f_Met l yX4_withdraw cX4_withdraw 3 (some .int) 7 2 12 131 Γ B0 [.ref (ad 1 0), .int x] (wj (fw Γ ad P) (xw Γ ad R) M) (f_rI (fun r9 w9 => (rg x 8 ∧ zB (R 10 (xN x) 0) = true) ∧ r9 = nI (csb P (wdR P R (xN x)) 16) ∧ w9 = wj (fw Γ ad P) (xw Γ ad (wdR P R (xN x))) M)) (fun E9 w9 => ((E9 = "java/lang/IllegalArgumentException" ∧ ¬ rg x 8) ∨ (E9 = "java/lang/IllegalStateException" ∧ rg x 8 ∧ zB (R 10 (xN x) 0) = false)) ∧ w9 = wj (fw Γ ad P) (xw Γ ad R) M) := by
  refine f_of hl (by decide) rfl (Nat.le_of_ble_eq_true rfl) (fun X9 C E hh hnm => ?_)
  generalize (f_s X9).heap = H, ([] : List Loc) = locs at hh ⊢
  refine r_iload_n C dX4_withdraw_0 rfl ?_
  refine r_callS C E hh (c_X4_checkFont E.2.1 Γ B0 _ x) lk_X4_85 rfl rfl (Nat.le_of_ble_eq_true rfl) dX4_withdraw_1 ⟨by decide, by decide⟩ ⟨by omega, by omega⟩ (fun _ _ z9 => ⟨Or.inl ⟨z9.1.1, z9.1.2⟩, z9.2⟩) (kk_rV (fun w9 H locs hs9 hp9 hh => ?_))
  obtain ⟨r1, rfl⟩ := hp9
  obtain ⟨f, hf, rfl⟩ := rg_of r1 (by omega)
  refine r_aload_n C dX4_withdraw_4 rfl ?_
  refine g_X4_28 C hh dX4_withdraw_5 ?_
  refine r_iload_n C dX4_withdraw_8 rfl ?_
  refine al_fontRow C hh (by omega) dX4_withdraw_9 ?_
  refine g_X4_198 C hh hf dX4_withdraw_10 ?_
  refine r_if_neB (tgt := 26) C dX4_withdraw_13 (by decide) (fun h13 => ?_) (fun h13 => ?_)
  · refine r_aload_n C dX4_withdraw_26 rfl ?_
    refine r_callV C E hh (c_X4_noteReadySheets E.2.1 Γ B0 ad P R M hP hI) lk_X4_182 (tr := .inr (.inl (0, 0))) rfl rfl rfl rfl (Nat.le_of_ble_eq_true rfl) dX4_withdraw_27 ⟨by decide, by decide⟩ ⟨by omega, by omega⟩ (fun _ _ z9 => False.elim z9) (kk_to (fun H locs hs9 hh => ?_))
    refine r_aload_n C dX4_withdraw_30 rfl ?_
    refine r_iload_n C dX4_withdraw_31 rfl ?_
    refine r_callV C E hh (c_X4_usable E.2.1 Γ B0 ad (nr P R) _ M f hf (XI_7 hI)) lk_X4_185 (tr := .inr (.inl (0, 0))) rfl rfl rfl rfl (Nat.le_of_ble_eq_true rfl) dX4_withdraw_32 ⟨by decide, by decide⟩ ⟨by omega, by omega⟩ (fun _ _ z9 => False.elim z9) (kk_is (fun H locs hs9 hh => ?_))
    rw [us_eq (R1 := nr P R) (R := R) rfl rfl rfl rfl]
    refine r_istore_n C dX4_withdraw_35 rfl rfl ?_
    refine r_aload_n C dX4_withdraw_36 rfl ?_
    refine g_X4_28 C hh dX4_withdraw_37 ?_
    refine r_iload_n C dX4_withdraw_40 rfl ?_
    refine al_fontRow C hh (by omega) dX4_withdraw_41 ?_
    refine r_iconst C (bI false) dX4_withdraw_42 rfl ?_
    refine p_X4_198 C hh hf dX4_withdraw_43 (fun H locs hh => ?_)
    refine r_aload_n C dX4_withdraw_46 rfl ?_
    refine r_iload_n C dX4_withdraw_47 rfl ?_
    refine r_iload_n C dX4_withdraw_48 rfl ?_
    refine r_callV C E hh (c_X4_dropProofsOfLostFont E.2.1 Γ B0 ad _ _ M f _ hf (XI_10 (XI_7 hI))) lk_X4_191 (tr := .inr (.inl (0, 0))) rfl rfl rfl rfl (Nat.le_of_ble_eq_true rfl) dX4_withdraw_49 ⟨by decide, by decide⟩ ⟨by omega, by omega⟩ (fun _ _ z9 => False.elim z9) (kk_to (fun H locs hs9 hh => ?_))
    refine r_aload_n C dX4_withdraw_52 rfl ?_
    refine r_callV C E hh (c_X4_countSentBack E.2.1 Γ B0 ad P _ M hP (XI_dlf (XI_10 (XI_7 hI)) f _)) lk_X4_195 (tr := .inr (.inl (0, 0))) rfl rfl rfl rfl (Nat.le_of_ble_eq_true rfl) dX4_withdraw_53 ⟨by decide, by decide⟩ ⟨by omega, by omega⟩ (fun _ _ z9 => False.elim z9) (kk_is (fun H locs hs9 hh => ?_))
    exact r_iret C E hh dX4_withdraw_56 (by omega) (by omega) ⟨_, rfl, ⟨r1, by rw [xN_nI (by omega)]; exact h13⟩, by rw [xN_nI (by omega)]; rfl, by rw [xN_nI (by omega)]; rfl⟩
  · exact r_throw C E hh th_IS (is := 202) (text := "the font has no right") (by decide) dX4_withdraw_16 dX4_withdraw_19 dX4_withdraw_20 dX4_withdraw_22 dX4_withdraw_25 (by decide) (by decide) (Nat.le_of_ble_eq_true rfl) (by omega) (by omega) ⟨Or.inr ⟨rfl, r1, by rw [xN_nI (by omega)]; exact h13⟩, rfl⟩

def sdl (R : fR) (d : Nat) : Nat → fR
  | 0 => R
  | f + 1 => dlf (sdl R d f) f (fal (sdl R d f) f d)
def snd (R : fR) : fR := sdl (rs R 2 (k0 (R 2 0 0 + 1))) (R 2 0 0) 8
theorem XI_sdl {R : fR} (h : XI R) (d : Nat) : ∀ f, XI (sdl R d f)
  | 0 => h
  | f + 1 => XI_dlf (XI_sdl h d f) f _
theorem dlf_c (R : fR) (f : Nat) (c : Bool) {k : Nat} (hk : k ≠ 16) : dlf R f c k = R k := by
  unfold dlf; split
  · simp [rs, hk]
  · rfl
theorem sdl_c (R : fR) (d : Nat) {k : Nat} (hk : k ≠ 16) : ∀ f, sdl R d f k = R k
  | 0 => rfl
  | f + 1 => by rw [sdl, dlf_c _ _ _ hk, sdl_c R d hk f]
theorem XI_snd {R : fR} (h : XI R) (hd : R 2 0 0 < 100000) : XI (snd R) := XI_sdl (XI_2 h (by omega)) _ 8
theorem snd_2 (R : fR) : snd R 2 0 0 = R 2 0 0 + 1 := by rw [snd, sdl_c _ _ (by decide)]; rfl
def snds (R : fR) : Nat → fR
  | 0 => R
  | k + 1 => snd (snds R k)
theorem snds_2 (R : fR) : ∀ k, snds R k 2 0 0 = R 2 0 0 + k
  | 0 => rfl
  | k + 1 => by rw [snds, snd_2, snds_2 R k]; omega
theorem XI_snds {R : fR} (h : XI R) : ∀ k, R 2 0 0 + k ≤ 100000 → XI (snds R k)
  | 0, _ => h
  | k + 1, hd => XI_snd (XI_snds h k (by omega)) (by rw [snds_2]; omega)
def psR (P R : fR) (k : Nat) : fR := snds (nr P R) k
set_option maxHeartbeats 4000000 in
set_option maxRecDepth 100000 in
theorem c_X4_startNextDay {l : Launch} (hl : l.stackTraces = false) (Γ : fG) (B0 : Nat) (ad : Nat → Nat → Nat) (R : fR) (F : Nat → fO) (M : Nat → fO) (hI : XI R) (hd : R 2 0 0 < 100000) : f_Met l yX4_startNextDay cX4_startNextDay 3 none 3 0 0 65 Γ B0 [.ref (ad 1 0)] (wj F (xw Γ ad R) M) (f_to (wj F (xw Γ ad (snd R)) M)) f_no := by
  refine f_of hl (by decide) rfl (Nat.le_of_ble_eq_true rfl) (fun X9 C E hh hnm => ?_)
  generalize (f_s X9).heap = H, ([] : List Loc) = locs at hh ⊢
  refine r_aload_n C dX4_startNextDay_0 rfl ?_
  refine g_X4_209 C hh dX4_startNextDay_1 ?_
  refine r_istore_n C dX4_startNextDay_4 rfl rfl ?_
  refine r_aload_n C dX4_startNextDay_5 rfl ?_
  refine r_dup C dX4_startNextDay_6 rfl ?_
  refine g_X4_209 C hh dX4_startNextDay_7 ?_
  refine r_iconst C (nI 1) dX4_startNextDay_10 rfl ?_
  refine r_iaddN C dX4_startNextDay_11 ?_
  refine p_X4_209 C hh dX4_startNextDay_12 (fun H locs hh => ?_)
  refine r_iconst C (nI 0) dX4_startNextDay_15 rfl ?_
  refine r_istore_n C dX4_startNextDay_16 rfl rfl ?_
  have lp17 : ∀ (d9 : Nat) (f : Nat) (H : Heap) (locs : List Loc), 8 - f < d9 → f ≤ 8 → f_HS Γ B0 (wj F (xw Γ ad (sdl (rs R 2 (k0 (R 2 0 0 + 1))) (R 2 0 0) f)) M) X9 H locs → f_W X9 H locs 0 0 17 [some (.ref (ad 1 0)), some (.int (nI (R 2 0 0))), some (.int (nI (f)))] [] := by
    intro d9
    induction d9 with
    | zero => intro f H locs hd9 hf hh; exact absurd hd9 (Nat.not_lt_zero _)
    | succ d9 ih17 =>
      intro f H locs hd9 hf hh
      have hX := XI_sdl (XI_2 hI (v := R 2 0 0 + 1) (by omega)) (R 2 0 0) f
      obtain ⟨-, -, -, -, -, i6, -⟩ := id hX
      have i6 := i6 f
      refine r_iload_n C dX4_startNextDay_17 rfl ?_
      refine r_bipush C (nI 8) dX4_startNextDay_18 rfl ?_
      refine r_icmp_geN (tgt := 44) C dX4_startNextDay_20 (by decide) (by omega) (by omega) (fun h20 => ?_) (fun h20 => ?_)
      · obtain rfl : f = 8 := by omega
        exact r_vret C E hh dX4_startNextDay_44 (by omega) (by omega) ⟨rfl, rfl⟩
      · refine r_aload_n C dX4_startNextDay_23 rfl ?_
        refine r_iload_n C dX4_startNextDay_24 rfl ?_
        refine r_aload_n C dX4_startNextDay_25 rfl ?_
        refine g_X4_28 C hh dX4_startNextDay_26 ?_
        refine r_iload_n C dX4_startNextDay_29 rfl ?_
        refine al_fontRow C hh (by omega) dX4_startNextDay_30 ?_
        refine r_iload_n C dX4_startNextDay_31 rfl ?_
        refine r_callV C E hh (c_X1_allows E.2.1 Γ B0 ad _ F M f (R 2 0 0) (by omega) (by omega) (by omega) (by omega)) lk_X4_212 (tr := .inr (.inl (10, _))) (xw_font (Γ := Γ) (by omega)) rfl rfl rfl (Nat.le_of_ble_eq_true rfl) dX4_startNextDay_32 ⟨by decide, by decide⟩ ⟨by omega, by omega⟩ (fun _ _ z9 => False.elim z9) (kk_is (fun H locs hs9 hh => ?_))
        refine r_callV C E hh (c_X4_dropProofsOfLostFont E.2.1 Γ B0 ad _ F M f _ (by omega) hX) lk_X4_191 (tr := .inr (.inl (0, 0))) rfl rfl rfl rfl (Nat.le_of_ble_eq_true rfl) dX4_startNextDay_35 ⟨by decide, by decide⟩ ⟨by omega, by omega⟩ (fun _ _ z9 => False.elim z9) (kk_to (fun H locs hs9 hh => ?_))
        refine r_iincN C dX4_startNextDay_38 rfl rfl ?_
        refine r_goto (tgt := 17) C dX4_startNextDay_41 (by decide) ?_
        exact ih17 (f + 1) H locs (by omega) (by omega) hh
  exact lp17 9 0 _ _ (by omega) (by omega) hh

set_option maxHeartbeats 4000000 in
set_option maxRecDepth 100000 in
theorem c_X4_pass {l : Launch} (hl : l.stackTraces = false) (Γ : fG) (B0 : Nat) (ad : Nat → Nat → Nat) (P R : fR) (M : Nat → fO) (x : Int32) (hP : FI P) (hI : XI R) (hd : R 2 0 0 ≤ 99000) : f_Met l yX4_pass cX4_pass 3 (some .int) 6 1 6 131 Γ B0 [.ref (ad 1 0), .int x] (wj (fw Γ ad P) (xw Γ ad R) M) (f_rI (fun r9 w9 => (nI 1 ≤ x ∧ x < nI 101) ∧ r9 = nI (csb P (psR P R (xN x)) 16) ∧ w9 = wj (fw Γ ad P) (xw Γ ad (psR P R (xN x))) M)) (fun E9 w9 => (E9 = "java/lang/IllegalArgumentException" ∧ ¬ (nI 1 ≤ x ∧ x < nI 101)) ∧ w9 = wj (fw Γ ad P) (xw Γ ad R) M) := by
  refine f_of hl (by decide) rfl (Nat.le_of_ble_eq_true rfl) (fun X9 C E hh hnm => ?_)
  generalize (f_s X9).heap = H, ([] : List Loc) = locs at hh ⊢
  refine r_iload_n C dX4_pass_0 rfl ?_
  refine r_iconst C (nI 1) dX4_pass_1 rfl ?_
  refine r_icmp_lt (tgt := 11) C dX4_pass_2 (by decide) (fun h2 => ?_) (fun h2 => ?_)
  · exact r_throw C E hh th_IA (is := 204) (text := "days is out of range") (by decide) dX4_pass_11 dX4_pass_14 dX4_pass_15 dX4_pass_17 dX4_pass_20 (by decide) (by decide) (Nat.le_of_ble_eq_true rfl) (by omega) (by omega) ⟨⟨rfl, by first | exact fun z => h8 ((rg_le (by decide)).mp z.2) | exact fun z => Int32.not_lt.mpr z.1 h2⟩, rfl⟩
  · refine r_iload_n C dX4_pass_5 rfl ?_
    refine r_bipush C (nI 100) dX4_pass_6 rfl ?_
    refine r_icmp_le (tgt := 21) C dX4_pass_8 (by decide) (fun h8 => ?_) (fun h8 => ?_)
    · have rr : nI 1 ≤ x ∧ x < nI 101 := ⟨Int32.not_lt.mp h2, (rg_le (by decide)).mpr h8⟩
      obtain ⟨j, hj, rfl⟩ := rg_of (x := x) (n := 101) ⟨Int32.le_trans (by decide) rr.1, rr.2⟩ (by omega)
      clear h2 h8
      refine r_aload_n C dX4_pass_21 rfl ?_
      refine r_callV C E hh (c_X4_noteReadySheets E.2.1 Γ B0 ad P R M hP hI) lk_X4_182 (tr := .inr (.inl (0, 0))) rfl rfl rfl rfl (Nat.le_of_ble_eq_true rfl) dX4_pass_22 ⟨by decide, by decide⟩ ⟨by omega, by omega⟩ (fun _ _ z9 => False.elim z9) (kk_to (fun H locs hs9 hh => ?_))
      refine r_iconst C (nI 0) dX4_pass_25 rfl ?_
      refine r_istore_n C dX4_pass_26 rfl rfl ?_
      have lp27 : ∀ (d9 : Nat) (i : Nat) (H : Heap) (locs : List Loc), j - i < d9 → i ≤ j → f_HS Γ B0 (wj (fw Γ ad P) (xw Γ ad (psR P R i)) M) X9 H locs → f_W X9 H locs 0 0 27 [some (.ref (ad 1 0)), some (.int (nI (j))), some (.int (nI (i)))] [] := by
        intro d9
        induction d9 with
        | zero => intro i H locs hd9 hi hh; exact absurd hd9 (Nat.not_lt_zero _)
        | succ d9 ih27 =>
          intro i H locs hd9 hi hh
          have e2 : psR P R i 2 0 0 = R 2 0 0 + i := snds_2 (nr P R) i
          have hX : XI (psR P R i) := XI_snds (XI_7 hI) i (by show R 2 0 0 + i ≤ 100000; omega)
          refine r_iload_n C dX4_pass_27 rfl ?_
          refine r_iload_n C dX4_pass_28 rfl ?_
          refine r_icmp_geN (tgt := 42) C dX4_pass_29 (by decide) (by omega) (by omega) (fun h29 => ?_) (fun h29 => ?_)
          · obtain rfl : i = j := by omega
            refine r_aload_n C dX4_pass_42 rfl ?_
            refine r_callV C E hh (c_X4_countSentBack E.2.1 Γ B0 ad P _ M hP hX) lk_X4_195 (tr := .inr (.inl (0, 0))) rfl rfl rfl rfl (Nat.le_of_ble_eq_true rfl) dX4_pass_43 ⟨by decide, by decide⟩ ⟨by omega, by omega⟩ (fun _ _ z9 => False.elim z9) (kk_is (fun H locs hs9 hh => ?_))
            exact r_iret C E hh dX4_pass_46 (by omega) (by omega) ⟨_, rfl, rr, by rw [xN_nI (by omega)], by rw [xN_nI (by omega)]⟩
          · refine r_aload_n C dX4_pass_32 rfl ?_
            refine r_callV C E hh (c_X4_startNextDay E.2.1 Γ B0 ad (psR P R i) _ M hX (by omega)) lk_X4_206 (tr := .inr (.inl (0, 0))) rfl rfl rfl rfl (Nat.le_of_ble_eq_true rfl) dX4_pass_33 ⟨by decide, by decide⟩ ⟨by omega, by omega⟩ (fun _ _ z9 => False.elim z9) (kk_to (fun H locs hs9 hh => ?_))
            refine r_iincN C dX4_pass_36 rfl rfl ?_
            refine r_goto (tgt := 27) C dX4_pass_39 (by decide) ?_
            exact ih27 (i + 1) H locs (by omega) (by omega) hh
      exact lp27 (j + 1) 0 _ _ (by omega) (by omega) hh
    · exact r_throw C E hh th_IA (is := 204) (text := "days is out of range") (by decide) dX4_pass_11 dX4_pass_14 dX4_pass_15 dX4_pass_17 dX4_pass_20 (by decide) (by decide) (Nat.le_of_ble_eq_true rfl) (by omega) (by omega) ⟨⟨rfl, by first | exact fun z => h8 ((rg_le (by decide)).mp z.2) | exact fun z => Int32.not_lt.mpr z.1 h2⟩, rfl⟩

