/-! ===== the class: setFolds, pageByRule ===== -/
def FJ (P : fR) : Prop := FI P ∧ hv2 (kdP P) (P 2 0 0) (P 3 0 0) (P 0 0 0)
def hvB (kd : Nat → Nat) (r c x : Nat) : Bool := (!Nat.blt (kd x) 2 || Nat.beq (clF kd c x) (2 * clF kd c (x + 1))) && (Nat.blt (kd x) 2 || Nat.beq (rlF kd r x) (2 * rlF kd r (x + 1)))
theorem hvB_all : ∀ many, many < 5 → ∀ folds, folds < 2 ^ (2 * many) → ∀ x, x < many → hvB (kq folds) (rowU (kq folds) many) (colU (kq folds) many) x = true := by decide +kernel
theorem fbZ_ne (P : fR) (many folds : Nat) {c : Nat} (h5 : c ≠ 5) (h6 : c ≠ 6) (h7 : c ≠ 7) (h8 : c ≠ 8) (h9 : c ≠ 9) : fbZ P many folds c = fbX P many folds many c := by
  unfold fbZ fbY
  rw [rpX_ne _ _ h6 h7, fdF_ne _ h5 h8 h9]
theorem fbZ_0 (P : fR) (many folds : Nat) : fbZ P many folds 0 0 0 = many ∧ fbZ P many folds 2 0 0 = rowU (kq folds) many ∧ fbZ P many folds 3 0 0 = colU (kq folds) many ∧ ∀ i, i < many → kdP (fbZ P many folds) i = kq folds i := by
  have e23 := fbX_2 P many folds many
  refine ⟨?_, ?_, ?_, ?_⟩
  · rw [fbZ_ne _ _ _ (by decide) (by decide) (by decide) (by decide) (by decide), fbX_ne _ _ _ (by decide) (by decide) (by decide)]; rfl
  · rw [fbZ_ne _ _ _ (by decide) (by decide) (by decide) (by decide) (by decide)]; exact e23.1
  · rw [fbZ_ne _ _ _ (by decide) (by decide) (by decide) (by decide) (by decide)]; exact e23.2
  · intro i hi
    unfold kdP
    rw [fbZ_ne _ _ _ (by decide) (by decide) (by decide) (by decide) (by decide), fbX_4, if_pos hi]
theorem FJ_fbZ {P : fR} {many folds : Nat} (h1 : 1 ≤ many) (h5 : many < 5) (hfo : folds < 2 ^ (2 * many)) (hP : FI P) : FJ (fbZ P many folds) := by
  refine ⟨FI_fbZ h1 h5 hfo hP.2.2.2.2.1 hP.2.2.2.2.2.1 hP.2.2.2.2.2.2.1 hP.2.2.2.2.2.2.2.1 hP.2.2.2.2.2.2.2.2, ?_⟩
  obtain ⟨e0, e2, e3, hk⟩ := fbZ_0 P many folds
  rw [e0, e2, e3]
  intro x hx
  have a1 := rlF_congr hk (rowU (kq folds) many) x (by omega)
  have a2 := rlF_congr hk (rowU (kq folds) many) (x + 1) (by omega)
  have a3 := rlF_congr hk (colU (kq folds) many) x (by omega)
  have a4 := rlF_congr hk (colU (kq folds) many) (x + 1) (by omega)
  have h := hvB_all many h5 folds hfo x hx
  rw [a1.1, a2.1, a3.2, a4.2, hk x hx]
  unfold hvB at h
  simp only [Bool.and_eq_true, Bool.or_eq_true, Bool.not_eq_true', Nat.beq_eq, Nat.blt_eq] at h
  refine ⟨fun z => ?_, fun z => ?_⟩
  · rcases h.1 with q | q
    · exact absurd (Nat.blt_eq.mpr z) (by rw [q]; decide)
    · exact q
  · rcases h.2 with q | q
    · exact absurd q z
    · exact q
theorem obr_lt {P : fR} {sd r c : Nat} (hJ : FJ P) (hr : r < P 2 0 0) (hc : c < P 3 0 0) : obr (kdP P) (P 2 0 0) (P 3 0 0) (P 0 0 0) sd r c < 32 := by
  have h1 := FI_rc hJ.1
  have h2 := ob_lt hJ.2 hr hc ⟨h1.2.1, h1.2.2.2.1⟩ (P 0 0 0) (Nat.le_refl _)
  have h3 := pow4 hJ.1.1 hJ.1.2.1
  unfold obr
  split <;> omega
set_option maxHeartbeats 4000000 in
set_option maxRecDepth 100000 in
theorem c_X4_setFolds {l : Launch} (hl : l.stackTraces = false) (Γ : fG) (B0 : Nat) (ad : Nat → Nat → Nat) (P R : fR) (M : Nat → fO) (x y : Int32) (hP : FI P) (hn : R 0 0 0 ≤ 64) : f_Met l yX4_setFolds cX4_setFolds 3 (some .int) 6 1 6 147 Γ B0 [.ref (ad 1 0), .int x, .int y] (wj (fw Γ ad P) (xw Γ ad R) M) (f_rI (fun r9 w9 => ((nI 1 ≤ x ∧ x < nI 5) ∧ rg y (2 ^ (2 * xN x))) ∧ r9 = nI (shc (fbZ P (xN x) (xN y)) R) ∧ w9 = wj (fw Γ ad (fbZ P (xN x) (xN y))) (xw Γ ad R) M)) (fun E9 w9 => (E9 = "java/lang/IllegalArgumentException" ∧ ¬ ((nI 1 ≤ x ∧ x < nI 5) ∧ rg y (2 ^ (2 * xN x)))) ∧ w9 = wj (fw Γ ad P) (xw Γ ad R) M) := by
  refine f_of hl (by decide) rfl (Nat.le_of_ble_eq_true rfl) (fun X9 C E hh hnm => ?_)
  generalize (f_s X9).heap = H, ([] : List Loc) = locs at hh ⊢
  refine r_iload_n C dX4_setFolds_0 rfl ?_
  refine r_iconst C (nI 1) dX4_setFolds_1 rfl ?_
  refine r_icmp_lt (tgt := 10) C dX4_setFolds_2 (by decide) (fun h2 => ?_) (fun h2 => ?_)
  · exact r_throw C E hh th_IA (is := 109) (text := "many is out of range") (by decide) dX4_setFolds_10 dX4_setFolds_13 dX4_setFolds_14 dX4_setFolds_16 dX4_setFolds_19 (by decide) (by decide) (Nat.le_of_ble_eq_true rfl) (by omega) (by omega) ⟨⟨rfl, by first | exact fun z => h7 ((rg_le (by decide)).mp z.1.2) | exact fun z => Int32.not_lt.mpr z.1.1 h2⟩, rfl⟩
  · refine r_iload_n C dX4_setFolds_5 rfl ?_
    refine r_iconst C (nI 4) dX4_setFolds_6 rfl ?_
    refine r_icmp_le (tgt := 20) C dX4_setFolds_7 (by decide) (fun h7 => ?_) (fun h7 => ?_)
    · have r1 : nI 1 ≤ x ∧ x < nI 5 := ⟨Int32.not_lt.mp h2, (rg_le (by decide)).mpr h7⟩
      obtain ⟨m, hm, rfl⟩ := rg_of (x := x) (n := 5) ⟨Int32.le_trans (by decide) r1.1, r1.2⟩ (by omega)
      have hm1 : 1 ≤ m := Nat.le_of_not_lt (fun z => h2 (nI_lt z (by decide)))
      clear h2 h7
      have hpw : 2 ^ (2 * m) ≤ 256 := Nat.pow_le_pow_right (n := 2) (by decide) (by omega : 2 * m ≤ 8)
      have hxm : xN (nI m) = m := xN_nI (by omega)
      refine r_iload_n C dX4_setFolds_20 rfl ?_
      refine r_if_lt (tgt := 33) C dX4_setFolds_21 (by decide) (fun h21 => ?_) (fun h21 => ?_)
      · exact r_throw C E hh th_IA (is := 111) (text := "folds is out of range") (by decide) dX4_setFolds_33 dX4_setFolds_36 dX4_setFolds_37 dX4_setFolds_39 dX4_setFolds_42 (by decide) (by decide) (Nat.le_of_ble_eq_true rfl) (by omega) (by omega) ⟨⟨rfl, by first | (intro z; rw [hxm] at z; exact h30 z.2.2) | exact fun z => Int32.not_lt.mpr z.2.1 h21⟩, rfl⟩
      · refine r_iload_n C dX4_setFolds_24 rfl ?_
        refine r_iconst C (nI 1) dX4_setFolds_25 rfl ?_
        refine r_iconst C (nI 2) dX4_setFolds_26 rfl ?_
        refine r_iload_n C dX4_setFolds_27 rfl ?_
        refine r_imulN C dX4_setFolds_28 ?_
        refine r_ishlN C dX4_setFolds_29 (by omega) (by omega) ?_
        rw [Nat.one_mul]
        refine r_icmp_lt (tgt := 43) C dX4_setFolds_30 (by decide) (fun h30 => ?_) (fun h30 => ?_)
        · have r2 : rg y (2 ^ (2 * m)) := ⟨Int32.not_lt.mp h21, h30⟩
          obtain ⟨fo, hfo, rfl⟩ := rg_of r2 (by omega)
          have hyf : xN (nI fo) = fo := xN_nI (by omega)
          have hJ := FJ_fbZ hm1 hm hfo hP
          refine r_aload_n C dX4_setFolds_43 rfl ?_
          refine g_X4_18 C hh dX4_setFolds_44 ?_
          refine r_iload_n C dX4_setFolds_47 rfl ?_
          refine r_iload_n C dX4_setFolds_48 rfl ?_
          refine r_callV C E hh (c_X0_foldBy E.2.1 Γ B0 ad P _ _ m fo hm1 hm hfo hP.2.2.2.2.1 hP.2.2.2.2.2.2.2.1 hP.2.2.2.2.2.2.2.2) lk_X4_22 (tr := .inl 0) rfl rfl rfl rfl (Nat.le_of_ble_eq_true rfl) dX4_setFolds_49 ⟨by decide, by decide⟩ ⟨by omega, by omega⟩ (fun _ _ z9 => False.elim z9) (kk_to (fun H locs hs9 hh => ?_))
          refine r_aload_n C dX4_setFolds_52 rfl ?_
          refine r_callV C E hh (c_X4_sheetCount E.2.1 Γ B0 ad (fbZ P m fo) R M hJ.1.2.1 hn) lk_X4_113 (tr := .inr (.inl (0, 0))) rfl rfl rfl rfl (Nat.le_of_ble_eq_true rfl) dX4_setFolds_53 ⟨by decide, by decide⟩ ⟨by omega, by omega⟩ (fun _ _ z9 => False.elim z9) (kk_is (fun H locs hs9 hh => ?_))
          exact r_iret C E hh dX4_setFolds_56 (by omega) (by omega) ⟨_, rfl, ⟨r1, by rw [hxm]; exact r2⟩, by rw [hxm, hyf], by rw [hxm, hyf]⟩
        · exact r_throw C E hh th_IA (is := 111) (text := "folds is out of range") (by decide) dX4_setFolds_33 dX4_setFolds_36 dX4_setFolds_37 dX4_setFolds_39 dX4_setFolds_42 (by decide) (by decide) (Nat.le_of_ble_eq_true rfl) (by omega) (by omega) ⟨⟨rfl, by first | (intro z; rw [hxm] at z; exact h30 z.2.2) | exact fun z => Int32.not_lt.mpr z.2.1 h21⟩, rfl⟩
    · exact r_throw C E hh th_IA (is := 109) (text := "many is out of range") (by decide) dX4_setFolds_10 dX4_setFolds_13 dX4_setFolds_14 dX4_setFolds_16 dX4_setFolds_19 (by decide) (by decide) (Nat.le_of_ble_eq_true rfl) (by omega) (by omega) ⟨⟨rfl, by first | exact fun z => h7 ((rg_le (by decide)).mp z.1.2) | exact fun z => Int32.not_lt.mpr z.1.1 h2⟩, rfl⟩

set_option maxHeartbeats 4000000 in
set_option maxRecDepth 100000 in
theorem c_X4_pageByRule {l : Launch} (hl : l.stackTraces = false) (Γ : fG) (B0 : Nat) (ad : Nat → Nat → Nat) (P R : fR) (M : Nat → fO) (a b c d : Int32) (hJ : FJ P) (hn : R 0 0 0 ≤ 64) : f_Met l yX4_pageByRule cX4_pageByRule 5 (some .int) 8 2 12 135 Γ B0 [.ref (ad 1 0), .int a, .int b, .int c, .int d] (wj (fw Γ ad P) (xw Γ ad R) M) (f_rI (fun r9 w9 => ((rg a (shc P R) ∧ rg c (P 2 0 0) ∧ rg d (P 3 0 0)) ∧ rg b 2) ∧ r9 = plO P R (xN a) (obr (kdP P) (P 2 0 0) (P 3 0 0) (P 0 0 0) (xN b) (xN c) (xN d)) ∧ w9 = wj (fw Γ ad P) (xw Γ ad R) M)) (fun E9 w9 => ((E9 = "java/lang/IndexOutOfBoundsException" ∧ ¬ (rg a (shc P R) ∧ rg c (P 2 0 0) ∧ rg d (P 3 0 0))) ∨ (E9 = "java/lang/IllegalArgumentException" ∧ (rg a (shc P R) ∧ rg c (P 2 0 0) ∧ rg d (P 3 0 0)) ∧ ¬ rg b 2)) ∧ w9 = wj (fw Γ ad P) (xw Γ ad R) M) := by
  refine f_of hl (by decide) rfl (Nat.le_of_ble_eq_true rfl) (fun X9 C E hh hnm => ?_)
  generalize (f_s X9).heap = H, ([] : List Loc) = locs at hh ⊢
  have hrc := FI_rc hJ.1
  have hs6 := FI_sh (R := R) hJ.1 hn
  refine r_aload_n C dX4_pageByRule_0 rfl ?_
  refine r_iload_n C dX4_pageByRule_1 rfl ?_
  refine r_iload_n C dX4_pageByRule_2 rfl ?_
  refine r_iload_n C dX4_pageByRule_3 rfl ?_
  refine r_iload C dX4_pageByRule_4 rfl ?_
  refine r_callV C E hh (c_X4_checkLeafSide E.2.1 Γ B0 ad P R M a b c d hJ.1 hn) lk_X4_123 (tr := .inr (.inl (0, 0))) rfl rfl rfl rfl (Nat.le_of_ble_eq_true rfl) dX4_pageByRule_6 ⟨by decide, by decide⟩ ⟨by omega, by omega⟩ (fun _ _ z9 => z9) (kk_rV (fun w9 H locs hs9 hp9 hh => ?_))
  obtain ⟨r1, rfl⟩ := hp9
  obtain ⟨ja, hja, rfl⟩ := rg_of r1.1.1 (by omega)
  obtain ⟨jb, hjb, rfl⟩ := rg_of r1.2 (by omega)
  obtain ⟨jc, hjc, rfl⟩ := rg_of r1.1.2.1 (by omega)
  obtain ⟨jd, hjd, rfl⟩ := rg_of r1.1.2.2 (by omega)
  refine r_aload_n C dX4_pageByRule_9 rfl ?_
  refine r_iload_n C dX4_pageByRule_10 rfl ?_
  refine r_aload_n C dX4_pageByRule_11 rfl ?_
  refine g_X4_18 C hh dX4_pageByRule_12 ?_
  refine r_iload_n C dX4_pageByRule_15 rfl ?_
  refine r_iload_n C dX4_pageByRule_16 rfl ?_
  refine r_iload C dX4_pageByRule_17 rfl ?_
  refine r_callV C E hh (c_X0_offsetByRule E.2.1 Γ B0 ad P _ _ jb jc jd hJ.1.2.1 hJ.1.2.2.2.2.1 hJ.2 hjb hjc hjd ⟨hrc.2.1, hrc.2.2.2.1⟩) lk_X4_138 (tr := .inl 0) rfl rfl rfl rfl (Nat.le_of_ble_eq_true rfl) dX4_pageByRule_19 ⟨by decide, by decide⟩ ⟨by omega, by omega⟩ (fun _ _ z9 => False.elim z9) (kk_is (fun H locs hs9 hh => ?_))
  refine r_callV C E hh (c_X4_placeOn E.2.1 Γ B0 ad P R M ja _ hJ.1 hn (by omega) (obr_lt hJ hjc hjd)) lk_X4_135 (tr := .inr (.inl (0, 0))) rfl rfl rfl rfl (Nat.le_of_ble_eq_true rfl) dX4_pageByRule_22 ⟨by decide, by decide⟩ ⟨by omega, by omega⟩ (fun _ _ z9 => False.elim z9) (kk_is (fun H locs hs9 hh => ?_))
  exact r_iret C E hh dX4_pageByRule_25 (by omega) (by omega) ⟨_, rfl, r1, by rw [xN_nI (by omega), xN_nI (by omega), xN_nI (by omega), xN_nI (by omega)], rfl⟩

