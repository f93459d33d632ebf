/-! ===== the class: plates that are good, printed ===== -/
theorem lgc {a b : Nat} (ha : a < 2 ^ 63) (hb : b < 2 ^ 63) : lg_cmp (lN a) (lN b) = 0 ↔ a = b := by
  have h1 := pk_lEQ ha hb
  unfold lg_cmp
  by_cases h : a = b
  · subst h; simp
  · have h2 : ¬ lN a = lN b := fun z => h (h1.mp z)
    constructor
    · intro z
      split at z
      · exact absurd z (by decide)
      · exact absurd z (by decide)
    · intro z; exact absurd z h
theorem cM_lt {c : Nat} (h : c < 134217728) : cM c < 2 ^ 63 := by unfold cM; omega
def allm (R : fR) (s : Nat) : Nat → Bool
  | 0 => true
  | j + 1 => allm R s j && decide (cM (R 19 s j) = cM (R 9 j 0))
theorem allm_false (R : fR) (s : Nat) {f m : Nat} (h : allm R s f = false) : f ≤ m → allm R s m = false := by
  intro hm
  induction m with
  | zero => obtain rfl : f = 0 := by omega
            exact h
  | succ m ih =>
    by_cases hf : f = m + 1
    · subst hf; exact h
    · simp [allm, ih (by omega)]
def shw (R : fR) (s m : Nat) : Bool := decide (m = R 17 s 0) && allm R s (R 17 s 0)
def gdp (R : fR) (s : Nat) : Bool := decide (R 18 s 0 < 1000) && shw R s (R 3 0 0)
def gd (R : fR) (s : Nat) : Bool := if R 8 s 0 = 0 then false else gdp R s
def cpy (f : Nat → Nat → Nat) (s : Nat) (g : Nat → Nat → Nat) (m : Nat) : Nat → Nat → Nat := fun s' j => if s' = s ∧ j < m then g j 0 else f s' j
theorem cpy_0 (R : fR) (s : Nat) (g : Nat → Nat → Nat) : rs R 19 (cpy (R 19) s g 0) = R := by
  funext k a b
  by_cases h : k = 19
  · subst h; simp [rs, cpy]
  · simp [rs, h]
theorem cpy_s (f : Nat → Nat → Nat) (s : Nat) (g : Nat → Nat → Nat) (m : Nat) : u2 (cpy f s g m) s m (g m 0) = cpy f s g (m + 1) := by
  funext a b
  unfold u2 cpy
  by_cases h : a = s
  · subst h
    by_cases h2 : b = m
    · subst h2; simp
    · have h3 : b < m + 1 ↔ b < m := by omega
      simp [h2, h3]
  · simp [h]
def egR (R : fR) (s m : Nat) : fR := rs (rs (rs R 17 (u1 (R 17) s m)) 19 (cpy (R 19) s (R 9) m)) 18 (u1 (R 18) s 0)
set_option maxHeartbeats 4000000 in
set_option maxRecDepth 100000 in
theorem c_X3_shows {l : Launch} (hl : l.stackTraces = false) (Γ : fG) (B0 : Nat) (ad : Nat → Nat → Nat) (R : fR) (F : Nat → fO) (M : Nat → fO) (s m : Nat) (hq : R 8 s 0 ≠ 0) (hm : m ≤ 16) (hI : XI R) : f_Met l yX3_shows cX3_shows 4 (some .boolean) 0 0 0 0 Γ B0 [.ref (ad 16 s), .ref (ad 6 0), .int (nI (m))] (wj F (xw Γ ad R) M) (f_is (bI (shw R s m)) (wj F (xw Γ ad R) M)) f_no := by
  refine f_of hl (by decide) rfl (Nat.le_of_ble_eq_true rfl) (fun X9 C E hh hnm => ?_)
  generalize (f_s X9).heap = H, ([] : List Loc) = locs at hh ⊢
  obtain ⟨i9, -, -, h9m, h19m, -⟩ := hI.2.2.2.2.2.2.2.2.2
  have i9 := i9 s
  refine r_iload_n C dX3_shows_0 rfl ?_
  refine r_aload_n C dX3_shows_1 rfl ?_
  refine g_X3_21 C hh hq dX3_shows_2 ?_
  refine r_icmp_eqN (tgt := 10) C dX3_shows_5 (by decide) (by omega) (by omega) (fun h5 => ?_) (fun h5 => ?_)
  · refine r_iconst C (nI 0) dX3_shows_10 rfl ?_
    refine r_istore_n C dX3_shows_11 rfl rfl ?_
    have lp12 : ∀ (d9 : Nat) (j : Nat) (H : Heap) (locs : List Loc), R 17 s 0 - j < d9 → j ≤ R 17 s 0 → allm R s j = true → f_HS Γ B0 (wj F (xw Γ ad R) M) X9 H locs → f_W X9 H locs 0 0 12 [some (.ref (ad 16 s)), some (.ref (ad 6 0)), some (.int (nI (m))), some (.int (nI (j)))] [] := by
      intro d9
      induction d9 with
      | zero => intro j H locs hd9 hj ha hh; exact absurd hd9 (Nat.not_lt_zero _)
      | succ d9 ih12 =>
        intro j H locs hd9 hj ha hh
        have hc1 := cM_lt (h9m j)
        have hc2 := cM_lt (h19m s j)
        refine r_iload_n C dX3_shows_12 rfl ?_
        refine r_aload_n C dX3_shows_13 rfl ?_
        refine g_X3_21 C hh hq dX3_shows_14 ?_
        refine r_icmp_geN (tgt := 41) C dX3_shows_17 (by decide) (by omega) (by omega) (fun h17 => ?_) (fun h17 => ?_)
        · obtain rfl : j = R 17 s 0 := by omega
          refine r_iconst C (bI true) dX3_shows_41 rfl ?_
          exact r_zret C E hh dX3_shows_42 (by omega) (by omega) (rb (by unfold shw; rw [ha, Bool.and_true]; exact decide_eq_true h5))
        · refine r_aload_n C dX3_shows_20 rfl ?_
          refine g_X3_9 C hh hq dX3_shows_21 ?_
          refine r_iload_n C dX3_shows_24 rfl ?_
          refine al_shown C hh hq (by omega) dX3_shows_25 ?_
          refine r_aload_n C dX3_shows_26 rfl ?_
          refine r_iload_n C dX3_shows_27 rfl ?_
          refine al_marks C hh (by omega) dX3_shows_28 ?_
          refine r_lcmp C dX3_shows_29 ?_
          refine r_if_eq (tgt := 35) C dX3_shows_30 (by decide) (fun h30 => ?_) (fun h30 => ?_)
          · rw [lgc hc2 hc1] at h30
            refine r_iincN C dX3_shows_35 rfl rfl ?_
            refine r_goto (tgt := 12) C dX3_shows_38 (by decide) ?_
            exact ih12 (j + 1) H locs (by omega) (by omega) (by simp_all [allm]) hh
          · rw [lgc hc2 hc1] at h30
            refine r_iconst C (bI false) dX3_shows_33 rfl ?_
            exact r_zret C E hh dX3_shows_34 (by omega) (by omega) (rb (by unfold shw; rw [allm_false R s (f := j + 1) (by simp_all [allm]) (by omega), Bool.and_false]))
    exact lp12 (R 17 s 0 + 1) 0 _ _ (by omega) (by omega) rfl hh
  · refine r_iconst C (bI false) dX3_shows_8 rfl ?_
    exact r_zret C E hh dX3_shows_9 (by omega) (by omega) (rb (by simp_all [shw]))

set_option maxHeartbeats 4000000 in
set_option maxRecDepth 100000 in
theorem c_X3_engrave {l : Launch} (hl : l.stackTraces = false) (Γ : fG) (B0 : Nat) (ad : Nat → Nat → Nat) (R : fR) (F : Nat → fO) (M : Nat → fO) (s m : Nat) (hq : R 8 s 0 ≠ 0) (hm : m ≤ 16) : f_Met l yX3_engrave cX3_engrave 4 none 1 0 0 21 Γ B0 [.ref (ad 16 s), .ref (ad 6 0), .int (nI (m))] (wj F (xw Γ ad R) M) (f_to (wj F (xw Γ ad (egR R s m)) M)) f_no := by
  refine f_of hl (by decide) rfl (Nat.le_of_ble_eq_true rfl) (fun X9 C E hh hnm => ?_)
  generalize (f_s X9).heap = H, ([] : List Loc) = locs at hh ⊢
  refine r_aload_n C dX3_engrave_0 rfl ?_
  refine r_iload_n C dX3_engrave_1 rfl ?_
  refine r_bipush C (nI 16) dX3_engrave_2 rfl ?_
  refine r_min C mn_X3 (by decide) (by decide) (Nat.le_of_ble_eq_true rfl) (by omega) (by omega) (by omega) (by omega) dX3_engrave_4 ?_
  rw [show min m 16 = m by omega]
  refine p_X3_21 C hh hq dX3_engrave_7 (fun H locs hh => ?_)
  refine r_iconst C (nI 0) dX3_engrave_10 rfl ?_
  refine r_istore_n C dX3_engrave_11 rfl rfl ?_
  have lp12 : ∀ (d9 : Nat) (j : Nat) (H : Heap) (locs : List Loc), m - j < d9 → j ≤ m → f_HS Γ B0 (wj F (xw Γ ad (rs (rs R 17 (u1 (R 17) s m)) 19 (cpy (R 19) s (R 9) j))) M) X9 H locs → f_W X9 H locs 0 0 12 [some (.ref (ad 16 s)), some (.ref (ad 6 0)), some (.int (nI (m))), some (.int (nI (j)))] [] := by
    intro d9
    induction d9 with
    | zero => intro j H locs hd9 hj hh; exact absurd hd9 (Nat.not_lt_zero _)
    | succ d9 ih12 =>
      intro j H locs hd9 hj hh
      have e17 : rs (rs R 17 (u1 (R 17) s m)) 19 (cpy (R 19) s (R 9) j) 17 s 0 = m := by simp [rs, u1]
      refine r_iload_n C dX3_engrave_12 rfl ?_
      refine r_aload_n C dX3_engrave_13 rfl ?_
      refine g_X3_21 C hh hq dX3_engrave_14 ?_
      refine r_icmp_geN (tgt := 35) C dX3_engrave_17 (by decide) (by omega) (by omega) (fun h17 => ?_) (fun h17 => ?_)
      · obtain rfl : j = m := by omega
        refine r_aload_n C dX3_engrave_35 rfl ?_
        refine r_iconst C (nI 0) dX3_engrave_36 rfl ?_
        refine p_X3_25 C hh hq dX3_engrave_37 (fun H locs hh => ?_)
        exact r_vret C E hh dX3_engrave_40 (by omega) (by omega) ⟨rfl, rfl⟩
      · refine r_aload_n C dX3_engrave_20 rfl ?_
        refine g_X3_9 C hh hq dX3_engrave_21 ?_
        refine r_iload_n C dX3_engrave_24 rfl ?_
        refine r_aload_n C dX3_engrave_25 rfl ?_
        refine r_iload_n C dX3_engrave_26 rfl ?_
        refine al_marks C hh (by omega) dX3_engrave_27 ?_
        refine as_shown C hh hq (by omega) dX3_engrave_28 (fun H locs hh => ?_)
        rw [rs_same, rs_rs, show u2 (cpy (R 19) s (R 9) j) s j (rs (rs R 17 (u1 (R 17) s m)) 19 (cpy (R 19) s (R 9) j) 9 j 0) = cpy (R 19) s (R 9) (j + 1) from cpy_s (R 19) s (R 9) j] at hh
        refine r_iincN C dX3_engrave_29 rfl rfl ?_
        refine r_goto (tgt := 12) C dX3_engrave_32 (by decide) ?_
        exact ih12 (j + 1) H locs (by omega) (by omega) hh
  rw [← cpy_0 (rs R 17 (u1 (R 17) s m)) s (R 9)] at hh
  exact lp12 (m + 1) 0 _ _ (by omega) (by omega) hh

set_option maxHeartbeats 4000000 in
set_option maxRecDepth 100000 in
theorem c_X4_good_null {l : Launch} (hl : l.stackTraces = false) (Γ : fG) (B0 : Nat) (ad : Nat → Nat → Nat) (R : fR) (F : Nat → fO) (M : Nat → fO) : f_Met l yX4_good cX4_good 2 (some .boolean) 0 0 0 0 Γ B0 [.ref (ad 1 0), .null] (wj F (xw Γ ad R) M) (f_is (bI false) (wj F (xw Γ ad R) M)) f_no := by
  refine f_of hl (by decide) rfl (Nat.le_of_ble_eq_true rfl) (fun X9 C E hh hnm => ?_)
  generalize (f_s X9).heap = H, ([] : List Loc) = locs at hh ⊢
  refine r_aload_n_null C dX4_good_0 rfl ?_
  refine r_ifnull_null (tgt := 33) C dX4_good_1 (by decide) ?_
  refine r_iconst C (bI false) dX4_good_33 rfl ?_
  exact r_zret C E hh dX4_good_34 (by omega) (by omega) ⟨rfl, rfl⟩

set_option maxHeartbeats 4000000 in
set_option maxRecDepth 100000 in
theorem c_X4_good {l : Launch} (hl : l.stackTraces = false) (Γ : fG) (B0 : Nat) (ad : Nat → Nat → Nat) (R : fR) (F : Nat → fO) (M : Nat → fO) (s : Nat) (hq : R 8 s 0 ≠ 0) (hI : XI R) : f_Met l yX4_good cX4_good 2 (some .boolean) 1 0 0 23 Γ B0 [.ref (ad 1 0), .ref (ad 16 s)] (wj F (xw Γ ad R) M) (f_is (bI (gdp R s)) (wj F (xw Γ ad R) M)) f_no := by
  refine f_of hl (by decide) rfl (Nat.le_of_ble_eq_true rfl) (fun X9 C E hh hnm => ?_)
  generalize (f_s X9).heap = H, ([] : List Loc) = locs at hh ⊢
  have i8 := hI.2.2.2.2.2.2.2.2.1
  have i9 := hI.2.2.2.2.2.2.2.2.2.1 s
  refine r_aload_n C dX4_good_0 rfl ?_
  refine r_ifnull C dX4_good_1 ?_
  refine r_aload_n C dX4_good_4 rfl ?_
  refine g_X4_281 C hh hq dX4_good_5 ?_
  refine r_sipush C (nI 1000) dX4_good_8 rfl ?_
  refine r_icmp_geN (tgt := 33) C dX4_good_11 (by decide) (by omega) (by omega) (fun h11 => ?_) (fun h11 => ?_)
  · refine r_iconst C (bI false) dX4_good_33 rfl ?_
    exact r_zret C E hh dX4_good_34 (by omega) (by omega) (rb (by simp_all [gdp] <;> omega))
  · refine r_aload_n C dX4_good_14 rfl ?_
    refine r_aload_n C dX4_good_15 rfl ?_
    refine g_X4_43 C hh dX4_good_16 ?_
    refine r_aload_n C dX4_good_19 rfl ?_
    refine g_X4_297 C hh dX4_good_20 ?_
    refine r_callV C E hh (c_X3_shows E.2.1 Γ B0 ad R F M s _ hq (by omega) hI) lk_X4_309 (tr := .inr (.inl (16, s))) (xw_plate (Γ := Γ) hq) rfl rfl rfl (Nat.le_of_ble_eq_true rfl) dX4_good_23 ⟨by decide, by decide⟩ ⟨by omega, by omega⟩ (fun _ _ z9 => False.elim z9) (kk_is (fun H locs hs9 hh => ?_))
    refine r_if_eqB (tgt := 33) C dX4_good_26 (by decide) (fun h26 => ?_) (fun h26 => ?_)
    · refine r_iconst C (bI false) dX4_good_33 rfl ?_
      exact r_zret C E hh dX4_good_34 (by omega) (by omega) (rb (by simp_all [gdp] <;> omega))
    · refine r_iconst C (bI true) dX4_good_29 rfl ?_
      refine r_goto (tgt := 34) C dX4_good_30 (by decide) ?_
      exact r_zret C E hh dX4_good_34 (by omega) (by omega) (rb (by simp_all [gdp] <;> omega))

def slot (s i c : Nat) : Nat := (s * 2 + i) * 4 + c
def lkN (P R : fR) (s i c : Nat) : Nat := lkn P R s i c (P 2 0 0 * P 3 0 0)
def lsO (P R : fR) (s i c m : Nat) : Bool := decide (lkN P R s i c = 0) || (gd (lkF P R s i c) (slot s i c) && decide (R 18 (slot s i c) 0 + m ≤ 1000))
theorem XI_lkF {P R : fR} (hP : FI P) (hI : XI R) (s i c : Nat) : XI (lkF P R s i c) := XI_lk hP hI s i c _ (FI_rc hP).2.2.2.2
def usR (P R : fR) (s i c m : Nat) : fR := if lkN P R s i c ≠ 0 ∧ R 8 (slot s i c) 0 ≠ 0 then rs (lkF P R s i c) 18 (u1 (R 18) (slot s i c) (R 18 (slot s i c) 0 + m)) else lkF P R s i c
set_option maxHeartbeats 4000000 in
set_option maxRecDepth 100000 in
theorem c_X4_checkPlateLasts {l : Launch} (hl : l.stackTraces = false) (Γ : fG) (B0 : Nat) (ad : Nat → Nat → Nat) (P R : fR) (M : Nat → fO) (s i c : Nat) (hs : s < 16) (hi : i < 2) (hc : c < 4) (hP : FI P) (m : Nat) (hm : m ≤ 500) (hI : XI R) : f_Met l yX4_checkPlateLasts cX4_checkPlateLasts 6 none 6 1 6 90 Γ B0 [.ref (ad 1 0), .int (nI (s)), .int (nI (i)), .int (nI (c)), .int (nI (m))] (wj (fw Γ ad P) (xw Γ ad R) M) (f_rV (fun w9 => lsO P R s i c m = true ∧ w9 = wj (fw Γ ad P) (xw Γ ad (lkF P R s i c)) M)) (fun E9 w9 => (E9 = "java/lang/IllegalStateException" ∧ lsO P R s i c m = false) ∧ w9 = wj (fw Γ ad P) (xw Γ ad (lkF P R s i c)) M) := by
  refine f_of hl (by decide) rfl (Nat.le_of_ble_eq_true rfl) (fun X9 C E hh hnm => ?_)
  generalize (f_s X9).heap = H, ([] : List Loc) = locs at hh ⊢
  have hrc := FI_rc hP
  have hn9 := lkn_le P R s i c (P 2 0 0 * P 3 0 0)
  have hX := XI_lkF hP hI s i c
  have i9 := hI.2.2.2.2.2.2.2.2.2.1 (slot s i c)
  refine r_aload_n C dX4_checkPlateLasts_0 rfl ?_
  refine r_iload_n C dX4_checkPlateLasts_1 rfl ?_
  refine r_iload_n C dX4_checkPlateLasts_2 rfl ?_
  refine r_iload_n C dX4_checkPlateLasts_3 rfl ?_
  refine r_callV C E hh (c_X4_lookUp E.2.1 Γ B0 ad P R M s i c hs hi hc hP hI) lk_X4_271 (tr := .inr (.inl (0, 0))) rfl rfl rfl rfl (Nat.le_of_ble_eq_true rfl) dX4_checkPlateLasts_4 ⟨by decide, by decide⟩ ⟨by omega, by omega⟩ (fun _ _ z9 => False.elim z9) (kk_to (fun H locs hs9 hh => ?_))
  have e3 : lkF P R s i c 3 0 0 = lkN P R s i c := rfl
  refine r_aload_n C dX4_checkPlateLasts_7 rfl ?_
  refine g_X4_297 C hh dX4_checkPlateLasts_8 ?_
  rw [e3]
  refine r_if_neN (tgt := 15) C dX4_checkPlateLasts_11 (by decide) (by unfold lkN; omega) (fun h11 => ?_) (fun h11 => ?_)
  · refine r_aload_n C dX4_checkPlateLasts_15 rfl ?_
    refine g_X4_39 C hh dX4_checkPlateLasts_16 ?_
    refine r_iload_n C dX4_checkPlateLasts_19 rfl ?_
    refine r_iload_n C dX4_checkPlateLasts_20 rfl ?_
    refine r_iload_n C dX4_checkPlateLasts_21 rfl ?_
    refine r_callS C E hh (c_X4_slotOf E.2.1 Γ B0 _ s i c) lk_X4_274 rfl rfl (Nat.le_of_ble_eq_true rfl) dX4_checkPlateLasts_22 ⟨by decide, by decide⟩ ⟨by omega, by omega⟩ (fun _ _ z9 => False.elim z9) (kk_is (fun H locs hs9 hh => ?_))
    rw [show (s * 2 + i) * 4 + c = slot s i c from rfl]
    have hsl : slot s i c < 128 := by unfold slot; omega
    by_cases h8 : R 8 (slot s i c) 0 = 0
    · refine al_rack_null C hh hsl h8 dX4_checkPlateLasts_25 ?_
      refine r_astore_null C dX4_checkPlateLasts_26 rfl rfl ?_
      refine r_aload_n C dX4_checkPlateLasts_28 rfl ?_
      refine r_aload_null C dX4_checkPlateLasts_29 rfl ?_
      refine r_callV C E hh (c_X4_good_null E.2.1 Γ B0 ad (lkF P R s i c) _ M) lk_X4_277 (tr := .inr (.inl (0, 0))) rfl rfl rfl rfl (Nat.le_of_ble_eq_true rfl) dX4_checkPlateLasts_31 ⟨by decide, by decide⟩ ⟨by omega, by omega⟩ (fun _ _ z9 => False.elim z9) (kk_is (fun H locs hs9 hh => ?_))
      refine r_if_neB (tgt := 48) C dX4_checkPlateLasts_34 (by decide) (fun h34 => nomatch h34) (fun h34 => ?_)
      exact r_throwW C E hh th_IS (is := 305) (text := "a plate is not there or not good") (by decide) dX4_checkPlateLasts_37 dX4_checkPlateLasts_40 dX4_checkPlateLasts_41 dX4_checkPlateLasts_44 dX4_checkPlateLasts_47 (by decide) (by decide) (Nat.le_of_ble_eq_true rfl) (by omega) (by omega) ⟨⟨rfl, by simp [lsO, h11, gd, show lkF P R s i c 8 (slot s i c) 0 = 0 from h8]⟩, rfl⟩
    refine al_rack C hh hsl h8 dX4_checkPlateLasts_25 ?_
    refine r_astore C dX4_checkPlateLasts_26 rfl rfl ?_
    refine r_aload_n C dX4_checkPlateLasts_28 rfl ?_
    refine r_aload C dX4_checkPlateLasts_29 rfl ?_
    refine r_callV C E hh (c_X4_good E.2.1 Γ B0 ad (lkF P R s i c) _ M (slot s i c) h8 hX) lk_X4_277 (tr := .inr (.inl (0, 0))) rfl rfl rfl rfl (Nat.le_of_ble_eq_true rfl) dX4_checkPlateLasts_31 ⟨by decide, by decide⟩ ⟨by omega, by omega⟩ (fun _ _ z9 => False.elim z9) (kk_is (fun H locs hs9 hh => ?_))
    refine r_if_neB (tgt := 48) C dX4_checkPlateLasts_34 (by decide) (fun h34 => ?_) (fun h34 => ?_)
    · refine r_aload C dX4_checkPlateLasts_48 rfl ?_
      refine g_X4_281 C hh h8 dX4_checkPlateLasts_50 ?_
      rw [show lkF P R s i c 18 (slot s i c) 0 = R 18 (slot s i c) 0 from rfl]
      refine r_iload C dX4_checkPlateLasts_53 rfl ?_
      refine r_iaddN C dX4_checkPlateLasts_55 ?_
      refine r_sipush C (nI 1000) dX4_checkPlateLasts_56 rfl ?_
      refine r_icmp_leN (tgt := 73) C dX4_checkPlateLasts_59 (by decide) (by omega) (by omega) (fun h59 => ?_) (fun h59 => ?_)
      · exact r_vret C E hh dX4_checkPlateLasts_73 (by omega) (by omega) ⟨rfl, by simp [lsO, h11, gd, show ¬ lkF P R s i c 8 (slot s i c) 0 = 0 from h8, h34]; omega, rfl⟩
      · exact r_throwW C E hh th_IS (is := 307) (text := "a plate would be used too often") (by decide) dX4_checkPlateLasts_62 dX4_checkPlateLasts_65 dX4_checkPlateLasts_66 dX4_checkPlateLasts_69 dX4_checkPlateLasts_72 (by decide) (by decide) (Nat.le_of_ble_eq_true rfl) (by omega) (by omega) ⟨⟨rfl, by simp [lsO, h11, gd, show ¬ lkF P R s i c 8 (slot s i c) 0 = 0 from h8, h34]; omega⟩, rfl⟩
    · exact r_throwW C E hh th_IS (is := 305) (text := "a plate is not there or not good") (by decide) dX4_checkPlateLasts_37 dX4_checkPlateLasts_40 dX4_checkPlateLasts_41 dX4_checkPlateLasts_44 dX4_checkPlateLasts_47 (by decide) (by decide) (Nat.le_of_ble_eq_true rfl) (by omega) (by omega) ⟨⟨rfl, by simp [lsO, h11, gd, show ¬ lkF P R s i c 8 (slot s i c) 0 = 0 from h8, h34]⟩, rfl⟩
  · exact r_vret C E hh dX4_checkPlateLasts_14 (by omega) (by omega) ⟨rfl, by simp [lsO, h11], rfl⟩

set_option maxHeartbeats 4000000 in
set_option maxRecDepth 100000 in
theorem c_X4_usePlateIfNeeded {l : Launch} (hl : l.stackTraces = false) (Γ : fG) (B0 : Nat) (ad : Nat → Nat → Nat) (P R : fR) (M : Nat → fO) (s i c : Nat) (hs : s < 16) (hi : i < 2) (hc : c < 4) (hP : FI P) (m : Nat) (hm : m ≤ 500) (hI : XI R) : f_Met l yX4_usePlateIfNeeded cX4_usePlateIfNeeded 6 none 3 0 0 70 Γ B0 [.ref (ad 1 0), .int (nI (s)), .int (nI (i)), .int (nI (c)), .int (nI (m))] (wj (fw Γ ad P) (xw Γ ad R) M) (f_to (wj (fw Γ ad P) (xw Γ ad (usR P R s i c m)) M)) f_no := by
  refine f_of hl (by decide) rfl (Nat.le_of_ble_eq_true rfl) (fun X9 C E hh hnm => ?_)
  generalize (f_s X9).heap = H, ([] : List Loc) = locs at hh ⊢
  have hrc := FI_rc hP
  have hn9 := lkn_le P R s i c (P 2 0 0 * P 3 0 0)
  have hX := XI_lkF hP hI s i c
  have i9 := hI.2.2.2.2.2.2.2.2.2.1 (slot s i c)
  refine r_aload_n C dX4_usePlateIfNeeded_0 rfl ?_
  refine r_iload_n C dX4_usePlateIfNeeded_1 rfl ?_
  refine r_iload_n C dX4_usePlateIfNeeded_2 rfl ?_
  refine r_iload_n C dX4_usePlateIfNeeded_3 rfl ?_
  refine r_callV C E hh (c_X4_lookUp E.2.1 Γ B0 ad P R M s i c hs hi hc hP hI) lk_X4_271 (tr := .inr (.inl (0, 0))) rfl rfl rfl rfl (Nat.le_of_ble_eq_true rfl) dX4_usePlateIfNeeded_4 ⟨by decide, by decide⟩ ⟨by omega, by omega⟩ (fun _ _ z9 => False.elim z9) (kk_to (fun H locs hs9 hh => ?_))
  have e3 : lkF P R s i c 3 0 0 = lkN P R s i c := rfl
  refine r_aload_n C dX4_usePlateIfNeeded_7 rfl ?_
  refine g_X4_39 C hh dX4_usePlateIfNeeded_8 ?_
  refine r_iload_n C dX4_usePlateIfNeeded_11 rfl ?_
  refine r_iload_n C dX4_usePlateIfNeeded_12 rfl ?_
  refine r_iload_n C dX4_usePlateIfNeeded_13 rfl ?_
  refine r_callS C E hh (c_X4_slotOf E.2.1 Γ B0 _ s i c) lk_X4_274 rfl rfl (Nat.le_of_ble_eq_true rfl) dX4_usePlateIfNeeded_14 ⟨by decide, by decide⟩ ⟨by omega, by omega⟩ (fun _ _ z9 => False.elim z9) (kk_is (fun H locs hs9 hh => ?_))
  rw [show (s * 2 + i) * 4 + c = slot s i c from rfl]
  have hsl : slot s i c < 128 := by unfold slot; omega
  by_cases h8 : R 8 (slot s i c) 0 = 0
  · refine al_rack_null C hh hsl h8 dX4_usePlateIfNeeded_17 ?_
    refine r_astore_null C dX4_usePlateIfNeeded_18 rfl rfl ?_
    refine r_aload_n C dX4_usePlateIfNeeded_20 rfl ?_
    refine g_X4_297 C hh dX4_usePlateIfNeeded_21 ?_
    rw [e3]
    have hend : f_W X9 H locs 0 0 44 [some (.ref (ad 1 0)), some (.int (nI s)), some (.int (nI i)), some (.int (nI c)), some (.int (nI m)), some .null] [] := r_vret C E hh dX4_usePlateIfNeeded_44 (by omega) (by omega) ⟨rfl, by unfold usR; rw [if_neg (fun z => z.2 h8)]⟩
    refine r_if_leN (tgt := 44) C dX4_usePlateIfNeeded_24 (by decide) (by unfold lkN; omega) (fun h24 => ?_) (fun h24 => ?_)
    · exact hend
    · refine r_aload_null C dX4_usePlateIfNeeded_27 rfl ?_
      refine r_ifnull_null (tgt := 44) C dX4_usePlateIfNeeded_29 (by decide) ?_
      exact hend
  refine al_rack C hh hsl h8 dX4_usePlateIfNeeded_17 ?_
  refine r_astore C dX4_usePlateIfNeeded_18 rfl rfl ?_
  refine r_aload_n C dX4_usePlateIfNeeded_20 rfl ?_
  refine g_X4_297 C hh dX4_usePlateIfNeeded_21 ?_
  rw [e3]
  refine r_if_leN (tgt := 44) C dX4_usePlateIfNeeded_24 (by decide) (by unfold lkN; omega) (fun h24 => ?_) (fun h24 => ?_)
  · exact r_vret C E hh dX4_usePlateIfNeeded_44 (by omega) (by omega) ⟨rfl, by unfold usR; by_cases hz : lkN P R s i c = 0 <;> first | omega | (simp [hz]; done) | (rw [if_pos ⟨hz, h8⟩]; rfl)⟩
  · refine r_aload C dX4_usePlateIfNeeded_27 rfl ?_
    refine r_ifnull C dX4_usePlateIfNeeded_29 ?_
    refine r_aload C dX4_usePlateIfNeeded_32 rfl ?_
    refine r_dup C dX4_usePlateIfNeeded_34 rfl ?_
    refine g_X4_281 C hh h8 dX4_usePlateIfNeeded_35 ?_
    refine r_iload C dX4_usePlateIfNeeded_38 rfl ?_
    refine r_iaddN C dX4_usePlateIfNeeded_40 ?_
    refine p_X4_281 C hh h8 dX4_usePlateIfNeeded_41 (fun H locs hh => ?_)
    exact r_vret C E hh dX4_usePlateIfNeeded_44 (by omega) (by omega) ⟨rfl, by unfold usR; by_cases hz : lkN P R s i c = 0 <;> first | omega | (simp [hz]; done) | (rw [if_pos ⟨hz, h8⟩]; rfl)⟩

def wrV (P R : fR) (s i c : Nat) : Int32 := if gd (lkF P R s i c) (slot s i c) = true then nI (R 18 (slot s i c) 0) else -1
set_option maxHeartbeats 4000000 in
set_option maxRecDepth 100000 in
theorem c_X4_wear {l : Launch} (hl : l.stackTraces = false) (Γ : fG) (B0 : Nat) (ad : Nat → Nat → Nat) (P R : fR) (M : Nat → fO) (x y z : Int32) (hP : FI P) (hI : XI R) : f_Met l yX4_wear cX4_wear 5 (some .int) 7 3 18 111 Γ B0 [.ref (ad 1 0), .int x, .int y, .int z] (wj (fw Γ ad P) (xw Γ ad R) M) (f_rI (fun r9 w9 => (rg x (shc P R) ∧ (rg y 2 ∧ rg z 4)) ∧ r9 = wrV P R (xN x) (xN y) (xN z) ∧ w9 = wj (fw Γ ad P) (xw Γ ad (lkF P R (xN x) (xN y) (xN z))) M)) (fun E9 w9 => ((E9 = "java/lang/IndexOutOfBoundsException" ∧ ¬ rg x (shc P R)) ∨ (E9 = "java/lang/IllegalArgumentException" ∧ rg x (shc P R) ∧ ¬ (rg y 2 ∧ rg z 4))) ∧ w9 = wj (fw Γ ad P) (xw Γ ad R) M) := by
  refine f_of hl (by decide) rfl (Nat.le_of_ble_eq_true rfl) (fun X9 C E hh hnm => ?_)
  generalize (f_s X9).heap = H, ([] : List Loc) = locs at hh ⊢
  have hs6 := FI_sh (R := R) hP hI.1
  have i1 := hI.1
  refine r_aload_n C dX4_wear_0 rfl ?_
  refine r_iload_n C dX4_wear_1 rfl ?_
  refine r_callV C E hh (c_X4_checkSheet E.2.1 Γ B0 ad P R M x hP.2.1 hI.1) lk_X4_164 (tr := .inr (.inl (0, 0))) rfl rfl rfl rfl (Nat.le_of_ble_eq_true rfl) dX4_wear_2 ⟨by decide, by decide⟩ ⟨by omega, by omega⟩ (fun _ _ z9 => ⟨Or.inl ⟨z9.1.1, z9.1.2⟩, z9.2⟩) (kk_rV (fun w9 H locs hs9 hp9 hh => ?_))
  obtain ⟨r1, rfl⟩ := hp9
  refine r_iload_n C dX4_wear_5 rfl ?_
  refine r_callS C E hh (c_X4_checkSide E.2.1 Γ B0 _ y) lk_X4_171 rfl rfl (Nat.le_of_ble_eq_true rfl) dX4_wear_6 ⟨by decide, by decide⟩ ⟨by omega, by omega⟩ (fun _ _ z9 => ⟨Or.inr ⟨z9.1.1, r1, fun q => z9.1.2 q.1⟩, z9.2⟩) (kk_rV (fun w9 H locs hs9 hp9 hh => ?_))
  obtain ⟨r2, rfl⟩ := hp9
  refine r_iload_n C dX4_wear_9 rfl ?_
  refine r_callS C E hh (c_X4_checkColor E.2.1 Γ B0 _ z) lk_X4_223 rfl rfl (Nat.le_of_ble_eq_true rfl) dX4_wear_10 ⟨by decide, by decide⟩ ⟨by omega, by omega⟩ (fun _ _ z9 => ⟨Or.inr ⟨z9.1.1, r1, fun q => z9.1.2 q.2⟩, z9.2⟩) (kk_rV (fun w9 H locs hs9 hp9 hh => ?_))
  obtain ⟨r3, rfl⟩ := hp9
  obtain ⟨s, hs, rfl⟩ := rg_of r1 (by omega)
  obtain ⟨i, hi, rfl⟩ := rg_of r2 (by omega)
  obtain ⟨c, hc, rfl⟩ := rg_of r3 (by omega)
  have hX := XI_lkF hP hI s i c
  have i9 := hI.2.2.2.2.2.2.2.2.2.1 (slot s i c)
  refine r_aload_n C dX4_wear_13 rfl ?_
  refine r_iload_n C dX4_wear_14 rfl ?_
  refine r_iload_n C dX4_wear_15 rfl ?_
  refine r_iload_n C dX4_wear_16 rfl ?_
  refine r_callV C E hh (c_X4_lookUp E.2.1 Γ B0 ad P R M s i c (by omega) hi hc hP hI) lk_X4_271 (tr := .inr (.inl (0, 0))) rfl rfl rfl rfl (Nat.le_of_ble_eq_true rfl) dX4_wear_17 ⟨by decide, by decide⟩ ⟨by omega, by omega⟩ (fun _ _ z9 => False.elim z9) (kk_to (fun H locs hs9 hh => ?_))
  refine r_aload_n C dX4_wear_20 rfl ?_
  refine g_X4_39 C hh dX4_wear_21 ?_
  refine r_iload_n C dX4_wear_24 rfl ?_
  refine r_iload_n C dX4_wear_25 rfl ?_
  refine r_iload_n C dX4_wear_26 rfl ?_
  refine r_callS C E hh (c_X4_slotOf E.2.1 Γ B0 _ s i c) lk_X4_274 rfl rfl (Nat.le_of_ble_eq_true rfl) dX4_wear_27 ⟨by decide, by decide⟩ ⟨by omega, by omega⟩ (fun _ _ z9 => False.elim z9) (kk_is (fun H locs hs9 hh => ?_))
  rw [show (s * 2 + i) * 4 + c = slot s i c from rfl]
  have hsl : slot s i c < 128 := by unfold slot; omega
  by_cases h8 : R 8 (slot s i c) 0 = 0
  · refine al_rack_null C hh hsl h8 dX4_wear_30 ?_
    refine r_astore_null C dX4_wear_31 rfl rfl ?_
    refine r_aload_n C dX4_wear_33 rfl ?_
    refine r_aload_null C dX4_wear_34 rfl ?_
    refine r_callV C E hh (c_X4_good_null E.2.1 Γ B0 ad (lkF P R s i c) _ M) lk_X4_277 (tr := .inr (.inl (0, 0))) rfl rfl rfl rfl (Nat.le_of_ble_eq_true rfl) dX4_wear_36 ⟨by decide, by decide⟩ ⟨by omega, by omega⟩ (fun _ _ z9 => False.elim z9) (kk_is (fun H locs hs9 hh => ?_))
    refine r_if_eqB (tgt := 50) C dX4_wear_39 (by decide) (fun h39 => ?_) (fun h39 => nomatch h39)
    refine r_iconst C (-1) dX4_wear_50 rfl ?_
    exact r_iret C E hh dX4_wear_51 (by omega) (by omega) ⟨_, rfl, ⟨r1, r2, r3⟩, by rw [xN_nI (by omega), xN_nI (by omega), xN_nI (by omega)]; simp [wrV, gd, show lkF P R s i c 8 (slot s i c) 0 = 0 from h8], by rw [xN_nI (by omega), xN_nI (by omega), xN_nI (by omega)]⟩
  refine al_rack C hh hsl h8 dX4_wear_30 ?_
  refine r_astore C dX4_wear_31 rfl rfl ?_
  refine r_aload_n C dX4_wear_33 rfl ?_
  refine r_aload C dX4_wear_34 rfl ?_
  refine r_callV C E hh (c_X4_good E.2.1 Γ B0 ad (lkF P R s i c) _ M (slot s i c) h8 hX) lk_X4_277 (tr := .inr (.inl (0, 0))) rfl rfl rfl rfl (Nat.le_of_ble_eq_true rfl) dX4_wear_36 ⟨by decide, by decide⟩ ⟨by omega, by omega⟩ (fun _ _ z9 => False.elim z9) (kk_is (fun H locs hs9 hh => ?_))
  refine r_if_eqB (tgt := 50) C dX4_wear_39 (by decide) (fun h39 => ?_) (fun h39 => ?_)
  · refine r_iconst C (-1) dX4_wear_50 rfl ?_
    exact r_iret C E hh dX4_wear_51 (by omega) (by omega) ⟨_, rfl, ⟨r1, r2, r3⟩, by rw [xN_nI (by omega), xN_nI (by omega), xN_nI (by omega)]; simp [wrV, gd, show ¬ lkF P R s i c 8 (slot s i c) 0 = 0 from h8, h39] <;> rfl, by rw [xN_nI (by omega), xN_nI (by omega), xN_nI (by omega)]⟩
  · refine r_aload C dX4_wear_42 rfl ?_
    refine g_X4_281 C hh h8 dX4_wear_44 ?_
    refine r_goto (tgt := 51) C dX4_wear_47 (by decide) ?_
    exact r_iret C E hh dX4_wear_51 (by omega) (by omega) ⟨_, rfl, ⟨r1, r2, r3⟩, by rw [xN_nI (by omega), xN_nI (by omega), xN_nI (by omega)]; simp [wrV, gd, show ¬ lkF P R s i c 8 (slot s i c) 0 = 0 from h8, h39] <;> rfl, by rw [xN_nI (by omega), xN_nI (by omega), xN_nI (by omega)]⟩

