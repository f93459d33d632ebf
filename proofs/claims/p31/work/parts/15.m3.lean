/-! ===== the class: queries ===== -/
def FI (P : fR) : Prop := 1 ≤ P 0 0 0 ∧ P 0 0 0 < 5 ∧ P 1 0 0 = 2 ^ P 0 0 0 ∧ P 2 0 0 * P 3 0 0 = 2 ^ P 0 0 0 ∧ (∀ i, P 4 i 0 < 4) ∧ (∀ i, P 6 i 0 < 32) ∧ (∀ i, P 7 i 0 < 32) ∧ (∀ i, P 8 i 0 < 32) ∧ (∀ i, P 9 i 0 < 32)
theorem pow4 {f : Nat} (h1 : 1 ≤ f) (h : f < 5) : 2 ≤ 2 ^ f ∧ 2 ^ f ≤ 16 ∧ 2 ^ (f + 1) = 2 * 2 ^ f ∧ 4 ≤ 2 ^ (f + 1) := by
  match f, h1, h with
  | 1, _, _ => exact ⟨by decide, by decide, by decide, by decide⟩
  | 2, _, _ => exact ⟨by decide, by decide, by decide, by decide⟩
  | 3, _, _ => exact ⟨by decide, by decide, by decide, by decide⟩
  | 4, _, _ => exact ⟨by decide, by decide, by decide, by decide⟩
  | n + 5, _, h => omega
theorem FI_pg {P : fR} (h : FI P) : 4 ≤ pgs P ∧ pgs P ≤ 32 ∧ pgs P = 2 * 2 ^ P 0 0 0 := by
  have h4 := pow4 h.1 h.2.1
  have h5 := pow5 h.2.1
  unfold pgs
  omega
theorem FI_sh {P R : fR} (h : FI P) (hn : R 0 0 0 ≤ 64) : shc P R ≤ 16 := by
  have h4 := FI_pg h
  show (R 0 0 0 + pgs P - 1) / pgs P ≤ 16
  rw [Nat.div_le_iff_le_mul (by omega)]
  omega
theorem mul_pos_of {a b n : Nat} (h : a * b = n) (hn : 0 < n) : 0 < a ∧ 0 < b := by
  constructor
  · rcases Nat.eq_zero_or_pos a with z | z
    · subst z; omega
    · exact z
  · rcases Nat.eq_zero_or_pos b with z | z
    · subst z; omega
    · exact z
theorem FI_rc {P : fR} (h : FI P) : 0 < P 2 0 0 ∧ P 2 0 0 ≤ 16 ∧ 0 < P 3 0 0 ∧ P 3 0 0 ≤ 16 ∧ P 2 0 0 * P 3 0 0 ≤ 16 := by
  have h4 := pow4 h.1 h.2.1
  have h5 := h.2.2.2.1
  obtain ⟨ha, hb⟩ := mul_pos_of h5 (by omega)
  have h6 : P 2 0 0 * 1 ≤ P 2 0 0 * P 3 0 0 := Nat.mul_le_mul_left _ hb
  have h7 : 1 * P 3 0 0 ≤ P 2 0 0 * P 3 0 0 := Nat.mul_le_mul_right _ ha
  omega
theorem leaf_lt {r c a b : Nat} (hr : r < a) (hc : c < b) : r * b + c < a * b := by
  have h1 : (r + 1) * b ≤ a * b := Nat.mul_le_mul_right b hr
  rw [Nat.succ_mul] at h1
  omega
def plO (P R : fR) (s o : Nat) : Int32 := if s * pgs P + o < R 0 0 0 then nI (s * pgs P + o) else -1
set_option maxHeartbeats 4000000 in
set_option maxRecDepth 100000 in
theorem c_X4_checkSheet {l : Launch} (hl : l.stackTraces = false) (Γ : fG) (B0 : Nat) (ad : Nat → Nat → Nat) (P R : fR) (M : Nat → fO) (x : Int32) (hP : P 0 0 0 < 5) (hn : R 0 0 0 ≤ 64) : f_Met l yX4_checkSheet cX4_checkSheet 2 none 6 1 6 90 Γ B0 [.ref (ad 1 0), .int x] (wj (fw Γ ad P) (xw Γ ad R) M) (f_rV (fun w9 => rg x (shc P R) ∧ w9 = wj (fw Γ ad P) (xw Γ ad R) M)) (fun E9 w9 => (E9 = "java/lang/IndexOutOfBoundsException" ∧ ¬ rg x (shc P R)) ∧ w9 = wj (fw Γ ad P) (xw Γ ad R) M) := by
  refine f_of hl (by decide) rfl (Nat.le_of_ble_eq_true rfl) (fun X9 C E hh hnm => ?_)
  generalize (f_s X9).heap = H, ([] : List Loc) = locs at hh ⊢
  refine r_iload_n C dX4_checkSheet_0 rfl ?_
  refine r_if_lt (tgt := 12) C dX4_checkSheet_1 (by decide) (fun h1 => ?_) (fun h1 => ?_)
  · exact r_throw C E hh th_IX (is := 174) (text := "no such sheet") (by decide) dX4_checkSheet_12 dX4_checkSheet_15 dX4_checkSheet_16 dX4_checkSheet_18 dX4_checkSheet_21 (by decide) (by decide) (Nat.le_of_ble_eq_true rfl) (by omega) (by omega) ⟨⟨rfl, by first | exact fun z => h9 z.2 | exact fun z => Int32.not_lt.mpr z.1 h1⟩, rfl⟩
  · refine r_iload_n C dX4_checkSheet_4 rfl ?_
    refine r_aload_n C dX4_checkSheet_5 rfl ?_
    refine r_callV C E hh (c_X4_sheetCount E.2.1 Γ B0 ad P R M hP hn) lk_X4_113 (tr := .inr (.inl (0, 0))) rfl rfl rfl rfl (Nat.le_of_ble_eq_true rfl) dX4_checkSheet_6 ⟨by decide, by decide⟩ ⟨by omega, by omega⟩ (fun _ _ z9 => False.elim z9) (kk_is (fun H locs hs9 hh => ?_))
    refine r_icmp_lt (tgt := 22) C dX4_checkSheet_9 (by decide) (fun h9 => ?_) (fun h9 => ?_)
    · exact r_vret C E hh dX4_checkSheet_22 (by omega) (by omega) ⟨rfl, ⟨Int32.not_lt.mp h1, h9⟩, rfl⟩
    · exact r_throw C E hh th_IX (is := 174) (text := "no such sheet") (by decide) dX4_checkSheet_12 dX4_checkSheet_15 dX4_checkSheet_16 dX4_checkSheet_18 dX4_checkSheet_21 (by decide) (by decide) (Nat.le_of_ble_eq_true rfl) (by omega) (by omega) ⟨⟨rfl, by first | exact fun z => h9 z.2 | exact fun z => Int32.not_lt.mpr z.1 h1⟩, rfl⟩

set_option maxHeartbeats 4000000 in
set_option maxRecDepth 100000 in
theorem c_X4_faceOfPage {l : Launch} (hl : l.stackTraces = false) (Γ : fG) (B0 : Nat) (ad : Nat → Nat → Nat) (P R : fR) (M : Nat → fO) (j : Nat) (hP : FI P) (hj : j < 64) : f_Met l yX4_faceOfPage cX4_faceOfPage 2 (some .int) 1 0 0 20 Γ B0 [.ref (ad 1 0), .int (nI (j))] (wj (fw Γ ad P) (xw Γ ad R) M) (f_is (nI (P 7 (j % pgs P) 0)) (wj (fw Γ ad P) (xw Γ ad R) M)) f_no := by
  refine f_of hl (by decide) rfl (Nat.le_of_ble_eq_true rfl) (fun X9 C E hh hnm => ?_)
  generalize (f_s X9).heap = H, ([] : List Loc) = locs at hh ⊢
  have hp := FI_pg hP
  have hm : j % pgs P < 32 := Nat.lt_of_lt_of_le (Nat.mod_lt _ (by omega)) hp.2.1
  have e5 : pgs P = 2 ^ (P 0 0 0 + 1) := rfl
  refine r_aload_n C dX4_faceOfPage_0 rfl ?_
  refine g_X4_18 C hh dX4_faceOfPage_1 ?_
  refine g_X4_161 C hh dX4_faceOfPage_4 ?_
  refine r_iload_n C dX4_faceOfPage_7 rfl ?_
  refine r_aload_n C dX4_faceOfPage_8 rfl ?_
  refine g_X4_18 C hh dX4_faceOfPage_9 ?_
  refine r_callV C E hh (c_X0_pagesOfSheet E.2.1 Γ B0 ad P _ M hP.2.1) lk_X4_155 (tr := .inl 0) rfl rfl rfl rfl (Nat.le_of_ble_eq_true rfl) dX4_faceOfPage_12 ⟨by decide, by decide⟩ ⟨by omega, by omega⟩ (fun _ _ z9 => False.elim z9) (kk_is (fun H locs hs9 hh => ?_))
  refine r_iconst C (nI 1) dX4_faceOfPage_15 rfl ?_
  refine r_isubN C dX4_faceOfPage_16 (by rw [← e5]; omega) ?_
  refine r_iandN C dX4_faceOfPage_17 ?_
  rw [Nat.and_two_pow_sub_one_eq_mod, ← e5]
  refine al_faceO C hh (by omega) dX4_faceOfPage_18 ?_
  exact r_iret C E hh dX4_faceOfPage_19 (by omega) (by omega) ⟨rfl, rfl⟩

set_option maxHeartbeats 4000000 in
set_option maxRecDepth 100000 in
theorem c_X4_placeOn {l : Launch} (hl : l.stackTraces = false) (Γ : fG) (B0 : Nat) (ad : Nat → Nat → Nat) (P R : fR) (M : Nat → fO) (s o : Nat) (hP : FI P) (hn : R 0 0 0 ≤ 64) (hs : s ≤ 16) (ho : o < 32) : f_Met l yX4_placeOn cX4_placeOn 4 (some .int) 1 0 0 20 Γ B0 [.ref (ad 1 0), .int (nI (s)), .int (nI (o))] (wj (fw Γ ad P) (xw Γ ad R) M) (f_is (plO P R s o) (wj (fw Γ ad P) (xw Γ ad R) M)) f_no := by
  refine f_of hl (by decide) rfl (Nat.le_of_ble_eq_true rfl) (fun X9 C E hh hnm => ?_)
  generalize (f_s X9).heap = H, ([] : List Loc) = locs at hh ⊢
  have hp := FI_pg hP
  have e5 : pgs P = 2 ^ (P 0 0 0 + 1) := rfl
  have e6 : s * pgs P ≤ 512 := Nat.le_trans (Nat.mul_le_mul hs hp.2.1) (by decide)
  refine r_iload_n C dX4_placeOn_0 rfl ?_
  refine r_aload_n C dX4_placeOn_1 rfl ?_
  refine g_X4_18 C hh dX4_placeOn_2 ?_
  refine r_callV C E hh (c_X0_shiftOfSheet E.2.1 Γ B0 ad P _ M) lk_X4_158 (tr := .inl 0) rfl rfl rfl rfl (Nat.le_of_ble_eq_true rfl) dX4_placeOn_5 ⟨by decide, by decide⟩ ⟨by omega, by omega⟩ (fun _ _ z9 => False.elim z9) (kk_is (fun H locs hs9 hh => ?_))
  refine r_ishlN C dX4_placeOn_8 (by have := hP.2.1; omega) (by rw [← e5]; omega) ?_
  rw [← e5]
  refine r_iload_n C dX4_placeOn_9 rfl ?_
  refine r_iaddN C dX4_placeOn_10 ?_
  refine r_istore_n C dX4_placeOn_11 rfl rfl ?_
  refine r_iload_n C dX4_placeOn_12 rfl ?_
  refine r_aload_n C dX4_placeOn_13 rfl ?_
  refine g_X4_47 C hh dX4_placeOn_14 ?_
  refine r_icmp_geN (tgt := 24) C dX4_placeOn_17 (by decide) (by omega) (by omega) (fun h17 => ?_) (fun h17 => ?_)
  · refine r_iconst C (-1) dX4_placeOn_24 rfl ?_
    exact r_iret C E hh dX4_placeOn_25 (by omega) (by omega) (ri2 (by unfold plO; first | rw [if_pos (by omega)] | rw [if_neg (by omega)]))
  · refine r_iload_n C dX4_placeOn_20 rfl ?_
    refine r_goto (tgt := 25) C dX4_placeOn_21 (by decide) ?_
    exact r_iret C E hh dX4_placeOn_25 (by omega) (by omega) (ri2 (by unfold plO; first | rw [if_pos (by omega)] | rw [if_neg (by omega)]))

set_option maxHeartbeats 4000000 in
set_option maxRecDepth 100000 in
theorem c_X4_checkLeafSide {l : Launch} (hl : l.stackTraces = false) (Γ : fG) (B0 : Nat) (ad : Nat → Nat → Nat) (P R : fR) (M : Nat → fO) (a b c d : Int32) (hP : FI P) (hn : R 0 0 0 ≤ 64) : f_Met l yX4_checkLeafSide cX4_checkLeafSide 5 none 7 2 12 111 Γ B0 [.ref (ad 1 0), .int a, .int b, .int c, .int d] (wj (fw Γ ad P) (xw Γ ad R) M) (f_rV (fun w9 => ((rg a (shc P R) ∧ rg c (P 2 0 0) ∧ rg d (P 3 0 0)) ∧ rg b 2) ∧ w9 = wj (fw Γ ad P) (xw Γ ad R) M)) (fun E9 w9 => ((E9 = "java/lang/IndexOutOfBoundsException" ∧ ¬ (rg a (shc P R) ∧ rg c (P 2 0 0) ∧ rg d (P 3 0 0))) ∨ (E9 = "java/lang/IllegalArgumentException" ∧ (rg a (shc P R) ∧ rg c (P 2 0 0) ∧ rg d (P 3 0 0)) ∧ ¬ rg b 2)) ∧ w9 = wj (fw Γ ad P) (xw Γ ad R) M) := by
  refine f_of hl (by decide) rfl (Nat.le_of_ble_eq_true rfl) (fun X9 C E hh hnm => ?_)
  generalize (f_s X9).heap = H, ([] : List Loc) = locs at hh ⊢
  have hrc := FI_rc hP
  refine r_aload_n C dX4_checkLeafSide_0 rfl ?_
  refine r_iload_n C dX4_checkLeafSide_1 rfl ?_
  refine r_callV C E hh (c_X4_checkSheet E.2.1 Γ B0 ad P R M a hP.2.1 hn) lk_X4_164 (tr := .inr (.inl (0, 0))) rfl rfl rfl rfl (Nat.le_of_ble_eq_true rfl) dX4_checkLeafSide_2 ⟨by decide, by decide⟩ ⟨by omega, by omega⟩ (fun _ _ z9 => ⟨Or.inl ⟨z9.1.1, fun q => z9.1.2 q.1⟩, z9.2⟩) (kk_rV (fun w9 H locs hs9 hp9 hh => ?_))
  obtain ⟨r1, rfl⟩ := hp9
  refine r_iload_n C dX4_checkLeafSide_5 rfl ?_
  refine r_if_lt (tgt := 20) C dX4_checkLeafSide_6 (by decide) (fun h6 => ?_) (fun h6 => ?_)
  · exact r_throw C E hh th_IX (is := 167) (text := "no such row") (by decide) dX4_checkLeafSide_20 dX4_checkLeafSide_23 dX4_checkLeafSide_24 dX4_checkLeafSide_26 dX4_checkLeafSide_29 (by decide) (by decide) (Nat.le_of_ble_eq_true rfl) (by omega) (by omega) ⟨Or.inl ⟨rfl, by first | exact fun z => h17 z.2.1.2 | exact fun z => Int32.not_lt.mpr z.2.1.1 h6⟩, rfl⟩
  · refine r_iload_n C dX4_checkLeafSide_9 rfl ?_
    refine r_aload_n C dX4_checkLeafSide_10 rfl ?_
    refine g_X4_18 C hh dX4_checkLeafSide_11 ?_
    refine g_X4_117 C hh dX4_checkLeafSide_14 ?_
    refine r_icmp_lt (tgt := 30) C dX4_checkLeafSide_17 (by decide) (fun h17 => ?_) (fun h17 => ?_)
    · refine r_iload C dX4_checkLeafSide_30 rfl ?_
      refine r_if_lt (tgt := 47) C dX4_checkLeafSide_32 (by decide) (fun h32 => ?_) (fun h32 => ?_)
      · exact r_throw C E hh th_IX (is := 169) (text := "no such column") (by decide) dX4_checkLeafSide_47 dX4_checkLeafSide_50 dX4_checkLeafSide_51 dX4_checkLeafSide_53 dX4_checkLeafSide_56 (by decide) (by decide) (Nat.le_of_ble_eq_true rfl) (by omega) (by omega) ⟨Or.inl ⟨rfl, by first | exact fun z => h44 z.2.2.2 | exact fun z => Int32.not_lt.mpr z.2.2.1 h32⟩, rfl⟩
      · refine r_iload C dX4_checkLeafSide_35 rfl ?_
        refine r_aload_n C dX4_checkLeafSide_37 rfl ?_
        refine g_X4_18 C hh dX4_checkLeafSide_38 ?_
        refine g_X4_120 C hh dX4_checkLeafSide_41 ?_
        refine r_icmp_lt (tgt := 57) C dX4_checkLeafSide_44 (by decide) (fun h44 => ?_) (fun h44 => ?_)
        · refine r_iload_n C dX4_checkLeafSide_57 rfl ?_
          refine r_callS C E hh (c_X4_checkSide E.2.1 Γ B0 _ b) lk_X4_171 rfl rfl (Nat.le_of_ble_eq_true rfl) dX4_checkLeafSide_58 ⟨by decide, by decide⟩ ⟨by omega, by omega⟩ (fun _ _ z9 => ⟨Or.inr ⟨z9.1.1, ⟨r1, ⟨Int32.not_lt.mp h6, h17⟩, ⟨Int32.not_lt.mp h32, h44⟩⟩, z9.1.2⟩, z9.2⟩) (kk_rV (fun w9 H locs hs9 hp9 hh => ?_))
          obtain ⟨r4, rfl⟩ := hp9
          exact r_vret C E hh dX4_checkLeafSide_61 (by omega) (by omega) ⟨rfl, ⟨⟨r1, ⟨Int32.not_lt.mp h6, h17⟩, ⟨Int32.not_lt.mp h32, h44⟩⟩, r4⟩, rfl⟩
        · exact r_throw C E hh th_IX (is := 169) (text := "no such column") (by decide) dX4_checkLeafSide_47 dX4_checkLeafSide_50 dX4_checkLeafSide_51 dX4_checkLeafSide_53 dX4_checkLeafSide_56 (by decide) (by decide) (Nat.le_of_ble_eq_true rfl) (by omega) (by omega) ⟨Or.inl ⟨rfl, by first | exact fun z => h44 z.2.2.2 | exact fun z => Int32.not_lt.mpr z.2.2.1 h32⟩, rfl⟩
    · exact r_throw C E hh th_IX (is := 167) (text := "no such row") (by decide) dX4_checkLeafSide_20 dX4_checkLeafSide_23 dX4_checkLeafSide_24 dX4_checkLeafSide_26 dX4_checkLeafSide_29 (by decide) (by decide) (Nat.le_of_ble_eq_true rfl) (by omega) (by omega) ⟨Or.inl ⟨rfl, by first | exact fun z => h17 z.2.1.2 | exact fun z => Int32.not_lt.mpr z.2.1.1 h6⟩, rfl⟩

set_option maxHeartbeats 4000000 in
set_option maxRecDepth 100000 in
theorem c_X4_checkReady {l : Launch} (hl : l.stackTraces = false) (Γ : fG) (B0 : Nat) (ad : Nat → Nat → Nat) (P R : fR) (M : Nat → fO) (s : Nat) (hs : s ≤ 16) (hP : P 0 0 0 < 5) (hI : XI R) : f_Met l yX4_checkReady cX4_checkReady 2 none 6 1 6 109 Γ B0 [.ref (ad 1 0), .int (nI (s))] (wj (fw Γ ad P) (xw Γ ad R) M) (f_rV (fun w9 => afo P R s = true ∧ w9 = wj (fw Γ ad P) (xw Γ ad R) M)) (fun E9 w9 => (E9 = "java/lang/IllegalStateException" ∧ afo P R s = false) ∧ w9 = wj (fw Γ ad P) (xw Γ ad R) M) := by
  refine f_of hl (by decide) rfl (Nat.le_of_ble_eq_true rfl) (fun X9 C E hh hnm => ?_)
  generalize (f_s X9).heap = H, ([] : List Loc) = locs at hh ⊢
  refine r_aload_n C dX4_checkReady_0 rfl ?_
  refine r_iload_n C dX4_checkReady_1 rfl ?_
  refine r_callV C E hh (c_X4_allFinishedOn E.2.1 Γ B0 ad P R M s hs hP hI) lk_X4_218 (tr := .inr (.inl (0, 0))) rfl rfl rfl rfl (Nat.le_of_ble_eq_true rfl) dX4_checkReady_2 ⟨by decide, by decide⟩ ⟨by omega, by omega⟩ (fun _ _ z9 => False.elim z9) (kk_is (fun H locs hs9 hh => ?_))
  refine r_if_neB (tgt := 19) C dX4_checkReady_5 (by decide) (fun h5 => ?_) (fun h5 => ?_)
  · exact r_vret C E hh dX4_checkReady_19 (by omega) (by omega) ⟨rfl, h5, rfl⟩
  · exact r_throwW C E hh th_IS (is := 295) (text := "the sheet is not ready") (by decide) dX4_checkReady_8 dX4_checkReady_11 dX4_checkReady_12 dX4_checkReady_15 dX4_checkReady_18 (by decide) (by decide) (Nat.le_of_ble_eq_true rfl) (by omega) (by omega) ⟨⟨rfl, h5⟩, rfl⟩

set_option maxHeartbeats 4000000 in
set_option maxRecDepth 100000 in
theorem c_X4_leafOf {l : Launch} (hl : l.stackTraces = false) (Γ : fG) (B0 : Nat) (ad : Nat → Nat → Nat) (P R : fR) (M : Nat → fO) (x : Int32) (hP : FI P) (hn : R 0 0 0 ≤ 64) : f_Met l yX4_leafOf cX4_leafOf 3 (some .int) 7 1 6 111 Γ B0 [.ref (ad 1 0), .int x] (wj (fw Γ ad P) (xw Γ ad R) M) (f_rI (fun r9 w9 => rg x (R 0 0 0) ∧ r9 = nI (P 7 (xN x % pgs P) 0 % 2 * 16 + P 7 (xN x % pgs P) 0 / 2) ∧ w9 = wj (fw Γ ad P) (xw Γ ad R) M)) (fun E9 w9 => (E9 = "java/lang/IndexOutOfBoundsException" ∧ ¬ rg x (R 0 0 0)) ∧ w9 = wj (fw Γ ad P) (xw Γ ad R) M) := by
  refine f_of hl (by decide) rfl (Nat.le_of_ble_eq_true rfl) (fun X9 C E hh hnm => ?_)
  generalize (f_s X9).heap = H, ([] : List Loc) = locs at hh ⊢
  have h7 := hP.2.2.2.2.2.2.1
  refine r_aload_n C dX4_leafOf_0 rfl ?_
  refine r_iload_n C dX4_leafOf_1 rfl ?_
  refine r_callV C E hh (c_X4_checkPlace E.2.1 Γ B0 ad R _ M x) lk_X4_72 (tr := .inr (.inl (0, 0))) rfl rfl rfl rfl (Nat.le_of_ble_eq_true rfl) dX4_leafOf_2 ⟨by decide, by decide⟩ ⟨by omega, by omega⟩ (fun _ _ z9 => z9) (kk_rV (fun w9 H locs hs9 hp9 hh => ?_))
  obtain ⟨r1, rfl⟩ := hp9
  obtain ⟨j, hj, rfl⟩ := rg_of r1 (by omega)
  refine r_aload_n C dX4_leafOf_5 rfl ?_
  refine r_iload_n C dX4_leafOf_6 rfl ?_
  refine r_callV C E hh (c_X4_faceOfPage E.2.1 Γ B0 ad P R M j hP (by omega)) lk_X4_142 (tr := .inr (.inl (0, 0))) rfl rfl rfl rfl (Nat.le_of_ble_eq_true rfl) dX4_leafOf_7 ⟨by decide, by decide⟩ ⟨by omega, by omega⟩ (fun _ _ z9 => False.elim z9) (kk_is (fun H locs hs9 hh => ?_))
  refine r_istore_n C dX4_leafOf_10 rfl rfl ?_
  refine r_iload_n C dX4_leafOf_11 rfl ?_
  refine r_callS C E hh (c_X4_sideOf E.2.1 Γ B0 _ _) lk_X4_146 rfl rfl (Nat.le_of_ble_eq_true rfl) dX4_leafOf_12 ⟨by decide, by decide⟩ ⟨by omega, by omega⟩ (fun _ _ z9 => False.elim z9) (kk_is (fun H locs hs9 hh => ?_))
  refine r_bipush C (nI 16) dX4_leafOf_15 rfl ?_
  refine r_imulN C dX4_leafOf_17 ?_
  refine r_iload_n C dX4_leafOf_18 rfl ?_
  refine r_callS C E hh (c_X4_leafUnder E.2.1 Γ B0 _ _ (h7 _)) lk_X4_149 rfl rfl (Nat.le_of_ble_eq_true rfl) dX4_leafOf_19 ⟨by decide, by decide⟩ ⟨by omega, by omega⟩ (fun _ _ z9 => False.elim z9) (kk_is (fun H locs hs9 hh => ?_))
  refine r_iaddN C dX4_leafOf_22 ?_
  exact r_iret C E hh dX4_leafOf_23 (by omega) (by omega) ⟨_, rfl, r1, by rw [xN_nI (by omega)], rfl⟩

set_option maxHeartbeats 4000000 in
set_option maxRecDepth 100000 in
theorem c_X4_isTurned {l : Launch} (hl : l.stackTraces = false) (Γ : fG) (B0 : Nat) (ad : Nat → Nat → Nat) (P R : fR) (M : Nat → fO) (x : Int32) (hP : FI P) (hn : R 0 0 0 ≤ 64) : f_Met l yX4_isTurned cX4_isTurned 2 (some .boolean) 7 1 6 111 Γ B0 [.ref (ad 1 0), .int x] (wj (fw Γ ad P) (xw Γ ad R) M) (f_rI (fun r9 w9 => rg x (R 0 0 0) ∧ r9 = bI (zB (P 5 (P 7 (xN x % pgs P) 0 / 2) 0)) ∧ w9 = wj (fw Γ ad P) (xw Γ ad R) M)) (fun E9 w9 => (E9 = "java/lang/IndexOutOfBoundsException" ∧ ¬ rg x (R 0 0 0)) ∧ w9 = wj (fw Γ ad P) (xw Γ ad R) M) := by
  refine f_of hl (by decide) rfl (Nat.le_of_ble_eq_true rfl) (fun X9 C E hh hnm => ?_)
  generalize (f_s X9).heap = H, ([] : List Loc) = locs at hh ⊢
  have h7 := hP.2.2.2.2.2.2.1
  refine r_aload_n C dX4_isTurned_0 rfl ?_
  refine r_iload_n C dX4_isTurned_1 rfl ?_
  refine r_callV C E hh (c_X4_checkPlace E.2.1 Γ B0 ad R _ M x) lk_X4_72 (tr := .inr (.inl (0, 0))) rfl rfl rfl rfl (Nat.le_of_ble_eq_true rfl) dX4_isTurned_2 ⟨by decide, by decide⟩ ⟨by omega, by omega⟩ (fun _ _ z9 => z9) (kk_rV (fun w9 H locs hs9 hp9 hh => ?_))
  obtain ⟨r1, rfl⟩ := hp9
  obtain ⟨j, hj, rfl⟩ := rg_of r1 (by omega)
  refine r_aload_n C dX4_isTurned_5 rfl ?_
  refine g_X4_18 C hh dX4_isTurned_6 ?_
  refine g_X4_152 C hh dX4_isTurned_9 ?_
  refine r_aload_n C dX4_isTurned_12 rfl ?_
  refine r_iload_n C dX4_isTurned_13 rfl ?_
  refine r_callV C E hh (c_X4_faceOfPage E.2.1 Γ B0 ad P R M j hP (by omega)) lk_X4_142 (tr := .inr (.inl (0, 0))) rfl rfl rfl rfl (Nat.le_of_ble_eq_true rfl) dX4_isTurned_14 ⟨by decide, by decide⟩ ⟨by omega, by omega⟩ (fun _ _ z9 => False.elim z9) (kk_is (fun H locs hs9 hh => ?_))
  refine r_callS C E hh (c_X4_leafUnder E.2.1 Γ B0 _ _ (h7 _)) lk_X4_149 rfl rfl (Nat.le_of_ble_eq_true rfl) dX4_isTurned_17 ⟨by decide, by decide⟩ ⟨by omega, by omega⟩ (fun _ _ z9 => False.elim z9) (kk_is (fun H locs hs9 hh => ?_))
  have h8 := h7 (j % pgs P)
  refine al_turned C hh (by omega) dX4_isTurned_20 ?_
  exact r_zret C E hh dX4_isTurned_21 (by omega) (by omega) ⟨_, rfl, r1, by rw [xN_nI (by omega)], rfl⟩

set_option maxHeartbeats 4000000 in
set_option maxRecDepth 100000 in
theorem c_X4_pageAt {l : Launch} (hl : l.stackTraces = false) (Γ : fG) (B0 : Nat) (ad : Nat → Nat → Nat) (P R : fR) (M : Nat → fO) (a b c d : Int32) (hP : FI P) (hn : R 0 0 0 ≤ 64) : f_Met l yX4_pageAt cX4_pageAt 6 (some .int) 8 2 12 135 Γ B0 [.ref (ad 1 0), .int a, .int b, .int c, .int d] (wj (fw Γ ad P) (xw Γ ad R) M) (f_rI (fun r9 w9 => ((rg a (shc P R) ∧ rg c (P 2 0 0) ∧ rg d (P 3 0 0)) ∧ rg b 2) ∧ r9 = plO P R (xN a) (P 6 ((xN c * P 3 0 0 + xN d) * 2 + xN b) 0) ∧ w9 = wj (fw Γ ad P) (xw Γ ad R) M)) (fun E9 w9 => ((E9 = "java/lang/IndexOutOfBoundsException" ∧ ¬ (rg a (shc P R) ∧ rg c (P 2 0 0) ∧ rg d (P 3 0 0))) ∨ (E9 = "java/lang/IllegalArgumentException" ∧ (rg a (shc P R) ∧ rg c (P 2 0 0) ∧ rg d (P 3 0 0)) ∧ ¬ rg b 2)) ∧ w9 = wj (fw Γ ad P) (xw Γ ad R) M) := by
  refine f_of hl (by decide) rfl (Nat.le_of_ble_eq_true rfl) (fun X9 C E hh hnm => ?_)
  generalize (f_s X9).heap = H, ([] : List Loc) = locs at hh ⊢
  have hrc := FI_rc hP
  have hs6 := FI_sh (R := R) hP hn
  have h6 := hP.2.2.2.2.2.1
  refine r_aload_n C dX4_pageAt_0 rfl ?_
  refine r_iload_n C dX4_pageAt_1 rfl ?_
  refine r_iload_n C dX4_pageAt_2 rfl ?_
  refine r_iload_n C dX4_pageAt_3 rfl ?_
  refine r_iload C dX4_pageAt_4 rfl ?_
  refine r_callV C E hh (c_X4_checkLeafSide E.2.1 Γ B0 ad P R M a b c d hP hn) lk_X4_123 (tr := .inr (.inl (0, 0))) rfl rfl rfl rfl (Nat.le_of_ble_eq_true rfl) dX4_pageAt_6 ⟨by decide, by decide⟩ ⟨by omega, by omega⟩ (fun _ _ z9 => z9) (kk_rV (fun w9 H locs hs9 hp9 hh => ?_))
  obtain ⟨r1, rfl⟩ := hp9
  obtain ⟨ja, hja, rfl⟩ := rg_of r1.1.1 (by omega)
  obtain ⟨jb, hjb, rfl⟩ := rg_of r1.2 (by omega)
  obtain ⟨jc, hjc, rfl⟩ := rg_of r1.1.2.1 (by omega)
  obtain ⟨jd, hjd, rfl⟩ := rg_of r1.1.2.2 (by omega)
  have hl := leaf_lt hjc hjd
  refine r_iload_n C dX4_pageAt_9 rfl ?_
  refine r_aload_n C dX4_pageAt_10 rfl ?_
  refine g_X4_18 C hh dX4_pageAt_11 ?_
  refine g_X4_120 C hh dX4_pageAt_14 ?_
  refine r_imulN C dX4_pageAt_17 ?_
  refine r_iload C dX4_pageAt_18 rfl ?_
  refine r_iaddN C dX4_pageAt_20 ?_
  refine r_istore C dX4_pageAt_21 rfl rfl ?_
  refine r_aload_n C dX4_pageAt_23 rfl ?_
  refine r_iload_n C dX4_pageAt_24 rfl ?_
  refine r_aload_n C dX4_pageAt_25 rfl ?_
  refine g_X4_18 C hh dX4_pageAt_26 ?_
  refine g_X4_127 C hh dX4_pageAt_29 ?_
  refine r_iload C dX4_pageAt_32 rfl ?_
  refine r_iload_n C dX4_pageAt_34 rfl ?_
  refine r_callS C E hh (c_X4_faceOf E.2.1 Γ B0 _ _ _) lk_X4_131 rfl rfl (Nat.le_of_ble_eq_true rfl) dX4_pageAt_35 ⟨by decide, by decide⟩ ⟨by omega, by omega⟩ (fun _ _ z9 => False.elim z9) (kk_is (fun H locs hs9 hh => ?_))
  refine al_offF C hh (by omega) dX4_pageAt_38 ?_
  refine r_callV C E hh (c_X4_placeOn E.2.1 Γ B0 ad P R M ja _ hP hn (by omega) (h6 _)) lk_X4_135 (tr := .inr (.inl (0, 0))) rfl rfl rfl rfl (Nat.le_of_ble_eq_true rfl) dX4_pageAt_39 ⟨by decide, by decide⟩ ⟨by omega, by omega⟩ (fun _ _ z9 => False.elim z9) (kk_is (fun H locs hs9 hh => ?_))
  exact r_iret C E hh dX4_pageAt_42 (by omega) (by omega) ⟨_, rfl, r1, by rw [xN_nI (by omega), xN_nI (by omega), xN_nI (by omega), xN_nI (by omega)], rfl⟩

set_option maxHeartbeats 4000000 in
set_option maxRecDepth 100000 in
theorem c_X4_mayUse {l : Launch} (hl : l.stackTraces = false) (Γ : fG) (B0 : Nat) (ad : Nat → Nat → Nat) (R : fR) (F : Nat → fO) (M : Nat → fO) (x : Int32) (hI : XI R) : f_Met l yX4_mayUse cX4_mayUse 2 (some .boolean) 7 1 6 110 Γ B0 [.ref (ad 1 0), .int x] (wj F (xw Γ ad R) M) (f_rI (fun r9 w9 => rg x 8 ∧ r9 = bI (us R (xN x)) ∧ w9 = wj F (xw Γ ad R) M)) (fun E9 w9 => (E9 = "java/lang/IllegalArgumentException" ∧ ¬ rg x 8) ∧ w9 = wj F (xw Γ ad R) M) := by
  refine f_of hl (by decide) rfl (Nat.le_of_ble_eq_true rfl) (fun X9 C E hh hnm => ?_)
  generalize (f_s X9).heap = H, ([] : List Loc) = locs at hh ⊢
  refine r_iload_n C dX4_mayUse_0 rfl ?_
  refine r_callS C E hh (c_X4_checkFont E.2.1 Γ B0 _ x) lk_X4_85 rfl rfl (Nat.le_of_ble_eq_true rfl) dX4_mayUse_1 ⟨by decide, by decide⟩ ⟨by omega, by omega⟩ (fun _ _ z9 => z9) (kk_rV (fun w9 H locs hs9 hp9 hh => ?_))
  obtain ⟨r1, rfl⟩ := hp9
  obtain ⟨j, hj, rfl⟩ := rg_of r1 (by omega)
  refine r_aload_n C dX4_mayUse_4 rfl ?_
  refine r_iload_n C dX4_mayUse_5 rfl ?_
  refine r_callV C E hh (c_X4_usable E.2.1 Γ B0 ad R F M j (by omega) hI) lk_X4_185 (tr := .inr (.inl (0, 0))) rfl rfl rfl rfl (Nat.le_of_ble_eq_true rfl) dX4_mayUse_6 ⟨by decide, by decide⟩ ⟨by omega, by omega⟩ (fun _ _ z9 => False.elim z9) (kk_is (fun H locs hs9 hh => ?_))
  exact r_zret C E hh dX4_mayUse_9 (by omega) (by omega) ⟨_, rfl, r1, by rw [xN_nI (by omega)], rfl⟩

def prf (R : fR) (q c : Nat) : Int32 := if tb (R 14 q 0) c = true then nI (R 16 q c) else -1
set_option maxHeartbeats 4000000 in
set_option maxRecDepth 100000 in
theorem c_X4_proof {l : Launch} (hl : l.stackTraces = false) (Γ : fG) (B0 : Nat) (ad : Nat → Nat → Nat) (R : fR) (F : Nat → fO) (M : Nat → fO) (x y : Int32) (hI : XI R) : f_Met l yX4_proof cX4_proof 4 (some .int) 7 2 12 111 Γ B0 [.ref (ad 1 0), .int x, .int y] (wj F (xw Γ ad R) M) (f_rI (fun r9 w9 => (rg x (R 0 0 0) ∧ rg y 4) ∧ r9 = prf R (R 6 (xN x) 0 - 1) (xN y) ∧ w9 = wj F (xw Γ ad R) M)) (fun E9 w9 => ((E9 = "java/lang/IndexOutOfBoundsException" ∧ ¬ rg x (R 0 0 0)) ∨ (E9 = "java/lang/IllegalArgumentException" ∧ rg x (R 0 0 0) ∧ ¬ rg y 4)) ∧ w9 = wj F (xw Γ ad R) M) := by
  refine f_of hl (by decide) rfl (Nat.le_of_ble_eq_true rfl) (fun X9 C E hh hnm => ?_)
  generalize (f_s X9).heap = H, ([] : List Loc) = locs at hh ⊢
  obtain ⟨i1, i2, -, -, -, -, i7, i8, -⟩ := id hI
  have i9 := i7
  refine r_aload_n C dX4_proof_0 rfl ?_
  refine r_iload_n C dX4_proof_1 rfl ?_
  refine r_callV C E hh (c_X4_checkPlace E.2.1 Γ B0 ad R F M x) lk_X4_72 (tr := .inr (.inl (0, 0))) rfl rfl rfl rfl (Nat.le_of_ble_eq_true rfl) dX4_proof_2 ⟨by decide, by decide⟩ ⟨by omega, by omega⟩ (fun _ _ z9 => ⟨Or.inl ⟨z9.1.1, z9.1.2⟩, z9.2⟩) (kk_rV (fun w9 H locs hs9 hp9 hh => ?_))
  obtain ⟨r1, rfl⟩ := hp9
  obtain ⟨j, hj, rfl⟩ := rg_of r1 (by omega)
  obtain ⟨q, hv, hq⟩ := i2 j hj
  refine r_iload_n C dX4_proof_5 rfl ?_
  refine r_callS C E hh (c_X4_checkColor E.2.1 Γ B0 _ y) lk_X4_223 rfl rfl (Nat.le_of_ble_eq_true rfl) dX4_proof_6 ⟨by decide, by decide⟩ ⟨by omega, by omega⟩ (fun _ _ z9 => ⟨Or.inr ⟨z9.1.1, r1, z9.1.2⟩, z9.2⟩) (kk_rV (fun w9 H locs hs9 hp9 hh => ?_))
  obtain ⟨r2, rfl⟩ := hp9
  obtain ⟨c, hc, rfl⟩ := rg_of r2 (by omega)
  refine r_aload_n C dX4_proof_9 rfl ?_
  refine g_X4_11 C hh dX4_proof_10 ?_
  refine r_iload_n C dX4_proof_13 rfl ?_
  refine al_order C hh (by omega) hv dX4_proof_14 ?_
  refine r_astore_n C dX4_proof_15 rfl rfl ?_
  refine r_aload_n C dX4_proof_16 rfl ?_
  refine r_iload_n C dX4_proof_17 rfl ?_
  refine r_callV C E hh (c_X2_usesColor E.2.1 Γ B0 ad R F M q c hq hc (i7 q).2.1) lk_X4_226 (tr := .inr (.inl (14, _))) (xw_page (Γ := Γ) (by omega)) rfl rfl rfl (Nat.le_of_ble_eq_true rfl) dX4_proof_18 ⟨by decide, by decide⟩ ⟨by omega, by omega⟩ (fun _ _ z9 => False.elim z9) (kk_is (fun H locs hs9 hh => ?_))
  refine r_if_eqB (tgt := 33) C dX4_proof_21 (by decide) (fun h21 => ?_) (fun h21 => ?_)
  · refine r_iconst C (-1) dX4_proof_33 rfl ?_
    exact r_iret C E hh dX4_proof_34 (by omega) (by omega) ⟨_, rfl, ⟨r1, r2⟩, by rw [xN_nI (by omega), xN_nI (by omega), hv]; simp [prf, h21], rfl⟩
  · refine r_aload_n C dX4_proof_24 rfl ?_
    refine g_X4_237 C hh hq dX4_proof_25 ?_
    refine r_iload_n C dX4_proof_28 rfl ?_
    refine al_proofs C hh hq (by omega) dX4_proof_29 ?_
    refine r_goto (tgt := 34) C dX4_proof_30 (by decide) ?_
    exact r_iret C E hh dX4_proof_34 (by omega) (by omega) ⟨_, rfl, ⟨r1, r2⟩, by rw [xN_nI (by omega), xN_nI (by omega), hv]; simp [prf, h21], rfl⟩

set_option maxHeartbeats 4000000 in
set_option maxRecDepth 100000 in
theorem c_X4_edition {l : Launch} (hl : l.stackTraces = false) (Γ : fG) (B0 : Nat) (ad : Nat → Nat → Nat) (R : fR) (F : Nat → fO) (M : Nat → fO) (x : Int32) (hI : XI R) : f_Met l yX4_edition cX4_edition 2 (some .int) 7 1 6 111 Γ B0 [.ref (ad 1 0), .int x] (wj F (xw Γ ad R) M) (f_rI (fun r9 w9 => rg x (R 0 0 0) ∧ r9 = nI (R 15 (R 6 (xN x) 0 - 1) 0) ∧ w9 = wj F (xw Γ ad R) M)) (fun E9 w9 => (E9 = "java/lang/IndexOutOfBoundsException" ∧ ¬ rg x (R 0 0 0)) ∧ w9 = wj F (xw Γ ad R) M) := by
  refine f_of hl (by decide) rfl (Nat.le_of_ble_eq_true rfl) (fun X9 C E hh hnm => ?_)
  generalize (f_s X9).heap = H, ([] : List Loc) = locs at hh ⊢
  obtain ⟨i1, i2, -⟩ := id hI
  refine r_aload_n C dX4_edition_0 rfl ?_
  refine r_iload_n C dX4_edition_1 rfl ?_
  refine r_callV C E hh (c_X4_checkPlace E.2.1 Γ B0 ad R F M x) lk_X4_72 (tr := .inr (.inl (0, 0))) rfl rfl rfl rfl (Nat.le_of_ble_eq_true rfl) dX4_edition_2 ⟨by decide, by decide⟩ ⟨by omega, by omega⟩ (fun _ _ z9 => z9) (kk_rV (fun w9 H locs hs9 hp9 hh => ?_))
  obtain ⟨r1, rfl⟩ := hp9
  obtain ⟨j, hj, rfl⟩ := rg_of r1 (by omega)
  obtain ⟨q, hv, hq⟩ := i2 j hj
  refine r_aload_n C dX4_edition_5 rfl ?_
  refine g_X4_11 C hh dX4_edition_6 ?_
  refine r_iload_n C dX4_edition_9 rfl ?_
  refine al_order C hh (by omega) hv dX4_edition_10 ?_
  refine g_X4_82 C hh hq dX4_edition_11 ?_
  exact r_iret C E hh dX4_edition_14 (by omega) (by omega) ⟨_, rfl, r1, by rw [xN_nI (by omega), hv]; rfl, rfl⟩

set_option maxHeartbeats 4000000 in
set_option maxRecDepth 100000 in
theorem c_X4_isReady {l : Launch} (hl : l.stackTraces = false) (Γ : fG) (B0 : Nat) (ad : Nat → Nat → Nat) (P R : fR) (M : Nat → fO) (x : Int32) (hP : FI P) (hI : XI R) : f_Met l yX4_isReady cX4_isReady 2 (some .boolean) 7 1 6 111 Γ B0 [.ref (ad 1 0), .int x] (wj (fw Γ ad P) (xw Γ ad R) M) (f_rI (fun r9 w9 => rg x (shc P R) ∧ r9 = bI (afo P R (xN x)) ∧ w9 = wj (fw Γ ad P) (xw Γ ad R) M)) (fun E9 w9 => (E9 = "java/lang/IndexOutOfBoundsException" ∧ ¬ rg x (shc P R)) ∧ w9 = wj (fw Γ ad P) (xw Γ ad R) M) := by
  refine f_of hl (by decide) rfl (Nat.le_of_ble_eq_true rfl) (fun X9 C E hh hnm => ?_)
  generalize (f_s X9).heap = H, ([] : List Loc) = locs at hh ⊢
  have hs6 := FI_sh (R := R) hP hI.1
  refine r_aload_n C dX4_isReady_0 rfl ?_
  refine r_iload_n C dX4_isReady_1 rfl ?_
  refine r_callV C E hh (c_X4_checkSheet E.2.1 Γ B0 ad P R M x hP.2.1 hI.1) lk_X4_164 (tr := .inr (.inl (0, 0))) rfl rfl rfl rfl (Nat.le_of_ble_eq_true rfl) dX4_isReady_2 ⟨by decide, by decide⟩ ⟨by omega, by omega⟩ (fun _ _ z9 => z9) (kk_rV (fun w9 H locs hs9 hp9 hh => ?_))
  obtain ⟨r1, rfl⟩ := hp9
  obtain ⟨j, hj, rfl⟩ := rg_of r1 (by omega)
  refine r_aload_n C dX4_isReady_5 rfl ?_
  refine r_iload_n C dX4_isReady_6 rfl ?_
  refine r_callV C E hh (c_X4_allFinishedOn E.2.1 Γ B0 ad P R M j (by omega) hP.2.1 hI) lk_X4_218 (tr := .inr (.inl (0, 0))) rfl rfl rfl rfl (Nat.le_of_ble_eq_true rfl) dX4_isReady_7 ⟨by decide, by decide⟩ ⟨by omega, by omega⟩ (fun _ _ z9 => False.elim z9) (kk_is (fun H locs hs9 hh => ?_))
  exact r_zret C E hh dX4_isReady_10 (by omega) (by omega) ⟨_, rfl, r1, by rw [xN_nI (by omega)], rfl⟩

