/-! ===== the model: setFolds, the constructor ===== -/
theorem lyM_ne (M : fR) (many folds : Nat) {c : Nat} (h3 : c ≠ 3) (h4 : c ≠ 4) (h5 : c ≠ 5) (h16 : c ≠ 16) (h17 : c ≠ 17) (h18 : c ≠ 18) (h19 : c ≠ 19) : lyM M many folds c = M c := by
  unfold lyM
  rw [lyY_ne _ h17 h18 h19, lyX_ne _ _ _ h4 h5 h16]
  unfold ly1
  rw [rs_ne _ _ h5, rs_ne _ _ h4, rs_ne _ _ h3]
theorem lyM_345 (M : fR) (many folds : Nat) : lyM M many folds 3 0 0 = many ∧ lyM M many folds 4 0 0 = rowU (kq folds) many ∧ lyM M many folds 5 0 0 = colU (kq folds) many ∧ ∀ i, lyM M many folds 16 i 0 = if i < many then kq folds i else M 16 i 0 := by
  unfold lyM
  rw [lyY_ne _ (show 3 ≠ 17 by decide) (by decide) (by decide), lyY_ne _ (show 4 ≠ 17 by decide) (by decide) (by decide), lyY_ne _ (show 5 ≠ 17 by decide) (by decide) (by decide), lyY_ne _ (show 16 ≠ 17 by decide) (by decide) (by decide)]
  obtain ⟨a, b⟩ := lyX_rc M many folds many
  exact ⟨congrFun (congrFun (lyX_ne M many folds (by decide) (by decide) (by decide) many) 0) 0, a, b, lyX_16 M many folds many⟩
theorem lyM_lv (M : fR) {many folds : Nat} (h1 : 1 ≤ many) (h5 : many < 5) (hfo : folds < 2 ^ (2 * many)) : lyM M many folds 4 0 0 * lyM M many folds 5 0 0 = 2 ^ many ∧ 2 ≤ 2 ^ many ∧ 2 ^ many ≤ 16 := by
  obtain ⟨-, a, b, -⟩ := lyM_345 M many folds
  rw [a, b]
  have hp := pow4 h1 h5
  exact ⟨(rc_all many h5 folds hfo).1, by omega⟩
def okF (x y : Int32) : Bool := inn x (nI 1) (nI 4) && inn y (nI 0) (nI (2 ^ (2 * xN x) - 1))
def sfM (M : fR) (x y : Int32) : fR := if okF x y = true then lyM (rs M 8 (k0 0)) (xN x) (xN y) else rs M 8 (k0 1)
def sfV (M : fR) (x y : Int32) : Int32 := if okF x y = true then nI (shM (lyM (rs M 8 (k0 0)) (xN x) (xN y))) else 0
theorem inn_of {y : Int32} {n : Nat} (h : inn y (nI 0) (nI (n - 1)) = true) (h1 : 1 ≤ n) (hn : n < 2 ^ 31) : ∃ j : Nat, j < n ∧ y = nI j := by
  have h9 := of_decide_eq_true (show decide (nI 0 ≤ y ∧ y ≤ nI (n - 1)) = true from h)
  obtain ⟨j, hj, e⟩ := rg_of (x := y) (n := n - 1 + 1) ⟨h9.1, (rg_le (by omega)).mpr h9.2⟩ (by omega)
  exact ⟨j, by omega, e⟩
set_option maxHeartbeats 4000000 in
set_option maxRecDepth 100000 in
theorem c_X5_setFolds_i {l : Launch} (hl : l.stackTraces = false) (Γ : fG) (B0 : Nat) (ad : Nat → Nat → Nat) (M : fR) (F : Nat → fO) (X : Nat × Nat → fO) (jm : Nat) (y : Int32) (hm : 1 ≤ jm ∧ jm < 5) (hI : MI M) : f_Met l yX5_setFolds cX5_setFolds 4 (some .int) 2 0 0 59 Γ B0 [.ref (ad 30 0), .int (nI (jm)), .int y] (wj F X (mw Γ ad M)) (f_is (sfV M (nI jm) y) (wj F X (mw Γ ad (sfM M (nI jm) y)))) f_no := by
  refine f_of hl (by decide) rfl (Nat.le_of_ble_eq_true rfl) (fun X9 C E hh hnm => ?_)
  generalize (f_s X9).heap = H, ([] : List Loc) = locs at hh ⊢
  have i2 := hI.1
  have i16 := hI.2.2.2.2.2.2.2.2.2.2.2.2.2.2
  have e1 : xN (nI jm) = jm := xN_nI (by omega)
  have hp1 : 1 ≤ 2 ^ (2 * jm) := Nat.pow_pos (by decide)
  have hp2 : 2 ^ (2 * jm) ≤ 256 := Nat.pow_le_pow_right (n := 2) (by decide) (by omega : 2 * jm ≤ 8)
  have hr : inn (nI jm) (nI 1) (nI 4) = true := decide_eq_true ⟨Int32.not_lt.mp fun z => absurd ((nI_ltI (by omega) (by decide)).mp z) (by omega), Int32.not_lt.mp fun z => absurd ((nI_ltI (by decide) (by omega)).mp z) (by omega)⟩
  have eo : okF (nI jm) y = inn y (nI 0) (nI (2 ^ (2 * jm) - 1)) := by unfold okF; rw [hr, e1]; rfl
  refine r_iload_n C dX5_setFolds_0 rfl ?_
  refine r_iconst C (nI 1) dX5_setFolds_1 rfl ?_
  refine r_iconst C (nI 4) dX5_setFolds_2 rfl ?_
  refine r_callS C E hh (c_X5_in E.2.1 Γ B0 _ (nI jm) (nI 1) (nI 4)) lk_X5_73 rfl rfl (Nat.le_of_ble_eq_true rfl) dX5_setFolds_3 ⟨by decide, by decide⟩ ⟨by omega, by omega⟩ (fun _ _ z9 => False.elim z9) (kk_is (fun H locs hs9 hh => ?_))
  rw [hr]
  refine r_istore_n C dX5_setFolds_6 rfl rfl ?_
  refine r_aload_n C dX5_setFolds_7 rfl ?_
  refine r_iload_n C dX5_setFolds_8 rfl ?_
  refine r_if_eqB (tgt := 39) C dX5_setFolds_9 (by decide) (fun h9 => ?_) (fun h9 => ?_)
  · cases h9
  · refine r_iload_n C dX5_setFolds_12 rfl ?_
    refine r_iconst C (nI 0) dX5_setFolds_13 rfl ?_
    refine r_iconst C (nI 1) dX5_setFolds_14 rfl ?_
    refine r_iconst C (nI 2) dX5_setFolds_15 rfl ?_
    refine r_iload_n C dX5_setFolds_16 rfl ?_
    refine r_if_eqB (tgt := 24) C dX5_setFolds_17 (by decide) (fun h17 => ?_) (fun h17 => ?_)
    · cases h17
    · refine r_iload_n C dX5_setFolds_20 rfl ?_
      refine r_goto (tgt := 25) C dX5_setFolds_21 (by decide) ?_
      refine r_imulN C dX5_setFolds_25 ?_
      refine r_ishlN C dX5_setFolds_26 (by omega) (by rw [Nat.one_mul]; omega) ?_
      rw [Nat.one_mul]
      refine r_iconst C (nI 1) dX5_setFolds_27 rfl ?_
      refine r_isubN C dX5_setFolds_28 (by omega) ?_
      refine r_callS C E hh (c_X5_in E.2.1 Γ B0 _ y (nI 0) (nI (2 ^ (2 * jm) - 1))) lk_X5_73 rfl rfl (Nat.le_of_ble_eq_true rfl) dX5_setFolds_29 ⟨by decide, by decide⟩ ⟨by omega, by omega⟩ (fun _ _ z9 => False.elim z9) (kk_is (fun H locs hs9 hh => ?_))
      refine r_if_eqB (tgt := 39) C dX5_setFolds_32 (by decide) (fun h32 => ?_) (fun h32 => ?_)
      · have hv : okF (nI jm) y = false := by rw [eo, h32]
        refine r_iconst C (bI (okF (nI jm) y)) dX5_setFolds_39 (by rw [hv]; rfl) ?_
        refine r_iconst C (bI true) dX5_setFolds_40 rfl ?_
        refine r_iconst C (bI true) dX5_setFolds_41 rfl ?_
        refine r_callV C E hh (c_X5_goes E.2.1 Γ B0 ad M F X (okF (nI jm) y) true true) lk_X5_101 (tr := .inr (.inr 0)) rfl rfl rfl rfl (Nat.le_of_ble_eq_true rfl) dX5_setFolds_42 ⟨by decide, by decide⟩ ⟨by omega, by omega⟩ (fun _ _ z9 => False.elim z9) (kk_is (fun H locs hs9 hh => ?_))
        rw [Bool.and_true, Bool.and_true]
        refine r_if_neB (tgt := 50) C dX5_setFolds_45 (by decide) (fun h45 => ?_) (fun h45 => ?_)
        · rw [h45, show thr true true true = 0 from rfl] at hh
          obtain ⟨jf, hjf, ef⟩ := inn_of (by rw [← eo]; exact h45) hp1 (by omega)
          have e2 : xN y = jf := by rw [ef]; exact xN_nI (by omega)
          have epm : sfM M (nI jm) y = lyM (rs M 8 (k0 0)) jm jf := by unfold sfM; rw [if_pos h45, e1, e2]
          have epv : sfV M (nI jm) y = nI (shM (lyM (rs M 8 (k0 0)) jm jf)) := by unfold sfV; rw [if_pos h45, e1, e2]
          rw [ef]
          have hlv := lyM_lv (rs M 8 (k0 0)) hm.1 hm.2 hjf
          have h2m : lyM (rs M 8 (k0 0)) jm jf 2 0 0 = M 2 0 0 := by rw [lyM_ne _ _ _ (by decide) (by decide) (by decide) (by decide) (by decide) (by decide) (by decide)]; rfl
          refine r_aload_n C dX5_setFolds_50 rfl ?_
          refine r_iload_n C dX5_setFolds_51 rfl ?_
          refine r_iload_n C dX5_setFolds_52 rfl ?_
          refine r_callV C E hh (c_X5_lays E.2.1 Γ B0 ad (rs M 8 (k0 0)) F X jm jf hm.1 hm.2 hjf i16) lk_X5_62 (tr := .inr (.inr 0)) rfl rfl rfl rfl (Nat.le_of_ble_eq_true rfl) dX5_setFolds_53 ⟨by decide, by decide⟩ ⟨by omega, by omega⟩ (fun _ _ z9 => False.elim z9) (kk_to (fun H locs hs9 hh => ?_))
          refine r_aload_n C dX5_setFolds_56 rfl ?_
          refine r_callV C E hh (c_X5_sheetsOf E.2.1 Γ B0 ad (lyM (rs M 8 (k0 0)) jm jf) F X (by omega) (by omega)) lk_X5_129 (tr := .inr (.inr 0)) rfl rfl rfl rfl (Nat.le_of_ble_eq_true rfl) dX5_setFolds_57 ⟨by decide, by decide⟩ ⟨by omega, by omega⟩ (fun _ _ z9 => False.elim z9) (kk_is (fun H locs hs9 hh => ?_))
          exact r_iret C E hh dX5_setFolds_60 (by omega) (by omega) (by rw [epm, epv]; exact ⟨rfl, rfl⟩)
        · refine r_iconst C (nI 0) dX5_setFolds_48 rfl ?_
          exact r_iret C E hh dX5_setFolds_49 (by omega) (by omega) (by rw [show sfM M (nI jm) y = rs M 8 (k0 (thr (okF (nI jm) y) true true)) by rw [h45]; exact if_neg (by rw [h45]; decide), show sfV M (nI jm) y = 0 from if_neg (by rw [h45]; decide)]; exact ⟨rfl, rfl⟩)
      · have hv : okF (nI jm) y = true := by rw [eo, h32]
        refine r_iconst C (bI (okF (nI jm) y)) dX5_setFolds_35 (by rw [hv]; rfl) ?_
        refine r_goto (tgt := 40) C dX5_setFolds_36 (by decide) ?_
        refine r_iconst C (bI true) dX5_setFolds_40 rfl ?_
        refine r_iconst C (bI true) dX5_setFolds_41 rfl ?_
        refine r_callV C E hh (c_X5_goes E.2.1 Γ B0 ad M F X (okF (nI jm) y) true true) lk_X5_101 (tr := .inr (.inr 0)) rfl rfl rfl rfl (Nat.le_of_ble_eq_true rfl) dX5_setFolds_42 ⟨by decide, by decide⟩ ⟨by omega, by omega⟩ (fun _ _ z9 => False.elim z9) (kk_is (fun H locs hs9 hh => ?_))
        rw [Bool.and_true, Bool.and_true]
        refine r_if_neB (tgt := 50) C dX5_setFolds_45 (by decide) (fun h45 => ?_) (fun h45 => ?_)
        · rw [h45, show thr true true true = 0 from rfl] at hh
          obtain ⟨jf, hjf, ef⟩ := inn_of (by rw [← eo]; exact h45) hp1 (by omega)
          have e2 : xN y = jf := by rw [ef]; exact xN_nI (by omega)
          have epm : sfM M (nI jm) y = lyM (rs M 8 (k0 0)) jm jf := by unfold sfM; rw [if_pos h45, e1, e2]
          have epv : sfV M (nI jm) y = nI (shM (lyM (rs M 8 (k0 0)) jm jf)) := by unfold sfV; rw [if_pos h45, e1, e2]
          rw [ef]
          have hlv := lyM_lv (rs M 8 (k0 0)) hm.1 hm.2 hjf
          have h2m : lyM (rs M 8 (k0 0)) jm jf 2 0 0 = M 2 0 0 := by rw [lyM_ne _ _ _ (by decide) (by decide) (by decide) (by decide) (by decide) (by decide) (by decide)]; rfl
          refine r_aload_n C dX5_setFolds_50 rfl ?_
          refine r_iload_n C dX5_setFolds_51 rfl ?_
          refine r_iload_n C dX5_setFolds_52 rfl ?_
          refine r_callV C E hh (c_X5_lays E.2.1 Γ B0 ad (rs M 8 (k0 0)) F X jm jf hm.1 hm.2 hjf i16) lk_X5_62 (tr := .inr (.inr 0)) rfl rfl rfl rfl (Nat.le_of_ble_eq_true rfl) dX5_setFolds_53 ⟨by decide, by decide⟩ ⟨by omega, by omega⟩ (fun _ _ z9 => False.elim z9) (kk_to (fun H locs hs9 hh => ?_))
          refine r_aload_n C dX5_setFolds_56 rfl ?_
          refine r_callV C E hh (c_X5_sheetsOf E.2.1 Γ B0 ad (lyM (rs M 8 (k0 0)) jm jf) F X (by omega) (by omega)) lk_X5_129 (tr := .inr (.inr 0)) rfl rfl rfl rfl (Nat.le_of_ble_eq_true rfl) dX5_setFolds_57 ⟨by decide, by decide⟩ ⟨by omega, by omega⟩ (fun _ _ z9 => False.elim z9) (kk_is (fun H locs hs9 hh => ?_))
          exact r_iret C E hh dX5_setFolds_60 (by omega) (by omega) (by rw [epm, epv]; exact ⟨rfl, rfl⟩)
        · refine r_iconst C (nI 0) dX5_setFolds_48 rfl ?_
          exact r_iret C E hh dX5_setFolds_49 (by omega) (by omega) (by rw [show sfM M (nI jm) y = rs M 8 (k0 (thr (okF (nI jm) y) true true)) by rw [h45]; exact if_neg (by rw [h45]; decide), show sfV M (nI jm) y = 0 from if_neg (by rw [h45]; decide)]; exact ⟨rfl, rfl⟩)

set_option maxHeartbeats 4000000 in
set_option maxRecDepth 100000 in
theorem c_X5_setFolds_o {l : Launch} (hl : l.stackTraces = false) (Γ : fG) (B0 : Nat) (ad : Nat → Nat → Nat) (M : fR) (F : Nat → fO) (X : Nat × Nat → fO) (x y : Int32) (hx : inn x (nI 1) (nI 4) = false) : f_Met l yX5_setFolds cX5_setFolds 4 (some .int) 1 0 0 23 Γ B0 [.ref (ad 30 0), .int x, .int y] (wj F X (mw Γ ad M)) (f_is (sfV M x y) (wj F X (mw Γ ad (sfM M x y)))) f_no := by
  refine f_of hl (by decide) rfl (Nat.le_of_ble_eq_true rfl) (fun X9 C E hh hnm => ?_)
  generalize (f_s X9).heap = H, ([] : List Loc) = locs at hh ⊢
  have hv : okF x y = false := by unfold okF; rw [hx]; rfl
  refine r_iload_n C dX5_setFolds_0 rfl ?_
  refine r_iconst C (nI 1) dX5_setFolds_1 rfl ?_
  refine r_iconst C (nI 4) dX5_setFolds_2 rfl ?_
  refine r_callS C E hh (c_X5_in E.2.1 Γ B0 _ x (nI 1) (nI 4)) lk_X5_73 rfl rfl (Nat.le_of_ble_eq_true rfl) dX5_setFolds_3 ⟨by decide, by decide⟩ ⟨by omega, by omega⟩ (fun _ _ z9 => False.elim z9) (kk_is (fun H locs hs9 hh => ?_))
  rw [hx]
  refine r_istore_n C dX5_setFolds_6 rfl rfl ?_
  refine r_aload_n C dX5_setFolds_7 rfl ?_
  refine r_iload_n C dX5_setFolds_8 rfl ?_
  refine r_if_eqB (tgt := 39) C dX5_setFolds_9 (by decide) (fun h9 => ?_) (fun h9 => ?_)
  · refine r_iconst C (bI (okF x y)) dX5_setFolds_39 (by rw [hv]; rfl) ?_
    refine r_iconst C (bI true) dX5_setFolds_40 rfl ?_
    refine r_iconst C (bI true) dX5_setFolds_41 rfl ?_
    refine r_callV C E hh (c_X5_goes E.2.1 Γ B0 ad M F X (okF x y) true true) lk_X5_101 (tr := .inr (.inr 0)) rfl rfl rfl rfl (Nat.le_of_ble_eq_true rfl) dX5_setFolds_42 ⟨by decide, by decide⟩ ⟨by omega, by omega⟩ (fun _ _ z9 => False.elim z9) (kk_is (fun H locs hs9 hh => ?_))
    rw [Bool.and_true, Bool.and_true]
    refine r_if_neB (tgt := 50) C dX5_setFolds_45 (by decide) (fun h45 => ?_) (fun h45 => ?_)
    · exfalso
      rw [hv] at h45
      cases h45
    · refine r_iconst C (nI 0) dX5_setFolds_48 rfl ?_
      exact r_iret C E hh dX5_setFolds_49 (by omega) (by omega) (by rw [show sfM M x y = rs M 8 (k0 (thr (okF x y) true true)) by rw [hv]; exact if_neg (by rw [hv]; decide), show sfV M x y = 0 from if_neg (by rw [hv]; decide)]; exact ⟨rfl, rfl⟩)
  · cases h9

def ma (Γ : fG) : Nat → va_E
  | 1 => .inl (Γ.2 0, 64, .inl (fun _ => 0))
  | 2 => .inl (Γ.2 0, 100, .inl (fun _ => 0))
  | 3 => .inl (Γ.2 0, 100, .inl (fun _ => 0))
  | 4 => .inl (Γ.2 0, 100, .inl (fun _ => 0))
  | 5 => .inl (Γ.2 0, 400, .inl (fun _ => 0))
  | 6 => .inl (Γ.2 0, 8, .inl (fun _ => 0))
  | 7 => .inl (Γ.2 0, 8, .inl (fun _ => 0))
  | 8 => .inl (Γ.2 0, 4, .inl (fun _ => 0))
  | 9 => .inl (Γ.2 0, 16, .inl (fun _ => 0))
  | 10 => .inl (Γ.2 0, 16, .inl (fun _ => 0))
  | 11 => .inl (Γ.2 0, 16, .inl (fun _ => 0))
  | 12 => .inl (Γ.2 0, 128, .inl (fun _ => 0))
  | 13 => .inl (Γ.2 0, 128, .inl (fun _ => 0))
  | 14 => .inl (Γ.2 0, 2048, .inl (fun _ => 0))
  | 15 => .inl (Γ.2 0, 16, .inl (fun _ => 0))
  | 16 => .inl (Γ.2 1, 16, .inl (fun _ => 0))
  | _ => .inl (Γ.2 1, 8, .inl (fun _ => 0))
def mi (Γ : fG) (b : Nat → Nat) (k : Nat) : Nat → fO := fun t => if t = 0 then some (b 0, .inr (5, [.int 0, .int 0, .int 0, rf b k 1, rf b k 2, rf b k 3, rf b k 4, rf b k 5, rf b k 6, rf b k 7, .int 0, rf b k 8, .int 0, .int 0, rf b k 9, rf b k 10, rf b k 11, rf b k 12, rf b k 13, rf b k 14, rf b k 15, .int 0, .int 0, rf b k 16, rf b k 17, .int 0])) else if t ≤ k then some (b t, ma Γ t) else none
theorem mi_0 (Γ : fG) {b : Nat → Nat} {c : Nat} (k : Nat) (h : b 0 = c) : mi Γ b k 0 = some (c, .inr (5, [.int 0, .int 0, .int 0, rf b k 1, rf b k 2, rf b k 3, rf b k 4, rf b k 5, rf b k 6, rf b k 7, .int 0, rf b k 8, .int 0, .int 0, rf b k 9, rf b k 10, rf b k 11, rf b k 12, rf b k 13, rf b k 14, rf b k 15, .int 0, .int 0, rf b k 16, rf b k 17, .int 0])) := by subst h; rfl
theorem mi_ne (Γ : fG) (b : Nat → Nat) (k a : Nat) : ∀ t, t ≠ 0 → t ≠ k + 1 → mi Γ (upb b (k + 1) a) (k + 1) t = mi Γ b k t := by
  intro t h0 h1
  unfold mi
  rw [if_neg h0, if_neg h0, show upb b (k + 1) a t = b t from if_neg h1]
  by_cases h : t ≤ k
  · rw [if_pos h, if_pos (by omega)]
  · rw [if_neg h, if_neg (by omega)]
theorem m_step {F : Nat → fO} {X : Nat × Nat → fO} {M M' : Nat → fO} {k a : Nat} {q : Nat × va_E} {e e0 : va_E} (hk : k ≠ 0) (h0 : M 0 = some (a, e0)) (h1 : M' 0 = some (a, e)) (h2 : M' k = some q) (h3 : ∀ t, t ≠ 0 → t ≠ k → M' t = M t) : f_set (f_add (wj F X M) (.inr (.inr k)) q) (.inr (.inr 0)) e = wj F X M' := by
  have n1 : (Sum.inr (Sum.inr 0) : fT) ≠ Sum.inr (Sum.inr k) := fun z => hk (Sum.inr.inj (Sum.inr.inj z)).symm
  refine f_set_eq (a := a) (e0 := e0) ((f_add_ne n1).trans h0) h1 (fun t' ht => ?_)
  match t' with
  | .inl z => rfl
  | .inr (.inl z) => rfl
  | .inr (.inr z) =>
    by_cases hz : z = k
    · subst hz; rw [f_add_self]; exact h2
    · rw [f_add_ne (fun q => hz (Sum.inr.inj (Sum.inr.inj q)))]
      exact h3 z (fun q => ht (by rw [q])) hz
def m1P : fR := fun c _ _ => if c = 14 ∨ c = 15 then 1 else 0
theorem mi_mw (Γ : fG) (ad : Nat → Nat → Nat) (b : Nat → Nat) (h : ∀ j, ad 30 j = b j) : mi Γ b 17 = mw Γ ad m1P := by
  have e : b = ad 30 := by funext j; exact (h j).symm
  subst e
  funext t
  by_cases h7 : t ≤ 17
  · have h8 : t = 0 ∨ t = 1 ∨ t = 2 ∨ t = 3 ∨ t = 4 ∨ t = 5 ∨ t = 6 ∨ t = 7 ∨ t = 8 ∨ t = 9 ∨ t = 10 ∨ t = 11 ∨ t = 12 ∨ t = 13 ∨ t = 14 ∨ t = 15 ∨ t = 16 ∨ t = 17 := by omega
    rcases h8 with rfl | rfl | rfl | rfl | rfl | rfl | rfl | rfl | rfl | rfl | rfl | rfl | rfl | rfl | rfl | rfl | rfl | rfl <;> rfl
  · rw [show mi Γ (ad 30) 17 t = none by unfold mi; rw [if_neg (by omega), if_neg h7]]
    unfold mw
    split <;> first | rfl | (exfalso; omega)
def fiT (x : Nat) : Nat → Nat → Nat := fun i _ => if i < x then 0 else 1
theorem fiT_s (x : Nat) : u1 (fiT x) x 0 = fiT (x + 1) := by
  funext i j
  unfold u1 fiT
  by_cases h : i = x
  · rw [if_pos h, if_pos (by omega)]
  · rw [if_neg h]
    by_cases h2 : i < x
    · rw [if_pos h2, if_pos (by omega)]
    · rw [if_neg h2, if_neg (by omega)]
def m2P (x : Nat) : fR := rs (rs m1P 14 (fiT x)) 15 (fiT x)
theorem m2P_0 : m2P 0 = m1P := by
  have e : fiT 0 = fun _ _ => 1 := by funext i j; exact if_neg (Nat.not_lt_zero i)
  unfold m2P
  rw [e, show (fun _ _ => 1 : Nat → Nat → Nat) = m1P 14 from rfl, rs_id, show m1P 14 = m1P 15 from rfl, rs_id]
theorem m2P_s (x : Nat) : rs (rs (m2P x) 14 (u1 (m2P x 14) x 0)) 15 (u1 (m2P x 15) x 0) = m2P (x + 1) := by
  rw [show m2P x 14 = fiT x from rfl, show m2P x 15 = fiT x from rfl, fiT_s]
  unfold m2P
  rw [rs_com _ (show 15 ≠ 14 by decide), rs_rs, rs_rs]
set_option maxHeartbeats 4000000 in
set_option maxRecDepth 100000 in
theorem c_X5_init {l : Launch} (hl : l.stackTraces = false) (Γ : fG) (B0 : Nat) (b0 : Nat → Nat) (F : Nat → fO) (X : Nat × Nat → fO) : f_Met l yX5_init cX5_init 2 none 2 17 3176 59 Γ B0 [.ref (b0 0)] (wj F X (mi Γ b0 0)) (f_rV (fun w9 => ∃ b : Nat → Nat, b 0 = b0 0 ∧ w9 = wj F X (mw Γ (fun _ j => b j) (lyM (m2P 8) 1 0)))) f_no := by
  refine f_of hl (by decide) rfl (Nat.le_of_ble_eq_true rfl) (fun X9 C E hh hnm => ?_)
  generalize (f_s X9).heap = H, ([] : List Loc) = locs at hh ⊢
  refine r_aload_n C dX5_init_0 rfl ?_
  refine r_objInit C oi_X5_1 (by decide) (by decide) (Nat.le_of_ble_eq_true rfl) dX5_init_1 ?_
  refine r_aload_n C dX5_init_4 rfl ?_
  refine r_bipush C (nI 64) dX5_init_5 rfl ?_
  refine r_newa (.inr (.inr 1)) C hh (rfl) 0 rfl rfl (fun _ z9 => by cases z9) ac_int (64, .inl (fun _ => 0)) (fun _ => rfl) (by decide) (by decide) (by omega) (by omega) dX5_init_7 (fun H1 hz9 hh => ?_)
  generalize H.size = a1 at hh ⊢
  refine r_putF C hh (t := .inr (.inr 0)) ((f_add_ne (by decide)).trans (mi_0 Γ 0 rfl)) rfl hinX5 tyX5 tyX5_ok nmX5 3 (by decide) fl_X5_7 rfl hnm.1 rfl (tyX5_ok 3 (by decide)) rfl rfl (Nat.le_of_ble_eq_true rfl) dX5_init_9 (fun H locs hh => ?_)
  replace hh := (congrArg (fun w9 => f_HS Γ B0 w9 X9 H locs) (m_step (M' := mi Γ (upb b0 1 a1) 1) (by decide) rfl rfl rfl (mi_ne Γ b0 0 a1))).mp hh
  obtain ⟨b1, hb1⟩ : ∃ z, z = upb b0 1 a1 := ⟨_, rfl⟩
  rw [← hb1] at hh
  have hy1 : b1 0 = b0 0 := by rw [hb1]; exact rfl
  refine r_aload_n C dX5_init_12 rfl ?_
  refine r_bipush C (nI 100) dX5_init_13 rfl ?_
  refine r_newa (.inr (.inr 2)) C hh (rfl) 0 rfl rfl (fun _ z9 => by cases z9) ac_int (100, .inl (fun _ => 0)) (fun _ => rfl) (by decide) (by decide) (by omega) (by omega) dX5_init_15 (fun H1 hz9 hh => ?_)
  generalize H.size = a2 at hh ⊢
  refine r_putF C hh (t := .inr (.inr 0)) ((f_add_ne (by decide)).trans (mi_0 Γ 1 hy1)) rfl hinX5 tyX5 tyX5_ok nmX5 4 (by decide) fl_X5_13 rfl hnm.1 rfl (tyX5_ok 4 (by decide)) rfl rfl (Nat.le_of_ble_eq_true rfl) dX5_init_17 (fun H locs hh => ?_)
  replace hh := (congrArg (fun w9 => f_HS Γ B0 w9 X9 H locs) (m_step (M' := mi Γ (upb b1 2 a2) 2) (by decide) rfl rfl rfl (mi_ne Γ b1 1 a2))).mp hh
  obtain ⟨b2, hb2⟩ : ∃ z, z = upb b1 2 a2 := ⟨_, rfl⟩
  rw [← hb2] at hh
  have hy2 : b2 0 = b0 0 := by rw [hb2]; exact hy1
  refine r_aload_n C dX5_init_20 rfl ?_
  refine r_bipush C (nI 100) dX5_init_21 rfl ?_
  refine r_newa (.inr (.inr 3)) C hh (rfl) 0 rfl rfl (fun _ z9 => by cases z9) ac_int (100, .inl (fun _ => 0)) (fun _ => rfl) (by decide) (by decide) (by omega) (by omega) dX5_init_23 (fun H1 hz9 hh => ?_)
  generalize H.size = a3 at hh ⊢
  refine r_putF C hh (t := .inr (.inr 0)) ((f_add_ne (by decide)).trans (mi_0 Γ 2 hy2)) rfl hinX5 tyX5 tyX5_ok nmX5 5 (by decide) fl_X5_16 rfl hnm.1 rfl (tyX5_ok 5 (by decide)) rfl rfl (Nat.le_of_ble_eq_true rfl) dX5_init_25 (fun H locs hh => ?_)
  replace hh := (congrArg (fun w9 => f_HS Γ B0 w9 X9 H locs) (m_step (M' := mi Γ (upb b2 3 a3) 3) (by decide) rfl rfl rfl (mi_ne Γ b2 2 a3))).mp hh
  obtain ⟨b3, hb3⟩ : ∃ z, z = upb b2 3 a3 := ⟨_, rfl⟩
  rw [← hb3] at hh
  have hy3 : b3 0 = b0 0 := by rw [hb3]; exact hy2
  refine r_aload_n C dX5_init_28 rfl ?_
  refine r_bipush C (nI 100) dX5_init_29 rfl ?_
  refine r_newa (.inr (.inr 4)) C hh (rfl) 0 rfl rfl (fun _ z9 => by cases z9) ac_int (100, .inl (fun _ => 0)) (fun _ => rfl) (by decide) (by decide) (by omega) (by omega) dX5_init_31 (fun H1 hz9 hh => ?_)
  generalize H.size = a4 at hh ⊢
  refine r_putF C hh (t := .inr (.inr 0)) ((f_add_ne (by decide)).trans (mi_0 Γ 3 hy3)) rfl hinX5 tyX5 tyX5_ok nmX5 6 (by decide) fl_X5_19 rfl hnm.1 rfl (tyX5_ok 6 (by decide)) rfl rfl (Nat.le_of_ble_eq_true rfl) dX5_init_33 (fun H locs hh => ?_)
  replace hh := (congrArg (fun w9 => f_HS Γ B0 w9 X9 H locs) (m_step (M' := mi Γ (upb b3 4 a4) 4) (by decide) rfl rfl rfl (mi_ne Γ b3 3 a4))).mp hh
  obtain ⟨b4, hb4⟩ : ∃ z, z = upb b3 4 a4 := ⟨_, rfl⟩
  rw [← hb4] at hh
  have hy4 : b4 0 = b0 0 := by rw [hb4]; exact hy3
  refine r_aload_n C dX5_init_36 rfl ?_
  refine r_sipush C (nI 400) dX5_init_37 rfl ?_
  refine r_newa (.inr (.inr 5)) C hh (rfl) 0 rfl rfl (fun _ z9 => by cases z9) ac_int (400, .inl (fun _ => 0)) (fun _ => rfl) (by decide) (by decide) (by omega) (by omega) dX5_init_40 (fun H1 hz9 hh => ?_)
  generalize H.size = a5 at hh ⊢
  refine r_putF C hh (t := .inr (.inr 0)) ((f_add_ne (by decide)).trans (mi_0 Γ 4 hy4)) rfl hinX5 tyX5 tyX5_ok nmX5 7 (by decide) fl_X5_22 rfl hnm.1 rfl (tyX5_ok 7 (by decide)) rfl rfl (Nat.le_of_ble_eq_true rfl) dX5_init_42 (fun H locs hh => ?_)
  replace hh := (congrArg (fun w9 => f_HS Γ B0 w9 X9 H locs) (m_step (M' := mi Γ (upb b4 5 a5) 5) (by decide) rfl rfl rfl (mi_ne Γ b4 4 a5))).mp hh
  obtain ⟨b5, hb5⟩ : ∃ z, z = upb b4 5 a5 := ⟨_, rfl⟩
  rw [← hb5] at hh
  have hy5 : b5 0 = b0 0 := by rw [hb5]; exact hy4
  refine r_aload_n C dX5_init_45 rfl ?_
  refine r_bipush C (nI 8) dX5_init_46 rfl ?_
  refine r_newa (.inr (.inr 6)) C hh (rfl) 0 rfl rfl (fun _ z9 => by cases z9) ac_int (8, .inl (fun _ => 0)) (fun _ => rfl) (by decide) (by decide) (by omega) (by omega) dX5_init_48 (fun H1 hz9 hh => ?_)
  generalize H.size = a6 at hh ⊢
  refine r_putF C hh (t := .inr (.inr 0)) ((f_add_ne (by decide)).trans (mi_0 Γ 5 hy5)) rfl hinX5 tyX5 tyX5_ok nmX5 8 (by decide) fl_X5_25 rfl hnm.1 rfl (tyX5_ok 8 (by decide)) rfl rfl (Nat.le_of_ble_eq_true rfl) dX5_init_50 (fun H locs hh => ?_)
  replace hh := (congrArg (fun w9 => f_HS Γ B0 w9 X9 H locs) (m_step (M' := mi Γ (upb b5 6 a6) 6) (by decide) rfl rfl rfl (mi_ne Γ b5 5 a6))).mp hh
  obtain ⟨b6, hb6⟩ : ∃ z, z = upb b5 6 a6 := ⟨_, rfl⟩
  rw [← hb6] at hh
  have hy6 : b6 0 = b0 0 := by rw [hb6]; exact hy5
  refine r_aload_n C dX5_init_53 rfl ?_
  refine r_bipush C (nI 8) dX5_init_54 rfl ?_
  refine r_newa (.inr (.inr 7)) C hh (rfl) 0 rfl rfl (fun _ z9 => by cases z9) ac_int (8, .inl (fun _ => 0)) (fun _ => rfl) (by decide) (by decide) (by omega) (by omega) dX5_init_56 (fun H1 hz9 hh => ?_)
  generalize H.size = a7 at hh ⊢
  refine r_putF C hh (t := .inr (.inr 0)) ((f_add_ne (by decide)).trans (mi_0 Γ 6 hy6)) rfl hinX5 tyX5 tyX5_ok nmX5 9 (by decide) fl_X5_28 rfl hnm.1 rfl (tyX5_ok 9 (by decide)) rfl rfl (Nat.le_of_ble_eq_true rfl) dX5_init_58 (fun H locs hh => ?_)
  replace hh := (congrArg (fun w9 => f_HS Γ B0 w9 X9 H locs) (m_step (M' := mi Γ (upb b6 7 a7) 7) (by decide) rfl rfl rfl (mi_ne Γ b6 6 a7))).mp hh
  obtain ⟨b7, hb7⟩ : ∃ z, z = upb b6 7 a7 := ⟨_, rfl⟩
  rw [← hb7] at hh
  have hy7 : b7 0 = b0 0 := by rw [hb7]; exact hy6
  refine r_aload_n C dX5_init_61 rfl ?_
  refine r_iconst C (nI 4) dX5_init_62 rfl ?_
  refine r_newa (.inr (.inr 8)) C hh (rfl) 0 rfl rfl (fun _ z9 => by cases z9) ac_int (4, .inl (fun _ => 0)) (fun _ => rfl) (by decide) (by decide) (by omega) (by omega) dX5_init_63 (fun H1 hz9 hh => ?_)
  generalize H.size = a8 at hh ⊢
  refine r_putF C hh (t := .inr (.inr 0)) ((f_add_ne (by decide)).trans (mi_0 Γ 7 hy7)) rfl hinX5 tyX5 tyX5_ok nmX5 11 (by decide) fl_X5_31 rfl hnm.1 rfl (tyX5_ok 11 (by decide)) rfl rfl (Nat.le_of_ble_eq_true rfl) dX5_init_65 (fun H locs hh => ?_)
  replace hh := (congrArg (fun w9 => f_HS Γ B0 w9 X9 H locs) (m_step (M' := mi Γ (upb b7 8 a8) 8) (by decide) rfl rfl rfl (mi_ne Γ b7 7 a8))).mp hh
  obtain ⟨b8, hb8⟩ : ∃ z, z = upb b7 8 a8 := ⟨_, rfl⟩
  rw [← hb8] at hh
  have hy8 : b8 0 = b0 0 := by rw [hb8]; exact hy7
  refine r_aload_n C dX5_init_68 rfl ?_
  refine r_bipush C (nI 16) dX5_init_69 rfl ?_
  refine r_newa (.inr (.inr 9)) C hh (rfl) 0 rfl rfl (fun _ z9 => by cases z9) ac_int (16, .inl (fun _ => 0)) (fun _ => rfl) (by decide) (by decide) (by omega) (by omega) dX5_init_71 (fun H1 hz9 hh => ?_)
  generalize H.size = a9 at hh ⊢
  refine r_putF C hh (t := .inr (.inr 0)) ((f_add_ne (by decide)).trans (mi_0 Γ 8 hy8)) rfl hinX5 tyX5 tyX5_ok nmX5 14 (by decide) fl_X5_34 rfl hnm.1 rfl (tyX5_ok 14 (by decide)) rfl rfl (Nat.le_of_ble_eq_true rfl) dX5_init_73 (fun H locs hh => ?_)
  replace hh := (congrArg (fun w9 => f_HS Γ B0 w9 X9 H locs) (m_step (M' := mi Γ (upb b8 9 a9) 9) (by decide) rfl rfl rfl (mi_ne Γ b8 8 a9))).mp hh
  obtain ⟨b9, hb9⟩ : ∃ z, z = upb b8 9 a9 := ⟨_, rfl⟩
  rw [← hb9] at hh
  have hy9 : b9 0 = b0 0 := by rw [hb9]; exact hy8
  refine r_aload_n C dX5_init_76 rfl ?_
  refine r_bipush C (nI 16) dX5_init_77 rfl ?_
  refine r_newa (.inr (.inr 10)) C hh (rfl) 0 rfl rfl (fun _ z9 => by cases z9) ac_int (16, .inl (fun _ => 0)) (fun _ => rfl) (by decide) (by decide) (by omega) (by omega) dX5_init_79 (fun H1 hz9 hh => ?_)
  generalize H.size = a10 at hh ⊢
  refine r_putF C hh (t := .inr (.inr 0)) ((f_add_ne (by decide)).trans (mi_0 Γ 9 hy9)) rfl hinX5 tyX5 tyX5_ok nmX5 15 (by decide) fl_X5_37 rfl hnm.1 rfl (tyX5_ok 15 (by decide)) rfl rfl (Nat.le_of_ble_eq_true rfl) dX5_init_81 (fun H locs hh => ?_)
  replace hh := (congrArg (fun w9 => f_HS Γ B0 w9 X9 H locs) (m_step (M' := mi Γ (upb b9 10 a10) 10) (by decide) rfl rfl rfl (mi_ne Γ b9 9 a10))).mp hh
  obtain ⟨b10, hb10⟩ : ∃ z, z = upb b9 10 a10 := ⟨_, rfl⟩
  rw [← hb10] at hh
  have hy10 : b10 0 = b0 0 := by rw [hb10]; exact hy9
  refine r_aload_n C dX5_init_84 rfl ?_
  refine r_bipush C (nI 16) dX5_init_85 rfl ?_
  refine r_newa (.inr (.inr 11)) C hh (rfl) 0 rfl rfl (fun _ z9 => by cases z9) ac_int (16, .inl (fun _ => 0)) (fun _ => rfl) (by decide) (by decide) (by omega) (by omega) dX5_init_87 (fun H1 hz9 hh => ?_)
  generalize H.size = a11 at hh ⊢
  refine r_putF C hh (t := .inr (.inr 0)) ((f_add_ne (by decide)).trans (mi_0 Γ 10 hy10)) rfl hinX5 tyX5 tyX5_ok nmX5 16 (by decide) fl_X5_40 rfl hnm.1 rfl (tyX5_ok 16 (by decide)) rfl rfl (Nat.le_of_ble_eq_true rfl) dX5_init_89 (fun H locs hh => ?_)
  replace hh := (congrArg (fun w9 => f_HS Γ B0 w9 X9 H locs) (m_step (M' := mi Γ (upb b10 11 a11) 11) (by decide) rfl rfl rfl (mi_ne Γ b10 10 a11))).mp hh
  obtain ⟨b11, hb11⟩ : ∃ z, z = upb b10 11 a11 := ⟨_, rfl⟩
  rw [← hb11] at hh
  have hy11 : b11 0 = b0 0 := by rw [hb11]; exact hy10
  refine r_aload_n C dX5_init_92 rfl ?_
  refine r_sipush C (nI 128) dX5_init_93 rfl ?_
  refine r_newa (.inr (.inr 12)) C hh (rfl) 0 rfl rfl (fun _ z9 => by cases z9) ac_int (128, .inl (fun _ => 0)) (fun _ => rfl) (by decide) (by decide) (by omega) (by omega) dX5_init_96 (fun H1 hz9 hh => ?_)
  generalize H.size = a12 at hh ⊢
  refine r_putF C hh (t := .inr (.inr 0)) ((f_add_ne (by decide)).trans (mi_0 Γ 11 hy11)) rfl hinX5 tyX5 tyX5_ok nmX5 17 (by decide) fl_X5_43 rfl hnm.1 rfl (tyX5_ok 17 (by decide)) rfl rfl (Nat.le_of_ble_eq_true rfl) dX5_init_98 (fun H locs hh => ?_)
  replace hh := (congrArg (fun w9 => f_HS Γ B0 w9 X9 H locs) (m_step (M' := mi Γ (upb b11 12 a12) 12) (by decide) rfl rfl rfl (mi_ne Γ b11 11 a12))).mp hh
  obtain ⟨b12, hb12⟩ : ∃ z, z = upb b11 12 a12 := ⟨_, rfl⟩
  rw [← hb12] at hh
  have hy12 : b12 0 = b0 0 := by rw [hb12]; exact hy11
  refine r_aload_n C dX5_init_101 rfl ?_
  refine r_sipush C (nI 128) dX5_init_102 rfl ?_
  refine r_newa (.inr (.inr 13)) C hh (rfl) 0 rfl rfl (fun _ z9 => by cases z9) ac_int (128, .inl (fun _ => 0)) (fun _ => rfl) (by decide) (by decide) (by omega) (by omega) dX5_init_105 (fun H1 hz9 hh => ?_)
  generalize H.size = a13 at hh ⊢
  refine r_putF C hh (t := .inr (.inr 0)) ((f_add_ne (by decide)).trans (mi_0 Γ 12 hy12)) rfl hinX5 tyX5 tyX5_ok nmX5 18 (by decide) fl_X5_46 rfl hnm.1 rfl (tyX5_ok 18 (by decide)) rfl rfl (Nat.le_of_ble_eq_true rfl) dX5_init_107 (fun H locs hh => ?_)
  replace hh := (congrArg (fun w9 => f_HS Γ B0 w9 X9 H locs) (m_step (M' := mi Γ (upb b12 13 a13) 13) (by decide) rfl rfl rfl (mi_ne Γ b12 12 a13))).mp hh
  obtain ⟨b13, hb13⟩ : ∃ z, z = upb b12 13 a13 := ⟨_, rfl⟩
  rw [← hb13] at hh
  have hy13 : b13 0 = b0 0 := by rw [hb13]; exact hy12
  refine r_aload_n C dX5_init_110 rfl ?_
  refine r_sipush C (nI 2048) dX5_init_111 rfl ?_
  refine r_newa (.inr (.inr 14)) C hh (rfl) 0 rfl rfl (fun _ z9 => by cases z9) ac_int (2048, .inl (fun _ => 0)) (fun _ => rfl) (by decide) (by decide) (by omega) (by omega) dX5_init_114 (fun H1 hz9 hh => ?_)
  generalize H.size = a14 at hh ⊢
  refine r_putF C hh (t := .inr (.inr 0)) ((f_add_ne (by decide)).trans (mi_0 Γ 13 hy13)) rfl hinX5 tyX5 tyX5_ok nmX5 19 (by decide) fl_X5_49 rfl hnm.1 rfl (tyX5_ok 19 (by decide)) rfl rfl (Nat.le_of_ble_eq_true rfl) dX5_init_116 (fun H locs hh => ?_)
  replace hh := (congrArg (fun w9 => f_HS Γ B0 w9 X9 H locs) (m_step (M' := mi Γ (upb b13 14 a14) 14) (by decide) rfl rfl rfl (mi_ne Γ b13 13 a14))).mp hh
  obtain ⟨b14, hb14⟩ : ∃ z, z = upb b13 14 a14 := ⟨_, rfl⟩
  rw [← hb14] at hh
  have hy14 : b14 0 = b0 0 := by rw [hb14]; exact hy13
  refine r_aload_n C dX5_init_119 rfl ?_
  refine r_bipush C (nI 16) dX5_init_120 rfl ?_
  refine r_newa (.inr (.inr 15)) C hh (rfl) 0 rfl rfl (fun _ z9 => by cases z9) ac_int (16, .inl (fun _ => 0)) (fun _ => rfl) (by decide) (by decide) (by omega) (by omega) dX5_init_122 (fun H1 hz9 hh => ?_)
  generalize H.size = a15 at hh ⊢
  refine r_putF C hh (t := .inr (.inr 0)) ((f_add_ne (by decide)).trans (mi_0 Γ 14 hy14)) rfl hinX5 tyX5 tyX5_ok nmX5 20 (by decide) fl_X5_52 rfl hnm.1 rfl (tyX5_ok 20 (by decide)) rfl rfl (Nat.le_of_ble_eq_true rfl) dX5_init_124 (fun H locs hh => ?_)
  replace hh := (congrArg (fun w9 => f_HS Γ B0 w9 X9 H locs) (m_step (M' := mi Γ (upb b14 15 a15) 15) (by decide) rfl rfl rfl (mi_ne Γ b14 14 a15))).mp hh
  obtain ⟨b15, hb15⟩ : ∃ z, z = upb b14 15 a15 := ⟨_, rfl⟩
  rw [← hb15] at hh
  have hy15 : b15 0 = b0 0 := by rw [hb15]; exact hy14
  refine r_aload_n C dX5_init_127 rfl ?_
  refine r_bipush C (nI 16) dX5_init_128 rfl ?_
  refine r_newa (.inr (.inr 16)) C hh (rfl) 1 rfl rfl (fun _ z9 => by cases z9) ac_boolean (16, .inl (fun _ => 0)) (fun _ => rfl) (by decide) (by decide) (by omega) (by omega) dX5_init_130 (fun H1 hz9 hh => ?_)
  generalize H.size = a16 at hh ⊢
  refine r_putF C hh (t := .inr (.inr 0)) ((f_add_ne (by decide)).trans (mi_0 Γ 15 hy15)) rfl hinX5 tyX5 tyX5_ok nmX5 23 (by decide) fl_X5_55 rfl hnm.1 rfl (tyX5_ok 23 (by decide)) rfl rfl (Nat.le_of_ble_eq_true rfl) dX5_init_132 (fun H locs hh => ?_)
  replace hh := (congrArg (fun w9 => f_HS Γ B0 w9 X9 H locs) (m_step (M' := mi Γ (upb b15 16 a16) 16) (by decide) rfl rfl rfl (mi_ne Γ b15 15 a16))).mp hh
  obtain ⟨b16, hb16⟩ : ∃ z, z = upb b15 16 a16 := ⟨_, rfl⟩
  rw [← hb16] at hh
  have hy16 : b16 0 = b0 0 := by rw [hb16]; exact hy15
  refine r_aload_n C dX5_init_135 rfl ?_
  refine r_bipush C (nI 8) dX5_init_136 rfl ?_
  refine r_newa (.inr (.inr 17)) C hh (rfl) 1 rfl rfl (fun _ z9 => by cases z9) ac_boolean (8, .inl (fun _ => 0)) (fun _ => rfl) (by decide) (by decide) (by omega) (by omega) dX5_init_138 (fun H1 hz9 hh => ?_)
  generalize H.size = a17 at hh ⊢
  refine r_putF C hh (t := .inr (.inr 0)) ((f_add_ne (by decide)).trans (mi_0 Γ 16 hy16)) rfl hinX5 tyX5 tyX5_ok nmX5 24 (by decide) fl_X5_59 rfl hnm.1 rfl (tyX5_ok 24 (by decide)) rfl rfl (Nat.le_of_ble_eq_true rfl) dX5_init_140 (fun H locs hh => ?_)
  replace hh := (congrArg (fun w9 => f_HS Γ B0 w9 X9 H locs) (m_step (M' := mi Γ (upb b16 17 a17) 17) (by decide) rfl rfl rfl (mi_ne Γ b16 16 a17))).mp hh
  obtain ⟨b17, hb17⟩ : ∃ z, z = upb b16 17 a17 := ⟨_, rfl⟩
  rw [← hb17] at hh
  have hy17 : b17 0 = b0 0 := by rw [hb17]; exact hy16
  rw [mi_mw Γ (fun _ j => b17 j) b17 (fun _ => rfl), ← m2P_0] at hh
  rw [← hy17]
  refine r_iconst C (nI 0) dX5_init_143 rfl ?_
  refine r_istore_n C dX5_init_144 rfl rfl ?_
  have lp145 : ∀ (d9 : Nat) (x : Nat) (H : Heap) (locs : List Loc), 8 - x < d9 → x ≤ 8 → f_HS Γ B0 (wj F X (mw Γ (fun _ j => b17 j) (m2P x))) X9 H locs → f_W X9 H locs 17 3176 145 [some (.ref (b17 0)), some (.int (nI (x)))] [] := by
    intro d9
    induction d9 with
    | zero => intro x H locs hd9 hl hh; exact absurd hd9 (Nat.not_lt_zero _)
    | succ d9 ih145 =>
      intro x H locs hd9 hl hh
      refine r_iload_n C dX5_init_145 rfl ?_
      refine r_bipush C (nI 8) dX5_init_146 rfl ?_
      refine r_icmp_geN (tgt := 171) C dX5_init_148 (by decide) (by omega) (by omega) (fun h148 => ?_) (fun h148 => ?_)
      · have x8 : x = 8 := by omega
        refine r_aload_n C dX5_init_171 rfl ?_
        refine r_iconst C (nI 1) dX5_init_172 rfl ?_
        refine r_iconst C (nI 0) dX5_init_173 rfl ?_
        rw [x8] at hh
        refine r_callV C E hh (c_X5_lays E.2.1 Γ B0 (fun _ j => b17 j) (m2P 8) F X 1 0 (by decide) (by decide) (by decide) (fun _ => by show 0 < 4; decide)) lk_X5_62 (tr := .inr (.inr 0)) rfl rfl rfl rfl (Nat.le_of_ble_eq_true rfl) dX5_init_174 ⟨by decide, by decide⟩ ⟨by omega, by omega⟩ (fun _ _ z9 => False.elim z9) (kk_to (fun H locs hs9 hh => ?_))
        exact r_vret C E hh dX5_init_177 (by omega) (by omega) ⟨rfl, b17, hy17, rfl⟩
      · refine r_aload_n C dX5_init_151 rfl ?_
        refine g_X5_25 C hh dX5_init_152 ?_
        refine r_iload_n C dX5_init_155 rfl ?_
        refine r_iconst C (iM 0) dX5_init_156 rfl ?_
        refine as_m_from C hh (by omega) dX5_init_157 (fun H locs hh => ?_)
        refine r_aload_n C dX5_init_158 rfl ?_
        refine g_X5_28 C hh dX5_init_159 ?_
        refine r_iload_n C dX5_init_162 rfl ?_
        refine r_iconst C (iM 0) dX5_init_163 rfl ?_
        refine as_m_to C hh (by omega) dX5_init_164 (fun H locs hh => ?_)
        replace hh : f_HS Γ B0 (wj F X (mw Γ (fun _ j => b17 j) (m2P (x + 1)))) X9 H locs := by
          rw [← m2P_s x]; exact hh
        refine r_iincN C dX5_init_165 rfl rfl ?_
        refine r_goto (tgt := 145) C dX5_init_168 (by decide) ?_
        exact ih145 (x + 1) _ _ (by omega) (by omega) hh
  exact lp145 9 0 _ _ (by omega) (by omega) hh

