/-! ===== folding: readPile, foldBy ===== -/
theorem iM_pos {v : Nat} (h : 1 ≤ v) : iM v = nI (v - 1) := if_neg (by omega)
theorem iM_neg {v : Nat} (h : iM v < 0) (hv : v < 1000) : v = 0 := by
  rcases Nat.eq_zero_or_pos v with z | z
  · exact z
  · rw [iM_pos z] at h
    exact absurd h (nI_pos (by omega))
theorem iM_nn {v : Nat} (h : ¬ iM v < 0) : 1 ≤ v := by
  rcases Nat.eq_zero_or_pos v with z | z
  · subst z; exact absurd (by decide) h
  · exact z
theorem iM_dec {v : Nat} (h : 1 ≤ v) : nI (v - 1) + Int32.ofInt (-1) = iM (v - 1) := by
  rcases Nat.eq_zero_or_pos (v - 1) with z | z
  · rw [z]; decide
  · rw [iM_pos z]; exact sb_m1 z
def rpX (P : fR) (n : Nat) : Nat → fR
  | 0 => P
  | x + 1 => rs (rs (rpX P n x) 7 (u1 (u1 (rpX P n x 7) (2 * x) (P 8 (n - x - 1) 0)) (2 * x + 1) (flp (P 8 (n - x - 1) 0)))) 6 (u1 (u1 (rpX P n x 6) (P 8 (n - x - 1) 0) (2 * x)) (flp (P 8 (n - x - 1) 0)) (2 * x + 1))
theorem rpX_ne (P : fR) (n : Nat) {c : Nat} (h6 : c ≠ 6) (h7 : c ≠ 7) : ∀ x, rpX P n x c = P c
  | 0 => rfl
  | x + 1 => by unfold rpX; rw [rs_ne _ _ h6, rs_ne _ _ h7, rpX_ne P n h6 h7 x]
theorem rpX_lt {P : fR} {n : Nat} (hn : n ≤ 16) (h6 : ∀ i, P 6 i 0 < 32) (h7 : ∀ i, P 7 i 0 < 32) (h8 : ∀ i, P 8 i 0 < 32) : ∀ x, x ≤ n → (∀ i, rpX P n x 6 i 0 < 32) ∧ (∀ i, rpX P n x 7 i 0 < 32)
  | 0, _ => ⟨h6, h7⟩
  | x + 1, hx => by
    have h := rpX_lt hn h6 h7 h8 x (by omega)
    have hu := h8 (n - x - 1)
    have hf := flp_lt hu
    refine ⟨fun i => ?_, fun i => ?_⟩
    · show u1 (u1 (rpX P n x 6) (P 8 (n - x - 1) 0) (2 * x)) (flp (P 8 (n - x - 1) 0)) (2 * x + 1) i 0 < 32
      unfold u1
      have := h.1 i
      split
      · omega
      · split <;> omega
    · show u1 (u1 (rpX P n x 7) (2 * x) (P 8 (n - x - 1) 0)) (2 * x + 1) (flp (P 8 (n - x - 1) 0)) i 0 < 32
      unfold u1
      have := h.2 i
      split
      · exact hf
      · split <;> omega
set_option maxHeartbeats 4000000 in
set_option maxRecDepth 100000 in
theorem c_X0_readPile {l : Launch} (hl : l.stackTraces = false) (Γ : fG) (B0 : Nat) (ad : Nat → Nat → Nat) (P : fR) (X : Nat × Nat → fO) (M : Nat → fO) (hn : P 1 0 0 ≤ 16) (hn1 : 1 ≤ P 1 0 0) (h8 : ∀ i, P 8 i 0 < 32) : f_Met l yX0_readPile cX0_readPile 5 none 1 0 0 21 Γ B0 [.ref (ad 0 0)] (wj (fw Γ ad P) X M) (f_to (wj (fw Γ ad (rpX P (P 1 0 0) (P 1 0 0))) X M)) f_no := by
  refine f_of hl (by decide) rfl (Nat.le_of_ble_eq_true rfl) (fun X9 C E hh hnm => ?_)
  generalize (f_s X9).heap = H, ([] : List Loc) = locs at hh ⊢
  refine r_iconst C (nI 0) dX0_readPile_0 rfl ?_
  refine r_istore_n C dX0_readPile_1 rfl rfl ?_
  refine r_aload_n C dX0_readPile_2 rfl ?_
  refine g_X0_35 C hh dX0_readPile_3 ?_
  refine r_iconst C (nI 1) dX0_readPile_6 rfl ?_
  refine r_isubN C dX0_readPile_7 (by omega) ?_
  rw [show nI (P 1 0 0 - 1) = iM (P 1 0 0 - 0) from (iM_pos hn1).symm]
  refine r_istore_n C dX0_readPile_8 rfl rfl ?_
  have lp9 : ∀ (d9 : Nat) (x : Nat) (H : Heap) (locs : List Loc), P 1 0 0 - x < d9 → x ≤ P 1 0 0 → f_HS Γ B0 (wj (fw Γ ad (rpX P (P 1 0 0) x)) X M) X9 H locs → f_W X9 H locs 0 0 9 [some (.ref (ad 0 0)), some (.int (nI (2 * x))), some (.int (iM (P 1 0 0 - x))), none, none] [] := by
    intro d9
    induction d9 with
    | zero => intro x H locs hd9 hl hh; exact absurd hd9 (Nat.not_lt_zero _)
    | succ d9 ih9 =>
      intro x H locs hd9 hl hh
      refine r_iload_n C dX0_readPile_9 rfl ?_
      refine r_if_lt (tgt := 78) C dX0_readPile_10 (by decide) (fun h10 => ?_) (fun h10 => ?_)
      · have e10 := iM_neg h10 (by omega)
        have e11 : x = P 1 0 0 := by omega
        rw [e11] at hh
        exact r_vret C E hh dX0_readPile_78 (by omega) (by omega) ⟨rfl, rfl⟩
      · have e10 := iM_nn h10
        have h9u := h8 (P 1 0 0 - x - 1)
        rw [iM_pos e10]
        refine r_aload_n C dX0_readPile_13 rfl ?_
        refine g_X0_25 C hh dX0_readPile_14 ?_
        refine r_iload_n C dX0_readPile_17 rfl ?_
        refine al_piled C hh (by omega) dX0_readPile_18 ?_
        rw [show rpX P (P 1 0 0) x 8 (P 1 0 0 - x - 1) 0 = P 8 (P 1 0 0 - x - 1) 0 from congrFun (congrFun (rpX_ne P _ (by decide) (by decide) x) _) 0]
        refine r_istore_n C dX0_readPile_19 rfl rfl ?_
        refine r_iload_n C dX0_readPile_20 rfl ?_
        refine r_callSN C E hh (c_X4_leafUnder E.2.1 Γ B0 _ _ h9u) lk_X0_78 rfl rfl (Nat.le_of_ble_eq_true rfl) dX0_readPile_21 ⟨by decide, by decide⟩ ⟨by omega, by omega⟩ (kk_is (fun H locs hs9 hh => ?_))
        refine r_iconst C (nI 1) dX0_readPile_24 rfl ?_
        refine r_iload_n C dX0_readPile_25 rfl ?_
        refine r_callSN C E hh (c_X4_sideOf E.2.1 Γ B0 _ _) lk_X0_82 rfl rfl (Nat.le_of_ble_eq_true rfl) dX0_readPile_26 ⟨by decide, by decide⟩ ⟨by omega, by omega⟩ (kk_is (fun H locs hs9 hh => ?_))
        refine r_isubN C dX0_readPile_29 (by omega) ?_
        refine r_callSN C E hh (c_X4_faceOf E.2.1 Γ B0 _ _ _) lk_X0_54 rfl rfl (Nat.le_of_ble_eq_true rfl) dX0_readPile_30 ⟨by decide, by decide⟩ ⟨by omega, by omega⟩ (kk_is (fun H locs hs9 hh => ?_))
        rw [show P 8 (P 1 0 0 - x - 1) 0 / 2 * 2 + (1 - P 8 (P 1 0 0 - x - 1) 0 % 2) = flp (P 8 (P 1 0 0 - x - 1) 0) from rfl]
        have h9f := flp_lt h9u
        refine r_istore C dX0_readPile_33 rfl rfl ?_
        refine r_aload_n C dX0_readPile_35 rfl ?_
        refine g_X0_22 C hh dX0_readPile_36 ?_
        refine r_iload_n C dX0_readPile_39 rfl ?_
        refine r_iload_n C dX0_readPile_40 rfl ?_
        refine as_faceO C hh (by omega) dX0_readPile_41 (fun H locs hh => ?_)
        refine r_aload_n C dX0_readPile_42 rfl ?_
        refine g_X0_22 C hh dX0_readPile_43 ?_
        refine r_iload_n C dX0_readPile_46 rfl ?_
        refine r_iconst C (nI 1) dX0_readPile_47 rfl ?_
        refine r_iaddN C dX0_readPile_48 ?_
        refine r_iload C dX0_readPile_49 rfl ?_
        refine as_faceO C hh (by omega) dX0_readPile_51 (fun H locs hh => ?_)
        refine r_aload_n C dX0_readPile_52 rfl ?_
        refine g_X0_19 C hh dX0_readPile_53 ?_
        refine r_iload_n C dX0_readPile_56 rfl ?_
        refine r_iload_n C dX0_readPile_57 rfl ?_
        refine as_offF C hh (by omega) dX0_readPile_58 (fun H locs hh => ?_)
        refine r_aload_n C dX0_readPile_59 rfl ?_
        refine g_X0_19 C hh dX0_readPile_60 ?_
        refine r_iload C dX0_readPile_63 rfl ?_
        refine r_iload_n C dX0_readPile_65 rfl ?_
        refine r_iconst C (nI 1) dX0_readPile_66 rfl ?_
        refine r_iaddN C dX0_readPile_67 ?_
        refine as_offF C hh (by omega) dX0_readPile_68 (fun H locs hh => ?_)
        replace hh : f_HS Γ B0 (wj (fw Γ ad (rpX P (P 1 0 0) (x + 1))) X M) X9 H locs := by
          rw [rs_rs, rs_rs] at hh
          exact hh
        refine r_iincK C 2 dX0_readPile_69 rfl rfl rfl ?_
        refine r_iinc C dX0_readPile_72 rfl (iM_dec e10) rfl ?_
        refine r_goto (tgt := 9) C dX0_readPile_75 (by decide) ?_
        refine f_W.le ?_ (ih9 (x + 1) _ _ (by omega) (by omega) hh)
        exact (And.intro rfl (And.intro rfl (And.intro rfl trivial)))
  exact lp9 (P 1 0 0 + 1) 0 _ _ (by omega) (by omega) hh

def kq (folds x : Nat) : Nat := folds / 2 ^ (2 * x) % 4
def fb1 (P : fR) (many : Nat) : fR := rs (rs (rs (rs P 0 (k0 many)) 1 (k0 (2 ^ many))) 2 (k0 1)) 3 (k0 1)
def fbQ (Q : fR) (folds x : Nat) : fR := rs Q 4 (u1 (Q 4) x (kq folds x))
def fbX (P : fR) (many folds : Nat) : Nat → fR
  | 0 => fb1 P many
  | x + 1 => if kq folds x < 2 then rs (fbQ (fbX P many folds x) folds x) 3 (k0 (fbX P many folds x 3 0 0 * 2)) else rs (fbQ (fbX P many folds x) folds x) 2 (k0 (fbX P many folds x 2 0 0 * 2))
theorem fbX_ne (P : fR) (many folds : Nat) {c : Nat} (h2 : c ≠ 2) (h3 : c ≠ 3) (h4 : c ≠ 4) : ∀ x, fbX P many folds x c = fb1 P many c
  | 0 => rfl
  | x + 1 => by
    unfold fbX fbQ
    split
    · rw [rs_ne _ _ h3, rs_ne _ _ h4, fbX_ne P many folds h2 h3 h4 x]
    · rw [rs_ne _ _ h2, rs_ne _ _ h4, fbX_ne P many folds h2 h3 h4 x]
def rowU (kd : Nat → Nat) : Nat → Nat
  | 0 => 1
  | x + 1 => if kd x < 2 then rowU kd x else rowU kd x * 2
def colU (kd : Nat → Nat) : Nat → Nat
  | 0 => 1
  | x + 1 => if kd x < 2 then colU kd x * 2 else colU kd x
theorem fbX_2 (P : fR) (many folds : Nat) : ∀ x, fbX P many folds x 2 0 0 = rowU (kq folds) x ∧ fbX P many folds x 3 0 0 = colU (kq folds) x
  | 0 => ⟨rfl, rfl⟩
  | x + 1 => by
    have h := fbX_2 P many folds x
    unfold fbX rowU colU
    by_cases hk : kq folds x < 2
    · rw [if_pos hk, if_pos hk, if_pos hk]
      exact ⟨h.1, congrArg (· * 2) h.2⟩
    · rw [if_neg hk, if_neg hk, if_neg hk]
      exact ⟨congrArg (· * 2) h.1, h.2⟩
theorem fbX_4 (P : fR) (many folds : Nat) : ∀ x i, fbX P many folds x 4 i 0 = if i < x then kq folds i else P 4 i 0
  | 0, i => (if_neg (Nat.not_lt_zero i)).symm
  | x + 1, i => by
    have h := fbX_4 P many folds x i
    have e : fbX P many folds (x + 1) 4 i 0 = u1 (fbX P many folds x 4) x (kq folds x) i 0 := by
      conv => lhs; unfold fbX
      split <;> rfl
    rw [e]
    unfold u1
    by_cases h1 : i = x
    · subst h1; rw [if_pos rfl, if_pos (Nat.lt_succ_self _)]
    · rw [if_neg h1, h]
      by_cases h2 : i < x
      · rw [if_pos h2, if_pos (by omega)]
      · rw [if_neg h2, if_neg (by omega)]
theorem rlF_congr {kd kd' : Nat → Nat} {n : Nat} (h : ∀ i, i < n → kd i = kd' i) (r0 : Nat) : ∀ x, x ≤ n → rlF kd r0 x = rlF kd' r0 x ∧ clF kd r0 x = clF kd' r0 x
  | 0, _ => ⟨rfl, rfl⟩
  | x + 1, hx => by
    have h1 := rlF_congr h r0 x (by omega)
    unfold rlF clF
    rw [h x (by omega), h1.1, h1.2]
    exact ⟨rfl, rfl⟩
def hgB (kd : Nat → Nat) (r c x : Nat) : Bool := Nat.ble (rlF kd r x) 16 && Nat.ble (clF kd c x) 16 && (Nat.ble 1 (clF kd c (x + 1)) && (Nat.ble (rlF kd r (x + 1) * clF kd c (x + 1) * 2 * 2 ^ x) 16 && ((Nat.ble (rlF kd r (x + 1)) 16 && Nat.ble (clF kd c (x + 1)) 16) && (Nat.ble (2 ^ x) 16 && Nat.ble 1 (2 ^ x)))))
theorem hgB_all : ∀ many, many < 5 → ∀ folds, folds < 2 ^ (2 * many) → ∀ x, x < many → hgB (kq folds) (rowU (kq folds) many) (colU (kq folds) many) x = true := by decide +kernel
theorem hg_all (many : Nat) (h5 : many < 5) (folds : Nat) (hf : folds < 2 ^ (2 * many)) (x : Nat) (hx : x < many) : (rlF (kq folds) (rowU (kq folds) many) x ≤ 16 ∧ clF (kq folds) (colU (kq folds) many) x ≤ 16) ∧ 1 ≤ clF (kq folds) (colU (kq folds) many) (x + 1) ∧ rlF (kq folds) (rowU (kq folds) many) (x + 1) * clF (kq folds) (colU (kq folds) many) (x + 1) * 2 * 2 ^ x ≤ 16 ∧ (rlF (kq folds) (rowU (kq folds) many) (x + 1) ≤ 16 ∧ clF (kq folds) (colU (kq folds) many) (x + 1) ≤ 16) ∧ 2 ^ x ≤ 16 ∧ 1 ≤ 2 ^ x := by
  have h := hgB_all many h5 folds hf x hx
  unfold hgB at h
  simp only [Bool.and_eq_true, Nat.ble_eq] at h
  exact h
theorem rc_all : ∀ many, many < 5 → ∀ folds, folds < 2 ^ (2 * many) → rowU (kq folds) many * colU (kq folds) many = 2 ^ many ∧ rowU (kq folds) many ≤ 16 ∧ colU (kq folds) many ≤ 16 := by decide +kernel
def fbY (P : fR) (many folds : Nat) : fR := fdF (fbX P many folds many) many
def fbZ (P : fR) (many folds : Nat) : fR := rpX (fbY P many folds) (2 ^ many) (2 ^ many)
set_option maxHeartbeats 4000000 in
set_option maxRecDepth 100000 in
theorem c_X0_foldBy {l : Launch} (hl : l.stackTraces = false) (Γ : fG) (B0 : Nat) (ad : Nat → Nat → Nat) (P : fR) (X : Nat × Nat → fO) (M : Nat → fO) (many folds : Nat) (h1 : 1 ≤ many) (h5 : many < 5) (hfo : folds < 2 ^ (2 * many)) (h4 : ∀ i, P 4 i 0 < 4) (h8 : ∀ i, P 8 i 0 < 32) (h9 : ∀ i, P 9 i 0 < 32) : f_Met l yX0_foldBy cX0_foldBy 4 none 4 0 0 124 Γ B0 [.ref (ad 0 0), .int (nI (many)), .int (nI (folds))] (wj (fw Γ ad P) X M) (f_to (wj (fw Γ ad (fbZ P many folds)) X M)) f_no := by
  refine f_of hl (by decide) rfl (Nat.le_of_ble_eq_true rfl) (fun X9 C E hh hnm => ?_)
  generalize (f_s X9).heap = H, ([] : List Loc) = locs at hh ⊢
  have hp4 := pow4 h1 h5
  have hfo2 : folds < 256 := Nat.lt_of_lt_of_le hfo (Nat.pow_le_pow_right (by decide) (by omega : 2 * many ≤ 8))
  have hrc := rc_all many h5 folds hfo
  have e0 : fbX P many folds many 0 0 0 = many := congrFun (congrFun (fbX_ne P many folds (by decide) (by decide) (by decide) many) 0) 0
  have e1 : fbX P many folds many 1 0 0 = 2 ^ many := congrFun (congrFun (fbX_ne P many folds (by decide) (by decide) (by decide) many) 0) 0
  have e8 : fbX P many folds many 8 = P 8 := fbX_ne P many folds (by decide) (by decide) (by decide) many
  have e9 : fbX P many folds many 9 = P 9 := fbX_ne P many folds (by decide) (by decide) (by decide) many
  have e23 := fbX_2 P many folds many
  have e4 : ∀ i, fbX P many folds many 4 i 0 < 4 := by
    intro i
    rw [fbX_4]
    have := h4 i
    split
    · exact Nat.mod_lt _ (by decide)
    · exact this
  have hkd : ∀ i, i < many → kdP (fbX P many folds many) i = kq folds i := fun i hi => by unfold kdP; rw [fbX_4, if_pos hi]
  have hg : ∀ x, x < fbX P many folds many 0 0 0 → _ := fun x hx => by
    rw [e0] at hx
    have a1 := rlF_congr hkd (rowU (kq folds) many) x (by omega)
    have a2 := rlF_congr hkd (rowU (kq folds) many) (x + 1) (by omega)
    have a3 := rlF_congr hkd (colU (kq folds) many) x (by omega)
    have a4 := rlF_congr hkd (colU (kq folds) many) (x + 1) (by omega)
    have h := hg_all many h5 folds hfo x hx
    rw [← a1.1, ← a2.1, ← a3.2, ← a4.2, ← e23.1, ← e23.2] at h
    exact h
  refine r_aload_n C dX0_foldBy_0 rfl ?_
  refine r_iload_n C dX0_foldBy_1 rfl ?_
  refine p_X0_31 C hh dX0_foldBy_2 (fun H locs hh => ?_)
  refine r_aload_n C dX0_foldBy_5 rfl ?_
  refine r_iconst C (nI 1) dX0_foldBy_6 rfl ?_
  refine r_iload_n C dX0_foldBy_7 rfl ?_
  refine r_ishlN C dX0_foldBy_8 (by omega) (by omega) ?_
  rw [Nat.one_mul]
  refine p_X0_35 C hh dX0_foldBy_9 (fun H locs hh => ?_)
  refine r_aload_n C dX0_foldBy_12 rfl ?_
  refine r_iconst C (nI 1) dX0_foldBy_13 rfl ?_
  refine p_X0_38 C hh dX0_foldBy_14 (fun H locs hh => ?_)
  refine r_aload_n C dX0_foldBy_17 rfl ?_
  refine r_iconst C (nI 1) dX0_foldBy_18 rfl ?_
  refine p_X0_41 C hh dX0_foldBy_19 (fun H locs hh => ?_)
  replace hh : f_HS Γ B0 (wj (fw Γ ad (fbX P many folds 0)) X M) X9 H locs := hh
  refine r_iconst C (nI 0) dX0_foldBy_22 rfl ?_
  refine r_istore_n C dX0_foldBy_23 rfl rfl ?_
  have lp24 : ∀ (d9 : Nat) (x : Nat) (H : Heap) (locs : List Loc), many - x < d9 → x ≤ many → f_HS Γ B0 (wj (fw Γ ad (fbX P many folds x)) X M) X9 H locs → f_W X9 H locs 0 0 24 [some (.ref (ad 0 0)), some (.int (nI (many))), some (.int (nI (folds))), some (.int (nI (x)))] [] := by
    intro d9
    induction d9 with
    | zero => intro x H locs hd9 hl hh; exact absurd hd9 (Nat.not_lt_zero _)
    | succ d9 ih24 =>
      intro x H locs hd9 hl hh
      have hkx : kq folds x < 4 := Nat.mod_lt _ (by decide)
      refine r_iload_n C dX0_foldBy_24 rfl ?_
      refine r_aload_n C dX0_foldBy_25 rfl ?_
      refine g_X0_31 C hh dX0_foldBy_26 ?_
      rw [show fbX P many folds x 0 0 0 = many from congrFun (congrFun (fbX_ne P many folds (by decide) (by decide) (by decide) x) 0) 0]
      refine r_icmp_geN (tgt := 86) C dX0_foldBy_29 (by decide) (by omega) (by omega) (fun h29 => ?_) (fun h29 => ?_)
      · have e29 : x = many := by omega
        rw [e29] at hh
        refine r_aload_n C dX0_foldBy_86 rfl ?_
        refine r_callV C E hh (c_X0_foldFlatSheet E.2.1 Γ B0 ad _ _ _ (by omega) (by omega) e4 (by rw [e8]; exact h8) (by rw [e9]; exact h9) (by rw [e23.1, e23.2]; exact hrc.2) hg) lk_X0_48 (tr := .inl 0) rfl rfl rfl rfl (Nat.le_of_ble_eq_true rfl) dX0_foldBy_87 ⟨by decide, by decide⟩ ⟨by omega, by omega⟩ (fun _ _ z9 => False.elim z9) (kk_to (fun H locs hs9 hh => ?_))
        have hf := fdF_lt (P := fbX P many folds many) (by omega) (by rw [e8]; exact h8) (by rw [e9]; exact h9) many
        have en : fbY P many folds 1 0 0 = 2 ^ many := by
          unfold fbY
          rw [fdF_ne _ (by decide) (by decide) (by decide)]; exact e1
        rw [e0] at hh
        replace hh : f_HS Γ B0 (wj (fw Γ ad (fbY P many folds)) X M) X9 H locs := hh
        refine r_aload_n C dX0_foldBy_90 rfl ?_
        refine r_callV C E hh (c_X0_readPile E.2.1 Γ B0 ad _ _ _ (by rw [en]; omega) (by rw [en]; omega) hf.1) lk_X0_51 (tr := .inl 0) rfl rfl rfl rfl (Nat.le_of_ble_eq_true rfl) dX0_foldBy_91 ⟨by decide, by decide⟩ ⟨by omega, by omega⟩ (fun _ _ z9 => False.elim z9) (kk_to (fun H locs hs9 hh => ?_))
        rw [en] at hh
        replace hh : f_HS Γ B0 (wj (fw Γ ad (fbZ P many folds)) X M) X9 H locs := hh
        exact r_vret C E hh dX0_foldBy_94 (by omega) (by omega) ⟨rfl, rfl⟩
      · refine r_aload_n C dX0_foldBy_32 rfl ?_
        refine g_X0_9 C hh dX0_foldBy_33 ?_
        refine r_iload_n C dX0_foldBy_36 rfl ?_
        refine r_iload_n C dX0_foldBy_37 rfl ?_
        refine r_iconst C (nI 2) dX0_foldBy_38 rfl ?_
        refine r_iload_n C dX0_foldBy_39 rfl ?_
        refine r_imulN C dX0_foldBy_40 ?_
        refine r_ishrN C dX0_foldBy_41 (by omega) (by omega) ?_
        refine r_iconst C (nI 3) dX0_foldBy_42 rfl ?_
        refine r_iandN C dX0_foldBy_43 ?_
        rw [show folds / 2 ^ (2 * x) &&& 3 = kq folds x from Nat.and_two_pow_sub_one_eq_mod _ 2]
        refine as_kinds C hh (by omega) dX0_foldBy_44 (fun H locs hh => ?_)
        replace hh : f_HS Γ B0 (wj (fw Γ ad (fbQ (fbX P many folds x) folds x)) X M) X9 H locs := hh
        refine r_aload_n C dX0_foldBy_45 rfl ?_
        refine g_X0_9 C hh dX0_foldBy_46 ?_
        refine r_iload_n C dX0_foldBy_49 rfl ?_
        refine al_kinds C hh (by omega) dX0_foldBy_50 ?_
        rw [show fbQ (fbX P many folds x) folds x 4 x 0 = kq folds x from if_pos rfl]
        refine r_callS C E hh (c_X0_isSideways E.2.1 Γ B0 _ _ hkx) lk_X0_44 rfl rfl (Nat.le_of_ble_eq_true rfl) dX0_foldBy_51 ⟨by decide, by decide⟩ ⟨by omega, by omega⟩ (fun _ _ z9 => False.elim z9) (kk_is (fun H locs hs9 hh => ?_))
        refine r_if_eqB (tgt := 70) C dX0_foldBy_54 (by decide) (fun h54 => ?_) (fun h54 => ?_)
        · have hk : ¬ kq folds x < 2 := of_decide_eq_false h54
          refine r_aload_n C dX0_foldBy_70 rfl ?_
          refine r_dup C dX0_foldBy_71 rfl ?_
          refine g_X0_38 C hh dX0_foldBy_72 ?_
          refine r_iconst C (nI 2) dX0_foldBy_75 rfl ?_
          refine r_imulN C dX0_foldBy_76 ?_
          refine p_X0_38 C hh dX0_foldBy_77 (fun H locs hh => ?_)
          replace hh : f_HS Γ B0 (wj (fw Γ ad (fbX P many folds (x + 1))) X M) X9 H locs := by
            rw [show fbX P many folds (x + 1) = _ from if_neg hk]
            exact hh
          refine r_iincN C dX0_foldBy_80 rfl rfl ?_
          refine r_goto (tgt := 24) C dX0_foldBy_83 (by decide) ?_
          exact ih24 (x + 1) _ _ (by omega) (by omega) hh
        · have hk : kq folds x < 2 := of_decide_eq_true h54
          refine r_aload_n C dX0_foldBy_57 rfl ?_
          refine r_dup C dX0_foldBy_58 rfl ?_
          refine g_X0_41 C hh dX0_foldBy_59 ?_
          refine r_iconst C (nI 2) dX0_foldBy_62 rfl ?_
          refine r_imulN C dX0_foldBy_63 ?_
          refine p_X0_41 C hh dX0_foldBy_64 (fun H locs hh => ?_)
          replace hh : f_HS Γ B0 (wj (fw Γ ad (fbX P many folds (x + 1))) X M) X9 H locs := by
            rw [show fbX P many folds (x + 1) = _ from if_pos hk]
            exact hh
          refine r_goto (tgt := 80) C dX0_foldBy_67 (by decide) ?_
          refine r_iincN C dX0_foldBy_80 rfl rfl ?_
          refine r_goto (tgt := 24) C dX0_foldBy_83 (by decide) ?_
          exact ih24 (x + 1) _ _ (by omega) (by omega) hh
  exact lp24 (many + 1) 0 _ _ (by omega) (by omega) hh

theorem FI_fbZ {P : fR} {many folds : Nat} (h1 : 1 ≤ many) (h5 : many < 5) (hfo : folds < 2 ^ (2 * many)) (h4 : ∀ i, P 4 i 0 < 4) (h6 : ∀ i, P 6 i 0 < 32) (h7 : ∀ i, P 7 i 0 < 32) (h8 : ∀ i, P 8 i 0 < 32) (h9 : ∀ i, P 9 i 0 < 32) : FI (fbZ P many folds) := by
  have hp4 := pow4 h1 h5
  have hrc := rc_all many h5 folds hfo
  have e23 := fbX_2 P many folds many
  have ez : ∀ {c : Nat}, c ≠ 5 → c ≠ 6 → c ≠ 7 → c ≠ 8 → c ≠ 9 → fbZ P many folds c = fbX P many folds many c := fun h5 h6 h7 h8 h9 => by
    unfold fbZ fbY
    rw [rpX_ne _ _ h6 h7, fdF_ne _ h5 h8 h9]
  have e8 : fbX P many folds many 8 = P 8 := fbX_ne P many folds (by decide) (by decide) (by decide) many
  have e9 : fbX P many folds many 9 = P 9 := fbX_ne P many folds (by decide) (by decide) (by decide) many
  have e1 : fbX P many folds many 1 0 0 = 2 ^ many := congrFun (congrFun (fbX_ne P many folds (by decide) (by decide) (by decide) many) 0) 0
  have hf := fdF_lt (P := fbX P many folds many) (by omega) (by rw [e8]; exact h8) (by rw [e9]; exact h9) many
  have ey : ∀ {c : Nat}, c ≠ 2 → c ≠ 3 → c ≠ 4 → c ≠ 5 → c ≠ 8 → c ≠ 9 → fbY P many folds c = fb1 P many c := fun h2 h3 h4 h5 h8 h9 => by
    unfold fbY
    rw [fdF_ne _ h5 h8 h9, fbX_ne _ _ _ h2 h3 h4]
  have hr := rpX_lt (P := fbY P many folds) (n := 2 ^ many) (by omega) (by rw [ey (by decide) (by decide) (by decide) (by decide) (by decide) (by decide)]; exact h6) (by rw [ey (by decide) (by decide) (by decide) (by decide) (by decide) (by decide)]; exact h7) hf.1 (2 ^ many) (Nat.le_refl _)
  refine ⟨?_, ?_, ?_, ?_, ?_, hr.1, hr.2, ?_, ?_⟩
  · rw [ez (by decide) (by decide) (by decide) (by decide) (by decide), fbX_ne _ _ _ (by decide) (by decide) (by decide)]; exact h1
  · rw [ez (by decide) (by decide) (by decide) (by decide) (by decide), fbX_ne _ _ _ (by decide) (by decide) (by decide)]; exact h5
  · rw [ez (by decide) (by decide) (by decide) (by decide) (by decide), ez (by decide) (by decide) (by decide) (by decide) (by decide), fbX_ne _ _ _ (by decide) (by decide) (by decide), fbX_ne _ _ _ (by decide) (by decide) (by decide)]; rfl
  · rw [ez (by decide) (by decide) (by decide) (by decide) (by decide), ez (by decide) (by decide) (by decide) (by decide) (by decide), ez (by decide) (by decide) (by decide) (by decide) (by decide), e23.1, e23.2, fbX_ne _ _ _ (by decide) (by decide) (by decide)]; exact hrc.1
  · intro i
    rw [ez (by decide) (by decide) (by decide) (by decide) (by decide), fbX_4]
    have := h4 i
    split
    · exact Nat.mod_lt _ (by decide)
    · exact this
  · unfold fbZ; rw [rpX_ne _ _ (by decide) (by decide)]; exact hf.1
  · unfold fbZ; rw [rpX_ne _ _ (by decide) (by decide)]; exact hf.2
