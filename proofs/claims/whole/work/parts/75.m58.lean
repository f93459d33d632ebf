/-! ===== the law's loop ===== -/
theorem and31 (v : Int32) : ∃ x : Nat, x < 32 ∧ v &&& nI 31 = nI x := by
  refine ⟨(v.toBitVec &&& 31#32).toNat, ?_, ?_⟩
  · rw [BitVec.toNat_and]
    exact Nat.lt_of_le_of_lt Nat.and_le_right (by decide)
  · apply Int32.toBitVec_inj.mp
    show v.toBitVec &&& 31#32 = BitVec.ofNat 32 _
    apply BitVec.eq_of_toNat_eq
    simp
section LAWL
variable {X9 : fX} {Γ : fG} {B0 b L : Nat} {xs : Nat → Int32} {H : Heap} {locs : List Loc} {k m n i : Nat} {ad : Nat → Nat → Nat} {P R M : fR}
def law_fin (X9 : fX) (Γ : fG) (B0 : Nat) : Prop := ∀ (w : fV) (H : Heap) (locs : List Loc) (k m : Nat) (Ls : List (Option Value)), k ≤ 639089 → m ≤ 7178836 → f_HS Γ B0 w X9 H locs → f_W X9 H locs k m 1768 Ls []
theorem law_go (Q : f_law X9 Γ B0 b L xs) (hL : L ≤ 2560) (h : RE n P R M) (hn : n ≤ 511) (hi : i + 5 ≤ L) (hh : f_HS Γ B0 (wj (fw Γ ad P) (xw Γ ad R) (mw Γ ad M)) X9 H locs) (hk : k + 20 ≤ 639089 ∧ m + 200 ≤ 7178836) (kk : KK X9 Γ B0 b i n ad (k + 20) (m + 200)) : ∀ x : Nat, x < 28 → f_W X9 H locs k m 39 (LL b (ad 1 0) (ad 30 0) (ad 30 18) i none none) [.int (nI x)]
  | 0, _ => r_tab (off := 125) (tgt := 164) Q (by decide) dL_law_39 rfl (by decide) rfl (by decide) (k_insert Q hL h hn hi hh hk kk)
  | 1, _ => r_tab (off := 205) (tgt := 244) Q (by decide) dL_law_39 rfl (by decide) rfl (by decide) (k_remove Q hL h hn hi hh hk kk)
  | 2, _ => r_tab (off := 261) (tgt := 300) Q (by decide) dL_law_39 rfl (by decide) rfl (by decide) (k_move Q hL h hn hi hh hk kk)
  | 3, _ => r_tab (off := 309) (tgt := 348) Q (by decide) dL_law_39 rfl (by decide) rfl (by decide) (k_edit Q hL h hn hi hh hk kk)
  | 4, _ => r_tab (off := 389) (tgt := 428) Q (by decide) dL_law_39 rfl (by decide) rfl (by decide) (k_replace Q hL h hn hi hh hk kk)
  | 5, _ => r_tab (off := 457) (tgt := 496) Q (by decide) dL_law_39 rfl (by decide) rfl (by decide) (k_pages Q hL h hn hi hh hk kk)
  | 6, _ => r_tab (off := 470) (tgt := 509) Q (by decide) dL_law_39 rfl (by decide) rfl (by decide) (k_edition Q hL h hn hi hh hk kk)
  | 7, _ => r_tab (off := 526) (tgt := 565) Q (by decide) dL_law_39 rfl (by decide) rfl (by decide) (k_setFolds Q hL h hn hi hh hk kk)
  | 8, _ => r_tab (off := 594) (tgt := 633) Q (by decide) dL_law_39 rfl (by decide) rfl (by decide) (k_sheets Q hL h hn hi hh hk kk)
  | 9, _ => r_tab (off := 607) (tgt := 646) Q (by decide) dL_law_39 rfl (by decide) rfl (by decide) (k_rows Q hL h hn hi hh hk kk)
  | 10, _ => r_tab (off := 620) (tgt := 659) Q (by decide) dL_law_39 rfl (by decide) rfl (by decide) (k_columns Q hL h hn hi hh hk kk)
  | 11, _ => r_tab (off := 633) (tgt := 672) Q (by decide) dL_law_39 rfl (by decide) rfl (by decide) (k_pageAt Q hL h hn hi hh hk kk)
  | 12, _ => r_tab (off := 725) (tgt := 764) Q (by decide) dL_law_39 rfl (by decide) rfl (by decide) (k_pageByRule Q hL h hn hi hh hk kk)
  | 13, _ => r_tab (off := 817) (tgt := 856) Q (by decide) dL_law_39 rfl (by decide) rfl (by decide) (k_leafOf Q hL h hn hi hh hk kk)
  | 14, _ => r_tab (off := 873) (tgt := 912) Q (by decide) dL_law_39 rfl (by decide) rfl (by decide) (k_isTurned Q hL h hn hi hh hk kk)
  | 15, _ => r_tab (off := 936) (tgt := 975) Q (by decide) dL_law_39 rfl (by decide) rfl (by decide) (k_setRight Q hL h hn hi hh hk kk)
  | 16, _ => r_tab (off := 1016) (tgt := 1055) Q (by decide) dL_law_39 rfl (by decide) rfl (by decide) (k_withdraw Q hL h hn hi hh hk kk)
  | 17, _ => r_tab (off := 1072) (tgt := 1111) Q (by decide) dL_law_39 rfl (by decide) rfl (by decide) (k_pass Q hL h hn hi hh hk kk)
  | 18, _ => r_tab (off := 1128) (tgt := 1167) Q (by decide) dL_law_39 rfl (by decide) rfl (by decide) (k_today Q hL h hn hi hh hk kk)
  | 19, _ => r_tab (off := 1141) (tgt := 1180) Q (by decide) dL_law_39 rfl (by decide) rfl (by decide) (k_mayUse Q hL h hn hi hh hk kk)
  | 20, _ => r_tab (off := 1204) (tgt := 1243) Q (by decide) dL_law_39 rfl (by decide) rfl (by decide) (k_prove Q hL h hn hi hh hk kk)
  | 21, _ => r_tab (off := 1272) (tgt := 1311) Q (by decide) dL_law_39 rfl (by decide) rfl (by decide) (k_judge Q hL h hn hi hh hk kk)
  | 22, _ => r_tab (off := 1375) (tgt := 1414) Q (by decide) dL_law_39 rfl (by decide) rfl (by decide) (k_proof Q hL h hn hi hh hk kk)
  | 23, _ => r_tab (off := 1443) (tgt := 1482) Q (by decide) dL_law_39 rfl (by decide) rfl (by decide) (k_isReady Q hL h hn hi hh hk kk)
  | 24, _ => r_tab (off := 1506) (tgt := 1545) Q (by decide) dL_law_39 rfl (by decide) rfl (by decide) (k_makePlates Q hL h hn hi hh hk kk)
  | 25, _ => r_tab (off := 1562) (tgt := 1601) Q (by decide) dL_law_39 rfl (by decide) rfl (by decide) (k_wear Q hL h hn hi hh hk kk)
  | 26, _ => r_tab (off := 1642) (tgt := 1681) Q (by decide) dL_law_39 rfl (by decide) rfl (by decide) (k_print Q hL h hn hi hh hk kk)
  | 27, _ => r_tab (off := 1710) (tgt := 1749) Q (by decide) dL_law_39 rfl (by decide) rfl (by decide) (k_plates Q hL h hn hi hh hk kk)
  | x + 28, hx => absurd hx (by omega)
theorem law_round (Q : f_law X9 Γ B0 b L xs) (hL : L ≤ 2560) (h : RE n P R M) (hn : n ≤ 511) (hi : i + 5 ≤ L) (hh : f_HS Γ B0 (wj (fw Γ ad P) (xw Γ ad R) (mw Γ ad M)) X9 H locs) (hk : k + 20 ≤ 639089 ∧ m + 200 ≤ 7178836) (kk : KK X9 Γ B0 b i n ad (k + 20) (m + 200)) : f_W X9 H locs k m 32 (LL b (ad 1 0) (ad 30 0) (ad 30 18) i none none) [] := by
  have C := Q.1
  refine r_aload_n C dL_law_32 rfl ?_
  refine r_iload C dL_law_33 rfl ?_
  refine r_sld Q hh hL (j := i) (by omega) dL_law_35 ?_
  refine r_bipush C (nI 31) dL_law_36 rfl ?_
  refine r_iand C dL_law_38 ?_
  obtain ⟨x, hx, ex⟩ := and31 (xs i)
  rw [ex]
  rcases Nat.lt_or_ge x 28 with h28 | h28
  · exact law_go Q hL h hn hi hh hk kk x h28
  · refine r_tabOut (tgt := 1762) Q (by omega) dL_law_39 (by omega) (by decide) ?_
    exact f_widen (by omega) (by omega) (kk P R M ad H locs (RE_up (Nat.le_succ n) h) rfl (fun _ => rfl) hh)
theorem law_head (Q : f_law X9 Γ B0 b L xs) (hL : L ≤ 2560) {w : fV} (h5n : 5 * n ≤ L) (hh : f_HS Γ B0 w X9 H locs) {x9 m9 o9 : Nat} (kx : f_W X9 H locs k m 1768 (LL b x9 m9 o9 (5 * n) none none) []) (kg : 5 * n + 5 ≤ L → f_W X9 H locs k m 32 (LL b x9 m9 o9 (5 * n) none none) []) : f_W X9 H locs k m 23 (LL b x9 m9 o9 (5 * n) none none) [] := by
  have C := Q.1
  refine r_iload C dL_law_23 rfl ?_
  refine r_aload_n C dL_law_25 rfl ?_
  refine r_slen Q hh dL_law_26 ?_
  refine r_iconst C (nI 5) dL_law_27 rfl ?_
  by_cases h5 : 5 ≤ L
  · refine r_isubN C dL_law_28 h5 ?_
    exact r_icmp_gtN (tgt := 1768) C dL_law_29 (by decide) (by omega) (by omega) (fun z => kx) (fun z => kg (by omega))
  · refine r_isub C dL_law_28 ?_
    have h9 : ∀ j : Nat, j < 5 → nI j - nI 5 < nI (5 * 0) := by decide
    have n0 : n = 0 := by omega
    subst n0
    exact r_icmp_gt (tgt := 1768) C dL_law_29 (by decide) (fun z => kx) (fun z => absurd (h9 L (by omega)) z)
theorem law_loop (Q : f_law X9 Γ B0 b L xs) (hL : L ≤ 2560) (hf : law_fin X9 Γ B0) : ∀ (d n : Nat) (P R M : fR) (ad : Nat → Nat → Nat) (H : Heap) (locs : List Loc), L ≤ 5 * (n + d) → 5 * n ≤ L → RE n P R M → f_HS Γ B0 (wj (fw Γ ad P) (xw Γ ad R) (mw Γ ad M)) X9 H locs → f_W X9 H locs (40 + 20 * n) (3600 + 200 * n) 23 (LL b (ad 1 0) (ad 30 0) (ad 30 18) (5 * n) none none) [] := by
  have C := Q.1
  intro d
  induction d with
  | zero =>
    intro n P R M ad H locs h1 h2 h hh
    exact law_head Q hL h2 hh (hf _ H locs _ _ _ (by omega) (by omega) hh) (fun z => absurd z (by omega))
  | succ d ih =>
    intro n P R M ad H locs h1 h2 h hh
    refine law_head Q hL h2 hh (hf _ H locs _ _ _ (by omega) (by omega) hh) (fun z => ?_)
    refine law_round Q hL h (by omega) z hh (by omega) ?_
    intro P' R' M' ad' H locs hre a1 a30 hh
    rw [← a1, ← a30 0, ← a30 18]
    refine r_iincK C 5 dL_law_1762 rfl rfl rfl ?_
    refine r_goto (tgt := 23) C dL_law_1765 (by decide) ?_
    exact f_widen (k2 := 40 + 20 * (n + 1)) (n2 := 3600 + 200 * (n + 1)) (by omega) (by omega) (ih (n + 1) P' R' M' ad' H locs (by omega) (by omega) hre hh)
/-! the beginning -/
theorem fsX4 : ∀ j, j < 12 → defaultValue (tyX4 j) = vp_V [.null, .int 0, .int 0, .null, .null, .int 0, .null, .null, .null, .int 0, .int 0, .int 0] j
  | 0, _ => rfl
  | 1, _ => rfl
  | 2, _ => rfl
  | 3, _ => rfl
  | 4, _ => rfl
  | 5, _ => rfl
  | 6, _ => rfl
  | 7, _ => rfl
  | 8, _ => rfl
  | 9, _ => rfl
  | 10, _ => rfl
  | 11, _ => rfl
  | n + 12, h => absurd h (by omega)
theorem fsX5 : ∀ j, j < 26 → defaultValue (tyX5 j) = vp_V [.int 0, .int 0, .int 0, .null, .null, .null, .null, .null, .null, .null, .int 0, .null, .int 0, .int 0, .null, .null, .null, .null, .null, .null, .null, .int 0, .int 0, .null, .null, .int 0] j
  | 0, _ => rfl
  | 1, _ => rfl
  | 2, _ => rfl
  | 3, _ => rfl
  | 4, _ => rfl
  | 5, _ => rfl
  | 6, _ => rfl
  | 7, _ => rfl
  | 8, _ => rfl
  | 9, _ => rfl
  | 10, _ => rfl
  | 11, _ => rfl
  | 12, _ => rfl
  | 13, _ => rfl
  | 14, _ => rfl
  | 15, _ => rfl
  | 16, _ => rfl
  | 17, _ => rfl
  | 18, _ => rfl
  | 19, _ => rfl
  | 20, _ => rfl
  | 21, _ => rfl
  | 22, _ => rfl
  | 23, _ => rfl
  | 24, _ => rfl
  | 25, _ => rfl
  | n + 26, h => absurd h (by omega)
theorem wj_xi0 (Γ : fG) (a : Nat) : f_add (fun _ => none : fV) (.inr (.inl (0, 0))) (a, .inr (4, [.null, .int 0, .int 0, .null, .null, .int 0, .null, .null, .null, .int 0, .int 0, .int 0])) = wj (fun _ => none) (xi Γ (fun _ _ => a) 0 0) (fun _ => none) := by
  refine f_add_eq rfl (fun t' ht => ?_)
  match t' with
  | .inl z => rfl
  | .inr (.inr z) => rfl
  | .inr (.inl z) =>
    have hz : z ≠ (0, 0) := fun q => ht (by rw [q])
    show xi Γ (fun _ _ => a) 0 0 z = none
    unfold xi
    rw [if_neg hz]
    split
    · rfl
    · split
      · rfl
      · split
        · rfl
        · split
          · rfl
          · split
            · rfl
            · rw [if_neg (fun q => absurd q.2 (Nat.not_lt_zero _))]
theorem wj_mi0 (Γ : fG) (F : Nat → fO) (X : Nat × Nat → fO) (a : Nat) : f_add (wj F X (fun _ => none)) (.inr (.inr 0)) (a, .inr (5, [.int 0, .int 0, .int 0, .null, .null, .null, .null, .null, .null, .null, .int 0, .null, .int 0, .int 0, .null, .null, .null, .null, .null, .null, .null, .int 0, .int 0, .null, .null, .int 0])) = wj F X (mi Γ (fun _ => a) 0) := by
  refine f_add_eq rfl (fun t' ht => ?_)
  match t' with
  | .inl z => rfl
  | .inr (.inl z) => rfl
  | .inr (.inr z) =>
    have hz : z ≠ 0 := fun q => ht (by rw [q])
    show mi Γ (fun _ => a) 0 z = none
    unfold mi
    rw [if_neg hz, if_neg (by omega)]
theorem xw_ext30 (Γ : fG) {ad ad' : Nat → Nat → Nat} (R : fR) (h : ∀ i j, i ≠ 30 → ad i j = ad' i j) : xw Γ ad R = xw Γ ad' R := by
  have e14 : ad 14 = ad' 14 := by funext j; exact h 14 j (by decide)
  funext t
  unfold xw
  split <;> simp only [h 0 0 (by decide), e14, h 1 0 (by decide), h 2 0 (by decide), h 3 0 (by decide), h 4 0 (by decide), h 5 0 (by decide), h 6 0 (by decide), h 10 _ (by decide), h 14 _ (by decide), h 15 _ (by decide), h 16 _ (by decide), h 17 _ (by decide)]
theorem wj_out (Γ : fG) (F : Nat → fO) (X : Nat × Nat → fO) {ad ad2 : Nat → Nat → Nat} {M : fR} {a : Nat} (h : ∀ j, j ≠ 18 → ad2 30 j = ad 30 j) (h18 : ad2 30 18 = a) : f_add (wj F X (mw Γ ad M)) (.inr (.inr 18)) (a, .inl (Γ.2 2, 1, .inr (.inl (fun _ => lN 0)))) = wj F X (mw Γ ad2 (rs (rs M 26 (k0 0)) 27 (k0 1))) := by
  subst h18
  refine f_add_eq (mw_18 Γ ad2 (M := rs (rs M 26 (k0 0)) 27 (k0 1)) rfl) (fun t' ht => ?_)
  match t' with
  | .inl z => rfl
  | .inr (.inl z) => rfl
  | .inr (.inr z) =>
    have hz : z ≠ 18 := fun q => ht (by rw [q])
    show mw Γ ad2 (rs (rs M 26 (k0 0)) 27 (k0 1)) z = mw Γ ad M z
    unfold mw
    split <;> first | (exact absurd rfl hz) | rfl | (simp only [h 0 (by decide), h 1 (by decide), h 2 (by decide), h 3 (by decide), h 4 (by decide), h 5 (by decide), h 6 (by decide), h 7 (by decide), h 8 (by decide), h 9 (by decide), h 10 (by decide), h 11 (by decide), h 12 (by decide), h 13 (by decide), h 14 (by decide), h 15 (by decide), h 16 (by decide), h 17 (by decide)]; done) | (simp only [h 0 (by decide), h 1 (by decide), h 2 (by decide), h 3 (by decide), h 4 (by decide), h 5 (by decide), h 6 (by decide), h 7 (by decide), h 8 (by decide), h 9 (by decide), h 10 (by decide), h 11 (by decide), h 12 (by decide), h 13 (by decide), h 14 (by decide), h 15 (by decide), h 16 (by decide), h 17 (by decide)]; rfl)
theorem mw_18n (Γ : fG) (ad : Nat → Nat → Nat) {M : fR} (h : M 27 0 0 = 0) : mw Γ ad M 18 = none := if_pos h
theorem m27_0 : lyM (m2P 8) 1 0 27 0 0 = 0 := by
  rw [lyM_ne _ _ _ (by decide) (by decide) (by decide) (by decide) (by decide) (by decide) (by decide), m2P_v _ (by decide) (by decide)]
set_option maxHeartbeats 4000000 in
theorem law_start (Q : f_law X9 Γ B0 b L xs) (hL : L ≤ 2560) (hf : law_fin X9 Γ B0) (hh : f_HS Γ B0 (fun _ => none) X9 H locs) : f_W X9 H locs 0 0 0 [some (.ref b), none, none, none, none, none, none] [] := by
  have C := Q.1
  refine r_new (.inr (.inl (0, 0))) C hh rfl (ci := 4) rfl hinX4 tyX4 tyX4_ok kl_L_8 is_X4 in_X4 [.null, .int 0, .int 0, .null, .null, .int 0, .null, .null, .null, .int 0, .int 0, .int 0] fsX4 (by omega) (by omega) dL_law_0 (fun H1 hz9 hh => ?_)
  rw [wj_xi0 Γ] at hh
  generalize H.size = ax at hh ⊢
  refine r_dup C dL_law_3 rfl ?_
  refine r_callI0 C hh (c_X4_init Q.2.1 Γ B0 (fun _ _ => ax) (fun _ => none)) lk_L_88 rfl (rest := [.ref ax]) rfl (Nat.le_of_ble_eq_true rfl) dL_law_4 ⟨by decide, by decide⟩ ⟨by omega, by omega⟩ (kk_rV fun w9 H locs hs9 hp9 hh => ?_)
  obtain ⟨ad, hax, rfl⟩ := hp9
  refine r_astore_n C dL_law_7 rfl rfl ?_
  refine r_new (.inr (.inr 0)) C hh rfl (ci := 5) rfl hinX5 tyX5 tyX5_ok kl_L_89 is_X5 in_X5 [.int 0, .int 0, .int 0, .null, .null, .null, .null, .null, .null, .null, .int 0, .null, .int 0, .int 0, .null, .null, .null, .null, .null, .null, .null, .int 0, .int 0, .null, .null, .int 0] fsX5 (by omega) (by omega) dL_law_8 (fun H1 hz9 hh => ?_)
  rw [wj_mi0 Γ] at hh
  generalize H.size = am at hh ⊢
  refine r_dup C dL_law_11 rfl ?_
  refine r_callI0 C hh (c_X5_init Q.2.1 Γ B0 (fun _ => am) _ _) lk_L_91 rfl (rest := [.ref am]) rfl (Nat.le_of_ble_eq_true rfl) dL_law_12 ⟨by decide, by decide⟩ ⟨by omega, by omega⟩ (kk_rV fun w9 H locs hs9 hp9 hh => ?_)
  obtain ⟨bm, ham, rfl⟩ := hp9
  refine r_astore_n C dL_law_15 rfl rfl ?_
  refine r_iconst C (nI 1) dL_law_16 rfl ?_
  refine r_newa (.inr (.inr 18)) C hh (mw_18n Γ (fun _ j => bm j) m27_0) 2 rfl rfl (fun _ z9 => by cases z9) ac_long (1, .inr (.inl (fun _ => lN 0))) (fun _ => rfl) (by decide) (by decide) (by omega) (by omega) dL_law_17 (fun H1 hz9 hh => ?_)
  generalize H.size = ao at hh ⊢
  rw [wj_out Γ (ad := fun _ j => bm j) (ad2 := fun i j => if i = 30 then (if j = 18 then ao else bm j) else ad i j) _ _ (fun j hj => by simp [hj]) (by simp)] at hh
  rw [fw_ext Γ (ad := ad) (ad' := fun i j => if i = 30 then (if j = 18 then ao else bm j) else ad i j) _ (fun j => rfl), xw_ext30 Γ (ad := ad) (ad' := fun i j => if i = 30 then (if j = 18 then ao else bm j) else ad i j) _ (fun i j hi => (if_neg hi).symm)] at hh
  generalize hA : (fun i j => if i = 30 then (if j = 18 then ao else bm j) else ad i j : Nat → Nat → Nat) = ad2 at hh
  have g1 : ad2 1 0 = ax := by rw [← hA]; exact hax
  have g30 : ad2 30 0 = am := by rw [← hA]; exact ham
  have g18 : ad2 30 18 = ao := by rw [← hA]; rfl
  refine r_astore_n C dL_law_19 rfl rfl ?_
  refine r_iconst C (nI 0) dL_law_20 rfl ?_
  refine r_istore C dL_law_21 rfl rfl ?_
  have K := law_loop Q hL hf 512 0 (fbZ zP 1 0) zP M0 ad2 H1 locs (by omega) (by omega) RE_0 hh
  rw [g1, g30, g18] at K
  exact f_widen (by omega) (by omega) K
end LAWL
