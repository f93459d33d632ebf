/-! ===== the law's cases ===== -/
theorem KK.widen {X9 : fX} {Γ : fG} {B0 b i n : Nat} {ad : Nat → Nat → Nat} {k m k2 m2 : Nat} (h : KK X9 Γ B0 b i n ad k2 m2) (h1 : k ≤ k2) (h2 : m ≤ m2) : KK X9 Γ B0 b i n ad k m := fun P' R' M' ad' H locs a b c d => f_widen h1 h2 (h P' R' M' ad' H locs a b c d)
theorem psM_26 (M : fR) : ∀ x, psM M x 26 = M 26
  | 0 => rfl
  | x + 1 => psM_26 M x
theorem s26_isM (M : fR) (x y z : Int32) : isM M x y z 26 0 0 = M 26 0 0 := by
  unfold isM
  split <;> rfl
theorem s26_rvM (M : fR) (x : Int32) : rvM M x 26 0 0 = M 26 0 0 := by
  unfold rvM
  split <;> rfl
theorem s26_mvI (M : fR) (x y : Int32) : mvI M x y 26 0 0 = M 26 0 0 := by
  unfold mvI
  split <;> rfl
theorem s26_eiM (M : fR) (x y z : Int32) : eiM M x y z 26 0 0 = M 26 0 0 := by
  unfold eiM
  split <;> rfl
theorem s26_rqM (M : fR) (x y : Int32) : rqM M x y 26 0 0 = M 26 0 0 := by
  unfold rqM
  split
  · rw [rpM_ne _ _ _ (by decide) (by decide) (by decide) (by decide)]; rfl
  · rfl
theorem s26_sfM (M : fR) (x y : Int32) : sfM M x y 26 0 0 = M 26 0 0 := by
  unfold sfM
  split
  · rw [lyM_ne _ _ _ (by decide) (by decide) (by decide) (by decide) (by decide) (by decide) (by decide)]; rfl
  · rfl
theorem s26_srM (M : fR) (x y z : Int32) : srM M x y z 26 0 0 = M 26 0 0 := by
  unfold srM
  split <;> rfl
theorem s26_wdM (M : fR) (x : Int32) : wdM M x 26 0 0 = M 26 0 0 := by
  unfold wdM
  split <;> rfl
theorem s26_paM (M : fR) (x : Int32) : paM M x 26 0 0 = M 26 0 0 := by
  unfold paM
  split
  · rw [psM_26]; rfl
  · rfl
theorem s26_pwM (M : fR) (x y : Int32) : pwM M x y 26 0 0 = M 26 0 0 := by
  unfold pwM
  split <;> rfl
theorem s26_juM (M : fR) (x y : Int32) (b : Bool) : juM M x y b 26 0 0 = M 26 0 0 := by
  unfold juM
  split <;> rfl
theorem s26_mpM (M : fR) (x : Int32) : mpM M x 26 0 0 = M 26 0 0 := by
  unfold mpM
  split
  · rw [rs_ne _ _ (show 26 ≠ 6 by decide), mkS_ne _ _ (by decide) (by decide) (by decide)]; rfl
  · rfl
theorem s26_wrM (M : fR) (x y z : Int32) : wrM M x y z 26 0 0 = M 26 0 0 := rfl
theorem s26_ptM (M : fR) (x y : Int32) : ptM M x y 26 0 0 = M 26 0 0 := by
  unfold ptM
  split <;> rfl
theorem rgB_of {x : Int32} {n : Nat} (hn : n < 2 ^ 31) (h : rgB x n = true) : ∃ j : Nat, j < n ∧ x = nI j := by
  obtain ⟨a, b⟩ := rg_xN hn ((rgB_rg hn).mp h)
  exact ⟨_, a, b⟩
theorem inn_in {y : Int32} {a b : Nat} (ha : a < 2 ^ 31) (hb : b < 2 ^ 31) (h : inn y (nI a) (nI b) = true) : ∃ j : Nat, (a ≤ j ∧ j ≤ b) ∧ y = nI j := by
  have h1 := of_decide_eq_true h
  have e1 := nI_toInt ha
  have e2 := nI_toInt hb
  have g1 := Int32.le_iff_toInt_le.mp h1.1
  have g2 := Int32.le_iff_toInt_le.mp h1.2
  rw [e1] at g1
  rw [e2] at g2
  refine ⟨y.toInt.toNat, by omega, ?_⟩
  have e3 := nI_toInt (n := y.toInt.toNat) (by omega)
  exact Int32.toInt_inj.mp (by rw [e3]; omega)
section DX5
theorem d_X5_setFolds {l : Launch} (hl : l.stackTraces = false) (Γ : fG) (B0 : Nat) (ad : Nat → Nat → Nat) (M : fR) (F : Nat → fO) (X : Nat × Nat → fO) (x y : Int32) (hI : MI M) : ∃ fr lo : Nat, (fr ≤ 8 ∧ lo ≤ 200) ∧ f_Met l yX5_setFolds cX5_setFolds 4 (some .int) fr 0 0 lo Γ B0 [.ref (ad 30 0), .int x, .int y] (wj F X (mw Γ ad M)) (f_is (sfV M x y) (wj F X (mw Γ ad (sfM M x y)))) f_no := by
  cases h : inn x (nI 1) (nI 4) with
  | true =>
    obtain ⟨j, h1, rfl⟩ := inn_in (by decide) (by decide) h
    exact ⟨2, 59, by omega, c_X5_setFolds_i hl Γ B0 ad M F X j y (by omega) hI⟩
  | false => exact ⟨1, 23, by omega, c_X5_setFolds_o hl Γ B0 ad M F X x y h⟩
theorem d_X5_withdraw {l : Launch} (hl : l.stackTraces = false) (Γ : fG) (B0 : Nat) (ad : Nat → Nat → Nat) (M : fR) (F : Nat → fO) (X : Nat × Nat → fO) (x : Int32) (hI : MI M) (h2 : 2 ≤ M 4 0 0 * M 5 0 0) : ∃ fr lo : Nat, (fr ≤ 8 ∧ lo ≤ 200) ∧ f_Met l yX5_withdraw cX5_withdraw 3 (some .int) fr 0 0 lo Γ B0 [.ref (ad 30 0), .int x] (wj F X (mw Γ ad M)) (f_is (wdV M x) (wj F X (mw Γ ad (wdM M x)))) f_no := by
  cases h : rgB x 8 with
  | true =>
    obtain ⟨j, h1, rfl⟩ := rgB_of (by decide) h
    exact ⟨7, 157, by omega, c_X5_withdraw_i hl Γ B0 ad M F X j h1 hI h2⟩
  | false => exact ⟨2, 42, by omega, c_X5_withdraw_o hl Γ B0 ad M F X x h⟩
theorem d_X5_prove {l : Launch} (hl : l.stackTraces = false) (Γ : fG) (B0 : Nat) (ad : Nat → Nat → Nat) (M : fR) (F : Nat → fO) (X : Nat × Nat → fO) (x y : Int32) (hI : MI M) : ∃ fr lo : Nat, (fr ≤ 8 ∧ lo ≤ 200) ∧ f_Met l yX5_prove cX5_prove 11 (some .int) fr 0 0 lo Γ B0 [.ref (ad 30 0), .int x, .int y] (wj F X (mw Γ ad M)) (f_is (pwV M x y) (wj F X (mw Γ ad (pwM M x y)))) f_no := by
  have h64 := hI.1
  cases h : rgB x (M 2 0 0) with
  | true =>
    obtain ⟨j, h1, rfl⟩ := rgB_of (by omega) h
    cases hy : rgB y 4 with
    | true =>
      obtain ⟨j2, h3, rfl⟩ := rgB_of (by decide) hy
      exact ⟨3, 66, by omega, c_X5_prove_i hl Γ B0 ad M F X j j2 h1 h3 hI⟩
    | false => exact ⟨2, 43, by omega, c_X5_prove_p hl Γ B0 ad M F X j y h1 hy hI⟩
  | false => exact ⟨2, 43, by omega, c_X5_prove_o hl Γ B0 ad M F X x y h⟩
theorem d_X5_judge {l : Launch} (hl : l.stackTraces = false) (Γ : fG) (B0 : Nat) (ad : Nat → Nat → Nat) (M : fR) (F : Nat → fO) (X : Nat × Nat → fO) (x y : Int32) (b : Bool) (hI : MI M) : ∃ fr lo : Nat, (fr ≤ 8 ∧ lo ≤ 200) ∧ f_Met l yX5_judge cX5_judge 7 (some .boolean) fr 0 0 lo Γ B0 [.ref (ad 30 0), .int x, .int y, .int (bI b)] (wj F X (mw Γ ad M)) (f_is (bI (juV M x y b)) (wj F X (mw Γ ad (juM M x y b)))) f_no := by
  have h64 := hI.1
  cases h : (rgB x (M 2 0 0) && rgB y 4) with
  | true =>
    have h9 := (Bool.and_eq_true _ _).mp h
    obtain ⟨j, h1, rfl⟩ := rgB_of (by omega) h9.1
    obtain ⟨j2, h3, rfl⟩ := rgB_of (by decide) h9.2
    exact ⟨4, 89, by omega, c_X5_judge_i hl Γ B0 ad M F X j j2 b h1 h3 hI⟩
  | false => exact ⟨2, 43, by omega, c_X5_judge_o hl Γ B0 ad M F X x y b h⟩
theorem d_X5_makePlates {l : Launch} (hl : l.stackTraces = false) (Γ : fG) (B0 : Nat) (ad : Nat → Nat → Nat) (M : fR) (F : Nat → fO) (X : Nat × Nat → fO) (x : Int32) (hI : MI M) (h2 : 2 ≤ M 4 0 0 * M 5 0 0) : ∃ fr lo : Nat, (fr ≤ 8 ∧ lo ≤ 200) ∧ f_Met l yX5_makePlates cX5_makePlates 7 (some .int) fr 0 0 lo Γ B0 [.ref (ad 30 0), .int x] (wj F X (mw Γ ad M)) (f_rI (fun r9 w9 => r9 = mpV M x ∧ ∃ T : Nat → Nat → Nat, (∀ k, T k 0 < 134217728) ∧ w9 = wj F X (mw Γ ad (rs (mpM M x) 23 T)))) f_no := by
  have h16 := shM_16 hI h2
  cases h : rgB x (shM M) with
  | true =>
    obtain ⟨j, h1, rfl⟩ := rgB_of (by omega) h
    exact ⟨5, 112, by omega, c_X5_makePlates_i hl Γ B0 ad M F X j h1 hI h2⟩
  | false => exact ⟨3, 61, by omega, c_X5_makePlates_o hl Γ B0 ad M F X x h hI⟩
theorem d_X5_print {l : Launch} (hl : l.stackTraces = false) (Γ : fG) (B0 : Nat) (ad : Nat → Nat → Nat) (M : fR) (F : Nat → fO) (X : Nat × Nat → fO) (x y : Int32) (hI : MI M) (h2 : 2 ≤ M 4 0 0 * M 5 0 0) : ∃ fr lo : Nat, (fr ≤ 8 ∧ lo ≤ 200) ∧ f_Met l yX5_print cX5_print 6 (some .int) fr 0 0 lo Γ B0 [.ref (ad 30 0), .int x, .int y] (wj F X (mw Γ ad M)) (f_rI (fun r9 w9 => r9 = ptW M x y ∧ ∃ T : Nat → Nat → Nat, (∀ k, T k 0 < 134217728) ∧ w9 = wj F X (mw Γ ad (rs (ptM M x y) 23 T)))) f_no := by
  have h16 := shM_16 hI h2
  cases h : (rgB x (shM M) && ptC y) with
  | true =>
    have h9 := (Bool.and_eq_true _ _).mp h
    obtain ⟨j, h1, rfl⟩ := rgB_of (by omega) h9.1
    obtain ⟨j2, h3, rfl⟩ := inn_in (by decide) (by decide) h9.2
    exact ⟨6, 136, by omega, c_X5_print_i hl Γ B0 ad M F X j j2 h1 h3 hI h2⟩
  | false => exact ⟨3, 61, by omega, c_X5_print_o hl Γ B0 ad M F X x y h hI⟩
end DX5
section LAWC
variable {X9 : fX} {Γ : fG} {B0 b L : Nat} {xs : Nat → Int32} {H : Heap} {locs : List Loc} {k m n i : Nat} {ad : Nat → Nat → Nat} {P R M : fR}
set_option maxHeartbeats 4000000 in
theorem k_insert (Q : f_law X9 Γ B0 b L xs) (hL : L ≤ 2560) (h : RE n P R M) (hn : n ≤ 511) (hi : i + 5 ≤ L) (hh : f_HS Γ B0 (wj (fw Γ ad P) (xw Γ ad R) (mw Γ ad M)) X9 H locs) (hk : k + 20 ≤ 639089 ∧ m + 200 ≤ 7178836) (kk : KK X9 Γ B0 b i n ad (k + 20) (m + 200)) : f_W X9 H locs k m 164 (LL b (ad 1 0) (ad 30 0) (ad 30 18) i none none) [] := by
  have C := Q.1
  refine r_aload_n C dL_law_164 rfl ?_
  refine r_arg Q hh hL 1 (by omega) rfl ⟨dL_law_165, dL_law_166, dL_law_168, dL_law_169, dL_law_170⟩ ?_
  refine r_arg Q hh hL 2 (by omega) rfl ⟨dL_law_171, dL_law_172, dL_law_174, dL_law_175, dL_law_176⟩ ?_
  refine r_arg Q hh hL 3 (by omega) rfl ⟨dL_law_177, dL_law_178, dL_law_180, dL_law_181, dL_law_182⟩ ?_
  refine r_aload_n C dL_law_183 rfl ?_
  refine r_callSW C Q.2.2.1 hh (c_L_insert Q.2.1 Γ B0 ad P R M n h (by omega) (xs (i + 1)) (xs (i + 2)) (xs (i + 3))) lw_L_92 rfl (rest := []) rfl (Nat.le_of_ble_eq_true rfl) dL_law_184 ⟨by decide, by decide⟩ ⟨by omega, by omega⟩ ?_
  rintro v w' H locs hs9 ⟨kx, v26, ad', P', R', rfl, hk3, e8, eo, hre, h30, h1, rfl⟩ hh
  refine r_istore C dL_law_187 rfl rfl ?_
  have h6 : RE n P R (rs M 26 (k0 v26)) := RE_26 h (k0 v26)
  have e26 : (rs M 26 (k0 v26)) 26 0 0 = v26 := rfl
  generalize rs M 26 (k0 v26) = M2 at e8 eo hre hh h6 e26
  refine r_aload_n C dL_law_189 rfl ?_
  refine r_arg Q hh hL 1 (by omega) rfl ⟨dL_law_190, dL_law_191, dL_law_193, dL_law_194, dL_law_195⟩ ?_
  refine r_arg Q hh hL 2 (by omega) rfl ⟨dL_law_196, dL_law_197, dL_law_199, dL_law_200, dL_law_201⟩ ?_
  refine r_arg Q hh hL 3 (by omega) rfl ⟨dL_law_202, dL_law_203, dL_law_205, dL_law_206, dL_law_207⟩ ?_
  refine r_callV0 C Q.2.1 hh (c_X5_insert Q.2.1 Γ B0 ad' M2 _ _ (xs (i + 1)) (xs (i + 2)) (xs (i + 3)) (RE_mi h6)) lk_L_97 (tr := .inr (.inr 0)) rfl rfl rfl (rest := []) (by rw [h30]; rfl) (Nat.le_of_ble_eq_true rfl) dL_law_208 ⟨by decide, by decide⟩ ⟨by omega, by omega⟩ (kk_is fun H locs hs9 hh => ?_)
  exact post_int (p := 211) (ad := ad) Q ⟨dL_law_211, dL_law_213, dL_law_214, dL_law_217, dL_law_219, dL_law_224, dL_law_226, dL_law_229, dL_law_230, dL_law_231, dL_law_232, dL_law_234, dL_law_235, dL_law_236, 1521, dL_law_241, by decide⟩ hre h1 h30 hk3 e8 (fun z => (congrArg lN ((s26_isM M2 (xs (i + 1)) (xs (i + 2)) (xs (i + 3))).trans e26)).trans (eo z)) hh ⟨by omega, by omega⟩ (kk.widen (by omega) (by omega))
set_option maxHeartbeats 4000000 in
theorem k_remove (Q : f_law X9 Γ B0 b L xs) (hL : L ≤ 2560) (h : RE n P R M) (hn : n ≤ 511) (hi : i + 5 ≤ L) (hh : f_HS Γ B0 (wj (fw Γ ad P) (xw Γ ad R) (mw Γ ad M)) X9 H locs) (hk : k + 20 ≤ 639089 ∧ m + 200 ≤ 7178836) (kk : KK X9 Γ B0 b i n ad (k + 20) (m + 200)) : f_W X9 H locs k m 244 (LL b (ad 1 0) (ad 30 0) (ad 30 18) i none none) [] := by
  have C := Q.1
  refine r_aload_n C dL_law_244 rfl ?_
  refine r_arg Q hh hL 1 (by omega) rfl ⟨dL_law_245, dL_law_246, dL_law_248, dL_law_249, dL_law_250⟩ ?_
  refine r_aload_n C dL_law_251 rfl ?_
  refine r_callSW C Q.2.2.1 hh (c_L_remove Q.2.1 Γ B0 ad P R M n h (by omega) (xs (i + 1))) lw_L_102 rfl (rest := []) rfl (Nat.le_of_ble_eq_true rfl) dL_law_252 ⟨by decide, by decide⟩ ⟨by omega, by omega⟩ ?_
  rintro v w' H locs hs9 ⟨kx, v26, ad', P', R', rfl, hk3, e8, eo, hre, h30, h1, rfl⟩ hh
  refine r_istore C dL_law_255 rfl rfl ?_
  have h6 : RE n P R (rs M 26 (k0 v26)) := RE_26 h (k0 v26)
  have e26 : (rs M 26 (k0 v26)) 26 0 0 = v26 := rfl
  generalize rs M 26 (k0 v26) = M2 at e8 eo hre hh h6 e26
  refine r_aload_n C dL_law_257 rfl ?_
  refine r_arg Q hh hL 1 (by omega) rfl ⟨dL_law_258, dL_law_259, dL_law_261, dL_law_262, dL_law_263⟩ ?_
  refine r_callV0 C Q.2.1 hh (c_X5_remove Q.2.1 Γ B0 ad' M2 _ _ (xs (i + 1)) (RE_mi h6)) lk_L_105 (tr := .inr (.inr 0)) rfl rfl rfl (rest := []) (by rw [h30]; rfl) (Nat.le_of_ble_eq_true rfl) dL_law_264 ⟨by decide, by decide⟩ ⟨by omega, by omega⟩ (kk_is fun H locs hs9 hh => ?_)
  exact post_int (p := 267) (ad := ad) Q ⟨dL_law_267, dL_law_269, dL_law_270, dL_law_273, dL_law_275, dL_law_280, dL_law_282, dL_law_285, dL_law_286, dL_law_287, dL_law_288, dL_law_290, dL_law_291, dL_law_292, 1465, dL_law_297, by decide⟩ hre h1 h30 hk3 e8 (fun z => (congrArg lN ((s26_rvM M2 (xs (i + 1))).trans e26)).trans (eo z)) hh ⟨by omega, by omega⟩ (kk.widen (by omega) (by omega))
set_option maxHeartbeats 4000000 in
theorem k_move (Q : f_law X9 Γ B0 b L xs) (hL : L ≤ 2560) (h : RE n P R M) (hn : n ≤ 511) (hi : i + 5 ≤ L) (hh : f_HS Γ B0 (wj (fw Γ ad P) (xw Γ ad R) (mw Γ ad M)) X9 H locs) (hk : k + 20 ≤ 639089 ∧ m + 200 ≤ 7178836) (kk : KK X9 Γ B0 b i n ad (k + 20) (m + 200)) : f_W X9 H locs k m 300 (LL b (ad 1 0) (ad 30 0) (ad 30 18) i none none) [] := by
  have C := Q.1
  refine r_aload_n C dL_law_300 rfl ?_
  refine r_arg Q hh hL 1 (by omega) rfl ⟨dL_law_301, dL_law_302, dL_law_304, dL_law_305, dL_law_306⟩ ?_
  refine r_arg Q hh hL 2 (by omega) rfl ⟨dL_law_307, dL_law_308, dL_law_310, dL_law_311, dL_law_312⟩ ?_
  refine r_callSW C Q.2.2.1 hh (c_L_move Q.2.1 Γ B0 ad P R M n h (by omega) (xs (i + 1)) (xs (i + 2))) lw_L_106 rfl (rest := []) rfl (Nat.le_of_ble_eq_true rfl) dL_law_313 ⟨by decide, by decide⟩ ⟨by omega, by omega⟩ ?_
  rintro v w' H locs hs9 ⟨kx, v26, ad', P', R', rfl, hk3, e8, eo, hre, h30, h1, rfl⟩ hh
  refine r_istore C dL_law_316 rfl rfl ?_
  have h6 : RE n P R (rs M 26 (k0 v26)) := RE_26 h (k0 v26)
  have e26 : (rs M 26 (k0 v26)) 26 0 0 = v26 := rfl
  generalize rs M 26 (k0 v26) = M2 at e8 eo hre hh h6 e26
  refine r_aload_n C dL_law_318 rfl ?_
  refine r_arg Q hh hL 1 (by omega) rfl ⟨dL_law_319, dL_law_320, dL_law_322, dL_law_323, dL_law_324⟩ ?_
  refine r_arg Q hh hL 2 (by omega) rfl ⟨dL_law_325, dL_law_326, dL_law_328, dL_law_329, dL_law_330⟩ ?_
  refine r_callV0 C Q.2.1 hh (c_X5_move Q.2.1 Γ B0 ad' M2 _ _ (xs (i + 1)) (xs (i + 2)) (RE_mi h6)) lk_L_109 (tr := .inr (.inr 0)) rfl rfl rfl (rest := []) (by rw [h30]; rfl) (Nat.le_of_ble_eq_true rfl) dL_law_331 ⟨by decide, by decide⟩ ⟨by omega, by omega⟩ (kk_to fun H locs hs9 hh => ?_)
  exact post_move (p := 334) (ad := ad) Q ⟨dL_law_334, dL_law_335, dL_law_338, dL_law_340, 1417, dL_law_345, by decide⟩ hre h1 h30 hk3 e8 hh ⟨by omega, by omega⟩ (kk.widen (by omega) (by omega))
set_option maxHeartbeats 4000000 in
theorem k_edit (Q : f_law X9 Γ B0 b L xs) (hL : L ≤ 2560) (h : RE n P R M) (hn : n ≤ 511) (hi : i + 5 ≤ L) (hh : f_HS Γ B0 (wj (fw Γ ad P) (xw Γ ad R) (mw Γ ad M)) X9 H locs) (hk : k + 20 ≤ 639089 ∧ m + 200 ≤ 7178836) (kk : KK X9 Γ B0 b i n ad (k + 20) (m + 200)) : f_W X9 H locs k m 348 (LL b (ad 1 0) (ad 30 0) (ad 30 18) i none none) [] := by
  have C := Q.1
  refine r_aload_n C dL_law_348 rfl ?_
  refine r_arg Q hh hL 1 (by omega) rfl ⟨dL_law_349, dL_law_350, dL_law_352, dL_law_353, dL_law_354⟩ ?_
  refine r_arg Q hh hL 2 (by omega) rfl ⟨dL_law_355, dL_law_356, dL_law_358, dL_law_359, dL_law_360⟩ ?_
  refine r_arg Q hh hL 3 (by omega) rfl ⟨dL_law_361, dL_law_362, dL_law_364, dL_law_365, dL_law_366⟩ ?_
  refine r_aload_n C dL_law_367 rfl ?_
  refine r_callSW C Q.2.2.1 hh (c_L_edit Q.2.1 Γ B0 ad P R M n h (by omega) (xs (i + 1)) (xs (i + 2)) (xs (i + 3))) lw_L_110 rfl (rest := []) rfl (Nat.le_of_ble_eq_true rfl) dL_law_368 ⟨by decide, by decide⟩ ⟨by omega, by omega⟩ ?_
  rintro v w' H locs hs9 ⟨kx, v26, ad', P', R', rfl, hk3, e8, eo, hre, h30, h1, rfl⟩ hh
  refine r_istore C dL_law_371 rfl rfl ?_
  have h6 : RE n P R (rs M 26 (k0 v26)) := RE_26 h (k0 v26)
  have e26 : (rs M 26 (k0 v26)) 26 0 0 = v26 := rfl
  generalize rs M 26 (k0 v26) = M2 at e8 eo hre hh h6 e26
  refine r_aload_n C dL_law_373 rfl ?_
  refine r_arg Q hh hL 1 (by omega) rfl ⟨dL_law_374, dL_law_375, dL_law_377, dL_law_378, dL_law_379⟩ ?_
  refine r_arg Q hh hL 2 (by omega) rfl ⟨dL_law_380, dL_law_381, dL_law_383, dL_law_384, dL_law_385⟩ ?_
  refine r_arg Q hh hL 3 (by omega) rfl ⟨dL_law_386, dL_law_387, dL_law_389, dL_law_390, dL_law_391⟩ ?_
  refine r_callV0 C Q.2.1 hh (c_X5_edit Q.2.1 Γ B0 ad' M2 _ _ (xs (i + 1)) (xs (i + 2)) (xs (i + 3)) (RE_mi h6)) lk_L_112 (tr := .inr (.inr 0)) rfl rfl rfl (rest := []) (by rw [h30]; rfl) (Nat.le_of_ble_eq_true rfl) dL_law_392 ⟨by decide, by decide⟩ ⟨by omega, by omega⟩ (kk_is fun H locs hs9 hh => ?_)
  exact post_int (p := 395) (ad := ad) Q ⟨dL_law_395, dL_law_397, dL_law_398, dL_law_401, dL_law_403, dL_law_408, dL_law_410, dL_law_413, dL_law_414, dL_law_415, dL_law_416, dL_law_418, dL_law_419, dL_law_420, 1337, dL_law_425, by decide⟩ hre h1 h30 hk3 e8 (fun z => (congrArg lN ((s26_eiM M2 (xs (i + 1)) (xs (i + 2)) (xs (i + 3))).trans e26)).trans (eo z)) hh ⟨by omega, by omega⟩ (kk.widen (by omega) (by omega))
set_option maxHeartbeats 4000000 in
theorem k_replace (Q : f_law X9 Γ B0 b L xs) (hL : L ≤ 2560) (h : RE n P R M) (hn : n ≤ 511) (hi : i + 5 ≤ L) (hh : f_HS Γ B0 (wj (fw Γ ad P) (xw Γ ad R) (mw Γ ad M)) X9 H locs) (hk : k + 20 ≤ 639089 ∧ m + 200 ≤ 7178836) (kk : KK X9 Γ B0 b i n ad (k + 20) (m + 200)) : f_W X9 H locs k m 428 (LL b (ad 1 0) (ad 30 0) (ad 30 18) i none none) [] := by
  have C := Q.1
  refine r_aload_n C dL_law_428 rfl ?_
  refine r_arg Q hh hL 1 (by omega) rfl ⟨dL_law_429, dL_law_430, dL_law_432, dL_law_433, dL_law_434⟩ ?_
  refine r_arg Q hh hL 2 (by omega) rfl ⟨dL_law_435, dL_law_436, dL_law_438, dL_law_439, dL_law_440⟩ ?_
  refine r_aload_n C dL_law_441 rfl ?_
  refine r_callSW C Q.2.2.1 hh (c_L_replace Q.2.1 Γ B0 ad P R M n h (by omega) (xs (i + 1)) (xs (i + 2))) lw_L_113 rfl (rest := []) rfl (Nat.le_of_ble_eq_true rfl) dL_law_442 ⟨by decide, by decide⟩ ⟨by omega, by omega⟩ ?_
  rintro v w' H locs hs9 ⟨kx, v26, ad', P', R', rfl, hk3, e8, eo, hre, h30, h1, rfl⟩ hh
  refine r_istore C dL_law_445 rfl rfl ?_
  have h6 : RE n P R (rs M 26 (k0 v26)) := RE_26 h (k0 v26)
  have e26 : (rs M 26 (k0 v26)) 26 0 0 = v26 := rfl
  generalize rs M 26 (k0 v26) = M2 at e8 eo hre hh h6 e26
  refine r_aload_n C dL_law_447 rfl ?_
  refine r_arg Q hh hL 1 (by omega) rfl ⟨dL_law_448, dL_law_449, dL_law_451, dL_law_452, dL_law_453⟩ ?_
  refine r_arg Q hh hL 2 (by omega) rfl ⟨dL_law_454, dL_law_455, dL_law_457, dL_law_458, dL_law_459⟩ ?_
  refine r_callV0 C Q.2.1 hh (c_X5_replace Q.2.1 Γ B0 ad' M2 _ _ (xs (i + 1)) (xs (i + 2)) (RE_mi h6)) lk_L_116 (tr := .inr (.inr 0)) rfl rfl rfl (rest := []) (by rw [h30]; rfl) (Nat.le_of_ble_eq_true rfl) dL_law_460 ⟨by decide, by decide⟩ ⟨by omega, by omega⟩ (kk_is fun H locs hs9 hh => ?_)
  exact post_int (p := 463) (ad := ad) Q ⟨dL_law_463, dL_law_465, dL_law_466, dL_law_469, dL_law_471, dL_law_476, dL_law_478, dL_law_481, dL_law_482, dL_law_483, dL_law_484, dL_law_486, dL_law_487, dL_law_488, 1269, dL_law_493, by decide⟩ hre h1 h30 hk3 e8 (fun z => (congrArg lN ((s26_rqM M2 (xs (i + 1)) (xs (i + 2))).trans e26)).trans (eo z)) hh ⟨by omega, by omega⟩ (kk.widen (by omega) (by omega))
theorem k_pages (Q : f_law X9 Γ B0 b L xs) (hL : L ≤ 2560) (h : RE n P R M) (hn : n ≤ 511) (hi : i + 5 ≤ L) (hh : f_HS Γ B0 (wj (fw Γ ad P) (xw Γ ad R) (mw Γ ad M)) X9 H locs) (hk : k + 20 ≤ 639089 ∧ m + 200 ≤ 7178836) (kk : KK X9 Γ B0 b i n ad (k + 20) (m + 200)) : f_W X9 H locs k m 496 (LL b (ad 1 0) (ad 30 0) (ad 30 18) i none none) [] := by
  have C := Q.1
  refine r_aload_n C dL_law_496 rfl ?_
  refine r_callV0 C Q.2.1 hh (c_X4_pages Q.2.1 Γ B0 ad R _ _) lk_L_117 (tr := .inr (.inl (0, 0))) rfl rfl rfl (rest := []) rfl (Nat.le_of_ble_eq_true rfl) dL_law_497 ⟨by decide, by decide⟩ ⟨by omega, by omega⟩ (kk_is fun H locs hs9 hh => ?_)
  refine r_aload_n C dL_law_500 rfl ?_
  refine r_callV0 C Q.2.1 hh (c_X5_pages Q.2.1 Γ B0 ad M _ _) lk_L_120 (tr := .inr (.inr 0)) rfl rfl rfl (rest := [.int (nI (R 0 0 0))]) rfl (Nat.le_of_ble_eq_true rfl) dL_law_501 ⟨by decide, by decide⟩ ⟨by omega, by omega⟩ (kk_is fun H locs hs9 hh => ?_)
  refine r_icmp_eq (tgt := 1762) C dL_law_504 (by decide) (fun _ => ?_) (fun z => absurd (congrArg nI (RE_n h)) z)
  exact f_widen (by omega) (by omega) (kk P R (rs M 8 (k0 0)) ad H locs (RE_8 (RE_up (Nat.le_succ n) h) _) rfl (fun _ => rfl) hh)
set_option maxHeartbeats 4000000 in
theorem k_edition (Q : f_law X9 Γ B0 b L xs) (hL : L ≤ 2560) (h : RE n P R M) (hn : n ≤ 511) (hi : i + 5 ≤ L) (hh : f_HS Γ B0 (wj (fw Γ ad P) (xw Γ ad R) (mw Γ ad M)) X9 H locs) (hk : k + 20 ≤ 639089 ∧ m + 200 ≤ 7178836) (kk : KK X9 Γ B0 b i n ad (k + 20) (m + 200)) : f_W X9 H locs k m 509 (LL b (ad 1 0) (ad 30 0) (ad 30 18) i none none) [] := by
  have C := Q.1
  refine r_aload_n C dL_law_509 rfl ?_
  refine r_arg Q hh hL 1 (by omega) rfl ⟨dL_law_510, dL_law_511, dL_law_513, dL_law_514, dL_law_515⟩ ?_
  refine r_aload_n C dL_law_516 rfl ?_
  refine r_callSW C Q.2.2.1 hh (c_L_edition Q.2.1 Γ B0 ad P R M n h (by omega) (xs (i + 1))) lw_L_121 rfl (rest := []) rfl (Nat.le_of_ble_eq_true rfl) dL_law_517 ⟨by decide, by decide⟩ ⟨by omega, by omega⟩ ?_
  rintro v w' H locs hs9 ⟨kx, v26, ad', P', R', rfl, hk3, e8, eo, hre, h30, h1, rfl⟩ hh
  refine r_istore C dL_law_520 rfl rfl ?_
  have h6 : RE n P R (rs M 26 (k0 v26)) := RE_26 h (k0 v26)
  have e26 : (rs M 26 (k0 v26)) 26 0 0 = v26 := rfl
  generalize rs M 26 (k0 v26) = M2 at e8 eo hre hh h6 e26
  refine r_aload_n C dL_law_522 rfl ?_
  refine r_arg Q hh hL 1 (by omega) rfl ⟨dL_law_523, dL_law_524, dL_law_526, dL_law_527, dL_law_528⟩ ?_
  refine r_callV0 C Q.2.1 hh (c_X5_edition Q.2.1 Γ B0 ad' M2 _ _ (xs (i + 1)) (RE_mi h6)) lk_L_123 (tr := .inr (.inr 0)) rfl rfl rfl (rest := []) (by rw [h30]; rfl) (Nat.le_of_ble_eq_true rfl) dL_law_529 ⟨by decide, by decide⟩ ⟨by omega, by omega⟩ (kk_is fun H locs hs9 hh => ?_)
  exact post_int (p := 532) (ad := ad) Q ⟨dL_law_532, dL_law_534, dL_law_535, dL_law_538, dL_law_540, dL_law_545, dL_law_547, dL_law_550, dL_law_551, dL_law_552, dL_law_553, dL_law_555, dL_law_556, dL_law_557, 1200, dL_law_562, by decide⟩ hre h1 h30 hk3 e8 (fun z => (congrArg lN e26).trans (eo z)) hh ⟨by omega, by omega⟩ (kk.widen (by omega) (by omega))
set_option maxHeartbeats 4000000 in
theorem k_setFolds (Q : f_law X9 Γ B0 b L xs) (hL : L ≤ 2560) (h : RE n P R M) (hn : n ≤ 511) (hi : i + 5 ≤ L) (hh : f_HS Γ B0 (wj (fw Γ ad P) (xw Γ ad R) (mw Γ ad M)) X9 H locs) (hk : k + 20 ≤ 639089 ∧ m + 200 ≤ 7178836) (kk : KK X9 Γ B0 b i n ad (k + 20) (m + 200)) : f_W X9 H locs k m 565 (LL b (ad 1 0) (ad 30 0) (ad 30 18) i none none) [] := by
  have C := Q.1
  refine r_aload_n C dL_law_565 rfl ?_
  refine r_arg Q hh hL 1 (by omega) rfl ⟨dL_law_566, dL_law_567, dL_law_569, dL_law_570, dL_law_571⟩ ?_
  refine r_arg Q hh hL 2 (by omega) rfl ⟨dL_law_572, dL_law_573, dL_law_575, dL_law_576, dL_law_577⟩ ?_
  refine r_aload_n C dL_law_578 rfl ?_
  refine r_callSW C Q.2.2.1 hh (c_L_setFolds Q.2.1 Γ B0 ad P R M n h (by omega) (xs (i + 1)) (xs (i + 2))) lw_L_124 rfl (rest := []) rfl (Nat.le_of_ble_eq_true rfl) dL_law_579 ⟨by decide, by decide⟩ ⟨by omega, by omega⟩ ?_
  rintro v w' H locs hs9 ⟨kx, v26, ad', P', R', rfl, hk3, e8, eo, hre, h30, h1, rfl⟩ hh
  refine r_istore C dL_law_582 rfl rfl ?_
  have h6 : RE n P R (rs M 26 (k0 v26)) := RE_26 h (k0 v26)
  have e26 : (rs M 26 (k0 v26)) 26 0 0 = v26 := rfl
  generalize rs M 26 (k0 v26) = M2 at e8 eo hre hh h6 e26
  refine r_aload_n C dL_law_584 rfl ?_
  refine r_arg Q hh hL 1 (by omega) rfl ⟨dL_law_585, dL_law_586, dL_law_588, dL_law_589, dL_law_590⟩ ?_
  refine r_arg Q hh hL 2 (by omega) rfl ⟨dL_law_591, dL_law_592, dL_law_594, dL_law_595, dL_law_596⟩ ?_
  obtain ⟨fr9, lo9, hfl, hM⟩ := d_X5_setFolds Q.2.1 Γ B0 ad' M2 (fw Γ ad' P') (xw Γ ad' R') (xs (i + 1)) (xs (i + 2)) (RE_mi h6)
  refine r_callV0 C Q.2.1 hh hM lk_L_126 (tr := .inr (.inr 0)) rfl rfl rfl (rest := []) (by rw [h30]; rfl) (Nat.le_of_ble_eq_true rfl) dL_law_597 ⟨by omega, by omega⟩ ⟨by omega, by omega⟩ (kk_is fun H locs hs9 hh => ?_)
  exact post_int (p := 600) (ad := ad) Q ⟨dL_law_600, dL_law_602, dL_law_603, dL_law_606, dL_law_608, dL_law_613, dL_law_615, dL_law_618, dL_law_619, dL_law_620, dL_law_621, dL_law_623, dL_law_624, dL_law_625, 1132, dL_law_630, by decide⟩ hre h1 h30 hk3 e8 (fun z => (congrArg lN ((s26_sfM M2 (xs (i + 1)) (xs (i + 2))).trans e26)).trans (eo z)) hh ⟨by omega, by omega⟩ (kk.widen (by omega) (by omega))
theorem k_sheets (Q : f_law X9 Γ B0 b L xs) (hL : L ≤ 2560) (h : RE n P R M) (hn : n ≤ 511) (hi : i + 5 ≤ L) (hh : f_HS Γ B0 (wj (fw Γ ad P) (xw Γ ad R) (mw Γ ad M)) X9 H locs) (hk : k + 20 ≤ 639089 ∧ m + 200 ≤ 7178836) (kk : KK X9 Γ B0 b i n ad (k + 20) (m + 200)) : f_W X9 H locs k m 633 (LL b (ad 1 0) (ad 30 0) (ad 30 18) i none none) [] := by
  have C := Q.1
  refine r_aload_n C dL_law_633 rfl ?_
  refine r_callV0 C Q.2.1 hh (c_X4_sheets Q.2.1 Γ B0 ad P R _ (RE_fj h).1.2.1 (RE_64 h)) lk_L_127 (tr := .inr (.inl (0, 0))) rfl rfl rfl (rest := []) rfl (Nat.le_of_ble_eq_true rfl) dL_law_634 ⟨by decide, by decide⟩ ⟨by omega, by omega⟩ (kk_is fun H locs hs9 hh => ?_)
  refine r_aload_n C dL_law_637 rfl ?_
  refine r_callV0 C Q.2.1 hh (c_X5_sheets Q.2.1 Γ B0 ad M _ _ (RE_mi h)) lk_L_130 (tr := .inr (.inr 0)) rfl rfl rfl (rest := [.int (nI (shc P R))]) rfl (Nat.le_of_ble_eq_true rfl) dL_law_638 ⟨by decide, by decide⟩ ⟨by omega, by omega⟩ (kk_is fun H locs hs9 hh => ?_)
  refine r_icmp_eq (tgt := 1762) C dL_law_641 (by decide) (fun _ => ?_) (fun z => absurd (congrArg nI (RE_sh h)) z)
  exact f_widen (by omega) (by omega) (kk P R (rs M 8 (k0 0)) ad H locs (RE_8 (RE_up (Nat.le_succ n) h) _) rfl (fun _ => rfl) hh)
theorem k_rows (Q : f_law X9 Γ B0 b L xs) (hL : L ≤ 2560) (h : RE n P R M) (hn : n ≤ 511) (hi : i + 5 ≤ L) (hh : f_HS Γ B0 (wj (fw Γ ad P) (xw Γ ad R) (mw Γ ad M)) X9 H locs) (hk : k + 20 ≤ 639089 ∧ m + 200 ≤ 7178836) (kk : KK X9 Γ B0 b i n ad (k + 20) (m + 200)) : f_W X9 H locs k m 646 (LL b (ad 1 0) (ad 30 0) (ad 30 18) i none none) [] := by
  have C := Q.1
  refine r_aload_n C dL_law_646 rfl ?_
  refine r_callV0 C Q.2.1 hh (c_X4_rows Q.2.1 Γ B0 ad P R _) lk_L_131 (tr := .inr (.inl (0, 0))) rfl rfl rfl (rest := []) rfl (Nat.le_of_ble_eq_true rfl) dL_law_647 ⟨by decide, by decide⟩ ⟨by omega, by omega⟩ (kk_is fun H locs hs9 hh => ?_)
  refine r_aload_n C dL_law_650 rfl ?_
  refine r_callV0 C Q.2.1 hh (c_X5_rows Q.2.1 Γ B0 ad M _ _) lk_L_134 (tr := .inr (.inr 0)) rfl rfl rfl (rest := [.int (nI (P 2 0 0))]) rfl (Nat.le_of_ble_eq_true rfl) dL_law_651 ⟨by decide, by decide⟩ ⟨by omega, by omega⟩ (kk_is fun H locs hs9 hh => ?_)
  refine r_icmp_eq (tgt := 1762) C dL_law_654 (by decide) (fun _ => ?_) (fun z => absurd (congrArg nI ((RE_ft h).2.1.1)) z)
  exact f_widen (by omega) (by omega) (kk P R (rs M 8 (k0 0)) ad H locs (RE_8 (RE_up (Nat.le_succ n) h) _) rfl (fun _ => rfl) hh)
theorem k_columns (Q : f_law X9 Γ B0 b L xs) (hL : L ≤ 2560) (h : RE n P R M) (hn : n ≤ 511) (hi : i + 5 ≤ L) (hh : f_HS Γ B0 (wj (fw Γ ad P) (xw Γ ad R) (mw Γ ad M)) X9 H locs) (hk : k + 20 ≤ 639089 ∧ m + 200 ≤ 7178836) (kk : KK X9 Γ B0 b i n ad (k + 20) (m + 200)) : f_W X9 H locs k m 659 (LL b (ad 1 0) (ad 30 0) (ad 30 18) i none none) [] := by
  have C := Q.1
  refine r_aload_n C dL_law_659 rfl ?_
  refine r_callV0 C Q.2.1 hh (c_X4_columns Q.2.1 Γ B0 ad P R _) lk_L_135 (tr := .inr (.inl (0, 0))) rfl rfl rfl (rest := []) rfl (Nat.le_of_ble_eq_true rfl) dL_law_660 ⟨by decide, by decide⟩ ⟨by omega, by omega⟩ (kk_is fun H locs hs9 hh => ?_)
  refine r_aload_n C dL_law_663 rfl ?_
  refine r_callV0 C Q.2.1 hh (c_X5_columns Q.2.1 Γ B0 ad M _ _) lk_L_138 (tr := .inr (.inr 0)) rfl rfl rfl (rest := [.int (nI (P 3 0 0))]) rfl (Nat.le_of_ble_eq_true rfl) dL_law_664 ⟨by decide, by decide⟩ ⟨by omega, by omega⟩ (kk_is fun H locs hs9 hh => ?_)
  refine r_icmp_eq (tgt := 1762) C dL_law_667 (by decide) (fun _ => ?_) (fun z => absurd (congrArg nI ((RE_ft h).2.1.2)) z)
  exact f_widen (by omega) (by omega) (kk P R (rs M 8 (k0 0)) ad H locs (RE_8 (RE_up (Nat.le_succ n) h) _) rfl (fun _ => rfl) hh)
set_option maxHeartbeats 4000000 in
theorem k_pageAt (Q : f_law X9 Γ B0 b L xs) (hL : L ≤ 2560) (h : RE n P R M) (hn : n ≤ 511) (hi : i + 5 ≤ L) (hh : f_HS Γ B0 (wj (fw Γ ad P) (xw Γ ad R) (mw Γ ad M)) X9 H locs) (hk : k + 20 ≤ 639089 ∧ m + 200 ≤ 7178836) (kk : KK X9 Γ B0 b i n ad (k + 20) (m + 200)) : f_W X9 H locs k m 672 (LL b (ad 1 0) (ad 30 0) (ad 30 18) i none none) [] := by
  have C := Q.1
  refine r_aload_n C dL_law_672 rfl ?_
  refine r_arg Q hh hL 1 (by omega) rfl ⟨dL_law_673, dL_law_674, dL_law_676, dL_law_677, dL_law_678⟩ ?_
  refine r_arg Q hh hL 2 (by omega) rfl ⟨dL_law_679, dL_law_680, dL_law_682, dL_law_683, dL_law_684⟩ ?_
  refine r_arg Q hh hL 3 (by omega) rfl ⟨dL_law_685, dL_law_686, dL_law_688, dL_law_689, dL_law_690⟩ ?_
  refine r_arg Q hh hL 4 (by omega) rfl ⟨dL_law_691, dL_law_692, dL_law_694, dL_law_695, dL_law_696⟩ ?_
  refine r_aload_n C dL_law_697 rfl ?_
  refine r_callSW C Q.2.2.1 hh (c_L_pageAt Q.2.1 Γ B0 ad P R M n h (by omega) (xs (i + 1)) (xs (i + 2)) (xs (i + 3)) (xs (i + 4))) lw_L_139 rfl (rest := []) rfl (Nat.le_of_ble_eq_true rfl) dL_law_698 ⟨by decide, by decide⟩ ⟨by omega, by omega⟩ ?_
  rintro v w' H locs hs9 ⟨kx, v26, ad', P', R', rfl, hk3, e8, eo, hre, h30, h1, rfl⟩ hh
  refine r_istore C dL_law_701 rfl rfl ?_
  have h6 : RE n P R (rs M 26 (k0 v26)) := RE_26 h (k0 v26)
  have e26 : (rs M 26 (k0 v26)) 26 0 0 = v26 := rfl
  generalize rs M 26 (k0 v26) = M2 at e8 eo hre hh h6 e26
  refine r_aload_n C dL_law_703 rfl ?_
  refine r_arg Q hh hL 1 (by omega) rfl ⟨dL_law_704, dL_law_705, dL_law_707, dL_law_708, dL_law_709⟩ ?_
  refine r_arg Q hh hL 2 (by omega) rfl ⟨dL_law_710, dL_law_711, dL_law_713, dL_law_714, dL_law_715⟩ ?_
  refine r_arg Q hh hL 3 (by omega) rfl ⟨dL_law_716, dL_law_717, dL_law_719, dL_law_720, dL_law_721⟩ ?_
  refine r_arg Q hh hL 4 (by omega) rfl ⟨dL_law_722, dL_law_723, dL_law_725, dL_law_726, dL_law_727⟩ ?_
  refine r_callV0 C Q.2.1 hh (c_X5_pageAt Q.2.1 Γ B0 ad' M2 _ _ (xs (i + 1)) (xs (i + 2)) (xs (i + 3)) (xs (i + 4)) (RE_mi h6) (RE_pg h6).2.1) lk_L_142 (tr := .inr (.inr 0)) rfl rfl rfl (rest := []) (by rw [h30]; rfl) (Nat.le_of_ble_eq_true rfl) dL_law_728 ⟨by decide, by decide⟩ ⟨by omega, by omega⟩ (kk_is fun H locs hs9 hh => ?_)
  exact post_int (p := 731) (ad := ad) Q ⟨dL_law_731, dL_law_733, dL_law_734, dL_law_737, dL_law_739, dL_law_744, dL_law_746, dL_law_749, dL_law_750, dL_law_751, dL_law_752, dL_law_754, dL_law_755, dL_law_756, 1001, dL_law_761, by decide⟩ hre h1 h30 hk3 e8 (fun z => (congrArg lN e26).trans (eo z)) hh ⟨by omega, by omega⟩ (kk.widen (by omega) (by omega))
set_option maxHeartbeats 4000000 in
theorem k_pageByRule (Q : f_law X9 Γ B0 b L xs) (hL : L ≤ 2560) (h : RE n P R M) (hn : n ≤ 511) (hi : i + 5 ≤ L) (hh : f_HS Γ B0 (wj (fw Γ ad P) (xw Γ ad R) (mw Γ ad M)) X9 H locs) (hk : k + 20 ≤ 639089 ∧ m + 200 ≤ 7178836) (kk : KK X9 Γ B0 b i n ad (k + 20) (m + 200)) : f_W X9 H locs k m 764 (LL b (ad 1 0) (ad 30 0) (ad 30 18) i none none) [] := by
  have C := Q.1
  refine r_aload_n C dL_law_764 rfl ?_
  refine r_arg Q hh hL 1 (by omega) rfl ⟨dL_law_765, dL_law_766, dL_law_768, dL_law_769, dL_law_770⟩ ?_
  refine r_arg Q hh hL 2 (by omega) rfl ⟨dL_law_771, dL_law_772, dL_law_774, dL_law_775, dL_law_776⟩ ?_
  refine r_arg Q hh hL 3 (by omega) rfl ⟨dL_law_777, dL_law_778, dL_law_780, dL_law_781, dL_law_782⟩ ?_
  refine r_arg Q hh hL 4 (by omega) rfl ⟨dL_law_783, dL_law_784, dL_law_786, dL_law_787, dL_law_788⟩ ?_
  refine r_aload_n C dL_law_789 rfl ?_
  refine r_callSW C Q.2.2.1 hh (c_L_pageByRule Q.2.1 Γ B0 ad P R M n h (by omega) (xs (i + 1)) (xs (i + 2)) (xs (i + 3)) (xs (i + 4))) lw_L_143 rfl (rest := []) rfl (Nat.le_of_ble_eq_true rfl) dL_law_790 ⟨by decide, by decide⟩ ⟨by omega, by omega⟩ ?_
  rintro v w' H locs hs9 ⟨kx, v26, ad', P', R', rfl, hk3, e8, eo, hre, h30, h1, rfl⟩ hh
  refine r_istore C dL_law_793 rfl rfl ?_
  have h6 : RE n P R (rs M 26 (k0 v26)) := RE_26 h (k0 v26)
  have e26 : (rs M 26 (k0 v26)) 26 0 0 = v26 := rfl
  generalize rs M 26 (k0 v26) = M2 at e8 eo hre hh h6 e26
  refine r_aload_n C dL_law_795 rfl ?_
  refine r_arg Q hh hL 1 (by omega) rfl ⟨dL_law_796, dL_law_797, dL_law_799, dL_law_800, dL_law_801⟩ ?_
  refine r_arg Q hh hL 2 (by omega) rfl ⟨dL_law_802, dL_law_803, dL_law_805, dL_law_806, dL_law_807⟩ ?_
  refine r_arg Q hh hL 3 (by omega) rfl ⟨dL_law_808, dL_law_809, dL_law_811, dL_law_812, dL_law_813⟩ ?_
  refine r_arg Q hh hL 4 (by omega) rfl ⟨dL_law_814, dL_law_815, dL_law_817, dL_law_818, dL_law_819⟩ ?_
  refine r_callV0 C Q.2.1 hh (c_X5_pageByRule Q.2.1 Γ B0 ad' M2 _ _ (xs (i + 1)) (xs (i + 2)) (xs (i + 3)) (xs (i + 4)) (RE_mi h6) (RE_pg h6).2.1) lk_L_145 (tr := .inr (.inr 0)) rfl rfl rfl (rest := []) (by rw [h30]; rfl) (Nat.le_of_ble_eq_true rfl) dL_law_820 ⟨by decide, by decide⟩ ⟨by omega, by omega⟩ (kk_is fun H locs hs9 hh => ?_)
  exact post_int (p := 823) (ad := ad) Q ⟨dL_law_823, dL_law_825, dL_law_826, dL_law_829, dL_law_831, dL_law_836, dL_law_838, dL_law_841, dL_law_842, dL_law_843, dL_law_844, dL_law_846, dL_law_847, dL_law_848, 909, dL_law_853, by decide⟩ hre h1 h30 hk3 e8 (fun z => (congrArg lN e26).trans (eo z)) hh ⟨by omega, by omega⟩ (kk.widen (by omega) (by omega))
set_option maxHeartbeats 4000000 in
theorem k_leafOf (Q : f_law X9 Γ B0 b L xs) (hL : L ≤ 2560) (h : RE n P R M) (hn : n ≤ 511) (hi : i + 5 ≤ L) (hh : f_HS Γ B0 (wj (fw Γ ad P) (xw Γ ad R) (mw Γ ad M)) X9 H locs) (hk : k + 20 ≤ 639089 ∧ m + 200 ≤ 7178836) (kk : KK X9 Γ B0 b i n ad (k + 20) (m + 200)) : f_W X9 H locs k m 856 (LL b (ad 1 0) (ad 30 0) (ad 30 18) i none none) [] := by
  have C := Q.1
  refine r_aload_n C dL_law_856 rfl ?_
  refine r_arg Q hh hL 1 (by omega) rfl ⟨dL_law_857, dL_law_858, dL_law_860, dL_law_861, dL_law_862⟩ ?_
  refine r_aload_n C dL_law_863 rfl ?_
  refine r_callSW C Q.2.2.1 hh (c_L_leafOf Q.2.1 Γ B0 ad P R M n h (by omega) (xs (i + 1))) lw_L_146 rfl (rest := []) rfl (Nat.le_of_ble_eq_true rfl) dL_law_864 ⟨by decide, by decide⟩ ⟨by omega, by omega⟩ ?_
  rintro v w' H locs hs9 ⟨kx, v26, ad', P', R', rfl, hk3, e8, eo, hre, h30, h1, rfl⟩ hh
  refine r_istore C dL_law_867 rfl rfl ?_
  have h6 : RE n P R (rs M 26 (k0 v26)) := RE_26 h (k0 v26)
  have e26 : (rs M 26 (k0 v26)) 26 0 0 = v26 := rfl
  generalize rs M 26 (k0 v26) = M2 at e8 eo hre hh h6 e26
  refine r_aload_n C dL_law_869 rfl ?_
  refine r_arg Q hh hL 1 (by omega) rfl ⟨dL_law_870, dL_law_871, dL_law_873, dL_law_874, dL_law_875⟩ ?_
  refine r_callV0 C Q.2.1 hh (c_X5_leafOf Q.2.1 Γ B0 ad' M2 _ _ (xs (i + 1)) (RE_mi h6) (RE_pg h6).2.1) lk_L_148 (tr := .inr (.inr 0)) rfl rfl rfl (rest := []) (by rw [h30]; rfl) (Nat.le_of_ble_eq_true rfl) dL_law_876 ⟨by decide, by decide⟩ ⟨by omega, by omega⟩ (kk_is fun H locs hs9 hh => ?_)
  exact post_int (p := 879) (ad := ad) Q ⟨dL_law_879, dL_law_881, dL_law_882, dL_law_885, dL_law_887, dL_law_892, dL_law_894, dL_law_897, dL_law_898, dL_law_899, dL_law_900, dL_law_902, dL_law_903, dL_law_904, 853, dL_law_909, by decide⟩ hre h1 h30 hk3 e8 (fun z => (congrArg lN e26).trans (eo z)) hh ⟨by omega, by omega⟩ (kk.widen (by omega) (by omega))
set_option maxHeartbeats 4000000 in
theorem k_isTurned (Q : f_law X9 Γ B0 b L xs) (hL : L ≤ 2560) (h : RE n P R M) (hn : n ≤ 511) (hi : i + 5 ≤ L) (hh : f_HS Γ B0 (wj (fw Γ ad P) (xw Γ ad R) (mw Γ ad M)) X9 H locs) (hk : k + 20 ≤ 639089 ∧ m + 200 ≤ 7178836) (kk : KK X9 Γ B0 b i n ad (k + 20) (m + 200)) : f_W X9 H locs k m 912 (LL b (ad 1 0) (ad 30 0) (ad 30 18) i none none) [] := by
  have C := Q.1
  refine r_aload_n C dL_law_912 rfl ?_
  refine r_arg Q hh hL 1 (by omega) rfl ⟨dL_law_913, dL_law_914, dL_law_916, dL_law_917, dL_law_918⟩ ?_
  refine r_aload_n C dL_law_919 rfl ?_
  refine r_callSW C Q.2.2.1 hh (c_L_isTurned Q.2.1 Γ B0 ad P R M n h (by omega) (xs (i + 1))) lw_L_149 rfl (rest := []) rfl (Nat.le_of_ble_eq_true rfl) dL_law_920 ⟨by decide, by decide⟩ ⟨by omega, by omega⟩ ?_
  rintro v w' H locs hs9 ⟨kx, v26, ad', P', R', rfl, hk3, e8, eo, hre, h30, h1, rfl⟩ hh
  refine r_istore C dL_law_923 rfl rfl ?_
  have h6 : RE n P R (rs M 26 (k0 v26)) := RE_26 h (k0 v26)
  have e26 : (rs M 26 (k0 v26)) 26 0 0 = v26 := rfl
  generalize rs M 26 (k0 v26) = M2 at e8 eo hre hh h6 e26
  refine r_aload_n C dL_law_925 rfl ?_
  refine r_arg Q hh hL 1 (by omega) rfl ⟨dL_law_926, dL_law_927, dL_law_929, dL_law_930, dL_law_931⟩ ?_
  refine r_callV0 C Q.2.1 hh (c_X5_isTurned Q.2.1 Γ B0 ad' M2 _ _ (xs (i + 1)) (q_lf32 h6) (RE_mi h6) (RE_pg h6).2.1) lk_L_151 (tr := .inr (.inr 0)) rfl rfl rfl (rest := []) (by rw [h30]; rfl) (Nat.le_of_ble_eq_true rfl) dL_law_932 ⟨by decide, by decide⟩ ⟨by omega, by omega⟩ (kk_is fun H locs hs9 hh => ?_)
  exact post_bool (p := 935) (ad := ad) Q ⟨dL_law_935, dL_law_937, dL_law_938, dL_law_941, dL_law_943, dL_law_948, dL_law_950, dL_law_953, dL_law_954, dL_law_955, dL_law_956, dL_law_958, dL_law_961, dL_law_962, dL_law_965, dL_law_966, dL_law_967, 790, dL_law_972, by decide⟩ hre h1 h30 hk3 e8 (fun z => (congrArg lN e26).trans (eo z)) hh ⟨by omega, by omega⟩ (kk.widen (by omega) (by omega))
set_option maxHeartbeats 4000000 in
theorem k_setRight (Q : f_law X9 Γ B0 b L xs) (hL : L ≤ 2560) (h : RE n P R M) (hn : n ≤ 511) (hi : i + 5 ≤ L) (hh : f_HS Γ B0 (wj (fw Γ ad P) (xw Γ ad R) (mw Γ ad M)) X9 H locs) (hk : k + 20 ≤ 639089 ∧ m + 200 ≤ 7178836) (kk : KK X9 Γ B0 b i n ad (k + 20) (m + 200)) : f_W X9 H locs k m 975 (LL b (ad 1 0) (ad 30 0) (ad 30 18) i none none) [] := by
  have C := Q.1
  refine r_aload_n C dL_law_975 rfl ?_
  refine r_arg Q hh hL 1 (by omega) rfl ⟨dL_law_976, dL_law_977, dL_law_979, dL_law_980, dL_law_981⟩ ?_
  refine r_arg Q hh hL 2 (by omega) rfl ⟨dL_law_982, dL_law_983, dL_law_985, dL_law_986, dL_law_987⟩ ?_
  refine r_arg Q hh hL 3 (by omega) rfl ⟨dL_law_988, dL_law_989, dL_law_991, dL_law_992, dL_law_993⟩ ?_
  refine r_aload_n C dL_law_994 rfl ?_
  refine r_callSW C Q.2.2.1 hh (c_L_setRight Q.2.1 Γ B0 ad P R M n h (by omega) (xs (i + 1)) (xs (i + 2)) (xs (i + 3))) lw_L_152 rfl (rest := []) rfl (Nat.le_of_ble_eq_true rfl) dL_law_995 ⟨by decide, by decide⟩ ⟨by omega, by omega⟩ ?_
  rintro v w' H locs hs9 ⟨kx, v26, ad', P', R', rfl, hk3, e8, eo, hre, h30, h1, rfl⟩ hh
  refine r_istore C dL_law_998 rfl rfl ?_
  have h6 : RE n P R (rs M 26 (k0 v26)) := RE_26 h (k0 v26)
  have e26 : (rs M 26 (k0 v26)) 26 0 0 = v26 := rfl
  generalize rs M 26 (k0 v26) = M2 at e8 eo hre hh h6 e26
  refine r_aload_n C dL_law_1000 rfl ?_
  refine r_arg Q hh hL 1 (by omega) rfl ⟨dL_law_1001, dL_law_1002, dL_law_1004, dL_law_1005, dL_law_1006⟩ ?_
  refine r_arg Q hh hL 2 (by omega) rfl ⟨dL_law_1007, dL_law_1008, dL_law_1010, dL_law_1011, dL_law_1012⟩ ?_
  refine r_arg Q hh hL 3 (by omega) rfl ⟨dL_law_1013, dL_law_1014, dL_law_1016, dL_law_1017, dL_law_1018⟩ ?_
  refine r_callV0 C Q.2.1 hh (c_X5_setRight Q.2.1 Γ B0 ad' M2 _ _ (xs (i + 1)) (xs (i + 2)) (xs (i + 3)) (RE_mi h6) (RE_pg h6).2.1) lk_L_154 (tr := .inr (.inr 0)) rfl rfl rfl (rest := []) (by rw [h30]; rfl) (Nat.le_of_ble_eq_true rfl) dL_law_1019 ⟨by decide, by decide⟩ ⟨by omega, by omega⟩ (kk_is fun H locs hs9 hh => ?_)
  exact post_int (p := 1022) (ad := ad) Q ⟨dL_law_1022, dL_law_1024, dL_law_1025, dL_law_1028, dL_law_1030, dL_law_1035, dL_law_1037, dL_law_1040, dL_law_1041, dL_law_1042, dL_law_1043, dL_law_1045, dL_law_1046, dL_law_1047, 710, dL_law_1052, by decide⟩ hre h1 h30 hk3 e8 (fun z => (congrArg lN ((s26_srM M2 (xs (i + 1)) (xs (i + 2)) (xs (i + 3))).trans e26)).trans (eo z)) hh ⟨by omega, by omega⟩ (kk.widen (by omega) (by omega))
set_option maxHeartbeats 4000000 in
theorem k_withdraw (Q : f_law X9 Γ B0 b L xs) (hL : L ≤ 2560) (h : RE n P R M) (hn : n ≤ 511) (hi : i + 5 ≤ L) (hh : f_HS Γ B0 (wj (fw Γ ad P) (xw Γ ad R) (mw Γ ad M)) X9 H locs) (hk : k + 20 ≤ 639089 ∧ m + 200 ≤ 7178836) (kk : KK X9 Γ B0 b i n ad (k + 20) (m + 200)) : f_W X9 H locs k m 1055 (LL b (ad 1 0) (ad 30 0) (ad 30 18) i none none) [] := by
  have C := Q.1
  refine r_aload_n C dL_law_1055 rfl ?_
  refine r_arg Q hh hL 1 (by omega) rfl ⟨dL_law_1056, dL_law_1057, dL_law_1059, dL_law_1060, dL_law_1061⟩ ?_
  refine r_aload_n C dL_law_1062 rfl ?_
  refine r_callSW C Q.2.2.1 hh (c_L_withdraw Q.2.1 Γ B0 ad P R M n h (by omega) (xs (i + 1))) lw_L_155 rfl (rest := []) rfl (Nat.le_of_ble_eq_true rfl) dL_law_1063 ⟨by decide, by decide⟩ ⟨by omega, by omega⟩ ?_
  rintro v w' H locs hs9 ⟨kx, v26, ad', P', R', rfl, hk3, e8, eo, hre, h30, h1, rfl⟩ hh
  refine r_istore C dL_law_1066 rfl rfl ?_
  have h6 : RE n P R (rs M 26 (k0 v26)) := RE_26 h (k0 v26)
  have e26 : (rs M 26 (k0 v26)) 26 0 0 = v26 := rfl
  generalize rs M 26 (k0 v26) = M2 at e8 eo hre hh h6 e26
  refine r_aload_n C dL_law_1068 rfl ?_
  refine r_arg Q hh hL 1 (by omega) rfl ⟨dL_law_1069, dL_law_1070, dL_law_1072, dL_law_1073, dL_law_1074⟩ ?_
  obtain ⟨fr9, lo9, hfl, hM⟩ := d_X5_withdraw Q.2.1 Γ B0 ad' M2 (fw Γ ad' P') (xw Γ ad' R') (xs (i + 1)) (RE_mi h6) (RE_pg h6).2.1
  refine r_callV0 C Q.2.1 hh hM lk_L_157 (tr := .inr (.inr 0)) rfl rfl rfl (rest := []) (by rw [h30]; rfl) (Nat.le_of_ble_eq_true rfl) dL_law_1075 ⟨by omega, by omega⟩ ⟨by omega, by omega⟩ (kk_is fun H locs hs9 hh => ?_)
  exact post_int (p := 1078) (ad := ad) Q ⟨dL_law_1078, dL_law_1080, dL_law_1081, dL_law_1084, dL_law_1086, dL_law_1091, dL_law_1093, dL_law_1096, dL_law_1097, dL_law_1098, dL_law_1099, dL_law_1101, dL_law_1102, dL_law_1103, 654, dL_law_1108, by decide⟩ hre h1 h30 hk3 e8 (fun z => (congrArg lN ((s26_wdM M2 (xs (i + 1))).trans e26)).trans (eo z)) hh ⟨by omega, by omega⟩ (kk.widen (by omega) (by omega))
set_option maxHeartbeats 4000000 in
theorem k_pass (Q : f_law X9 Γ B0 b L xs) (hL : L ≤ 2560) (h : RE n P R M) (hn : n ≤ 511) (hi : i + 5 ≤ L) (hh : f_HS Γ B0 (wj (fw Γ ad P) (xw Γ ad R) (mw Γ ad M)) X9 H locs) (hk : k + 20 ≤ 639089 ∧ m + 200 ≤ 7178836) (kk : KK X9 Γ B0 b i n ad (k + 20) (m + 200)) : f_W X9 H locs k m 1111 (LL b (ad 1 0) (ad 30 0) (ad 30 18) i none none) [] := by
  have C := Q.1
  refine r_aload_n C dL_law_1111 rfl ?_
  refine r_arg Q hh hL 1 (by omega) rfl ⟨dL_law_1112, dL_law_1113, dL_law_1115, dL_law_1116, dL_law_1117⟩ ?_
  refine r_aload_n C dL_law_1118 rfl ?_
  refine r_callSW C Q.2.2.1 hh (c_L_pass Q.2.1 Γ B0 ad P R M n h (by omega) (xs (i + 1))) lw_L_158 rfl (rest := []) rfl (Nat.le_of_ble_eq_true rfl) dL_law_1119 ⟨by decide, by decide⟩ ⟨by omega, by omega⟩ ?_
  rintro v w' H locs hs9 ⟨kx, v26, ad', P', R', rfl, hk3, e8, eo, hre, h30, h1, rfl⟩ hh
  refine r_istore C dL_law_1122 rfl rfl ?_
  have h6 : RE n P R (rs M 26 (k0 v26)) := RE_26 h (k0 v26)
  have e26 : (rs M 26 (k0 v26)) 26 0 0 = v26 := rfl
  generalize rs M 26 (k0 v26) = M2 at e8 eo hre hh h6 e26
  refine r_aload_n C dL_law_1124 rfl ?_
  refine r_arg Q hh hL 1 (by omega) rfl ⟨dL_law_1125, dL_law_1126, dL_law_1128, dL_law_1129, dL_law_1130⟩ ?_
  refine r_callV0 C Q.2.1 hh (c_X5_pass Q.2.1 Γ B0 ad' M2 _ _ (xs (i + 1)) (by have h1 := h6.2.2.2.2.2.2.2.2.2.1.1; have h2 : R 2 0 0 = M2 0 0 0 := h6.2.1.2.2.1; omega) (RE_mi h6) (RE_pg h6).2.1) lk_L_160 (tr := .inr (.inr 0)) rfl rfl rfl (rest := []) (by rw [h30]; rfl) (Nat.le_of_ble_eq_true rfl) dL_law_1131 ⟨by decide, by decide⟩ ⟨by omega, by omega⟩ (kk_is fun H locs hs9 hh => ?_)
  exact post_int (p := 1134) (ad := ad) Q ⟨dL_law_1134, dL_law_1136, dL_law_1137, dL_law_1140, dL_law_1142, dL_law_1147, dL_law_1149, dL_law_1152, dL_law_1153, dL_law_1154, dL_law_1155, dL_law_1157, dL_law_1158, dL_law_1159, 598, dL_law_1164, by decide⟩ hre h1 h30 hk3 e8 (fun z => (congrArg lN ((s26_paM M2 (xs (i + 1))).trans e26)).trans (eo z)) hh ⟨by omega, by omega⟩ (kk.widen (by omega) (by omega))
theorem k_today (Q : f_law X9 Γ B0 b L xs) (hL : L ≤ 2560) (h : RE n P R M) (hn : n ≤ 511) (hi : i + 5 ≤ L) (hh : f_HS Γ B0 (wj (fw Γ ad P) (xw Γ ad R) (mw Γ ad M)) X9 H locs) (hk : k + 20 ≤ 639089 ∧ m + 200 ≤ 7178836) (kk : KK X9 Γ B0 b i n ad (k + 20) (m + 200)) : f_W X9 H locs k m 1167 (LL b (ad 1 0) (ad 30 0) (ad 30 18) i none none) [] := by
  have C := Q.1
  refine r_aload_n C dL_law_1167 rfl ?_
  refine r_callV0 C Q.2.1 hh (c_X4_today Q.2.1 Γ B0 ad R _ _) lk_L_161 (tr := .inr (.inl (0, 0))) rfl rfl rfl (rest := []) rfl (Nat.le_of_ble_eq_true rfl) dL_law_1168 ⟨by decide, by decide⟩ ⟨by omega, by omega⟩ (kk_is fun H locs hs9 hh => ?_)
  refine r_aload_n C dL_law_1171 rfl ?_
  refine r_callV0 C Q.2.1 hh (c_X5_today Q.2.1 Γ B0 ad M _ _) lk_L_164 (tr := .inr (.inr 0)) rfl rfl rfl (rest := [.int (nI (R 2 0 0))]) rfl (Nat.le_of_ble_eq_true rfl) dL_law_1172 ⟨by decide, by decide⟩ ⟨by omega, by omega⟩ (kk_is fun H locs hs9 hh => ?_)
  refine r_icmp_eq (tgt := 1762) C dL_law_1175 (by decide) (fun _ => ?_) (fun z => absurd (congrArg nI (h.2.1.2.2.1)) z)
  exact f_widen (by omega) (by omega) (kk P R (rs M 8 (k0 0)) ad H locs (RE_8 (RE_up (Nat.le_succ n) h) _) rfl (fun _ => rfl) hh)
set_option maxHeartbeats 4000000 in
theorem k_mayUse (Q : f_law X9 Γ B0 b L xs) (hL : L ≤ 2560) (h : RE n P R M) (hn : n ≤ 511) (hi : i + 5 ≤ L) (hh : f_HS Γ B0 (wj (fw Γ ad P) (xw Γ ad R) (mw Γ ad M)) X9 H locs) (hk : k + 20 ≤ 639089 ∧ m + 200 ≤ 7178836) (kk : KK X9 Γ B0 b i n ad (k + 20) (m + 200)) : f_W X9 H locs k m 1180 (LL b (ad 1 0) (ad 30 0) (ad 30 18) i none none) [] := by
  have C := Q.1
  refine r_aload_n C dL_law_1180 rfl ?_
  refine r_arg Q hh hL 1 (by omega) rfl ⟨dL_law_1181, dL_law_1182, dL_law_1184, dL_law_1185, dL_law_1186⟩ ?_
  refine r_aload_n C dL_law_1187 rfl ?_
  refine r_callSW C Q.2.2.1 hh (c_L_mayUse Q.2.1 Γ B0 ad P R M n h (by omega) (xs (i + 1))) lw_L_165 rfl (rest := []) rfl (Nat.le_of_ble_eq_true rfl) dL_law_1188 ⟨by decide, by decide⟩ ⟨by omega, by omega⟩ ?_
  rintro v w' H locs hs9 ⟨kx, v26, ad', P', R', rfl, hk3, e8, eo, hre, h30, h1, rfl⟩ hh
  refine r_istore C dL_law_1191 rfl rfl ?_
  have h6 : RE n P R (rs M 26 (k0 v26)) := RE_26 h (k0 v26)
  have e26 : (rs M 26 (k0 v26)) 26 0 0 = v26 := rfl
  generalize rs M 26 (k0 v26) = M2 at e8 eo hre hh h6 e26
  refine r_aload_n C dL_law_1193 rfl ?_
  refine r_arg Q hh hL 1 (by omega) rfl ⟨dL_law_1194, dL_law_1195, dL_law_1197, dL_law_1198, dL_law_1199⟩ ?_
  refine r_callV0 C Q.2.1 hh (c_X5_mayUse Q.2.1 Γ B0 ad' M2 _ _ (xs (i + 1)) (RE_mi h6)) lk_L_167 (tr := .inr (.inr 0)) rfl rfl rfl (rest := []) (by rw [h30]; rfl) (Nat.le_of_ble_eq_true rfl) dL_law_1200 ⟨by decide, by decide⟩ ⟨by omega, by omega⟩ (kk_is fun H locs hs9 hh => ?_)
  exact post_bool (p := 1203) (ad := ad) Q ⟨dL_law_1203, dL_law_1205, dL_law_1206, dL_law_1209, dL_law_1211, dL_law_1216, dL_law_1218, dL_law_1221, dL_law_1222, dL_law_1223, dL_law_1224, dL_law_1226, dL_law_1229, dL_law_1230, dL_law_1233, dL_law_1234, dL_law_1235, 522, dL_law_1240, by decide⟩ hre h1 h30 hk3 e8 (fun z => (congrArg lN e26).trans (eo z)) hh ⟨by omega, by omega⟩ (kk.widen (by omega) (by omega))
set_option maxHeartbeats 4000000 in
theorem k_prove (Q : f_law X9 Γ B0 b L xs) (hL : L ≤ 2560) (h : RE n P R M) (hn : n ≤ 511) (hi : i + 5 ≤ L) (hh : f_HS Γ B0 (wj (fw Γ ad P) (xw Γ ad R) (mw Γ ad M)) X9 H locs) (hk : k + 20 ≤ 639089 ∧ m + 200 ≤ 7178836) (kk : KK X9 Γ B0 b i n ad (k + 20) (m + 200)) : f_W X9 H locs k m 1243 (LL b (ad 1 0) (ad 30 0) (ad 30 18) i none none) [] := by
  have C := Q.1
  refine r_aload_n C dL_law_1243 rfl ?_
  refine r_arg Q hh hL 1 (by omega) rfl ⟨dL_law_1244, dL_law_1245, dL_law_1247, dL_law_1248, dL_law_1249⟩ ?_
  refine r_arg Q hh hL 2 (by omega) rfl ⟨dL_law_1250, dL_law_1251, dL_law_1253, dL_law_1254, dL_law_1255⟩ ?_
  refine r_aload_n C dL_law_1256 rfl ?_
  refine r_callSW C Q.2.2.1 hh (c_L_prove Q.2.1 Γ B0 ad P R M n h (by omega) (xs (i + 1)) (xs (i + 2))) lw_L_168 rfl (rest := []) rfl (Nat.le_of_ble_eq_true rfl) dL_law_1257 ⟨by decide, by decide⟩ ⟨by omega, by omega⟩ ?_
  rintro v w' H locs hs9 ⟨kx, v26, ad', P', R', rfl, hk3, e8, eo, hre, h30, h1, rfl⟩ hh
  refine r_istore C dL_law_1260 rfl rfl ?_
  have h6 : RE n P R (rs M 26 (k0 v26)) := RE_26 h (k0 v26)
  have e26 : (rs M 26 (k0 v26)) 26 0 0 = v26 := rfl
  generalize rs M 26 (k0 v26) = M2 at e8 eo hre hh h6 e26
  refine r_aload_n C dL_law_1262 rfl ?_
  refine r_arg Q hh hL 1 (by omega) rfl ⟨dL_law_1263, dL_law_1264, dL_law_1266, dL_law_1267, dL_law_1268⟩ ?_
  refine r_arg Q hh hL 2 (by omega) rfl ⟨dL_law_1269, dL_law_1270, dL_law_1272, dL_law_1273, dL_law_1274⟩ ?_
  obtain ⟨fr9, lo9, hfl, hM⟩ := d_X5_prove Q.2.1 Γ B0 ad' M2 (fw Γ ad' P') (xw Γ ad' R') (xs (i + 1)) (xs (i + 2)) (RE_mi h6)
  refine r_callV0 C Q.2.1 hh hM lk_L_170 (tr := .inr (.inr 0)) rfl rfl rfl (rest := []) (by rw [h30]; rfl) (Nat.le_of_ble_eq_true rfl) dL_law_1275 ⟨by omega, by omega⟩ ⟨by omega, by omega⟩ (kk_is fun H locs hs9 hh => ?_)
  exact post_int (p := 1278) (ad := ad) Q ⟨dL_law_1278, dL_law_1280, dL_law_1281, dL_law_1284, dL_law_1286, dL_law_1291, dL_law_1293, dL_law_1296, dL_law_1297, dL_law_1298, dL_law_1299, dL_law_1301, dL_law_1302, dL_law_1303, 454, dL_law_1308, by decide⟩ hre h1 h30 hk3 e8 (fun z => (congrArg lN ((s26_pwM M2 (xs (i + 1)) (xs (i + 2))).trans e26)).trans (eo z)) hh ⟨by omega, by omega⟩ (kk.widen (by omega) (by omega))
set_option maxHeartbeats 4000000 in
theorem k_judge (Q : f_law X9 Γ B0 b L xs) (hL : L ≤ 2560) (h : RE n P R M) (hn : n ≤ 511) (hi : i + 5 ≤ L) (hh : f_HS Γ B0 (wj (fw Γ ad P) (xw Γ ad R) (mw Γ ad M)) X9 H locs) (hk : k + 20 ≤ 639089 ∧ m + 200 ≤ 7178836) (kk : KK X9 Γ B0 b i n ad (k + 20) (m + 200)) : f_W X9 H locs k m 1311 (LL b (ad 1 0) (ad 30 0) (ad 30 18) i none none) [] := by
  have C := Q.1
  by_cases hz : xs (i + 3) = 0
  · refine r_aload_n C dL_law_1311 rfl ?_
    refine r_arg Q hh hL 1 (by omega) rfl ⟨dL_law_1312, dL_law_1313, dL_law_1315, dL_law_1316, dL_law_1317⟩ ?_
    refine r_arg Q hh hL 2 (by omega) rfl ⟨dL_law_1318, dL_law_1319, dL_law_1321, dL_law_1322, dL_law_1323⟩ ?_
    refine r_arg Q hh hL 3 (by omega) rfl ⟨dL_law_1324, dL_law_1325, dL_law_1327, dL_law_1328, dL_law_1329⟩ ?_
    refine r_if_eq (tgt := 1337) C dL_law_1330 (by decide) (fun _ => ?_) (fun z => absurd hz z)
    refine r_iconst C (bI false) dL_law_1337 rfl ?_
    refine r_aload_n C dL_law_1338 rfl ?_
    refine r_callSW C Q.2.2.1 hh (c_L_judge Q.2.1 Γ B0 ad P R M n h (by omega) (xs (i + 1)) (xs (i + 2)) false) lw_L_171 rfl (rest := []) rfl (Nat.le_of_ble_eq_true rfl) dL_law_1339 ⟨by decide, by decide⟩ ⟨by omega, by omega⟩ ?_
    rintro v w' H locs hs9 ⟨kx, v26, ad', P', R', rfl, hk3, e8, eo, hre, h30, h1, rfl⟩ hh
    refine r_istore C dL_law_1342 rfl rfl ?_
    have h6 : RE n P R (rs M 26 (k0 v26)) := RE_26 h (k0 v26)
    have e26 : (rs M 26 (k0 v26)) 26 0 0 = v26 := rfl
    generalize rs M 26 (k0 v26) = M2 at e8 eo hre hh h6 e26
    refine r_aload_n C dL_law_1344 rfl ?_
    refine r_arg Q hh hL 1 (by omega) rfl ⟨dL_law_1345, dL_law_1346, dL_law_1348, dL_law_1349, dL_law_1350⟩ ?_
    refine r_arg Q hh hL 2 (by omega) rfl ⟨dL_law_1351, dL_law_1352, dL_law_1354, dL_law_1355, dL_law_1356⟩ ?_
    refine r_arg Q hh hL 3 (by omega) rfl ⟨dL_law_1357, dL_law_1358, dL_law_1360, dL_law_1361, dL_law_1362⟩ ?_
    refine r_if_eq (tgt := 1370) C dL_law_1363 (by decide) (fun _ => ?_) (fun z => absurd hz z)
    refine r_iconst C (bI false) dL_law_1370 rfl ?_
    obtain ⟨fr9, lo9, hfl, hM⟩ := d_X5_judge Q.2.1 Γ B0 ad' M2 (fw Γ ad' P') (xw Γ ad' R') (xs (i + 1)) (xs (i + 2)) false (RE_mi h6)
    refine r_callV0 C Q.2.1 hh hM lk_L_174 (tr := .inr (.inr 0)) rfl rfl rfl (rest := []) (by rw [h30]; rfl) (Nat.le_of_ble_eq_true rfl) dL_law_1371 ⟨by omega, by omega⟩ ⟨by omega, by omega⟩ (kk_is fun H locs hs9 hh => ?_)
    exact post_bool (p := 1374) (ad := ad) Q ⟨dL_law_1374, dL_law_1376, dL_law_1377, dL_law_1380, dL_law_1382, dL_law_1387, dL_law_1389, dL_law_1392, dL_law_1393, dL_law_1394, dL_law_1395, dL_law_1397, dL_law_1400, dL_law_1401, dL_law_1404, dL_law_1405, dL_law_1406, 351, dL_law_1411, by decide⟩ hre h1 h30 hk3 e8 (fun z => (congrArg lN ((s26_juM M2 (xs (i + 1)) (xs (i + 2)) false).trans e26)).trans (eo z)) hh ⟨by omega, by omega⟩ (kk.widen (by omega) (by omega))
  · refine r_aload_n C dL_law_1311 rfl ?_
    refine r_arg Q hh hL 1 (by omega) rfl ⟨dL_law_1312, dL_law_1313, dL_law_1315, dL_law_1316, dL_law_1317⟩ ?_
    refine r_arg Q hh hL 2 (by omega) rfl ⟨dL_law_1318, dL_law_1319, dL_law_1321, dL_law_1322, dL_law_1323⟩ ?_
    refine r_arg Q hh hL 3 (by omega) rfl ⟨dL_law_1324, dL_law_1325, dL_law_1327, dL_law_1328, dL_law_1329⟩ ?_
    refine r_if_eq (tgt := 1337) C dL_law_1330 (by decide) (fun z => absurd z hz) (fun _ => ?_)
    refine r_iconst C (bI true) dL_law_1333 rfl ?_
    refine r_goto (tgt := 1338) C dL_law_1334 (by decide) ?_
    refine r_aload_n C dL_law_1338 rfl ?_
    refine r_callSW C Q.2.2.1 hh (c_L_judge Q.2.1 Γ B0 ad P R M n h (by omega) (xs (i + 1)) (xs (i + 2)) true) lw_L_171 rfl (rest := []) rfl (Nat.le_of_ble_eq_true rfl) dL_law_1339 ⟨by decide, by decide⟩ ⟨by omega, by omega⟩ ?_
    rintro v w' H locs hs9 ⟨kx, v26, ad', P', R', rfl, hk3, e8, eo, hre, h30, h1, rfl⟩ hh
    refine r_istore C dL_law_1342 rfl rfl ?_
    have h6 : RE n P R (rs M 26 (k0 v26)) := RE_26 h (k0 v26)
    have e26 : (rs M 26 (k0 v26)) 26 0 0 = v26 := rfl
    generalize rs M 26 (k0 v26) = M2 at e8 eo hre hh h6 e26
    refine r_aload_n C dL_law_1344 rfl ?_
    refine r_arg Q hh hL 1 (by omega) rfl ⟨dL_law_1345, dL_law_1346, dL_law_1348, dL_law_1349, dL_law_1350⟩ ?_
    refine r_arg Q hh hL 2 (by omega) rfl ⟨dL_law_1351, dL_law_1352, dL_law_1354, dL_law_1355, dL_law_1356⟩ ?_
    refine r_arg Q hh hL 3 (by omega) rfl ⟨dL_law_1357, dL_law_1358, dL_law_1360, dL_law_1361, dL_law_1362⟩ ?_
    refine r_if_eq (tgt := 1370) C dL_law_1363 (by decide) (fun z => absurd z hz) (fun _ => ?_)
    refine r_iconst C (bI true) dL_law_1366 rfl ?_
    refine r_goto (tgt := 1371) C dL_law_1367 (by decide) ?_
    obtain ⟨fr9, lo9, hfl, hM⟩ := d_X5_judge Q.2.1 Γ B0 ad' M2 (fw Γ ad' P') (xw Γ ad' R') (xs (i + 1)) (xs (i + 2)) true (RE_mi h6)
    refine r_callV0 C Q.2.1 hh hM lk_L_174 (tr := .inr (.inr 0)) rfl rfl rfl (rest := []) (by rw [h30]; rfl) (Nat.le_of_ble_eq_true rfl) dL_law_1371 ⟨by omega, by omega⟩ ⟨by omega, by omega⟩ (kk_is fun H locs hs9 hh => ?_)
    exact post_bool (p := 1374) (ad := ad) Q ⟨dL_law_1374, dL_law_1376, dL_law_1377, dL_law_1380, dL_law_1382, dL_law_1387, dL_law_1389, dL_law_1392, dL_law_1393, dL_law_1394, dL_law_1395, dL_law_1397, dL_law_1400, dL_law_1401, dL_law_1404, dL_law_1405, dL_law_1406, 351, dL_law_1411, by decide⟩ hre h1 h30 hk3 e8 (fun z => (congrArg lN ((s26_juM M2 (xs (i + 1)) (xs (i + 2)) true).trans e26)).trans (eo z)) hh ⟨by omega, by omega⟩ (kk.widen (by omega) (by omega))
set_option maxHeartbeats 4000000 in
theorem k_proof (Q : f_law X9 Γ B0 b L xs) (hL : L ≤ 2560) (h : RE n P R M) (hn : n ≤ 511) (hi : i + 5 ≤ L) (hh : f_HS Γ B0 (wj (fw Γ ad P) (xw Γ ad R) (mw Γ ad M)) X9 H locs) (hk : k + 20 ≤ 639089 ∧ m + 200 ≤ 7178836) (kk : KK X9 Γ B0 b i n ad (k + 20) (m + 200)) : f_W X9 H locs k m 1414 (LL b (ad 1 0) (ad 30 0) (ad 30 18) i none none) [] := by
  have C := Q.1
  refine r_aload_n C dL_law_1414 rfl ?_
  refine r_arg Q hh hL 1 (by omega) rfl ⟨dL_law_1415, dL_law_1416, dL_law_1418, dL_law_1419, dL_law_1420⟩ ?_
  refine r_arg Q hh hL 2 (by omega) rfl ⟨dL_law_1421, dL_law_1422, dL_law_1424, dL_law_1425, dL_law_1426⟩ ?_
  refine r_aload_n C dL_law_1427 rfl ?_
  refine r_callSW C Q.2.2.1 hh (c_L_proof Q.2.1 Γ B0 ad P R M n h (by omega) (xs (i + 1)) (xs (i + 2))) lw_L_175 rfl (rest := []) rfl (Nat.le_of_ble_eq_true rfl) dL_law_1428 ⟨by decide, by decide⟩ ⟨by omega, by omega⟩ ?_
  rintro v w' H locs hs9 ⟨kx, v26, ad', P', R', rfl, hk3, e8, eo, hre, h30, h1, rfl⟩ hh
  refine r_istore C dL_law_1431 rfl rfl ?_
  have h6 : RE n P R (rs M 26 (k0 v26)) := RE_26 h (k0 v26)
  have e26 : (rs M 26 (k0 v26)) 26 0 0 = v26 := rfl
  generalize rs M 26 (k0 v26) = M2 at e8 eo hre hh h6 e26
  refine r_aload_n C dL_law_1433 rfl ?_
  refine r_arg Q hh hL 1 (by omega) rfl ⟨dL_law_1434, dL_law_1435, dL_law_1437, dL_law_1438, dL_law_1439⟩ ?_
  refine r_arg Q hh hL 2 (by omega) rfl ⟨dL_law_1440, dL_law_1441, dL_law_1443, dL_law_1444, dL_law_1445⟩ ?_
  refine r_callV0 C Q.2.1 hh (c_X5_proof Q.2.1 Γ B0 ad' M2 _ _ (xs (i + 1)) (xs (i + 2)) (RE_mi h6)) lk_L_177 (tr := .inr (.inr 0)) rfl rfl rfl (rest := []) (by rw [h30]; rfl) (Nat.le_of_ble_eq_true rfl) dL_law_1446 ⟨by decide, by decide⟩ ⟨by omega, by omega⟩ (kk_is fun H locs hs9 hh => ?_)
  exact post_int (p := 1449) (ad := ad) Q ⟨dL_law_1449, dL_law_1451, dL_law_1452, dL_law_1455, dL_law_1457, dL_law_1462, dL_law_1464, dL_law_1467, dL_law_1468, dL_law_1469, dL_law_1470, dL_law_1472, dL_law_1473, dL_law_1474, 283, dL_law_1479, by decide⟩ hre h1 h30 hk3 e8 (fun z => (congrArg lN e26).trans (eo z)) hh ⟨by omega, by omega⟩ (kk.widen (by omega) (by omega))
set_option maxHeartbeats 4000000 in
theorem k_isReady (Q : f_law X9 Γ B0 b L xs) (hL : L ≤ 2560) (h : RE n P R M) (hn : n ≤ 511) (hi : i + 5 ≤ L) (hh : f_HS Γ B0 (wj (fw Γ ad P) (xw Γ ad R) (mw Γ ad M)) X9 H locs) (hk : k + 20 ≤ 639089 ∧ m + 200 ≤ 7178836) (kk : KK X9 Γ B0 b i n ad (k + 20) (m + 200)) : f_W X9 H locs k m 1482 (LL b (ad 1 0) (ad 30 0) (ad 30 18) i none none) [] := by
  have C := Q.1
  refine r_aload_n C dL_law_1482 rfl ?_
  refine r_arg Q hh hL 1 (by omega) rfl ⟨dL_law_1483, dL_law_1484, dL_law_1486, dL_law_1487, dL_law_1488⟩ ?_
  refine r_aload_n C dL_law_1489 rfl ?_
  refine r_callSW C Q.2.2.1 hh (c_L_isReady Q.2.1 Γ B0 ad P R M n h (by omega) (xs (i + 1))) lw_L_178 rfl (rest := []) rfl (Nat.le_of_ble_eq_true rfl) dL_law_1490 ⟨by decide, by decide⟩ ⟨by omega, by omega⟩ ?_
  rintro v w' H locs hs9 ⟨kx, v26, ad', P', R', rfl, hk3, e8, eo, hre, h30, h1, rfl⟩ hh
  refine r_istore C dL_law_1493 rfl rfl ?_
  have h6 : RE n P R (rs M 26 (k0 v26)) := RE_26 h (k0 v26)
  have e26 : (rs M 26 (k0 v26)) 26 0 0 = v26 := rfl
  generalize rs M 26 (k0 v26) = M2 at e8 eo hre hh h6 e26
  refine r_aload_n C dL_law_1495 rfl ?_
  refine r_arg Q hh hL 1 (by omega) rfl ⟨dL_law_1496, dL_law_1497, dL_law_1499, dL_law_1500, dL_law_1501⟩ ?_
  refine r_callV0 C Q.2.1 hh (c_X5_isReady Q.2.1 Γ B0 ad' M2 _ _ (xs (i + 1)) (RE_mi h6) (RE_pg h6).2.1) lk_L_180 (tr := .inr (.inr 0)) rfl rfl rfl (rest := []) (by rw [h30]; rfl) (Nat.le_of_ble_eq_true rfl) dL_law_1502 ⟨by decide, by decide⟩ ⟨by omega, by omega⟩ (kk_is fun H locs hs9 hh => ?_)
  exact post_bool (p := 1505) (ad := ad) Q ⟨dL_law_1505, dL_law_1507, dL_law_1508, dL_law_1511, dL_law_1513, dL_law_1518, dL_law_1520, dL_law_1523, dL_law_1524, dL_law_1525, dL_law_1526, dL_law_1528, dL_law_1531, dL_law_1532, dL_law_1535, dL_law_1536, dL_law_1537, 220, dL_law_1542, by decide⟩ hre h1 h30 hk3 e8 (fun z => (congrArg lN e26).trans (eo z)) hh ⟨by omega, by omega⟩ (kk.widen (by omega) (by omega))
set_option maxHeartbeats 4000000 in
theorem k_makePlates (Q : f_law X9 Γ B0 b L xs) (hL : L ≤ 2560) (h : RE n P R M) (hn : n ≤ 511) (hi : i + 5 ≤ L) (hh : f_HS Γ B0 (wj (fw Γ ad P) (xw Γ ad R) (mw Γ ad M)) X9 H locs) (hk : k + 20 ≤ 639089 ∧ m + 200 ≤ 7178836) (kk : KK X9 Γ B0 b i n ad (k + 20) (m + 200)) : f_W X9 H locs k m 1545 (LL b (ad 1 0) (ad 30 0) (ad 30 18) i none none) [] := by
  have C := Q.1
  refine r_aload_n C dL_law_1545 rfl ?_
  refine r_arg Q hh hL 1 (by omega) rfl ⟨dL_law_1546, dL_law_1547, dL_law_1549, dL_law_1550, dL_law_1551⟩ ?_
  refine r_aload_n C dL_law_1552 rfl ?_
  refine r_callSW C Q.2.2.1 hh (c_L_makePlates Q.2.1 Γ B0 ad P R M n h (by omega) (xs (i + 1))) lw_L_181 rfl (rest := []) rfl (Nat.le_of_ble_eq_true rfl) dL_law_1553 ⟨by decide, by decide⟩ ⟨by omega, by omega⟩ ?_
  rintro v w' H locs hs9 ⟨kx, v26, ad', P', R', rfl, hk3, e8, eo, hre, h30, h1, rfl⟩ hh
  refine r_istore C dL_law_1556 rfl rfl ?_
  have h6 : RE n P R (rs M 26 (k0 v26)) := RE_26 h (k0 v26)
  have e26 : (rs M 26 (k0 v26)) 26 0 0 = v26 := rfl
  generalize rs M 26 (k0 v26) = M2 at e8 eo hre hh h6 e26
  refine r_aload_n C dL_law_1558 rfl ?_
  refine r_arg Q hh hL 1 (by omega) rfl ⟨dL_law_1559, dL_law_1560, dL_law_1562, dL_law_1563, dL_law_1564⟩ ?_
  obtain ⟨fr9, lo9, hfl, hM⟩ := d_X5_makePlates Q.2.1 Γ B0 ad' M2 (fw Γ ad' P') (xw Γ ad' R') (xs (i + 1)) (RE_mi h6) (RE_pg h6).2.1
  refine r_callV0 C Q.2.1 hh hM lk_L_183 (tr := .inr (.inr 0)) rfl rfl rfl (rest := []) (by rw [h30]; rfl) (Nat.le_of_ble_eq_true rfl) dL_law_1565 ⟨by omega, by omega⟩ ⟨by omega, by omega⟩ (kk_rI fun r9 w9 H locs hs9 hp9 hh => ?_)
  obtain ⟨rfl, T, hT, rfl⟩ := hp9
  exact post_int (p := 1568) (ad := ad) Q ⟨dL_law_1568, dL_law_1570, dL_law_1571, dL_law_1574, dL_law_1576, dL_law_1581, dL_law_1583, dL_law_1586, dL_law_1587, dL_law_1588, dL_law_1589, dL_law_1591, dL_law_1592, dL_law_1593, 164, dL_law_1598, by decide⟩ (RE_23 hre hT) h1 h30 hk3 e8 (fun z => (congrArg lN ((s26_mpM M2 (xs (i + 1))).trans e26)).trans (eo z)) hh ⟨by omega, by omega⟩ (kk.widen (by omega) (by omega))
set_option maxHeartbeats 4000000 in
theorem k_wear (Q : f_law X9 Γ B0 b L xs) (hL : L ≤ 2560) (h : RE n P R M) (hn : n ≤ 511) (hi : i + 5 ≤ L) (hh : f_HS Γ B0 (wj (fw Γ ad P) (xw Γ ad R) (mw Γ ad M)) X9 H locs) (hk : k + 20 ≤ 639089 ∧ m + 200 ≤ 7178836) (kk : KK X9 Γ B0 b i n ad (k + 20) (m + 200)) : f_W X9 H locs k m 1601 (LL b (ad 1 0) (ad 30 0) (ad 30 18) i none none) [] := by
  have C := Q.1
  refine r_aload_n C dL_law_1601 rfl ?_
  refine r_arg Q hh hL 1 (by omega) rfl ⟨dL_law_1602, dL_law_1603, dL_law_1605, dL_law_1606, dL_law_1607⟩ ?_
  refine r_arg Q hh hL 2 (by omega) rfl ⟨dL_law_1608, dL_law_1609, dL_law_1611, dL_law_1612, dL_law_1613⟩ ?_
  refine r_arg Q hh hL 3 (by omega) rfl ⟨dL_law_1614, dL_law_1615, dL_law_1617, dL_law_1618, dL_law_1619⟩ ?_
  refine r_aload_n C dL_law_1620 rfl ?_
  refine r_callSW C Q.2.2.1 hh (c_L_wear Q.2.1 Γ B0 ad P R M n h (by omega) (xs (i + 1)) (xs (i + 2)) (xs (i + 3))) lw_L_184 rfl (rest := []) rfl (Nat.le_of_ble_eq_true rfl) dL_law_1621 ⟨by decide, by decide⟩ ⟨by omega, by omega⟩ ?_
  rintro v w' H locs hs9 ⟨kx, v26, ad', P', R', rfl, hk3, e8, eo, hre, h30, h1, rfl⟩ hh
  refine r_istore C dL_law_1624 rfl rfl ?_
  have h6 : RE n P R (rs M 26 (k0 v26)) := RE_26 h (k0 v26)
  have e26 : (rs M 26 (k0 v26)) 26 0 0 = v26 := rfl
  generalize rs M 26 (k0 v26) = M2 at e8 eo hre hh h6 e26
  refine r_aload_n C dL_law_1626 rfl ?_
  refine r_arg Q hh hL 1 (by omega) rfl ⟨dL_law_1627, dL_law_1628, dL_law_1630, dL_law_1631, dL_law_1632⟩ ?_
  refine r_arg Q hh hL 2 (by omega) rfl ⟨dL_law_1633, dL_law_1634, dL_law_1636, dL_law_1637, dL_law_1638⟩ ?_
  refine r_arg Q hh hL 3 (by omega) rfl ⟨dL_law_1639, dL_law_1640, dL_law_1642, dL_law_1643, dL_law_1644⟩ ?_
  refine r_callV0 C Q.2.1 hh (c_X5_wear Q.2.1 Γ B0 ad' M2 _ _ (xs (i + 1)) (xs (i + 2)) (xs (i + 3)) (RE_mi h6) (RE_pg h6).2.1) lk_L_186 (tr := .inr (.inr 0)) rfl rfl rfl (rest := []) (by rw [h30]; rfl) (Nat.le_of_ble_eq_true rfl) dL_law_1645 ⟨by decide, by decide⟩ ⟨by omega, by omega⟩ (kk_rI fun r9 w9 H locs hs9 hp9 hh => ?_)
  obtain ⟨rfl, T, hT, rfl⟩ := hp9
  exact post_int (p := 1648) (ad := ad) Q ⟨dL_law_1648, dL_law_1650, dL_law_1651, dL_law_1654, dL_law_1656, dL_law_1661, dL_law_1663, dL_law_1666, dL_law_1667, dL_law_1668, dL_law_1669, dL_law_1671, dL_law_1672, dL_law_1673, 84, dL_law_1678, by decide⟩ (RE_23 hre hT) h1 h30 hk3 e8 (fun z => (congrArg lN ((s26_wrM M2 (xs (i + 1)) (xs (i + 2)) (xs (i + 3))).trans e26)).trans (eo z)) hh ⟨by omega, by omega⟩ (kk.widen (by omega) (by omega))
set_option maxHeartbeats 4000000 in
theorem k_print (Q : f_law X9 Γ B0 b L xs) (hL : L ≤ 2560) (h : RE n P R M) (hn : n ≤ 511) (hi : i + 5 ≤ L) (hh : f_HS Γ B0 (wj (fw Γ ad P) (xw Γ ad R) (mw Γ ad M)) X9 H locs) (hk : k + 20 ≤ 639089 ∧ m + 200 ≤ 7178836) (kk : KK X9 Γ B0 b i n ad (k + 20) (m + 200)) : f_W X9 H locs k m 1681 (LL b (ad 1 0) (ad 30 0) (ad 30 18) i none none) [] := by
  have C := Q.1
  refine r_aload_n C dL_law_1681 rfl ?_
  refine r_arg Q hh hL 1 (by omega) rfl ⟨dL_law_1682, dL_law_1683, dL_law_1685, dL_law_1686, dL_law_1687⟩ ?_
  refine r_arg Q hh hL 2 (by omega) rfl ⟨dL_law_1688, dL_law_1689, dL_law_1691, dL_law_1692, dL_law_1693⟩ ?_
  refine r_aload_n C dL_law_1694 rfl ?_
  refine r_callSW C Q.2.2.1 hh (c_L_print Q.2.1 Γ B0 ad P R M n h (by omega) (xs (i + 1)) (xs (i + 2))) lw_L_187 rfl (rest := []) rfl (Nat.le_of_ble_eq_true rfl) dL_law_1695 ⟨by decide, by decide⟩ ⟨by omega, by omega⟩ ?_
  rintro v w' H locs hs9 ⟨kx, v26, ad', P', R', rfl, hk3, e8, eo, hre, h30, h1, rfl⟩ hh
  refine r_istore C dL_law_1698 rfl rfl ?_
  have h6 : RE n P R (rs M 26 (k0 v26)) := RE_26 h (k0 v26)
  have e26 : (rs M 26 (k0 v26)) 26 0 0 = v26 := rfl
  generalize rs M 26 (k0 v26) = M2 at e8 eo hre hh h6 e26
  refine r_aload_n C dL_law_1700 rfl ?_
  refine r_arg Q hh hL 1 (by omega) rfl ⟨dL_law_1701, dL_law_1702, dL_law_1704, dL_law_1705, dL_law_1706⟩ ?_
  refine r_arg Q hh hL 2 (by omega) rfl ⟨dL_law_1707, dL_law_1708, dL_law_1710, dL_law_1711, dL_law_1712⟩ ?_
  obtain ⟨fr9, lo9, hfl, hM⟩ := d_X5_print Q.2.1 Γ B0 ad' M2 (fw Γ ad' P') (xw Γ ad' R') (xs (i + 1)) (xs (i + 2)) (RE_mi h6) (RE_pg h6).2.1
  refine r_callV0 C Q.2.1 hh hM lk_L_189 (tr := .inr (.inr 0)) rfl rfl rfl (rest := []) (by rw [h30]; rfl) (Nat.le_of_ble_eq_true rfl) dL_law_1713 ⟨by omega, by omega⟩ ⟨by omega, by omega⟩ (kk_rI fun r9 w9 H locs hs9 hp9 hh => ?_)
  obtain ⟨rfl, T, hT, rfl⟩ := hp9
  exact post_int (p := 1716) (ad := ad) Q ⟨dL_law_1716, dL_law_1718, dL_law_1719, dL_law_1722, dL_law_1724, dL_law_1729, dL_law_1731, dL_law_1734, dL_law_1735, dL_law_1736, dL_law_1737, dL_law_1739, dL_law_1740, dL_law_1741, 16, dL_law_1746, by decide⟩ (RE_23 hre hT) h1 h30 hk3 e8 (fun z => (congrArg lN ((s26_ptM M2 (xs (i + 1)) (xs (i + 2))).trans e26)).trans (eo z)) hh ⟨by omega, by omega⟩ (kk.widen (by omega) (by omega))
theorem k_plates (Q : f_law X9 Γ B0 b L xs) (hL : L ≤ 2560) (h : RE n P R M) (hn : n ≤ 511) (hi : i + 5 ≤ L) (hh : f_HS Γ B0 (wj (fw Γ ad P) (xw Γ ad R) (mw Γ ad M)) X9 H locs) (hk : k + 20 ≤ 639089 ∧ m + 200 ≤ 7178836) (kk : KK X9 Γ B0 b i n ad (k + 20) (m + 200)) : f_W X9 H locs k m 1749 (LL b (ad 1 0) (ad 30 0) (ad 30 18) i none none) [] := by
  have C := Q.1
  refine r_aload_n C dL_law_1749 rfl ?_
  refine r_callV0 C Q.2.1 hh (c_X4_plates Q.2.1 Γ B0 ad R _ _) lk_L_190 (tr := .inr (.inl (0, 0))) rfl rfl rfl (rest := []) rfl (Nat.le_of_ble_eq_true rfl) dL_law_1750 ⟨by decide, by decide⟩ ⟨by omega, by omega⟩ (kk_is fun H locs hs9 hh => ?_)
  refine r_aload_n C dL_law_1753 rfl ?_
  refine r_callV0 C Q.2.1 hh (c_X5_plates Q.2.1 Γ B0 ad M _ _) lk_L_193 (tr := .inr (.inr 0)) rfl rfl rfl (rest := [.int (nI (R 4 0 0))]) rfl (Nat.le_of_ble_eq_true rfl) dL_law_1754 ⟨by decide, by decide⟩ ⟨by omega, by omega⟩ (kk_is fun H locs hs9 hh => ?_)
  refine r_icmp_eq (tgt := 1762) C dL_law_1757 (by decide) (fun _ => ?_) (fun z => absurd (congrArg nI (h.2.1.2.2.2.1)) z)
  exact f_widen (by omega) (by omega) (kk P R (rs M 8 (k0 0)) ad H locs (RE_8 (RE_up (Nat.le_succ n) h) _) rfl (fun _ => rfl) hh)
end LAWC
