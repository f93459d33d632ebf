theorem FJ_any {P : fR} {many folds : Nat} (h1 : 1 ≤ many) (h5 : many < 5) (hfo : folds < 2 ^ (2 * many)) (hF : FI (fbZ P many folds)) : FJ (fbZ P many folds) := by
  refine ⟨hF, ?_⟩
  obtain ⟨e0, e2, e3, hk⟩ := fbZ_0 P many folds
  rw [e0, e2, e3]
  intro x hx
  have a1 := rlF_congr hk (rowU (kq folds) many) x (by omega)
  have a2 := rlF_congr hk (rowU (kq folds) many) (x + 1) (by omega)
  have a3 := rlF_congr hk (colU (kq folds) many) x (by omega)
  have a4 := rlF_congr hk (colU (kq folds) many) (x + 1) (by omega)
  have h := hvB_all many h5 folds hfo x hx
  rw [a1.1, a2.1, a3.2, a4.2, hk x hx]
  unfold hvB at h
  simp only [Bool.and_eq_true, Bool.or_eq_true, Bool.not_eq_true', Nat.beq_eq, Nat.blt_eq] at h
  refine ⟨fun z => ?_, fun z => ?_⟩
  · rcases h.1 with q | q
    · exact absurd (Nat.blt_eq.mpr z) (by rw [q]; decide)
    · exact q
  · rcases h.2 with q | q
    · exact absurd q z
    · exact q

/-! ===== an act ===== -/
theorem RZ_folds {n : Nat} {P R M : fR} (h : RZ n P R M) {many folds : Nat} (h1 : 1 ≤ many) (h5 : many < 5) (hfo : folds < 2 ^ (2 * many)) : RZ (n + 1) (fbZ P many folds) R (rs M 4 (u1 (M 4) 3 (2 ^ many))) := by
  have hF := rl_fi h
  have hF2 := FI_fbZ h1 h5 hfo hF.2.2.2.2.1 hF.2.2.2.2.2.1 hF.2.2.2.2.2.2.1 hF.2.2.2.2.2.2.2.1 hF.2.2.2.2.2.2.2.2
  have hp := pow4 h1 h5
  obtain ⟨e0, -⟩ := fbZ_0 P many folds
  obtain ⟨⟨af, fp, bx, lm⟩, ⟨g1, g2, g3, g4⟩, hG, hP, hQ, hC, hinj, h17, ⟨b1, b2, b3, b4⟩⟩ := h
  refine ⟨⟨FJ_any h1 h5 hfo hF2, FP_fold P h1 h5 hfo, bx, ?_⟩, ⟨g1, ?_, g3, g4⟩, hG, hP, hQ, hC, hinj, h17, by omega, fun q => by have := b2 q; omega, by omega, by omega⟩
  · obtain ⟨a1, a2, a3, a40, a41, a42, a43, a44, a45⟩ := lm
    refine ⟨a1, a2, a3, a40, a41, a42, ?_, a44, a45⟩
    show 2 ≤ 2 ^ many ∧ 2 ^ many ≤ 16
    omega
  · rw [e0]; rfl
theorem ACT_of {Γ : fG} {ad : Nat → Nat → Nat} {n m : Nat} {w9 : fV} (h : ACT0 Γ ad n m w9) : ACT Γ ad n w9 := by
  obtain ⟨ad', P', R', M', h1, h2⟩ := h
  exact ⟨ad', P', R', M', RL_up (Nat.le_succ n) h1.1, h2⟩
theorem L_setFolds_k {l : Launch} (hl : l.stackTraces = false) (Γ : fG) (B0 : Nat) (ad : Nat → Nat → Nat) {P R : fR} (M : fR) (hF : FI P) (h64 : R 0 0 0 ≤ 64) {m f : Nat} (h1 : 1 ≤ m) (h5 : m < 5) (hf : f < 2 ^ (2 * m)) (hp : 2 ^ (2 * m) ≤ 256) : f_MetW l yL_setFolds cL_setFolds 4 (some .int) [(0, 6, 7, 19)] 7 1 6 169 Γ B0 [.ref (ad 1 0), .int (nI m), .int (nI f)] (wj (fw Γ ad (P)) (xw Γ ad (R)) (mw Γ ad M)) (f_is (nI (shc (fbZ P m f) R)) (wj (fw Γ ad (fbZ P m f)) (xw Γ ad (R)) (mw Γ ad M))) :=
  W_is2 (n_setFolds hl Γ B0 ad P R (mw Γ ad M) _ _ hF h64 ⟨⟨(nI_leI (by decide) (by omega)).mpr h1, nI_lt h5 (by decide)⟩, by rw [xN_nI (by omega)]; exact rg_N hf (by omega)⟩) (by rw [xN_nI (by omega), xN_nI (by omega)]) (by rw [xN_nI (by omega), xN_nI (by omega)])
set_option maxHeartbeats 4000000 in
set_option maxRecDepth 100000 in
theorem s_act44 {X9 : fX} {Γ : fG} {B0 : Nat} {ad : Nat → Nat → Nat} {P R M : fR} {n : Nat} (h : RZ n P R M) (hn : n ≤ 150) (x y : Int32) {H : Heap} {locs : List Loc} (C : f_C X9 Γ B0 RL cL_acts 11 10 150 1000 213) (E : f_E X9 Γ B0 (some .boolean) 150 1000 (f_rI (fun r9 w9 => r9 = bI true ∧ ACT Γ ad n w9)) f_no) (hh : f_HS Γ B0 (wj (fw Γ ad P) (xw Γ ad R) (mw Γ ad M)) X9 H locs) : f_W X9 H locs 0 0 44 [some (.ref (ad 1 0)), some (.ref (ad 30 1)), some (.ref (ad 30 2)), some (.ref (ad 30 3)), some (.ref (ad 30 4)), some (.int x), some (.int y), none, none, none, none] [] := by
  have hF := rl_fi h
  have hI := rl_xi h
  have hL := rl_li h
  have h64 := rl_64 h
  have h24 := rl_24 h
  have e0 := rl_0 h
  have hsh := FI_sh (R := R) hF h64
  have esh := rl_sh h
  have hs6 := shL_6 hL
  have e41 := h.2.1.1
  obtain ⟨l1, l2, l3, l40, l41, l42, ⟨l43, l43h⟩, l44, l45⟩ := id hL
  refine r_iconst C (nI 1) dL_acts_44 rfl ?_
  refine r_iload C dL_acts_45 rfl ?_
  refine r_iconst C (nI 4) dL_acts_47 rfl ?_
  refine r_callS C E hh (c_low E.2.1 Γ B0 _ _ 4 (by omega) (by omega)) lk_L_149 rfl rfl (Nat.le_of_ble_eq_true rfl) dL_acts_48 ⟨by decide, by decide⟩ ⟨by omega, by omega⟩ (fun _ _ z9 => False.elim z9) (kk_rI (fun r9 w9 H locs hs9 hp9 hh => ?_))
  obtain ⟨⟨j0, hj0, rfl⟩, rfl⟩ := hp9
  refine r_iaddN C dL_acts_51 ?_
  generalize hm : 1 + j0 = m
  have hm1 : 1 ≤ m ∧ m < 5 := by omega
  have hp2 : 1 ≤ 2 ^ (2 * m) ∧ 2 ^ (2 * m) ≤ 256 := ⟨Nat.one_le_two_pow, Nat.pow_le_pow_right (n := 2) (by decide) (show 2 * m ≤ 8 by omega)⟩
  have hp1 := pow4 hm1.1 hm1.2
  refine r_istore C dL_acts_52 rfl rfl ?_
  refine r_aload C dL_acts_54 rfl ?_
  refine r_iconst C (nI 3) dL_acts_56 rfl ?_
  refine r_iconst C (nI 1) dL_acts_57 rfl ?_
  refine r_iload C dL_acts_58 rfl ?_
  refine r_ishlN C dL_acts_60 (by omega) (by omega) ?_
  rw [Nat.one_mul]
  refine as_m_g C hh (by omega) dL_acts_61 (fun H locs hh => ?_)
  have h' := RZ_folds h hm1.1 hm1.2 (folds := 0) (by omega)
  have hl' := rl_li h'
  refine r_aload_n C dL_acts_62 rfl ?_
  refine r_iload C dL_acts_63 rfl ?_
  refine r_iload C dL_acts_65 rfl ?_
  refine r_iconst C (nI 2) dL_acts_67 rfl ?_
  refine r_ishr C dL_acts_68 ?_
  refine r_iconst C (nI 1) dL_acts_69 rfl ?_
  refine r_iconst C (nI 2) dL_acts_70 rfl ?_
  refine r_iload C dL_acts_71 rfl ?_
  refine r_imulN C dL_acts_73 ?_
  refine r_ishlN C dL_acts_74 (by omega) (by omega) ?_
  rw [Nat.one_mul]
  refine r_callS C E hh (c_low E.2.1 Γ B0 _ _ (2 ^ (2 * m)) (by omega) (by omega)) lk_L_149 rfl rfl (Nat.le_of_ble_eq_true rfl) dL_acts_75 ⟨by decide, by decide⟩ ⟨by omega, by omega⟩ (fun _ _ z9 => False.elim z9) (kk_rI (fun r9 w9 H locs hs9 hp9 hh => ?_))
  obtain ⟨⟨f, hfo, rfl⟩, rfl⟩ := hp9
  refine r_callSW C hh (L_setFolds_k E.2.1 Γ B0 ad _ hF h64 hm1.1 hm1.2 hfo hp2.2) lw_L_195 rfl rfl (Nat.le_of_ble_eq_true rfl) dL_acts_78 ⟨by decide, by decide⟩ ⟨by omega, by omega⟩ (kk_is (fun H locs hs9 hh => ?_))
  clear h'
  have h' := RZ_folds h hm1.1 hm1.2 hfo
  have es' := rl_sh h'
  have hF' := rl_fi h'
  have hs' := FI_sh (R := R) hF' h64
  have hl6 := shL_6 (rl_li h')
  refine r_aload C dL_acts_81 rfl ?_
  refine r_callS C E hh (c_L_sheets E.2.1 Γ B0 ad (rs M 4 (u1 (M 4) 3 (2 ^ m))) (fw Γ ad (fbZ P m f)) (xw Γ ad R) (rl_li h')) lk_L_100 rfl rfl (Nat.le_of_ble_eq_true rfl) dL_acts_83 ⟨by decide, by decide⟩ ⟨by omega, by omega⟩ (fun _ _ z9 => False.elim z9) (kk_is (fun H locs hs9 hh => ?_))
  refine r_icmp_neN (tgt := 138) C dL_acts_86 (by decide) (by omega) (by omega) (fun h86 => ?_) (fun h86 => ?_)
  · exact absurd (es') h86
  · refine r_aload_n C dL_acts_89 rfl ?_
    refine r_iconst C (nI 0) dL_acts_90 rfl ?_
    refine r_iconst C (nI 0) dL_acts_91 rfl ?_
    refine r_callSW C hh (x_setFolds1 E.2.1 Γ B0 ad (fbZ P m f) R _ _ _ hF' h64 (fun z => absurd z.1.1 (by decide))) lw_L_195 rfl rfl (Nat.le_of_ble_eq_true rfl) dL_acts_92 ⟨by decide, by decide⟩ ⟨by omega, by omega⟩ (kk_is (fun H locs hs9 hh => ?_))
    refine r_ldc C ct_L_21 dL_acts_95 ?_
    refine r_icmp_ne (tgt := 138) C dL_acts_97 (by decide) (fun h97 => ?_) (fun h97 => ?_)
    · exact absurd (rfl) h97
    · refine r_aload_n C dL_acts_100 rfl ?_
      refine r_iconst C (nI 5) dL_acts_101 rfl ?_
      refine r_iconst C (nI 0) dL_acts_102 rfl ?_
      refine r_callSW C hh (x_setFolds1 E.2.1 Γ B0 ad (fbZ P m f) R _ _ _ hF' h64 (fun z => absurd z.1.2 (by decide))) lw_L_195 rfl rfl (Nat.le_of_ble_eq_true rfl) dL_acts_103 ⟨by decide, by decide⟩ ⟨by omega, by omega⟩ (kk_is (fun H locs hs9 hh => ?_))
      refine r_ldc C ct_L_21 dL_acts_106 ?_
      refine r_icmp_ne (tgt := 138) C dL_acts_108 (by decide) (fun h108 => ?_) (fun h108 => ?_)
      · exact absurd (rfl) h108
      · refine r_aload_n C dL_acts_111 rfl ?_
        refine r_iconst C (nI 2) dL_acts_112 rfl ?_
        refine r_bipush C (nI 16) dL_acts_113 rfl ?_
        refine r_callSW C hh (x_setFolds1 E.2.1 Γ B0 ad (fbZ P m f) R _ _ _ hF' h64 (fun z => by
          have h9 := z.2
          rw [xN_nI (by decide)] at h9
          exact not_rg (by decide) (by decide) h9)) lw_L_195 rfl rfl (Nat.le_of_ble_eq_true rfl) dL_acts_115 ⟨by decide, by decide⟩ ⟨by omega, by omega⟩ (kk_is (fun H locs hs9 hh => ?_))
        refine r_ldc C ct_L_21 dL_acts_118 ?_
        refine r_icmp_ne (tgt := 138) C dL_acts_120 (by decide) (fun h120 => ?_) (fun h120 => ?_)
        · exact absurd (rfl) h120
        · refine r_aload_n C dL_acts_123 rfl ?_
          refine r_iconst C (nI 2) dL_acts_124 rfl ?_
          refine r_iconst C (-1) dL_acts_125 rfl ?_
          refine r_callSW C hh (x_setFolds1 E.2.1 Γ B0 ad (fbZ P m f) R _ _ _ hF' h64 (fun z => not_rg_m z.2)) lw_L_195 rfl rfl (Nat.le_of_ble_eq_true rfl) dL_acts_126 ⟨by decide, by decide⟩ ⟨by omega, by omega⟩ (kk_is (fun H locs hs9 hh => ?_))
          refine r_ldc C ct_L_21 dL_acts_129 ?_
          refine r_icmp_ne (tgt := 138) C dL_acts_131 (by decide) (fun h131 => ?_) (fun h131 => ?_)
          · exact absurd (rfl) h131
          · refine r_iconst C (bI true) dL_acts_134 rfl ?_
            refine r_goto (tgt := 139) C dL_acts_135 (by decide) ?_
            exact r_zret C E hh dL_acts_139 (by omega) (by omega) ⟨_, rfl, rfl, ad, fbZ P m f, R, rs M 4 (u1 (M 4) 3 (2 ^ m)), h', rfl, fun _ => rfl, rfl⟩

set_option maxHeartbeats 4000000 in
set_option maxRecDepth 100000 in
theorem s_act238 {X9 : fX} {Γ : fG} {B0 : Nat} {ad : Nat → Nat → Nat} {P R M : fR} {n : Nat} (h : RZ n P R M) (hn : n ≤ 150) (x y : Int32) (hg : 5 ≤ M 4 0 0) {H : Heap} {locs : List Loc} (C : f_C X9 Γ B0 RL cL_acts 11 10 150 1000 213) (E : f_E X9 Γ B0 (some .boolean) 150 1000 (f_rI (fun r9 w9 => r9 = bI true ∧ ACT Γ ad n w9)) f_no) (hh : f_HS Γ B0 (wj (fw Γ ad P) (xw Γ ad R) (mw Γ ad M)) X9 H locs) : f_W X9 H locs 0 0 238 [some (.ref (ad 1 0)), some (.ref (ad 30 1)), some (.ref (ad 30 2)), some (.ref (ad 30 3)), some (.ref (ad 30 4)), some (.int x), some (.int y), none, none, none, none] [] := by
  have hF := rl_fi h
  have hI := rl_xi h
  have hL := rl_li h
  have h64 := rl_64 h
  have h24 := rl_24 h
  have e0 := rl_0 h
  have hsh := FI_sh (R := R) hF h64
  have esh := rl_sh h
  have hs6 := shL_6 hL
  have e41 := h.2.1.1
  obtain ⟨l1, l2, l3, l40, l41, l42, ⟨l43, l43h⟩, l44, l45⟩ := id hL
  refine r_iconst C (nI 1) dL_acts_238 rfl ?_
  refine r_istore C dL_acts_239 rfl rfl ?_
  refine r_iconst C (nI 0) dL_acts_241 rfl ?_
  refine r_istore C dL_acts_242 rfl rfl ?_
  have lp244 : ∀ (d9 : Nat) (k : Nat) (ad1 : Nat → Nat → Nat) (P1 R1 M1 : fR) (H : Heap) (locs : List Loc), 8 - k < d9 → k ≤ 8 → RZ n P1 R1 M1 → R1 0 0 0 = R 0 0 0 → ad1 1 0 = ad 1 0 → (∀ j, ad1 30 j = ad 30 j) → f_HS Γ B0 (wj (fw Γ ad1 P1) (xw Γ ad1 R1) (mw Γ ad1 M1)) X9 H locs → f_W X9 H locs (18 * k) (108 * k) 244 [some (.ref (ad1 1 0)), some (.ref (ad1 30 1)), some (.ref (ad1 30 2)), some (.ref (ad1 30 3)), some (.ref (ad1 30 4)), some (.int x), some (.int y), none, some (.int (bI (true))), some (.int (nI (k))), none] [] := by
    intro d9
    induction d9 with
    | zero => intro k ad1 P1 R1 M1 H locs hd9 hk9 hz hz0 e1 e30 hh; exact absurd hd9 (Nat.not_lt_zero _)
    | succ d9 ih244 =>
      intro k ad1 P1 R1 M1 H locs hd9 hk9 hz hz0 e1 e30 hh
      have hz4 := rl_0 hz
      have hz24 := rl_24 hz
      refine r_iload C dL_acts_244 rfl ?_
      refine r_bipush C (nI 8) dL_acts_246 rfl ?_
      refine r_icmp_geN (tgt := 330) C dL_acts_248 (by decide) (by omega) (by omega) (fun h248 => ?_) (fun h248 => ?_)
      · refine r_iload C dL_acts_330 rfl ?_
        exact r_zret C E hh dL_acts_332 (by omega) (by omega) ⟨_, rfl, rfl, ad1, P1, R1, M1, RL_up (Nat.le_succ n) hz, e1, e30, rfl⟩
      · refine r_iload C dL_acts_251 rfl ?_
        refine r_if_eqB (tgt := 330) C dL_acts_253 (by decide) (fun h253 => ?_) (fun h253 => ?_)
        · exact absurd h253 (by decide)
        · refine r_iload C dL_acts_256 rfl ?_
          refine r_aload C dL_acts_258 rfl ?_
          refine r_iconst C (nI 0) dL_acts_260 rfl ?_
          refine al_m_g C hh (by omega) dL_acts_261 ?_
          refine r_callS C E hh (c_low E.2.1 Γ B0 _ _ (M1 4 0 0) (by omega) (by omega)) lk_L_149 rfl rfl (Nat.le_of_ble_eq_true rfl) dL_acts_262 ⟨by decide, by decide⟩ ⟨by omega, by omega⟩ (fun _ _ z9 => False.elim z9) (kk_rI (fun r9 w9 H locs hs9 hp9 hh => ?_))
          obtain ⟨⟨j, hj, rfl⟩, rfl⟩ := hp9
          refine r_iload C dL_acts_265 rfl ?_
          refine r_iconst C (nI 4) dL_acts_267 rfl ?_
          refine r_idivN C dL_acts_268 (by omega) (by omega) (by omega) ?_
          refine r_iaddN C dL_acts_269 ?_
          refine r_aload C dL_acts_270 rfl ?_
          refine r_iconst C (nI 0) dL_acts_272 rfl ?_
          refine al_m_g C hh (by omega) dL_acts_273 ?_
          refine r_iremN C dL_acts_274 (by omega) (by omega) (by omega) ?_
          have hi : (j + k / 4) % M1 4 0 0 < R1 0 0 0 := by rw [hz4]; exact Nat.mod_lt _ (by omega)
          generalize (j + k / 4) % M1 4 0 0 = i at hi ⊢
          refine r_istore C dL_acts_275 rfl rfl ?_
          refine r_aload_n C dL_acts_277 rfl ?_
          refine r_aload_n C dL_acts_278 rfl ?_
          refine r_aload_n C dL_acts_279 rfl ?_
          refine r_aload_n C dL_acts_280 rfl ?_
          refine r_aload C dL_acts_281 rfl ?_
          refine r_iload C dL_acts_283 rfl ?_
          refine r_iload C dL_acts_285 rfl ?_
          refine r_iconst C (nI 4) dL_acts_287 rfl ?_
          refine r_iremN C dL_acts_288 (by omega) (by omega) (by omega) ?_
          refine r_iconst C (bI false) dL_acts_289 rfl ?_
          refine r_iconst C (bI false) dL_acts_290 rfl ?_
          refine r_callS C E hh (c_L_proves E.2.1 Γ B0 ad1 P1 R1 M1 n hz _ _ hi (Nat.mod_lt k (by decide)) false false) lk_L_201 rfl rfl (Nat.le_of_ble_eq_true rfl) dL_acts_291 ⟨by decide, by decide⟩ ⟨by omega, by omega⟩ (fun _ _ z9 => False.elim z9) (kk_rI (fun r9 w9 H locs hs9 hp9 hh => ?_))
          obtain ⟨rfl, ad2, P2, R2, M2, ⟨hz2, hz20⟩, d1, d30, rfl⟩ := hp9
          rw [← d1, ← d30 1, ← d30 2, ← d30 3, ← d30 4]
          refine r_if_eqB (tgt := 321) C dL_acts_294 (by decide) (fun h294 => ?_) (fun h294 => ?_)
          · exact absurd h294 (by decide)
          · refine r_aload_n C dL_acts_297 rfl ?_
            refine r_aload_n C dL_acts_298 rfl ?_
            refine r_aload_n C dL_acts_299 rfl ?_
            refine r_aload_n C dL_acts_300 rfl ?_
            refine r_aload C dL_acts_301 rfl ?_
            refine r_iload C dL_acts_303 rfl ?_
            refine r_iload C dL_acts_305 rfl ?_
            refine r_iconst C (nI 4) dL_acts_307 rfl ?_
            refine r_iremN C dL_acts_308 (by omega) (by omega) (by omega) ?_
            refine r_iconst C (bI true) dL_acts_309 rfl ?_
            refine r_iconst C (bI true) dL_acts_310 rfl ?_
            refine r_callS C E hh (c_L_proves E.2.1 Γ B0 ad2 P2 R2 M2 n hz2 _ _ (by rw [hz20]; exact hi) (Nat.mod_lt k (by decide)) true true) lk_L_201 rfl rfl (Nat.le_of_ble_eq_true rfl) dL_acts_311 ⟨by decide, by decide⟩ ⟨by omega, by omega⟩ (fun _ _ z9 => False.elim z9) (kk_rI (fun r9 w9 H locs hs9 hp9 hh => ?_))
            obtain ⟨rfl, ad3, P3, R3, M3, ⟨hz3, hz30⟩, f1, f30, rfl⟩ := hp9
            rw [← f1, ← f30 1, ← f30 2, ← f30 3, ← f30 4]
            refine r_if_eqB (tgt := 321) C dL_acts_314 (by decide) (fun h314 => ?_) (fun h314 => ?_)
            · exact absurd h314 (by decide)
            · refine r_iconst C (bI true) dL_acts_317 rfl ?_
              refine r_goto (tgt := 322) C dL_acts_318 (by decide) ?_
              refine r_istore C dL_acts_322 rfl rfl ?_
              refine r_iincN C dL_acts_324 rfl rfl ?_
              refine r_goto (tgt := 244) C dL_acts_327 (by decide) ?_
              refine f_W.le ?_ (ih244 (k + 1) ad3 P3 R3 M3 _ _ (by omega) (by omega) hz3 (hz30.trans (hz20.trans hz0)) (f1.trans (d1.trans e1)) (fun j => (f30 j).trans ((d30 j).trans (e30 j))) hh)
              exact (And.intro rfl (And.intro rfl (And.intro rfl (And.intro rfl (And.intro rfl (And.intro rfl (And.intro rfl (And.intro rfl (And.intro rfl trivial)))))))))
  refine f_W.le ?_ (lp244 9 0 ad P R M _ _ (by omega) (by omega) h rfl rfl (fun _ => rfl) hh)
  exact (And.intro rfl (And.intro rfl (And.intro rfl (And.intro rfl (And.intro rfl (And.intro rfl (And.intro rfl (And.intro rfl (And.intro rfl trivial)))))))))

set_option maxHeartbeats 4000000 in
set_option maxRecDepth 100000 in
theorem s_act170 {X9 : fX} {Γ : fG} {B0 : Nat} {ad : Nat → Nat → Nat} {P R M : fR} {n : Nat} (h : RZ n P R M) (hn : n ≤ 150) (x y : Int32) (hg : 5 ≤ M 4 0 0) {H : Heap} {locs : List Loc} (C : f_C X9 Γ B0 RL cL_acts 11 10 150 1000 213) (E : f_E X9 Γ B0 (some .boolean) 150 1000 (f_rI (fun r9 w9 => r9 = bI true ∧ ACT Γ ad n w9)) f_no) (hh : f_HS Γ B0 (wj (fw Γ ad P) (xw Γ ad R) (mw Γ ad M)) X9 H locs) : f_W X9 H locs 0 0 170 [some (.ref (ad 1 0)), some (.ref (ad 30 1)), some (.ref (ad 30 2)), some (.ref (ad 30 3)), some (.ref (ad 30 4)), some (.int x), some (.int y), none, none, none, none] [] := by
  have hF := rl_fi h
  have hI := rl_xi h
  have hL := rl_li h
  have h64 := rl_64 h
  have h24 := rl_24 h
  have e0 := rl_0 h
  have hsh := FI_sh (R := R) hF h64
  have esh := rl_sh h
  have hs6 := shL_6 hL
  have e41 := h.2.1.1
  obtain ⟨l1, l2, l3, l40, l41, l42, ⟨l43, l43h⟩, l44, l45⟩ := id hL
  refine r_aload_n C dL_acts_170 rfl ?_
  refine r_aload_n C dL_acts_171 rfl ?_
  refine r_aload_n C dL_acts_172 rfl ?_
  refine r_aload_n C dL_acts_173 rfl ?_
  refine r_aload C dL_acts_174 rfl ?_
  refine r_iload C dL_acts_176 rfl ?_
  refine r_aload C dL_acts_178 rfl ?_
  refine r_iconst C (nI 0) dL_acts_180 rfl ?_
  refine al_m_g C hh (by omega) dL_acts_181 ?_
  refine r_callS C E hh (c_low E.2.1 Γ B0 _ _ (M 4 0 0) (by omega) (by omega)) lk_L_149 rfl rfl (Nat.le_of_ble_eq_true rfl) dL_acts_182 ⟨by decide, by decide⟩ ⟨by omega, by omega⟩ (fun _ _ z9 => False.elim z9) (kk_rI (fun r9 w9 H locs hs9 hp9 hh => ?_))
  obtain ⟨⟨i, hi, rfl⟩, rfl⟩ := hp9
  refine r_iload C dL_acts_185 rfl ?_
  refine r_iconst C (nI 5) dL_acts_187 rfl ?_
  refine r_ishr C dL_acts_188 ?_
  refine r_iconst C (nI 4) dL_acts_189 rfl ?_
  refine r_callS C E hh (c_low E.2.1 Γ B0 _ _ 4 (by omega) (by omega)) lk_L_149 rfl rfl (Nat.le_of_ble_eq_true rfl) dL_acts_190 ⟨by decide, by decide⟩ ⟨by omega, by omega⟩ (fun _ _ z9 => False.elim z9) (kk_rI (fun r9 w9 H locs hs9 hp9 hh => ?_))
  obtain ⟨⟨c, hc, rfl⟩, rfl⟩ := hp9
  refine r_iload C dL_acts_193 rfl ?_
  refine r_bipush C (nI 7) dL_acts_195 rfl ?_
  refine r_ishr C dL_acts_197 ?_
  refine r_iconst C (nI 2) dL_acts_198 rfl ?_
  refine r_callS C E hh (c_low E.2.1 Γ B0 _ _ 2 (by omega) (by omega)) lk_L_149 rfl rfl (Nat.le_of_ble_eq_true rfl) dL_acts_199 ⟨by decide, by decide⟩ ⟨by omega, by omega⟩ (fun _ _ z9 => False.elim z9) (kk_rI (fun r9 w9 H locs hs9 hp9 hh => ?_))
  obtain ⟨⟨j2, hj2, rfl⟩, rfl⟩ := hp9
  have jn210 : ∀ (jb : Bool), ∀ (H : Heap) (locs : List Loc), f_HS Γ B0 (wj (fw Γ ad P) (xw Γ ad R) (mw Γ ad M)) X9 H locs → f_W X9 H locs 0 0 210 [some (.ref (ad 1 0)), some (.ref (ad 30 1)), some (.ref (ad 30 2)), some (.ref (ad 30 3)), some (.ref (ad 30 4)), some (.int x), some (.int y), none, none, none, none] [.int (bI jb), .int (nI c), .int (nI i), .ref (ad 30 4), .ref (ad 30 3), .ref (ad 30 2), .ref (ad 30 1), .ref (ad 1 0)] := by
    intro jb H locs hh
    refine r_iload C dL_acts_210 rfl ?_
    refine r_bipush C (nI 8) dL_acts_212 rfl ?_
    refine r_ishr C dL_acts_214 ?_
    refine r_iconst C (nI 4) dL_acts_215 rfl ?_
    refine r_callS C E hh (c_low E.2.1 Γ B0 _ _ 4 (by omega) (by omega)) lk_L_149 rfl rfl (Nat.le_of_ble_eq_true rfl) dL_acts_216 ⟨by decide, by decide⟩ ⟨by omega, by omega⟩ (fun _ _ z9 => False.elim z9) (kk_rI (fun r9 w9 H locs hs9 hp9 hh => ?_))
    obtain ⟨⟨j3, hj3, rfl⟩, rfl⟩ := hp9
    have jn227 : ∀ (ab : Bool), ∀ (H : Heap) (locs : List Loc), f_HS Γ B0 (wj (fw Γ ad P) (xw Γ ad R) (mw Γ ad M)) X9 H locs → f_W X9 H locs 0 0 227 [some (.ref (ad 1 0)), some (.ref (ad 30 1)), some (.ref (ad 30 2)), some (.ref (ad 30 3)), some (.ref (ad 30 4)), some (.int x), some (.int y), none, none, none, none] [.int (bI ab), .int (bI jb), .int (nI c), .int (nI i), .ref (ad 30 4), .ref (ad 30 3), .ref (ad 30 2), .ref (ad 30 1), .ref (ad 1 0)] := by
      intro ab H locs hh
      refine r_callS C E hh (c_L_proves E.2.1 Γ B0 ad P R M n h _ _ (by omega) hc jb ab) lk_L_201 rfl rfl (Nat.le_of_ble_eq_true rfl) dL_acts_227 ⟨by decide, by decide⟩ ⟨by omega, by omega⟩ (fun _ _ z9 => False.elim z9) (kk_rI (fun r9 w9 H locs hs9 hp9 hh => ?_))
      obtain ⟨rfl, hact⟩ := hp9
      exact r_zret C E hh dL_acts_230 (by omega) (by omega) ⟨_, rfl, rfl, ACT_of hact⟩
    refine r_if_leN (tgt := 226) C dL_acts_219 (by decide) (by omega) (fun h219 => ?_) (fun h219 => ?_)
    · refine r_iconst C (bI false) dL_acts_226 rfl ?_
      exact jn227 _ _ _ hh
    · refine r_iconst C (bI true) dL_acts_222 rfl ?_
      refine r_goto (tgt := 227) C dL_acts_223 (by decide) ?_
      exact jn227 _ _ _ hh
  refine r_if_neN (tgt := 209) C dL_acts_202 (by decide) (by omega) (fun h202 => ?_) (fun h202 => ?_)
  · refine r_iconst C (bI false) dL_acts_209 rfl ?_
    exact jn210 _ _ _ hh
  · refine r_iconst C (bI true) dL_acts_205 rfl ?_
    refine r_goto (tgt := 210) C dL_acts_206 (by decide) ?_
    exact jn210 _ _ _ hh

set_option maxHeartbeats 4000000 in
set_option maxRecDepth 100000 in
theorem c_L_acts {l : Launch} (hl : l.stackTraces = false) (Γ : fG) (B0 : Nat) (ad : Nat → Nat → Nat) (P R M : fR) (n : Nat) (h : RZ n P R M) (hn : n ≤ 149) (x y : Int32) : f_Met l yL_acts cL_acts 11 (some .boolean) 10 150 1000 213 Γ B0 [.ref (ad 1 0), .ref (ad 30 1), .ref (ad 30 2), .ref (ad 30 3), .ref (ad 30 4), .int x, .int y] (wj (fw Γ ad P) (xw Γ ad R) (mw Γ ad M)) (f_rI (fun r9 w9 => r9 = bI true ∧ ACT Γ ad n w9)) f_no := by
  refine f_of hl (by decide) rfl (Nat.le_of_ble_eq_true rfl) (fun X9 C E hh hnm => ?_)
  generalize (f_s X9).heap = H, ([] : List Loc) = locs at hh ⊢
  have hn : n ≤ 150 := by omega
  have hF := rl_fi h
  have hI := rl_xi h
  have hL := rl_li h
  have h64 := rl_64 h
  have h24 := rl_24 h
  have e0 := rl_0 h
  have hsh := FI_sh (R := R) hF h64
  have esh := rl_sh h
  have hs6 := shL_6 hL
  have e41 := h.2.1.1
  obtain ⟨l1, l2, l3, l40, l41, l42, ⟨l43, l43h⟩, l44, l45⟩ := id hL
  refine r_iload C dL_acts_0 rfl ?_
  refine r_bipush C (nI 30) dL_acts_2 rfl ?_
  refine r_callS C E hh (c_low E.2.1 Γ B0 _ _ 30 (by omega) (by omega)) lk_L_149 rfl rfl (Nat.le_of_ble_eq_true rfl) dL_acts_4 ⟨by decide, by decide⟩ ⟨by omega, by omega⟩ (fun _ _ z9 => False.elim z9) (kk_rI (fun r9 w9 H locs hs9 hp9 hh => ?_))
  obtain ⟨⟨kd, hkd, rfl⟩, rfl⟩ := hp9
  refine r_istore C dL_acts_7 rfl rfl ?_
  refine r_aload C dL_acts_9 rfl ?_
  refine r_iconst C (nI 0) dL_acts_11 rfl ?_
  refine al_m_g C hh (by omega) dL_acts_12 ?_
  refine r_iconst C (nI 5) dL_acts_13 rfl ?_
  refine r_icmp_ltN (tgt := 23) C dL_acts_14 (by decide) (by omega) (by omega) (fun h14 => ?_) (fun h14 => ?_)
  · refine r_aload_n C dL_acts_23 rfl ?_
    refine r_aload_n C dL_acts_24 rfl ?_
    refine r_aload_n C dL_acts_25 rfl ?_
    refine r_aload C dL_acts_26 rfl ?_
    refine r_iload C dL_acts_28 rfl ?_
    refine r_iconst C (nI 5) dL_acts_30 rfl ?_
    refine r_ishr C dL_acts_31 ?_
    refine r_iload C dL_acts_32 rfl ?_
    refine r_callS C E hh (c_L_orders E.2.1 Γ B0 ad P R M n h hn _ _) lk_L_191 rfl rfl (Nat.le_of_ble_eq_true rfl) dL_acts_34 ⟨by decide, by decide⟩ ⟨by omega, by omega⟩ (fun _ _ z9 => False.elim z9) (kk_rI (fun r9 w9 H locs hs9 hp9 hh => ?_))
    obtain ⟨rfl, hact⟩ := hp9
    exact r_zret C E hh dL_acts_37 (by omega) (by omega) ⟨_, rfl, rfl, hact⟩
  · refine r_iload C dL_acts_17 rfl ?_
    refine r_iconst C (nI 5) dL_acts_19 rfl ?_
    refine r_icmp_geN (tgt := 38) C dL_acts_20 (by decide) (by omega) (by omega) (fun h20 => ?_) (fun h20 => ?_)
    · refine r_iload C dL_acts_38 rfl ?_
      refine r_iconst C (nI 5) dL_acts_40 rfl ?_
      refine r_icmp_neN (tgt := 140) C dL_acts_41 (by decide) (by omega) (by omega) (fun h41 => ?_) (fun h41 => ?_)
      · refine r_iload C dL_acts_140 rfl ?_
        refine r_bipush C (nI 12) dL_acts_142 rfl ?_
        refine r_icmp_geN (tgt := 163) C dL_acts_144 (by decide) (by omega) (by omega) (fun h144 => ?_) (fun h144 => ?_)
        · refine r_iload C dL_acts_163 rfl ?_
          refine r_bipush C (nI 16) dL_acts_165 rfl ?_
          refine r_icmp_geN (tgt := 231) C dL_acts_167 (by decide) (by omega) (by omega) (fun h167 => ?_) (fun h167 => ?_)
          · refine r_iload C dL_acts_231 rfl ?_
            refine r_bipush C (nI 22) dL_acts_233 rfl ?_
            refine r_icmp_geN (tgt := 333) C dL_acts_235 (by decide) (by omega) (by omega) (fun h235 => ?_) (fun h235 => ?_)
            · refine r_aload_n C dL_acts_333 rfl ?_
              refine r_aload_n C dL_acts_334 rfl ?_
              refine r_aload_n C dL_acts_335 rfl ?_
              refine r_aload_n C dL_acts_336 rfl ?_
              refine r_aload C dL_acts_337 rfl ?_
              refine r_iload C dL_acts_339 rfl ?_
              refine r_iconst C (nI 5) dL_acts_341 rfl ?_
              refine r_ishr C dL_acts_342 ?_
              refine r_iload C dL_acts_343 rfl ?_
              refine r_callS C E hh (c_L_prints E.2.1 Γ B0 ad P R M n h hn _ _) lk_L_205 rfl rfl (Nat.le_of_ble_eq_true rfl) dL_acts_345 ⟨by decide, by decide⟩ ⟨by omega, by omega⟩ (fun _ _ z9 => False.elim z9) (kk_rI (fun r9 w9 H locs hs9 hp9 hh => ?_))
              obtain ⟨rfl, hact⟩ := hp9
              exact r_zret C E hh dL_acts_348 (by omega) (by omega) ⟨_, rfl, rfl, hact⟩
            · refine f_W.le ?_ (s_act238 h hn x y (by omega) C E hh)
              exact (And.intro rfl (And.intro rfl (And.intro rfl (And.intro rfl (And.intro rfl (And.intro rfl (And.intro rfl trivial)))))))
          · refine f_W.le ?_ (s_act170 h hn x y (by omega) C E hh)
            exact (And.intro rfl (And.intro rfl (And.intro rfl (And.intro rfl (And.intro rfl (And.intro rfl (And.intro rfl trivial)))))))
        · refine r_aload_n C dL_acts_147 rfl ?_
          refine r_aload_n C dL_acts_148 rfl ?_
          refine r_aload_n C dL_acts_149 rfl ?_
          refine r_aload_n C dL_acts_150 rfl ?_
          refine r_aload C dL_acts_151 rfl ?_
          refine r_iload C dL_acts_153 rfl ?_
          refine r_iconst C (nI 5) dL_acts_155 rfl ?_
          refine r_ishr C dL_acts_156 ?_
          refine r_iload C dL_acts_157 rfl ?_
          refine r_callS C E hh (c_L_rights E.2.1 Γ B0 ad P R M n h hn _ _) lk_L_197 rfl rfl (Nat.le_of_ble_eq_true rfl) dL_acts_159 ⟨by decide, by decide⟩ ⟨by omega, by omega⟩ (fun _ _ z9 => False.elim z9) (kk_rI (fun r9 w9 H locs hs9 hp9 hh => ?_))
          obtain ⟨rfl, hact⟩ := hp9
          exact r_zret C E hh dL_acts_162 (by omega) (by omega) ⟨_, rfl, rfl, hact⟩
      · refine f_W.le ?_ (s_act44 h hn x y C E hh)
        exact (And.intro rfl (And.intro rfl (And.intro rfl (And.intro rfl (And.intro rfl (And.intro rfl (And.intro rfl trivial)))))))
    · refine r_aload_n C dL_acts_23 rfl ?_
      refine r_aload_n C dL_acts_24 rfl ?_
      refine r_aload_n C dL_acts_25 rfl ?_
      refine r_aload C dL_acts_26 rfl ?_
      refine r_iload C dL_acts_28 rfl ?_
      refine r_iconst C (nI 5) dL_acts_30 rfl ?_
      refine r_ishr C dL_acts_31 ?_
      refine r_iload C dL_acts_32 rfl ?_
      refine r_callS C E hh (c_L_orders E.2.1 Γ B0 ad P R M n h hn _ _) lk_L_191 rfl rfl (Nat.le_of_ble_eq_true rfl) dL_acts_34 ⟨by decide, by decide⟩ ⟨by omega, by omega⟩ (fun _ _ z9 => False.elim z9) (kk_rI (fun r9 w9 H locs hs9 hp9 hh => ?_))
      obtain ⟨rfl, hact⟩ := hp9
      exact r_zret C E hh dL_acts_37 (by omega) (by omega) ⟨_, rfl, rfl, hact⟩

