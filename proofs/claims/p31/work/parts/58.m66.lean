/-! ===== prints ===== -/
theorem wear_n {P R R0 : fR} (hX0 : XI R0) (h17 : ∀ t, t < 128 → R0 8 t 0 ≠ 0 → 1 ≤ R0 17 t 0) {s k nd : Nat} (hs16 : s < 16) (hk : k < 8) (hnd : tb nd k = decide (nnx P R0 s k ≠ 0)) (hsp : wrx P R s k = if mdB P R0 s k = true then 1 else wrx P R0 s k) (h : nd / 2 ^ k &&& 1 = 0) : iM (wrx P R s k) = -1 := by
  have h1 := (pk_and1 nd k).2.mp h
  rw [hnd, decide_eq_false_iff_not] at h1
  have h2 : nnx P R0 s k = 0 := by omega
  have h3 := wrx_0 h17 hs16 hk h2
  have h4 : mdB P R0 s k = false := by
    unfold mdB; rw [decide_eq_false (p := nnx P R0 s k ≠ 0) (by omega)]; rfl
  rw [hsp, h4, if_neg (by decide), h3]; rfl
theorem wear_y {P R R0 : fR} (hX0 : XI R0) {s k nd : Nat} (hk : k < 8) (hnd : tb nd k = decide (nnx P R0 s k ≠ 0)) (hsp : wrx P R s k = if mdB P R0 s k = true then 1 else wrx P R0 s k) (h : ¬ nd / 2 ^ k &&& 1 = 0) : (¬ 0 ≤ iM (wrx P R0 s k) → iM (wrx P R s k) = nI 0) ∧ (0 ≤ iM (wrx P R0 s k) → iM (wrx P R s k) = iM (wrx P R0 s k)) := by
  have hl := wrx_lt (P := P) hX0 (s := s) (y := k)
  have h1 : tb nd k = true := by
    cases z : tb nd k
    · exact absurd ((pk_and1 nd k).2.mpr z) h
    · rfl
  rw [hnd, decide_eq_true_iff] at h1
  have g := iM_ge0 (v := wrx P R0 s k) (by omega)
  constructor
  · intro z
    have z2 : wrx P R0 s k = 0 := by
      by_cases y : wrx P R0 s k = 0
      · exact y
      · exact absurd (g.mpr y) z
    have h4 : mdB P R0 s k = true := by
      unfold mdB; rw [decide_eq_true (p := nnx P R0 s k ≠ 0) h1, decide_eq_true z2]; rfl
    rw [hsp, h4, if_pos rfl]; rfl
  · intro z
    have z2 := g.mp z
    have h4 : mdB P R0 s k = false := by
      unfold mdB; rw [decide_eq_false z2, Bool.and_false]
    rw [hsp, h4, if_neg (by decide)]
set_option maxHeartbeats 4000000 in
set_option maxRecDepth 100000 in
theorem s_pri421 {X9 : fX} {Γ : fG} {B0 : Nat} {ad ad0 : Nat → Nat → Nat} {P R M : fR} {n : Nat} (h : RZ (n + 1) P R M) (hn : n ≤ 150) (e1 : ad 1 0 = ad0 1 0) (e30 : ∀ j, ad 30 j = ad0 30 j) (x y : Int32) {s : Nat} (hs : s < shc P R) {H : Heap} {locs : List Loc} (C : f_C X9 Γ B0 RL cL_prints 17 9 140 1000 177) (E : f_E X9 Γ B0 (some .boolean) 140 1000 (f_rI (fun r9 w9 => r9 = bI true ∧ ACT Γ ad0 n w9)) f_no) (hh : f_HS Γ B0 (wj (fw Γ ad P) (xw Γ ad R) (mw Γ ad M)) X9 H locs) : f_W X9 H locs 130 940 421 [some (.ref (ad 1 0)), some (.ref (ad 30 1)), some (.ref (ad 30 2)), some (.ref (ad 30 3)), some (.ref (ad 30 4)), some (.int x), some (.int y), some (.int (nI (s))), none, none, none, none, none, some (.ref (M 6 0 0 - 1)), some (.int (bI (true))), none, none] [] := by
  have hF := rl_fi h
  have hI := rl_xi h
  have hL := rl_li h
  have h64 := rl_64 h
  have h24 := rl_24 h
  have e0 := rl_0 h
  have hsh := FI_sh (R := R) hF h64
  have esh := rl_sh h
  have hs6 := shL_6 hL
  have e41 := h.2.1.1
  obtain ⟨l1, l2, l3, l40, l41, l42, ⟨l43, l43h⟩, l44, l45⟩ := id hL
  refine r_iload C dL_prints_421 rfl ?_
  refine r_if_eqB (tgt := 456) C dL_prints_423 (by decide) (fun h423 => ?_) (fun h423 => ?_)
  · exact absurd h423 (by decide)
  · refine r_aload_n C dL_prints_426 rfl ?_
    refine r_iload C dL_prints_427 rfl ?_
    refine r_iconst C (nI 2) dL_prints_429 rfl ?_
    refine r_iconst C (nI 0) dL_prints_430 rfl ?_
    refine r_callSW C hh (x_wear2 E.2.1 Γ B0 ad P R _ _ _ _ hF hI ⟨rg_N hs (by omega), fun z => not_rg (by decide) (by decide) z.1⟩) lw_L_189 rfl rfl (Nat.le_of_ble_eq_true rfl) dL_prints_431 ⟨by decide, by decide⟩ ⟨by omega, by omega⟩ (kk_is (fun H locs hs9 hh => ?_))
    refine r_ldc C ct_L_21 dL_prints_434 ?_
    refine r_icmp_ne (tgt := 456) C dL_prints_436 (by decide) (fun h436 => ?_) (fun h436 => ?_)
    · exact absurd (rfl) h436
    · refine r_aload_n C dL_prints_439 rfl ?_
      refine r_iload C dL_prints_440 rfl ?_
      refine r_iconst C (nI 0) dL_prints_442 rfl ?_
      refine r_iconst C (nI 4) dL_prints_443 rfl ?_
      refine r_callSW C hh (x_wear2 E.2.1 Γ B0 ad P R _ _ _ _ hF hI ⟨rg_N hs (by omega), fun z => not_rg (by decide) (by decide) z.2⟩) lw_L_189 rfl rfl (Nat.le_of_ble_eq_true rfl) dL_prints_444 ⟨by decide, by decide⟩ ⟨by omega, by omega⟩ (kk_is (fun H locs hs9 hh => ?_))
      refine r_ldc C ct_L_21 dL_prints_447 ?_
      refine r_icmp_ne (tgt := 456) C dL_prints_449 (by decide) (fun h449 => ?_) (fun h449 => ?_)
      · exact absurd (rfl) h449
      · refine r_iconst C (bI true) dL_prints_452 rfl ?_
        refine r_goto (tgt := 457) C dL_prints_453 (by decide) ?_
        exact r_zret C E hh dL_prints_457 (by omega) (by omega) ⟨_, rfl, rfl, ad, P, R, M, h, e1, e30, rfl⟩

set_option maxHeartbeats 4000000 in
set_option maxRecDepth 100000 in
theorem s_pri340t {X9 : fX} {Γ : fG} {B0 : Nat} {ad ad0 : Nat → Nat → Nat} {P R0 R M : fR} {n : Nat} (h : RZ (n + 1) P R M) (hn : n ≤ 150) (e1 : ad 1 0 = ad0 1 0) (e30 : ∀ j, ad 30 j = ad0 30 j) (x y : Int32) {s : Nat} (hs : s < shc P R) (hs16 : s < 16) (hw : M 6 0 0 ≠ 0) {nd : Nat} (hnd : ∀ y, y < 8 → tb nd y = decide (nnx P R0 s y ≠ 0)) (hnd2 : nd < 256) (h5 : ∀ y, y < 8 → M 5 y 0 = wrx P R0 s y) (hX0 : XI R0) (h17 : ∀ t, t < 128 → R0 8 t 0 ≠ 0 → 1 ≤ R0 17 t 0) (hsp : ∀ y, y < 8 → wrx P R s y = if mdB P R0 s y = true then 1 else wrx P R0 s y) {H : Heap} {locs : List Loc} (C : f_C X9 Γ B0 RL cL_prints 17 9 140 1000 177) (E : f_E X9 Γ B0 (some .boolean) 140 1000 (f_rI (fun r9 w9 => r9 = bI true ∧ ACT Γ ad0 n w9)) f_no) (hh : f_HS Γ B0 (wj (fw Γ ad P) (xw Γ ad R) (mw Γ ad M)) X9 H locs) : f_W X9 H locs 103 788 340 [some (.ref (ad 1 0)), some (.ref (ad 30 1)), some (.ref (ad 30 2)), some (.ref (ad 30 3)), some (.ref (ad 30 4)), some (.int x), some (.int y), some (.int (nI (s))), some (.int (bI (true))), none, some (.int (nI (nd))), none, none, some (.ref (M 6 0 0 - 1)), some (.int (bI (true))), none, none] [] := by
  have hF := rl_fi h
  have hI := rl_xi h
  have hL := rl_li h
  have h64 := rl_64 h
  have h24 := rl_24 h
  have e0 := rl_0 h
  have hsh := FI_sh (R := R) hF h64
  have esh := rl_sh h
  have hs6 := shL_6 hL
  have e41 := h.2.1.1
  obtain ⟨l1, l2, l3, l40, l41, l42, ⟨l43, l43h⟩, l44, l45⟩ := id hL
  refine r_iconst C (nI 0) dL_prints_340 rfl ?_
  refine r_istore C dL_prints_341 rfl rfl ?_
  have lp343 : ∀ (d9 : Nat) (k : Nat) (Rk : fR) (H : Heap) (locs : List Loc), 8 - k < d9 → k ≤ 8 → jk Rk R → XI Rk → f_HS Γ B0 (wj (fw Γ ad P) (xw Γ ad Rk) (mw Γ ad M)) X9 H locs → f_W X9 H locs (103 + 3 * k) (788 + 18 * k) 343 [some (.ref (ad 1 0)), some (.ref (ad 30 1)), some (.ref (ad 30 2)), some (.ref (ad 30 3)), some (.ref (ad 30 4)), some (.int x), some (.int y), some (.int (nI (s))), some (.int (bI (true))), none, some (.int (nI (nd))), none, none, some (.ref (M 6 0 0 - 1)), some (.int (bI (true))), some (.int (nI (k))), none] [] := by
    intro d9
    induction d9 with
    | zero => intro k Rk H locs hd9 hk9 hj hXk hh; exact absurd hd9 (Nat.not_lt_zero _)
    | succ d9 ih343 =>
      intro k Rk H locs hd9 hk9 hj hXk hh
      have hwl := wrx_lt (P := P) hX0 (s := s) (y := k)
      refine r_iload C dL_prints_343 rfl ?_
      refine r_bipush C (nI 8) dL_prints_345 rfl ?_
      refine r_icmp_geN (tgt := 421) C dL_prints_347 (by decide) (by omega) (by omega) (fun h347 => ?_) (fun h347 => ?_)
      · have hz := RZ_jk h hj hXk
        refine f_widen (show _ ≤ 130 by omega) (show _ ≤ 940 by omega) (f_W.le ?_ (s_pri421 hz hn e1 e30 x y (show s < shc P Rk by have e : ∀ R, shc P R = (R 0 0 0 + pgs P - 1) / pgs P := fun _ => rfl; rw [e, hj 0 (by decide) (by decide), ← e]; exact hs) C E hh))
        exact (And.intro rfl (And.intro rfl (And.intro rfl (And.intro rfl (And.intro rfl (And.intro rfl (And.intro rfl (And.intro rfl (And.intro rfl (And.intro rfl trivial))))))))))
      · refine r_iload C dL_prints_350 rfl ?_
        refine r_if_eqB (tgt := 421) C dL_prints_352 (by decide) (fun h352 => ?_) (fun h352 => ?_)
        · exact absurd h352 (by decide)
        · refine r_iload C dL_prints_355 rfl ?_
          refine r_if_eqB (tgt := 412) C dL_prints_357 (by decide) (fun h357 => ?_) (fun h357 => ?_)
          · exact absurd h357 (by decide)
          · refine r_aload_n C dL_prints_360 rfl ?_
            refine r_iload C dL_prints_361 rfl ?_
            refine r_iload C dL_prints_363 rfl ?_
            refine r_iconst C (nI 4) dL_prints_365 rfl ?_
            refine r_idivN C dL_prints_366 (by omega) (by omega) (by omega) ?_
            refine r_iload C dL_prints_367 rfl ?_
            refine r_iconst C (nI 4) dL_prints_369 rfl ?_
            refine r_iremN C dL_prints_370 (by omega) (by omega) (by omega) ?_
            refine r_callSW C hh (L_wear_k E.2.1 Γ B0 ad _ hF hj hXk hs (by omega)) lw_L_189 rfl rfl (Nat.le_of_ble_eq_true rfl) dL_prints_371 ⟨by decide, by decide⟩ ⟨by omega, by omega⟩ (kk_rI (fun r9 w9 H locs hs9 hp9 hh => ?_))
            obtain ⟨rfl, R', hq, rfl⟩ := hp9
            refine r_iload C dL_prints_374 rfl ?_
            refine r_iload C dL_prints_376 rfl ?_
            refine r_ishrN C dL_prints_378 (by omega) (by omega) ?_
            refine r_iconst C (nI 1) dL_prints_379 rfl ?_
            refine r_iandN C dL_prints_380 ?_
            refine r_if_neN (tgt := 388) C dL_prints_381 (by decide) (Nat.lt_of_le_of_lt Nat.and_le_right (by decide)) (fun h381 => ?_) (fun h381 => ?_)
            · refine r_aload C dL_prints_388 rfl ?_
              refine r_iload C dL_prints_390 rfl ?_
              refine al_worn C hh hw (by omega) dL_prints_392 ?_
              rw [h5 k (by omega)]
              refine r_if_ge (tgt := 400) C dL_prints_393 (by decide) (fun h393 => ?_) (fun h393 => ?_)
              · refine r_aload C dL_prints_400 rfl ?_
                refine r_iload C dL_prints_402 rfl ?_
                refine al_worn C hh hw (by omega) dL_prints_404 ?_
                rw [h5 k (by omega)]
                refine r_icmp_ne (tgt := 412) C dL_prints_405 (by decide) (fun h405 => ?_) (fun h405 => ?_)
                · first
                  | exact absurd (wear_n hX0 h17 hs16 (by omega) (hnd k (by omega)) (hsp k (by omega)) h381) h405
                  | exact absurd ((wear_y hX0 (by omega) (hnd k (by omega)) (hsp k (by omega)) h381).1 h393) h405
                  | exact absurd ((wear_y hX0 (by omega) (hnd k (by omega)) (hsp k (by omega)) h381).2 h393) h405
                · refine r_iconst C (bI true) dL_prints_408 rfl ?_
                  refine r_goto (tgt := 413) C dL_prints_409 (by decide) ?_
                  refine r_istore C dL_prints_413 rfl rfl ?_
                  refine r_iincN C dL_prints_415 rfl rfl ?_
                  refine r_goto (tgt := 343) C dL_prints_418 (by decide) ?_
                  refine f_W.le ?_ (ih343 (k + 1) R' _ _ (by omega) (by omega) hq.1 hq.2 hh)
                  exact (And.intro rfl (And.intro rfl (And.intro rfl (And.intro rfl (And.intro rfl (And.intro rfl (And.intro rfl (And.intro rfl (And.intro rfl (And.intro rfl (And.intro rfl (And.intro rfl (And.intro rfl trivial)))))))))))))
              · refine r_iconst C (nI 0) dL_prints_396 rfl ?_
                refine r_goto (tgt := 405) C dL_prints_397 (by decide) ?_
                refine r_icmp_ne (tgt := 412) C dL_prints_405 (by decide) (fun h405 => ?_) (fun h405 => ?_)
                · first
                  | exact absurd (wear_n hX0 h17 hs16 (by omega) (hnd k (by omega)) (hsp k (by omega)) h381) h405
                  | exact absurd ((wear_y hX0 (by omega) (hnd k (by omega)) (hsp k (by omega)) h381).1 h393) h405
                  | exact absurd ((wear_y hX0 (by omega) (hnd k (by omega)) (hsp k (by omega)) h381).2 h393) h405
                · refine r_iconst C (bI true) dL_prints_408 rfl ?_
                  refine r_goto (tgt := 413) C dL_prints_409 (by decide) ?_
                  refine r_istore C dL_prints_413 rfl rfl ?_
                  refine r_iincN C dL_prints_415 rfl rfl ?_
                  refine r_goto (tgt := 343) C dL_prints_418 (by decide) ?_
                  refine f_W.le ?_ (ih343 (k + 1) R' _ _ (by omega) (by omega) hq.1 hq.2 hh)
                  exact (And.intro rfl (And.intro rfl (And.intro rfl (And.intro rfl (And.intro rfl (And.intro rfl (And.intro rfl (And.intro rfl (And.intro rfl (And.intro rfl (And.intro rfl (And.intro rfl (And.intro rfl trivial)))))))))))))
            · refine r_iconst C (-1) dL_prints_384 rfl ?_
              refine r_goto (tgt := 405) C dL_prints_385 (by decide) ?_
              refine r_icmp_ne (tgt := 412) C dL_prints_405 (by decide) (fun h405 => ?_) (fun h405 => ?_)
              · first
                | exact absurd (wear_n hX0 h17 hs16 (by omega) (hnd k (by omega)) (hsp k (by omega)) h381) h405
                | exact absurd ((wear_y hX0 (by omega) (hnd k (by omega)) (hsp k (by omega)) h381).1 h393) h405
                | exact absurd ((wear_y hX0 (by omega) (hnd k (by omega)) (hsp k (by omega)) h381).2 h393) h405
              · refine r_iconst C (bI true) dL_prints_408 rfl ?_
                refine r_goto (tgt := 413) C dL_prints_409 (by decide) ?_
                refine r_istore C dL_prints_413 rfl rfl ?_
                refine r_iincN C dL_prints_415 rfl rfl ?_
                refine r_goto (tgt := 343) C dL_prints_418 (by decide) ?_
                refine f_W.le ?_ (ih343 (k + 1) R' _ _ (by omega) (by omega) hq.1 hq.2 hh)
                exact (And.intro rfl (And.intro rfl (And.intro rfl (And.intro rfl (And.intro rfl (And.intro rfl (And.intro rfl (And.intro rfl (And.intro rfl (And.intro rfl (And.intro rfl (And.intro rfl (And.intro rfl trivial)))))))))))))
  exact lp343 9 0 R _ _ (by omega) (by omega) (fun _ _ _ => rfl) hI hh

set_option maxHeartbeats 4000000 in
set_option maxRecDepth 100000 in
theorem s_pri255t {X9 : fX} {Γ : fG} {B0 : Nat} {ad : Nat → Nat → Nat} {P R M : fR} {n : Nat} (h : RZ n P R M) (hn : n ≤ 150) (x y : Int32) {s cp : Nat} (hs : s < shc P R) (hcp : 1 ≤ cp ∧ cp ≤ 500) (hw : M 6 0 0 ≠ 0) (hrb : afo P R s = true) {nd md : Nat} (hnd : ∀ y, y < 8 → tb nd y = decide (nnx P R s y ≠ 0)) (hnd2 : nd < 256) (hmd : md = cntB (mdB P R s) 8) (h5 : ∀ y, y < 8 → M 5 y 0 = wrx P R s y) {H : Heap} {locs : List Loc} (C : f_C X9 Γ B0 RL cL_prints 17 9 140 1000 177) (E : f_E X9 Γ B0 (some .boolean) 140 1000 (f_rI (fun r9 w9 => r9 = bI true ∧ ACT Γ ad n w9)) f_no) (hh : f_HS Γ B0 (wj (fw Γ ad P) (xw Γ ad R) (mw Γ ad M)) X9 H locs) : f_W X9 H locs 49 296 255 [some (.ref (ad 1 0)), some (.ref (ad 30 1)), some (.ref (ad 30 2)), some (.ref (ad 30 3)), some (.ref (ad 30 4)), some (.int x), some (.int y), some (.int (nI (s))), some (.int (bI (true))), none, some (.int (nI (nd))), some (.int (nI (md))), none, some (.ref (M 6 0 0 - 1)), none, none, none] [] := by
  have hF := rl_fi h
  have hI := rl_xi h
  have hL := rl_li h
  have h64 := rl_64 h
  have h24 := rl_24 h
  have e0 := rl_0 h
  have hsh := FI_sh (R := R) hF h64
  have esh := rl_sh h
  have hs6 := shL_6 hL
  have e41 := h.2.1.1
  obtain ⟨l1, l2, l3, l40, l41, l42, ⟨l43, l43h⟩, l44, l45⟩ := id hL
  have hpg := FI_pg hF
  have hw2 := rl_w h
  have h17 := rl_17 h
  have hs16 : s < 16 := by omega
  have hs6' : s < 6 := by omega
  have hb := rl_b h
  have hmd8 := cntB_le (mdB P R s) 8
  have hat := mks_at hF hI (by omega) h17 hs16 8 (Nat.le_refl _)
  refine r_aload C dL_prints_255 rfl ?_
  refine r_iconst C (nI 4) dL_prints_257 rfl ?_
  refine r_dup2 C dL_prints_258 rfl rfl ?_
  refine al_m_g C hh (by omega) dL_prints_259 ?_
  refine r_iload C dL_prints_260 rfl ?_
  refine r_if_eqB (tgt := 270) C dL_prints_262 (by decide) (fun h262 => ?_) (fun h262 => ?_)
  · exact absurd h262 (by decide)
  · refine r_iload C dL_prints_265 rfl ?_
    refine r_goto (tgt := 271) C dL_prints_267 (by decide) ?_
    refine r_iaddN C dL_prints_271 ?_
    refine as_m_g C hh (by omega) dL_prints_272 (fun H locs hh => ?_)
    replace hh : f_HS Γ B0 (wj (fw Γ ad P) (xw Γ ad (R)) (mw Γ ad (rs M 4 (u1 (M 4) 4 (M 4 4 0 + md))))) X9 H locs := hs_mw hh (fun _ => rfl) (fun _ => rfl) (fun _ => rfl) (fun _ => rfl) (fun _ => rfl) rfl
    have h' : RZ (n + 1) P (mks P R s 8) (rs M 4 (u1 (M 4) 4 (M 4 4 0 + md))) := RZ_mks h (Nat.le_succ n) (by omega) hs16 (by omega) (fun k hk => rs_ne _ _ hk) (fun i hi => if_neg hi) (by rw [← hmd]; simp [rs, u1])
    have hF' := rl_fi h'
    have hI' := rl_xi h'
    have hb' := rl_b h'
    have esh' := rl_sh h'
    have hL' := rl_li h'
    have hl44 := hL'.2.2.2.2.2.2.2.1
    have hl6 := shL_6 hL'
    have hs' : s < shc P (mks P R s 8) := by
      have e : ∀ R, shc P R = (R 0 0 0 + pgs P - 1) / pgs P := fun _ => rfl
      rw [e, hat.1 0 (by decide) (by decide) (by decide) (by decide) (by decide) (by decide) (by decide), ← e]; exact hs
    have ha' : afo P (mks P R s 8) s = true := by
      have a := hat.1
      rw [afo_eq P (a 0 (by decide) (by decide) (by decide) (by decide) (by decide) (by decide) (by decide)) (a 2 (by decide) (by decide) (by decide) (by decide) (by decide) (by decide) (by decide)) (a 6 (by decide) (by decide) (by decide) (by decide) (by decide) (by decide) (by decide)) (a 10 (by decide) (by decide) (by decide) (by decide) (by decide) (by decide) (by decide)) (a 11 (by decide) (by decide) (by decide) (by decide) (by decide) (by decide) (by decide)) (a 12 (by decide) (by decide) (by decide) (by decide) (by decide) (by decide) (by decide)) (a 13 (by decide) (by decide) (by decide) (by decide) (by decide) (by decide) (by decide)) (a 14 (by decide) (by decide) (by decide) (by decide) (by decide) (by decide) (by decide)) (a 16 (by decide) (by decide) (by decide) (by decide) (by decide) (by decide) (by decide)) s]
      exact hrb
    have hn0 : ∀ y, y < 8 → mdB P (mks P R s 8) s y = false := fun y hy => by
      have a := hat.1
      have e1 : nnx P (mks P R s 8) s y = nnx P R s y := nnx_eq P (a 0 (by decide) (by decide) (by decide) (by decide) (by decide) (by decide) (by decide)) (a 6 (by decide) (by decide) (by decide) (by decide) (by decide) (by decide) (by decide)) (a 14 (by decide) (by decide) (by decide) (by decide) (by decide) (by decide) (by decide)) s y
      have e2 := hat.2.1 y hy
      unfold mdB
      rw [e1, e2]
      by_cases z : mdB P R s y = true
      · rw [if_pos ⟨hy, z⟩, decide_eq_false (p := 1 = 0) (by decide), Bool.and_false]
      · rw [if_neg (fun u => z u.2)]
        exact Bool.eq_false_iff.mpr z
    have h'' : RZ (n + 1) P (mks P (mks P R s 8) s 8) (rs M 4 (u1 (M 4) 4 (M 4 4 0 + md))) := RZ_mks h' (Nat.le_refl _) (by omega) hs16 (by rw [cntB_f 8 hn0]; omega) (fun _ _ => rfl) (fun _ _ => rfl) (by rw [cntB_f 8 hn0]; rfl)
    have hat2 := mks_at hF' hI' (by omega) (rl_17 h') hs16 8 (Nat.le_refl _)
    refine r_aload_n C dL_prints_273 rfl ?_
    refine r_iload C dL_prints_274 rfl ?_
    refine r_callSW C hh (L_mk_k E.2.1 Γ B0 ad _ hF hI (by omega) h17 hs hrb) lw_L_185 rfl rfl (Nat.le_of_ble_eq_true rfl) dL_prints_276 ⟨by decide, by decide⟩ ⟨by omega, by omega⟩ (kk_rI (fun r9 w9 H locs hs9 hp9 hh => ?_))
    obtain ⟨rfl, ad', e1, e30, rfl⟩ := hp9
    rw [← e1, ← e30 1, ← e30 2, ← e30 3, ← e30 4, ← hmd]
    refine r_iload C dL_prints_279 rfl ?_
    refine r_if_eqB (tgt := 289) C dL_prints_281 (by decide) (fun h281 => ?_) (fun h281 => ?_)
    · exact absurd h281 (by decide)
    · refine r_iload C dL_prints_284 rfl ?_
      refine r_goto (tgt := 291) C dL_prints_286 (by decide) ?_
      refine r_icmp_neN (tgt := 337) C dL_prints_291 (by decide) (by omega) (by omega) (fun h291 => ?_) (fun h291 => ?_)
      · exact absurd (rfl) h291
      · refine r_aload_n C dL_prints_294 rfl ?_
        refine r_callV C E hh (c_X4_plates E.2.1 Γ B0 ad' (mks P R s 8) _ _) lk_L_146 (tr := .inr (.inl (0, 0))) rfl rfl rfl rfl (Nat.le_of_ble_eq_true rfl) dL_prints_295 ⟨by decide, by decide⟩ ⟨by omega, by omega⟩ (fun _ _ z9 => False.elim z9) (kk_is (fun H locs hs9 hh => ?_))
        refine r_aload C dL_prints_298 rfl ?_
        refine r_iconst C (nI 4) dL_prints_300 rfl ?_
        refine al_m_g C hh (by omega) dL_prints_301 ?_
        refine r_icmp_neN (tgt := 337) C dL_prints_302 (by decide) (by omega) (by omega) (fun h302 => ?_) (fun h302 => ?_)
        · exact absurd (h'.2.1.2.2.1) h302
        · refine r_iload C dL_prints_305 rfl ?_
          refine r_if_eqB (tgt := 319) C dL_prints_307 (by decide) (fun h307 => ?_) (fun h307 => ?_)
          · exact absurd h307 (by decide)
          · refine r_aload_n C dL_prints_310 rfl ?_
            refine r_iload C dL_prints_311 rfl ?_
            refine r_callSW C hh (L_mk_k E.2.1 Γ B0 ad' _ hF' hI' (by omega) (rl_17 h') hs' ha') lw_L_185 rfl rfl (Nat.le_of_ble_eq_true rfl) dL_prints_313 ⟨by decide, by decide⟩ ⟨by omega, by omega⟩ (kk_rI (fun r9 w9 H locs hs9 hp9 hh => ?_))
            rw [cntB_f 8 hn0] at hp9
            obtain ⟨rfl, ad2, e1', e30', rfl⟩ := hp9
            rw [← e1', ← e30' 1, ← e30' 2, ← e30' 3, ← e30' 4]
            refine r_if_neN (tgt := 337) C dL_prints_316 (by decide) (by omega) (fun h316 => ?_) (fun h316 => ?_)
            · exact absurd rfl h316
            · refine r_aload_n C dL_prints_319 rfl ?_
              refine r_aload C dL_prints_320 rfl ?_
              refine r_callS C E hh (c_L_sheets E.2.1 Γ B0 ad2 _ (fw Γ ad2 P) (xw Γ ad2 (mks P (mks P R s 8) s 8)) hL') lk_L_100 rfl rfl (Nat.le_of_ble_eq_true rfl) dL_prints_322 ⟨by decide, by decide⟩ ⟨by omega, by omega⟩ (fun _ _ z9 => False.elim z9) (kk_is (fun H locs hs9 hh => ?_))
              refine r_callSW C hh (x_makePlates1 E.2.1 Γ B0 ad2 P (mks P (mks P R s 8) s 8) _ _ (rl_fi h'') (rl_xi h'') (by have := (rl_b h'').2.2.1; omega) (not_rg (Nat.le_of_eq (rl_sh h'')) (by omega))) lw_L_185 rfl rfl (Nat.le_of_ble_eq_true rfl) dL_prints_325 ⟨by decide, by decide⟩ ⟨by omega, by omega⟩ (kk_is (fun H locs hs9 hh => ?_))
              refine r_ldc C ct_L_18 dL_prints_328 ?_
              refine r_icmp_ne (tgt := 337) C dL_prints_330 (by decide) (fun h330 => ?_) (fun h330 => ?_)
              · exact absurd (rfl) h330
              · refine r_iconst C (bI true) dL_prints_333 rfl ?_
                refine r_goto (tgt := 338) C dL_prints_334 (by decide) ?_
                refine r_istore C dL_prints_338 rfl rfl ?_
                refine f_W.le ?_ (s_pri340t h'' hn (e1'.trans e1) (fun j => (e30' j).trans (e30 j)) x y (R0 := R) (s := s) (nd := nd) ?_ hs16 hw hnd hnd2 h5 hI h17 (fun y hy => ?_) C E hh)
                · exact (And.intro rfl (And.intro rfl (And.intro rfl (And.intro rfl (And.intro rfl (And.intro rfl (And.intro rfl (And.intro rfl (And.intro rfl (And.intro rfl (And.intro rfl (And.intro rfl trivial))))))))))))
                · have e : ∀ R, shc P R = (R 0 0 0 + pgs P - 1) / pgs P := fun _ => rfl
                  rw [e, hat2.1 0 (by decide) (by decide) (by decide) (by decide) (by decide) (by decide) (by decide), ← e]; exact hs'
                · rw [hat2.2.1 y hy, if_neg (fun u => by rw [hn0 y hy] at u; exact absurd u.2 (by decide)), hat.2.1 y hy]
                  by_cases z : mdB P R s y = true
                  · rw [if_pos ⟨hy, z⟩, if_pos z]
                  · rw [if_neg (fun u => z u.2), if_neg z]

set_option maxHeartbeats 4000000 in
set_option maxRecDepth 100000 in
theorem s_pri255f {X9 : fX} {Γ : fG} {B0 : Nat} {ad : Nat → Nat → Nat} {P R M : fR} {n : Nat} (h : RZ n P R M) (hn : n ≤ 150) (x y : Int32) {s cp : Nat} (hs : s < shc P R) (hcp : 1 ≤ cp ∧ cp ≤ 500) (hw : M 6 0 0 ≠ 0) (hrb : afo P R s = false) {nd md : Nat} {H : Heap} {locs : List Loc} (C : f_C X9 Γ B0 RL cL_prints 17 9 140 1000 177) (E : f_E X9 Γ B0 (some .boolean) 140 1000 (f_rI (fun r9 w9 => r9 = bI true ∧ ACT Γ ad n w9)) f_no) (hh : f_HS Γ B0 (wj (fw Γ ad P) (xw Γ ad R) (mw Γ ad M)) X9 H locs) : f_W X9 H locs 49 296 255 [some (.ref (ad 1 0)), some (.ref (ad 30 1)), some (.ref (ad 30 2)), some (.ref (ad 30 3)), some (.ref (ad 30 4)), some (.int x), some (.int y), some (.int (nI (s))), some (.int (bI (false))), none, some (.int (nI (nd))), some (.int (nI (md))), none, some (.ref (M 6 0 0 - 1)), none, none, none] [] := by
  have hF := rl_fi h
  have hI := rl_xi h
  have hL := rl_li h
  have h64 := rl_64 h
  have h24 := rl_24 h
  have e0 := rl_0 h
  have hsh := FI_sh (R := R) hF h64
  have esh := rl_sh h
  have hs6 := shL_6 hL
  have e41 := h.2.1.1
  obtain ⟨l1, l2, l3, l40, l41, l42, ⟨l43, l43h⟩, l44, l45⟩ := id hL
  have hpg := FI_pg hF
  have hw2 := rl_w h
  have h17 := rl_17 h
  have hs16 : s < 16 := by omega
  have hs6' : s < 6 := by omega
  have hb := rl_b h
  refine r_aload C dL_prints_255 rfl ?_
  refine r_iconst C (nI 4) dL_prints_257 rfl ?_
  refine r_dup2 C dL_prints_258 rfl rfl ?_
  refine al_m_g C hh (by omega) dL_prints_259 ?_
  refine r_iload C dL_prints_260 rfl ?_
  refine r_if_eqB (tgt := 270) C dL_prints_262 (by decide) (fun h262 => ?_) (fun h262 => ?_)
  · refine r_iconst C (nI 0) dL_prints_270 rfl ?_
    refine r_iaddN C dL_prints_271 ?_
    refine as_m_g C hh (by omega) dL_prints_272 (fun H locs hh => ?_)
    replace hh : f_HS Γ B0 (wj (fw Γ ad P) (xw Γ ad R) (mw Γ ad M)) X9 H locs := hs_mw hh (fun _ => rfl) (fun _ => rfl) (fun _ => rfl) (fun i => by show u1 (M 4) 4 (M 4 4 0 + 0) i 0 = M 4 i 0; unfold u1; split <;> simp_all) (fun _ => rfl) rfl
    refine r_aload_n C dL_prints_273 rfl ?_
    refine r_iload C dL_prints_274 rfl ?_
    refine r_callSW C hh (x_makePlates2 E.2.1 Γ B0 ad P R _ _ hF hI (by omega) (by rw [xN_nI (by omega)]; exact ⟨rg_N hs (by omega), hrb⟩)) lw_L_185 rfl rfl (Nat.le_of_ble_eq_true rfl) dL_prints_276 ⟨by decide, by decide⟩ ⟨by omega, by omega⟩ (kk_is (fun H locs hs9 hh => ?_))
    refine r_iload C dL_prints_279 rfl ?_
    refine r_if_eqB (tgt := 289) C dL_prints_281 (by decide) (fun h281 => ?_) (fun h281 => ?_)
    · refine r_ldc C ct_L_24 dL_prints_289 ?_
      refine r_icmp_ne (tgt := 337) C dL_prints_291 (by decide) (fun h291 => ?_) (fun h291 => ?_)
      · exact absurd (rfl) h291
      · refine r_aload_n C dL_prints_294 rfl ?_
        refine r_callV C E hh (c_X4_plates E.2.1 Γ B0 ad R _ _) lk_L_146 (tr := .inr (.inl (0, 0))) rfl rfl rfl rfl (Nat.le_of_ble_eq_true rfl) dL_prints_295 ⟨by decide, by decide⟩ ⟨by omega, by omega⟩ (fun _ _ z9 => False.elim z9) (kk_is (fun H locs hs9 hh => ?_))
        refine r_aload C dL_prints_298 rfl ?_
        refine r_iconst C (nI 4) dL_prints_300 rfl ?_
        refine al_m_g C hh (by omega) dL_prints_301 ?_
        refine r_icmp_neN (tgt := 337) C dL_prints_302 (by decide) (by omega) (by omega) (fun h302 => ?_) (fun h302 => ?_)
        · exact absurd (h.2.1.2.2.1) h302
        · refine r_iload C dL_prints_305 rfl ?_
          refine r_if_eqB (tgt := 319) C dL_prints_307 (by decide) (fun h307 => ?_) (fun h307 => ?_)
          · refine r_aload_n C dL_prints_319 rfl ?_
            refine r_aload C dL_prints_320 rfl ?_
            refine r_callS C E hh (c_L_sheets E.2.1 Γ B0 ad M (fw Γ ad P) (xw Γ ad R) hL) lk_L_100 rfl rfl (Nat.le_of_ble_eq_true rfl) dL_prints_322 ⟨by decide, by decide⟩ ⟨by omega, by omega⟩ (fun _ _ z9 => False.elim z9) (kk_is (fun H locs hs9 hh => ?_))
            refine r_callSW C hh (x_makePlates1 E.2.1 Γ B0 ad P R _ _ hF hI (by omega) (not_rg (by omega) (by omega))) lw_L_185 rfl rfl (Nat.le_of_ble_eq_true rfl) dL_prints_325 ⟨by decide, by decide⟩ ⟨by omega, by omega⟩ (kk_is (fun H locs hs9 hh => ?_))
            refine r_ldc C ct_L_18 dL_prints_328 ?_
            refine r_icmp_ne (tgt := 337) C dL_prints_330 (by decide) (fun h330 => ?_) (fun h330 => ?_)
            · exact absurd (rfl) h330
            · refine r_iconst C (bI true) dL_prints_333 rfl ?_
              refine r_goto (tgt := 338) C dL_prints_334 (by decide) ?_
              refine r_istore C dL_prints_338 rfl rfl ?_
              refine r_iconst C (nI 0) dL_prints_340 rfl ?_
              refine r_istore C dL_prints_341 rfl rfl ?_
              refine r_iload C dL_prints_343 rfl ?_
              refine r_bipush C (nI 8) dL_prints_345 rfl ?_
              refine r_icmp_geN (tgt := 421) C dL_prints_347 (by decide) (by omega) (by omega) (fun h347 => ?_) (fun h347 => ?_)
              · exact absurd h347 (by decide)
              · refine r_iload C dL_prints_350 rfl ?_
                refine r_if_eqB (tgt := 421) C dL_prints_352 (by decide) (fun h352 => ?_) (fun h352 => ?_)
                · refine f_widen (show _ ≤ 130 by omega) (show _ ≤ 940 by omega) (f_W.le ?_ (s_pri421 (RL_up (Nat.le_succ n) h) hn rfl (fun _ => rfl) x y hs C E hh))
                  exact (And.intro rfl (And.intro rfl (And.intro rfl (And.intro rfl (And.intro rfl (And.intro rfl (And.intro rfl (And.intro rfl (And.intro rfl (And.intro rfl trivial))))))))))
                · exact absurd h352 (by decide)
          · exact absurd h307 (by decide)
    · exact absurd h281 (by decide)
  · exact absurd h262 (by decide)

