/-! ===== rights: setRight, withdraw, pass ===== -/
theorem lsq_f (a : Nat) : ∀ x, lsq (fun _ => false) a x = false
  | 0 => rfl
  | x + 1 => by
    show (lsq (fun _ => false) a x || (false && tb a x)) = false
    rw [lsq_f a x]; rfl
theorem psR_0 (P R : fR) : ∀ k, psR P R k 0 = R 0
  | 0 => rfl
  | k + 1 => by
    show snd (psR P R k) 0 = _
    unfold snd
    rw [sdl_c _ _ (by decide)]
    exact psR_0 P R k
theorem psR_sh (P R : fR) (k : Nat) : shc P (psR P R k) = shc P R := by
  have e : ∀ R, shc P R = (R 0 0 0 + pgs P - 1) / pgs P := fun _ => rfl
  rw [e, e, psR_0]
theorem L_setRight_k {l : Launch} (hl : l.stackTraces = false) (Γ : fG) (B0 : Nat) (ad : Nat → Nat → Nat) {P R : fR} (M : fR) (hF : FI P) (hI : XI R) {f a b : Nat} (hf : f < 8) (ha : a ≤ b) (hb : b < 10000) : f_MetW l yL_setRight cL_setRight 5 (some .int) [(0, 7, 8, 19)] 8 2 12 155 Γ B0 [.ref (ad 1 0), .int (nI f), .int (nI a), .int (nI b)] (wj (fw Γ ad (P)) (xw Γ ad (R)) (mw Γ ad M)) (f_is (nI (csb P (srR P R f a b) 16)) (wj (fw Γ ad (P)) (xw Γ ad (srR P R f a b)) (mw Γ ad M))) :=
  W_is2 (n_setRight hl Γ B0 ad P R (mw Γ ad M) _ _ _ hF hI ⟨rg_N hf (by decide), rg_N (by omega) (by decide), (nI_leI (by omega) (by omega)).mpr ha, nI_lt hb (by decide)⟩) (by rw [xN_nI (by omega), xN_nI (by omega), xN_nI (by omega)]) (by rw [xN_nI (by omega), xN_nI (by omega), xN_nI (by omega)])
theorem L_withdraw_k {l : Launch} (hl : l.stackTraces = false) (Γ : fG) (B0 : Nat) (ad : Nat → Nat → Nat) {P R : fR} (M : fR) (hF : FI P) (hI : XI R) {f : Nat} (hf : f < 8) (hz : zB (R 10 f 0) = true) : f_MetW l yL_withdraw cL_withdraw 3 (some .int) [(0, 5, 6, 19), (0, 5, 10, 22)] 8 2 12 153 Γ B0 [.ref (ad 1 0), .int (nI f)] (wj (fw Γ ad (P)) (xw Γ ad (R)) (mw Γ ad M)) (f_is (nI (csb P (wdR P R f) 16)) (wj (fw Γ ad (P)) (xw Γ ad (wdR P R f)) (mw Γ ad M))) :=
  W_is2 (n_withdraw hl Γ B0 ad P R (mw Γ ad M) _ hF hI ⟨rg_N hf (by decide), by rw [xN_nI (by omega)]; exact hz⟩) (by rw [xN_nI (by omega)]) (by rw [xN_nI (by omega)])
theorem L_pass_k {l : Launch} (hl : l.stackTraces = false) (Γ : fG) (B0 : Nat) (ad : Nat → Nat → Nat) {P R : fR} (M : fR) (hF : FI P) (hI : XI R) (hd : R 2 0 0 ≤ 99000) {k : Nat} (h1 : 1 ≤ k) (hk : k < 101) : f_MetW l yL_pass cL_pass 3 (some .int) [(0, 5, 6, 19)] 7 1 6 153 Γ B0 [.ref (ad 1 0), .int (nI k)] (wj (fw Γ ad (P)) (xw Γ ad (R)) (mw Γ ad M)) (f_is (nI (csb P (psR P R k) 16)) (wj (fw Γ ad (P)) (xw Γ ad (psR P R k)) (mw Γ ad M))) :=
  W_is2 (n_pass hl Γ B0 ad P R (mw Γ ad M) _ hF hI hd ⟨(nI_leI (by omega) (by omega)).mpr h1, nI_lt hk (by decide)⟩) (by rw [xN_nI (by omega)]) (by rw [xN_nI (by omega)])
set_option maxHeartbeats 4000000 in
set_option maxRecDepth 100000 in
theorem s_rig251 {X9 : fX} {Γ : fG} {B0 : Nat} {ad : Nat → Nat → Nat} {P R1 M : fR} {n : Nat} (h1 : RZ (n + 1) P R1 M) (hn : n ≤ 150) {cd a : Nat} {R2 : fR} (hR : ∀ k, k ≠ 16 → R2 k = R1 k) (hG : ∀ q j, R2 16 q j = if (inO R1 q (R1 0 0 0) && lsq (fun f => tb cd f && !us R1 f) (R1 13 q 0) 8) = true ∧ j < 4 then 0 else R1 16 q j) (hcd : cd < 256) (ha : a < 64) (h7 : ∀ s, s < 16 → zB (R2 7 s 0) = (decide (s < shc P R1) && decide (s < 6) && tb a s)) (ha2 : ∀ s, s < 6 → tb a s = true → s < shc P R1) (x y : Int32) {H : Heap} {locs : List Loc} (C : f_C X9 Γ B0 RL cL_rights 13 9 24 144 179) (E : f_E X9 Γ B0 (some .boolean) 24 144 (f_rI (fun r9 w9 => r9 = bI true ∧ ACT Γ ad n w9)) f_no) (hh : f_HS Γ B0 (wj (fw Γ ad P) (xw Γ ad R2) (mw Γ ad M)) X9 H locs) : f_W X9 H locs 2 12 251 [some (.ref (ad 1 0)), some (.ref (ad 30 1)), some (.ref (ad 30 2)), some (.ref (ad 30 3)), some (.ref (ad 30 4)), some (.int x), some (.int y), some (.int (nI (a))), some (.int (nI (cd))), none, some (.int (nI (csb P R2 16))), none, none] [] := by
  have h2 := RZ_drop h1 cd hR hG
  have hF := rl_fi h2
  have hI := rl_xi h2
  have hL := rl_li h2
  have hb2 := (rl_b h2).1
  have hc16 := csb_le P R2 16
  have hL1 := rl_li h1
  obtain ⟨r1, r2⟩ := rl_rd h2
  have es : shc P R2 = shc P R1 := by
    have e : ∀ R, shc P R = (R 0 0 0 + pgs P - 1) / pgs P := fun _ => rfl
    rw [e, e, hR 0 (by decide)]
  have hcc : csb P R2 16 = cntS (a &&& (rdL (dpW M cd (M 4 0 0)) (dpW M cd (M 4 0 0) 4 0 0) ^^^ 4294967295)) 16 := by
    refine csb_cnt ha r1 (fun s hs => ?_) (fun s h6 hs => ?_) (fun s hs ht => ?_)
    · rw [h7 s (by omega), decide_eq_true hs, Bool.and_true]
      cases e : tb a s
      · rw [Bool.and_false]
      · rw [decide_eq_true (ha2 s hs e)]; rfl
    · rw [h7 s hs, decide_eq_false (show ¬ s < 6 by omega), Bool.and_false, Bool.false_and]
    · rw [r2 s hs, es, decide_eq_true (ha2 s hs ht), Bool.true_and]
  refine r_aload_n C dL_rights_251 rfl ?_
  refine r_aload_n C dL_rights_252 rfl ?_
  refine r_aload_n C dL_rights_253 rfl ?_
  refine r_aload C dL_rights_254 rfl ?_
  refine r_iload C dL_rights_256 rfl ?_
  refine r_callS C E hh (c_L_drops E.2.1 Γ B0 ad M (fw Γ ad P) (xw Γ ad R2) cd hcd hL1) lk_L_173 rfl rfl (Nat.le_of_ble_eq_true rfl) dL_rights_258 ⟨by decide, by decide⟩ ⟨by omega, by omega⟩ (fun _ _ z9 => False.elim z9) (kk_to (fun H locs hs9 hh => ?_))
  refine r_iload C dL_rights_261 rfl ?_
  refine r_iload C dL_rights_263 rfl ?_
  refine r_aload_n C dL_rights_265 rfl ?_
  refine r_aload_n C dL_rights_266 rfl ?_
  refine r_aload_n C dL_rights_267 rfl ?_
  refine r_aload C dL_rights_268 rfl ?_
  refine r_callS C E hh (c_L_ready E.2.1 Γ B0 ad (dpW M cd (M 4 0 0)) (fw Γ ad P) (xw Γ ad R2) hL) lk_L_108 rfl rfl (Nat.le_of_ble_eq_true rfl) dL_rights_270 ⟨by decide, by decide⟩ ⟨by omega, by omega⟩ (fun _ _ z9 => False.elim z9) (kk_is (fun H locs hs9 hh => ?_))
  refine r_iconst C (nI 4294967295) dL_rights_273 rfl ?_
  refine r_ixorN C dL_rights_274 ?_
  refine r_iandN C dL_rights_275 ?_
  refine r_callS C E hh (c_L_count E.2.1 Γ B0 _ _ ((andn_ok a ha _ r1).1)) lk_L_177 rfl rfl (Nat.le_of_ble_eq_true rfl) dL_rights_276 ⟨by decide, by decide⟩ ⟨by omega, by omega⟩ (fun _ _ z9 => False.elim z9) (kk_is (fun H locs hs9 hh => ?_))
  refine r_icmp_neN (tgt := 358) C dL_rights_279 (by decide) (by omega) (by rw [← hcc]; omega) (fun h279 => ?_) (fun h279 => ?_)
  · exact absurd (hcc) h279
  · refine r_aload_n C dL_rights_282 rfl ?_
    refine r_bipush C (nI 8) dL_rights_283 rfl ?_
    refine r_iconst C (nI 0) dL_rights_285 rfl ?_
    refine r_iconst C (nI 0) dL_rights_286 rfl ?_
    refine r_callSW C hh (x_setRight1 E.2.1 Γ B0 ad P R2 _ _ _ _ hF hI (fun z => not_rg (by decide) (by decide) z.1)) lw_L_167 rfl rfl (Nat.le_of_ble_eq_true rfl) dL_rights_287 ⟨by decide, by decide⟩ ⟨by omega, by omega⟩ (kk_is (fun H locs hs9 hh => ?_))
    refine r_ldc C ct_L_21 dL_rights_290 ?_
    refine r_icmp_ne (tgt := 358) C dL_rights_292 (by decide) (fun h292 => ?_) (fun h292 => ?_)
    · exact absurd (rfl) h292
    · refine r_aload_n C dL_rights_295 rfl ?_
      refine r_iconst C (nI 0) dL_rights_296 rfl ?_
      refine r_iconst C (nI 5) dL_rights_297 rfl ?_
      refine r_iconst C (nI 4) dL_rights_298 rfl ?_
      refine r_callSW C hh (x_setRight1 E.2.1 Γ B0 ad P R2 _ _ _ _ hF hI (fun z => absurd z.2.2.1 (by decide))) lw_L_167 rfl rfl (Nat.le_of_ble_eq_true rfl) dL_rights_299 ⟨by decide, by decide⟩ ⟨by omega, by omega⟩ (kk_is (fun H locs hs9 hh => ?_))
      refine r_ldc C ct_L_21 dL_rights_302 ?_
      refine r_icmp_ne (tgt := 358) C dL_rights_304 (by decide) (fun h304 => ?_) (fun h304 => ?_)
      · exact absurd (rfl) h304
      · refine r_aload_n C dL_rights_307 rfl ?_
        refine r_iconst C (nI 0) dL_rights_308 rfl ?_
        refine r_iconst C (nI 0) dL_rights_309 rfl ?_
        refine r_sipush C (nI 10000) dL_rights_310 rfl ?_
        refine r_callSW C hh (x_setRight1 E.2.1 Γ B0 ad P R2 _ _ _ _ hF hI (fun z => absurd z.2.2.2 (by decide))) lw_L_167 rfl rfl (Nat.le_of_ble_eq_true rfl) dL_rights_313 ⟨by decide, by decide⟩ ⟨by omega, by omega⟩ (kk_is (fun H locs hs9 hh => ?_))
        refine r_ldc C ct_L_21 dL_rights_316 ?_
        refine r_icmp_ne (tgt := 358) C dL_rights_318 (by decide) (fun h318 => ?_) (fun h318 => ?_)
        · exact absurd (rfl) h318
        · refine r_aload_n C dL_rights_321 rfl ?_
          refine r_iconst C (nI 0) dL_rights_322 rfl ?_
          refine r_iconst C (-1) dL_rights_323 rfl ?_
          refine r_iconst C (nI 4) dL_rights_324 rfl ?_
          refine r_callSW C hh (x_setRight1 E.2.1 Γ B0 ad P R2 _ _ _ _ hF hI (fun z => not_rg_m z.2.1)) lw_L_167 rfl rfl (Nat.le_of_ble_eq_true rfl) dL_rights_325 ⟨by decide, by decide⟩ ⟨by omega, by omega⟩ (kk_is (fun H locs hs9 hh => ?_))
          refine r_ldc C ct_L_21 dL_rights_328 ?_
          refine r_icmp_ne (tgt := 358) C dL_rights_330 (by decide) (fun h330 => ?_) (fun h330 => ?_)
          · exact absurd (rfl) h330
          · refine r_aload_n C dL_rights_333 rfl ?_
            refine r_iconst C (nI 0) dL_rights_334 rfl ?_
            refine r_callSW C hh (x_pass1 E.2.1 Γ B0 ad P R2 _ _ hF hI (by omega) (fun z => absurd z.1 (by decide))) lw_L_171 rfl rfl (Nat.le_of_ble_eq_true rfl) dL_rights_335 ⟨by decide, by decide⟩ ⟨by omega, by omega⟩ (kk_is (fun H locs hs9 hh => ?_))
            refine r_ldc C ct_L_21 dL_rights_338 ?_
            refine r_icmp_ne (tgt := 358) C dL_rights_340 (by decide) (fun h340 => ?_) (fun h340 => ?_)
            · exact absurd (rfl) h340
            · refine r_aload_n C dL_rights_343 rfl ?_
              refine r_bipush C (nI 101) dL_rights_344 rfl ?_
              refine r_callSW C hh (x_pass1 E.2.1 Γ B0 ad P R2 _ _ hF hI (by omega) (fun z => absurd z.2 (by decide))) lw_L_171 rfl rfl (Nat.le_of_ble_eq_true rfl) dL_rights_346 ⟨by decide, by decide⟩ ⟨by omega, by omega⟩ (kk_is (fun H locs hs9 hh => ?_))
              refine r_ldc C ct_L_21 dL_rights_349 ?_
              refine r_icmp_ne (tgt := 358) C dL_rights_351 (by decide) (fun h351 => ?_) (fun h351 => ?_)
              · exact absurd (rfl) h351
              · refine r_iconst C (bI true) dL_rights_354 rfl ?_
                refine r_goto (tgt := 359) C dL_rights_355 (by decide) ?_
                exact r_zret C E hh dL_rights_359 (by omega) (by omega) ⟨_, rfl, rfl, ad, P, R2, dpW M cd (M 4 0 0), h2, rfl, (fun _ => rfl), rfl⟩

set_option maxHeartbeats 4000000 in
set_option maxRecDepth 100000 in
theorem s_rig90 {X9 : fX} {Γ : fG} {B0 : Nat} {ad : Nat → Nat → Nat} {P R M : fR} {n : Nat} (h : RZ n P R M) (hn : n ≤ 150) (x y : Int32) {f : Nat} (hf : f < 8) {fr to : Nat} (hfr : fr ≤ to) (hto : to < 10000) {H : Heap} {locs : List Loc} (C : f_C X9 Γ B0 RL cL_rights 13 9 24 144 179) (E : f_E X9 Γ B0 (some .boolean) 24 144 (f_rI (fun r9 w9 => r9 = bI true ∧ ACT Γ ad n w9)) f_no) (hh : f_HS Γ B0 (wj (fw Γ ad P) (xw Γ ad R) (mw Γ ad M)) X9 H locs) : f_W X9 H locs 0 0 90 [some (.ref (ad 1 0)), some (.ref (ad 30 1)), some (.ref (ad 30 2)), some (.ref (ad 30 3)), some (.ref (ad 30 4)), some (.int x), some (.int y), some (.int (nI (rdL M (M 4 0 0)))), some (.int (nI (cdL M 8))), some (.int (nI (f))), some (.int (nI (0))), some (.int (nI (fr))), some (.int (nI (to)))] [] := by
  have hF := rl_fi h
  have hI := rl_xi h
  have hL := rl_li h
  have h64 := rl_64 h
  have h24 := rl_24 h
  have e0 := rl_0 h
  have hsh := FI_sh (R := R) hF h64
  have esh := rl_sh h
  have hs6 := shL_6 hL
  have e41 := h.2.1.1
  obtain ⟨l1, l2, l3, l40, l41, l42, ⟨l43, l43h⟩, l44, l45⟩ := id hL
  have e42 : M 4 2 0 ≤ 600 := by have := (rl_b h).1; have := (rl_g h).1; omega
  have hrd := rl_rd h
  have hcd8 := cdL_lt M 8 (by decide)
  have hus : ∀ g, g < 8 → tb (cdL M 8) g = us R g := fun g hg => by rw [cdL_tb, decide_eq_true hg, Bool.true_and, us_may (rl_g h) hg]
  have h77 : ∀ s, s < 16 → zB (nr P R 7 s 0) = (decide (s < shc P R) && decide (s < 6) && tb (rdL M (M 4 0 0)) s) := fun s hs => by
    rw [nr_7 P R hs]
    by_cases z : s < shc P R
    · rw [decide_eq_true z, decide_eq_true (show s < 6 by omega), hrd.2 s (by omega), decide_eq_true z]; rfl
    · rw [decide_eq_false z]; rfl
  have ha2 : ∀ s, s < 6 → tb (rdL M (M 4 0 0)) s = true → s < shc P R := fun s hs ht => by
    rw [hrd.2 s hs, Bool.and_eq_true] at ht
    exact of_decide_eq_true ht.1
  refine r_aload_n C dL_rights_90 rfl ?_
  refine r_iload C dL_rights_91 rfl ?_
  refine r_iconst C (nI 1) dL_rights_93 rfl ?_
  refine r_iload C dL_rights_94 rfl ?_
  refine r_iaddN C dL_rights_96 ?_
  refine as_m_r C hh (by omega) dL_rights_97 (fun H locs hh => ?_)
  refine r_aload_n C dL_rights_98 rfl ?_
  refine r_bipush C (nI 8) dL_rights_99 rfl ?_
  refine r_iload C dL_rights_101 rfl ?_
  refine r_iaddN C dL_rights_103 ?_
  refine r_iload C dL_rights_104 rfl ?_
  refine as_m_r C hh (by omega) dL_rights_106 (fun H locs hh => ?_)
  replace hh : f_HS Γ B0 (wj (fw Γ ad P) (xw Γ ad (R)) (mw Γ ad (rs M 3 (u1 (u1 (M 3) f (1 + fr)) (8 + f) to)))) X9 H locs := hs_mw hh (fun _ => rfl) (fun _ => rfl) (fun _ => rfl) (fun _ => rfl) (fun _ => rfl) rfl
  have h1 : RZ (n + 1) P (giv (nr P R) f fr to) (rs M 3 (u1 (u1 (M 3) f (1 + fr)) (8 + f) to)) := RL_up (Nat.le_succ n) (RZ_right h (a' := 1 + fr) (b' := to) hf (fun k h7 h10 h11 h12 => by unfold giv nr; rw [rs_ne _ _ h12, rs_ne _ _ h11, rs_ne _ _ h10, rs_ne _ _ h7]) (XI_giv (XI_7 hI) (by omega) (by omega)) (fun g hg => ⟨if_neg hg, if_neg hg, if_neg hg⟩) (fun k hk => rs_ne _ _ hk) (fun g h1 h2 => by show u1 (u1 (M 3) f (1 + fr)) (8 + f) to g 0 = _; unfold u1; rw [if_neg h2, if_neg h1]) (by show u1 (u1 (M 3) f (1 + fr)) (8 + f) to f 0 = _; unfold u1; rw [if_neg (by omega), if_pos rfl]) (if_pos rfl) (by omega) (by omega) (by
    have z10 : zB (giv (nr P R) f fr to 10 f 0) = true := by
      show zB (u1 (R 10) f 1 f 0) = true
      unfold u1; rw [if_pos rfl]; rfl
    have z11 : giv (nr P R) f fr to 11 f 0 = fr := if_pos rfl
    have z12 : giv (nr P R) f fr to 12 f 0 = to := if_pos rfl
    rw [if_pos z10, z11, z12]; omega))
  refine r_aload_n C dL_rights_107 rfl ?_
  refine r_iload C dL_rights_108 rfl ?_
  refine r_iload C dL_rights_110 rfl ?_
  refine r_iload C dL_rights_112 rfl ?_
  refine r_callSW C hh (L_setRight_k E.2.1 Γ B0 ad _ hF hI hf hfr hto) lw_L_167 rfl rfl (Nat.le_of_ble_eq_true rfl) dL_rights_114 ⟨by decide, by decide⟩ ⟨by omega, by omega⟩ (kk_is (fun H locs hs9 hh => ?_))
  refine r_istore C dL_rights_117 rfl rfl ?_
  refine r_goto (tgt := 251) C dL_rights_119 (by decide) ?_
  refine f_W.le ?_ (s_rig251 h1 hn (cd := cdL M 8) (a := rdL M (M 4 0 0)) (R2 := srR P R f fr to) (fun k hk => dlf_ne _ _ _ hk) (fun q j => dlf_G hf hus (fun g hg hne => ?_) q j) hcd8 hrd.1 ?_ ha2 x y C E hh)
  · exact (And.intro rfl (And.intro rfl (And.intro rfl (And.intro rfl (And.intro rfl (And.intro rfl (And.intro rfl (And.intro rfl (And.intro rfl (And.intro rfl trivial))))))))))
  · show fal (giv (nr P R) f fr to) g (R 2 0 0) = fal R g (R 2 0 0)
    unfold fal
    rw [show giv (nr P R) f fr to 10 g 0 = R 10 g 0 from if_neg hne, show giv (nr P R) f fr to 11 g 0 = R 11 g 0 from if_neg hne, show giv (nr P R) f fr to 12 g 0 = R 12 g 0 from if_neg hne]
  · intro s hs
    rw [show srR P R f fr to 7 = nr P R 7 from dlf_ne _ _ _ (by decide)]
    exact h77 s hs

set_option maxHeartbeats 4000000 in
set_option maxRecDepth 100000 in
theorem s_rig132 {X9 : fX} {Γ : fG} {B0 : Nat} {ad : Nat → Nat → Nat} {P R M : fR} {n : Nat} (h : RZ n P R M) (hn : n ≤ 150) (x y : Int32) {f : Nat} (hf : f < 8) {H : Heap} {locs : List Loc} (C : f_C X9 Γ B0 RL cL_rights 13 9 24 144 179) (E : f_E X9 Γ B0 (some .boolean) 24 144 (f_rI (fun r9 w9 => r9 = bI true ∧ ACT Γ ad n w9)) f_no) (hh : f_HS Γ B0 (wj (fw Γ ad P) (xw Γ ad R) (mw Γ ad M)) X9 H locs) : f_W X9 H locs 0 0 132 [some (.ref (ad 1 0)), some (.ref (ad 30 1)), some (.ref (ad 30 2)), some (.ref (ad 30 3)), some (.ref (ad 30 4)), some (.int x), some (.int y), some (.int (nI (rdL M (M 4 0 0)))), some (.int (nI (cdL M 8))), some (.int (nI (f))), some (.int (nI (0))), none, none] [] := by
  have hF := rl_fi h
  have hI := rl_xi h
  have hL := rl_li h
  have h64 := rl_64 h
  have h24 := rl_24 h
  have e0 := rl_0 h
  have hsh := FI_sh (R := R) hF h64
  have esh := rl_sh h
  have hs6 := shL_6 hL
  have e41 := h.2.1.1
  obtain ⟨l1, l2, l3, l40, l41, l42, ⟨l43, l43h⟩, l44, l45⟩ := id hL
  have e42 : M 4 2 0 ≤ 600 := by have := (rl_b h).1; have := (rl_g h).1; omega
  have hrd := rl_rd h
  have hcd8 := cdL_lt M 8 (by decide)
  have hus : ∀ g, g < 8 → tb (cdL M 8) g = us R g := fun g hg => by rw [cdL_tb, decide_eq_true hg, Bool.true_and, us_may (rl_g h) hg]
  have h77 : ∀ s, s < 16 → zB (nr P R 7 s 0) = (decide (s < shc P R) && decide (s < 6) && tb (rdL M (M 4 0 0)) s) := fun s hs => by
    rw [nr_7 P R hs]
    by_cases z : s < shc P R
    · rw [decide_eq_true z, decide_eq_true (show s < 6 by omega), hrd.2 s (by omega), decide_eq_true z]; rfl
    · rw [decide_eq_false z]; rfl
  have ha2 : ∀ s, s < 6 → tb (rdL M (M 4 0 0)) s = true → s < shc P R := fun s hs ht => by
    rw [hrd.2 s hs, Bool.and_eq_true] at ht
    exact of_decide_eq_true ht.1
  have g1 := l3 f
  have hgf := (rl_g h).2 f hf
  refine r_aload_n C dL_rights_132 rfl ?_
  refine r_iload C dL_rights_133 rfl ?_
  refine al_m_r C hh (by omega) dL_rights_135 ?_
  refine r_if_neN (tgt := 167) C dL_rights_136 (by decide) (by omega) (fun h136 => ?_) (fun h136 => ?_)
  · have hz : zB (R 10 f 0) = true := by
      by_cases z : zB (R 10 f 0) = true
      · exact z
      · rw [if_neg z] at hgf; exact absurd hgf h136
    refine r_aload_n C dL_rights_167 rfl ?_
    refine r_iload C dL_rights_168 rfl ?_
    refine r_iconst C (nI 0) dL_rights_170 rfl ?_
    refine as_m_r C hh (by omega) dL_rights_171 (fun H locs hh => ?_)
    replace hh : f_HS Γ B0 (wj (fw Γ ad P) (xw Γ ad (R)) (mw Γ ad (rs M 3 (u1 (M 3) f 0)))) X9 H locs := hs_mw hh (fun _ => rfl) (fun _ => rfl) (fun _ => rfl) (fun _ => rfl) (fun _ => rfl) rfl
    have h1 : RZ (n + 1) P (rs (nr P R) 10 (u1 (R 10) f 0)) (rs M 3 (u1 (M 3) f 0)) := RL_up (Nat.le_succ n) (RZ_right h (a' := 0) (b' := M 3 (8 + f) 0) hf (fun k h7 h10 h11 h12 => by unfold nr; rw [rs_ne _ _ h10, rs_ne _ _ h7]) (XI_10 (XI_7 hI)) (fun g hg => ⟨if_neg hg, rfl, rfl⟩) (fun k hk => rs_ne _ _ hk) (fun g h1 h2 => if_neg h1) (if_pos rfl) (if_neg (by omega)) (by omega) (l3 _) (by
      have z10 : ¬ zB (rs (nr P R) 10 (u1 (R 10) f 0) 10 f 0) = true := by
        show ¬ zB (u1 (R 10) f 0 f 0) = true
        unfold u1; rw [if_pos rfl]; decide
      rw [if_neg z10]))
    refine r_aload_n C dL_rights_172 rfl ?_
    refine r_iload C dL_rights_173 rfl ?_
    refine r_callSW C hh (L_withdraw_k E.2.1 Γ B0 ad _ hF hI hf hz) lw_L_169 rfl rfl (Nat.le_of_ble_eq_true rfl) dL_rights_175 ⟨by decide, by decide⟩ ⟨by omega, by omega⟩ (kk_is (fun H locs hs9 hh => ?_))
    refine r_istore C dL_rights_178 rfl rfl ?_
    refine r_goto (tgt := 251) C dL_rights_180 (by decide) ?_
    refine f_W.le ?_ (s_rig251 h1 hn (cd := cdL M 8) (a := rdL M (M 4 0 0)) (R2 := wdR P R f) (fun k hk => dlf_ne _ _ _ hk) (fun q j => dlf_G hf hus (fun g hg hne => ?_) q j) hcd8 hrd.1 ?_ ha2 x y C E hh)
    · exact (And.intro rfl (And.intro rfl (And.intro rfl (And.intro rfl (And.intro rfl (And.intro rfl (And.intro rfl (And.intro rfl (And.intro rfl (And.intro rfl trivial))))))))))
    · show fal (rs (nr P R) 10 (u1 (R 10) f 0)) g (R 2 0 0) = fal R g (R 2 0 0)
      unfold fal
      rw [show rs (nr P R) 10 (u1 (R 10) f 0) 10 g 0 = R 10 g 0 from if_neg hne]; rfl
    · intro s hs
      rw [show wdR P R f 7 = nr P R 7 from dlf_ne _ _ _ (by decide)]
      exact h77 s hs
  · have hz : zB (R 10 f 0) = false := by
      by_cases z : zB (R 10 f 0) = true
      · rw [if_pos z] at hgf; omega
      · exact Bool.eq_false_iff.mpr z
    refine r_aload_n C dL_rights_139 rfl ?_
    refine r_iload C dL_rights_140 rfl ?_
    refine r_callSW C hh (x_withdraw2 E.2.1 Γ B0 ad P R _ _ hF hI ⟨rg_N hf (by decide), by rw [xN_nI (by omega)]; exact hz⟩) lw_L_169 rfl rfl (Nat.le_of_ble_eq_true rfl) dL_rights_142 ⟨by decide, by decide⟩ ⟨by omega, by omega⟩ (kk_is (fun H locs hs9 hh => ?_))
    refine r_ldc C ct_L_24 dL_rights_145 ?_
    refine r_icmp_ne (tgt := 165) C dL_rights_147 (by decide) (fun h147 => ?_) (fun h147 => ?_)
    · exact absurd (rfl) h147
    · refine r_aload_n C dL_rights_150 rfl ?_
      refine r_bipush C (nI 8) dL_rights_151 rfl ?_
      refine r_callSW C hh (x_withdraw1 E.2.1 Γ B0 ad P R _ _ hF hI (not_rg (by decide) (by decide))) lw_L_169 rfl rfl (Nat.le_of_ble_eq_true rfl) dL_rights_153 ⟨by decide, by decide⟩ ⟨by omega, by omega⟩ (kk_is (fun H locs hs9 hh => ?_))
      refine r_ldc C ct_L_21 dL_rights_156 ?_
      refine r_icmp_ne (tgt := 165) C dL_rights_158 (by decide) (fun h158 => ?_) (fun h158 => ?_)
      · exact absurd (rfl) h158
      · refine r_iconst C (bI true) dL_rights_161 rfl ?_
        refine r_goto (tgt := 166) C dL_rights_162 (by decide) ?_
        exact r_zret C E hh dL_rights_166 (by omega) (by omega) ⟨_, rfl, rfl, ad, P, R, M, RL_up (Nat.le_succ n) h, rfl, (fun _ => rfl), rfl⟩

set_option maxHeartbeats 4000000 in
set_option maxRecDepth 100000 in
theorem s_rig183 {X9 : fX} {Γ : fG} {B0 : Nat} {ad : Nat → Nat → Nat} {P R M : fR} {n : Nat} (h : RZ n P R M) (hn : n ≤ 150) (x y : Int32) {f : Nat} (hf : f < 8) {H : Heap} {locs : List Loc} (C : f_C X9 Γ B0 RL cL_rights 13 9 24 144 179) (E : f_E X9 Γ B0 (some .boolean) 24 144 (f_rI (fun r9 w9 => r9 = bI true ∧ ACT Γ ad n w9)) f_no) (hh : f_HS Γ B0 (wj (fw Γ ad P) (xw Γ ad R) (mw Γ ad M)) X9 H locs) : f_W X9 H locs 0 0 183 [some (.ref (ad 1 0)), some (.ref (ad 30 1)), some (.ref (ad 30 2)), some (.ref (ad 30 3)), some (.ref (ad 30 4)), some (.int x), some (.int y), some (.int (nI (rdL M (M 4 0 0)))), some (.int (nI (cdL M 8))), some (.int (nI (f))), some (.int (nI (0))), none, none] [] := by
  have hF := rl_fi h
  have hI := rl_xi h
  have hL := rl_li h
  have h64 := rl_64 h
  have h24 := rl_24 h
  have e0 := rl_0 h
  have hsh := FI_sh (R := R) hF h64
  have esh := rl_sh h
  have hs6 := shL_6 hL
  have e41 := h.2.1.1
  obtain ⟨l1, l2, l3, l40, l41, l42, ⟨l43, l43h⟩, l44, l45⟩ := id hL
  have e42 : M 4 2 0 ≤ 600 := by have := (rl_b h).1; have := (rl_g h).1; omega
  have hrd := rl_rd h
  have hcd8 := cdL_lt M 8 (by decide)
  have hus : ∀ g, g < 8 → tb (cdL M 8) g = us R g := fun g hg => by rw [cdL_tb, decide_eq_true hg, Bool.true_and, us_may (rl_g h) hg]
  have h77 : ∀ s, s < 16 → zB (nr P R 7 s 0) = (decide (s < shc P R) && decide (s < 6) && tb (rdL M (M 4 0 0)) s) := fun s hs => by
    rw [nr_7 P R hs]
    by_cases z : s < shc P R
    · rw [decide_eq_true z, decide_eq_true (show s < 6 by omega), hrd.2 s (by omega), decide_eq_true z]; rfl
    · rw [decide_eq_false z]; rfl
  have ha2 : ∀ s, s < 6 → tb (rdL M (M 4 0 0)) s = true → s < shc P R := fun s hs ht => by
    rw [hrd.2 s hs, Bool.and_eq_true] at ht
    exact of_decide_eq_true ht.1
  have hbd := (rl_b h).1
  refine r_iconst C (nI 1) dL_rights_183 rfl ?_
  refine r_iload C dL_rights_184 rfl ?_
  refine r_iconst C (nI 4) dL_rights_186 rfl ?_
  refine r_callS C E hh (c_low E.2.1 Γ B0 _ _ 4 (by omega) (by omega)) lk_L_149 rfl rfl (Nat.le_of_ble_eq_true rfl) dL_rights_187 ⟨by decide, by decide⟩ ⟨by omega, by omega⟩ (fun _ _ z9 => False.elim z9) (kk_rI (fun r9 w9 H locs hs9 hp9 hh => ?_))
  obtain ⟨⟨d0, hd0, rfl⟩, rfl⟩ := hp9
  refine r_iaddN C dL_rights_190 ?_
  generalize hdd : 1 + d0 = d
  have hd1 : 1 ≤ d ∧ d ≤ 4 := by omega
  refine r_istore C dL_rights_191 rfl rfl ?_
  refine r_aload_n C dL_rights_193 rfl ?_
  refine r_iload C dL_rights_194 rfl ?_
  refine r_callSW C hh (L_pass_k E.2.1 Γ B0 ad _ hF hI (by omega) hd1.1 (by omega)) lw_L_171 rfl rfl (Nat.le_of_ble_eq_true rfl) dL_rights_196 ⟨by decide, by decide⟩ ⟨by omega, by omega⟩ (kk_is (fun H locs hs9 hh => ?_))
  refine r_istore C dL_rights_199 rfl rfl ?_
  refine r_iconst C (nI 0) dL_rights_201 rfl ?_
  refine r_istore C dL_rights_202 rfl rfl ?_
  have lp204 : ∀ (d9 : Nat) (k : Nat) (Mk : fR) (H : Heap) (locs : List Loc), d - k < d9 → k ≤ d → RZ (n + 1) P (psR P R k) Mk → f_HS Γ B0 (wj (fw Γ ad P) (xw Γ ad (psR P R d)) (mw Γ ad Mk)) X9 H locs → f_W X9 H locs 1 6 204 [some (.ref (ad 1 0)), some (.ref (ad 30 1)), some (.ref (ad 30 2)), some (.ref (ad 30 3)), some (.ref (ad 30 4)), some (.int x), some (.int y), some (.int (nI (rdL M (M 4 0 0)))), none, some (.int (nI (f))), some (.int (nI (csb P (psR P R d) 16))), some (.int (nI (d))), some (.int (nI (k)))] [] := by
    intro d9
    induction d9 with
    | zero => intro k Mk H locs hd9 hk9 hk hh; exact absurd hd9 (Nat.not_lt_zero _)
    | succ d9 ih204 =>
      intro k Mk H locs hd9 hk9 hk hh
      have hLk := rl_li hk
      have hLk42 := hLk.2.2.2.2.2.1
      have hck := cdL_lt Mk 8 (by decide)
      refine r_iload C dL_rights_204 rfl ?_
      refine r_iload C dL_rights_206 rfl ?_
      refine r_icmp_geN (tgt := 243) C dL_rights_208 (by decide) (by omega) (by omega) (fun h208 => ?_) (fun h208 => ?_)
      · obtain rfl : k = d := by omega
        refine r_aload_n C dL_rights_243 rfl ?_
        refine r_aload C dL_rights_244 rfl ?_
        refine r_callS C E hh (c_L_could E.2.1 Γ B0 ad Mk (fw Γ ad P) (xw Γ ad (psR P R k)) hLk) lk_L_163 rfl rfl (Nat.le_of_ble_eq_true rfl) dL_rights_246 ⟨by decide, by decide⟩ ⟨by omega, by omega⟩ (fun _ _ z9 => False.elim z9) (kk_is (fun H locs hs9 hh => ?_))
        refine r_istore C dL_rights_249 rfl rfl ?_
        refine f_widen (show _ ≤ 2 by omega) (show _ ≤ 12 by omega) (f_W.le ?_ (s_rig251 hk hn (cd := cdL Mk 8) (a := rdL M (M 4 0 0)) (R2 := psR P R k) (fun _ _ => rfl) (fun q j => ?_) hck hrd.1 ?_ ?_ x y C E hh))
        · exact (And.intro rfl (And.intro rfl (And.intro rfl (And.intro rfl (And.intro rfl (And.intro rfl (And.intro rfl (And.intro rfl (And.intro rfl (And.intro rfl trivial))))))))))
        · have hl0 : lsq (fun f => tb (cdL Mk 8) f && !us (psR P R k) f) (psR P R k 13 q 0) 8 = false := by
            rw [lsq_c (L' := fun _ => false) _ 8 (fun g hg => by show (tb (cdL Mk 8) g && !us (psR P R k) g) = false; rw [cdL_tb, decide_eq_true hg, Bool.true_and, us_may (rl_g hk) hg]; cases us (psR P R k) g <;> rfl)]
            exact lsq_f _ 8
          rw [hl0, Bool.and_false, if_neg (fun u => absurd u.1 (by decide))]
        · intro s hs
          rw [psR_7 P R k, psR_sh]
          exact h77 s hs
        · intro s hs ht
          rw [psR_sh]
          exact ha2 s hs ht
      · refine r_aload_n C dL_rights_211 rfl ?_
        refine r_aload C dL_rights_212 rfl ?_
        refine r_callS C E hh (c_L_could E.2.1 Γ B0 ad Mk (fw Γ ad P) (xw Γ ad (psR P R d)) hLk) lk_L_163 rfl rfl (Nat.le_of_ble_eq_true rfl) dL_rights_214 ⟨by decide, by decide⟩ ⟨by omega, by omega⟩ (fun _ _ z9 => False.elim z9) (kk_is (fun H locs hs9 hh => ?_))
        refine r_istore C dL_rights_217 rfl rfl ?_
        refine r_aload C dL_rights_219 rfl ?_
        refine r_iconst C (nI 2) dL_rights_221 rfl ?_
        refine r_dup2 C dL_rights_222 rfl rfl ?_
        refine al_m_g C hh (by omega) dL_rights_223 ?_
        refine r_iconst C (nI 1) dL_rights_224 rfl ?_
        refine r_iaddN C dL_rights_225 ?_
        refine as_m_g C hh (by omega) dL_rights_226 (fun H locs hh => ?_)
        refine r_aload_n C dL_rights_227 rfl ?_
        refine r_aload_n C dL_rights_228 rfl ?_
        refine r_aload_n C dL_rights_229 rfl ?_
        refine r_aload C dL_rights_230 rfl ?_
        refine r_iload C dL_rights_232 rfl ?_
        refine r_callS C E hh (c_L_drops E.2.1 Γ B0 ad (rs Mk 4 (u1 (Mk 4) 2 (Mk 4 2 0 + 1))) (fw Γ ad P) (xw Γ ad (psR P R d)) (cdL Mk 8) hck (by
          obtain ⟨q1, q2, q3, q40, q41, q42, q43⟩ := hLk
          refine ⟨q1, q2, q3, q40, q41, ?_, q43⟩
          show Mk 4 2 0 + 1 ≤ 9000
          have e9 : psR P R k 2 0 0 = R 2 0 0 + k := snds_2 (nr P R) k
          have := (rl_g hk).1
          omega)) lk_L_173 rfl rfl (Nat.le_of_ble_eq_true rfl) dL_rights_234 ⟨by decide, by decide⟩ ⟨by omega, by omega⟩ (fun _ _ z9 => False.elim z9) (kk_to (fun H locs hs9 hh => ?_))
        refine r_iincN C dL_rights_237 rfl rfl ?_
        refine r_goto (tgt := 204) C dL_rights_240 (by decide) ?_
        refine f_W.le ?_ (ih204 (k + 1) (dpW (rs Mk 4 (u1 (Mk 4) 2 (Mk 4 2 0 + 1))) (cdL Mk 8) (Mk 4 0 0)) _ _ (by omega) (by omega) (RZ_snd hk (by have e9 : snds (nr P R) k 2 0 0 = R 2 0 0 + k := snds_2 (nr P R) k; show snds (nr P R) k 2 0 0 + 1 ≤ _; omega) (by omega)) hh)
        exact (And.intro rfl (And.intro rfl (And.intro rfl (And.intro rfl (And.intro rfl (And.intro rfl (And.intro rfl (And.intro rfl (And.intro rfl (And.intro rfl (And.intro rfl (And.intro rfl trivial))))))))))))
  refine f_W.le ?_ (lp204 (d + 1) 0 M _ _ (by omega) (by omega) (RL_up (Nat.le_succ n) h) hh)
  exact (And.intro rfl (And.intro rfl (And.intro rfl (And.intro rfl (And.intro rfl (And.intro rfl (And.intro rfl (And.intro rfl (And.intro rfl (And.intro rfl (And.intro rfl (And.intro rfl trivial))))))))))))

set_option maxHeartbeats 4000000 in
set_option maxRecDepth 100000 in
theorem c_L_rights {l : Launch} (hl : l.stackTraces = false) (Γ : fG) (B0 : Nat) (ad : Nat → Nat → Nat) (P R M : fR) (n : Nat) (h : RZ n P R M) (hn : n ≤ 150) (x y : Int32) : f_Met l yL_rights cL_rights 13 (some .boolean) 9 24 144 179 Γ B0 [.ref (ad 1 0), .ref (ad 30 1), .ref (ad 30 2), .ref (ad 30 3), .ref (ad 30 4), .int x, .int y] (wj (fw Γ ad P) (xw Γ ad R) (mw Γ ad M)) (f_rI (fun r9 w9 => r9 = bI true ∧ ACT Γ ad n w9)) f_no := by
  refine f_of hl (by decide) rfl (Nat.le_of_ble_eq_true rfl) (fun X9 C E hh hnm => ?_)
  generalize (f_s X9).heap = H, ([] : List Loc) = locs at hh ⊢
  have hF := rl_fi h
  have hI := rl_xi h
  have hL := rl_li h
  have h64 := rl_64 h
  have h24 := rl_24 h
  have e0 := rl_0 h
  have hsh := FI_sh (R := R) hF h64
  have esh := rl_sh h
  have hs6 := shL_6 hL
  have e41 := h.2.1.1
  obtain ⟨l1, l2, l3, l40, l41, l42, ⟨l43, l43h⟩, l44, l45⟩ := id hL
  have e42 : M 4 2 0 ≤ 600 := by have := (rl_b h).1; have := (rl_g h).1; omega
  have hrd := rl_rd h
  have hcd8 := cdL_lt M 8 (by decide)
  have hus : ∀ g, g < 8 → tb (cdL M 8) g = us R g := fun g hg => by rw [cdL_tb, decide_eq_true hg, Bool.true_and, us_may (rl_g h) hg]
  have h77 : ∀ s, s < 16 → zB (nr P R 7 s 0) = (decide (s < shc P R) && decide (s < 6) && tb (rdL M (M 4 0 0)) s) := fun s hs => by
    rw [nr_7 P R hs]
    by_cases z : s < shc P R
    · rw [decide_eq_true z, decide_eq_true (show s < 6 by omega), hrd.2 s (by omega), decide_eq_true z]; rfl
    · rw [decide_eq_false z]; rfl
  have ha2 : ∀ s, s < 6 → tb (rdL M (M 4 0 0)) s = true → s < shc P R := fun s hs ht => by
    rw [hrd.2 s hs, Bool.and_eq_true] at ht
    exact of_decide_eq_true ht.1
  refine r_aload_n C dL_rights_0 rfl ?_
  refine r_aload_n C dL_rights_1 rfl ?_
  refine r_aload_n C dL_rights_2 rfl ?_
  refine r_aload C dL_rights_3 rfl ?_
  refine r_callS C E hh (c_L_ready E.2.1 Γ B0 ad M (fw Γ ad P) (xw Γ ad R) hL) lk_L_108 rfl rfl (Nat.le_of_ble_eq_true rfl) dL_rights_5 ⟨by decide, by decide⟩ ⟨by omega, by omega⟩ (fun _ _ z9 => False.elim z9) (kk_is (fun H locs hs9 hh => ?_))
  refine r_istore C dL_rights_8 rfl rfl ?_
  refine r_aload_n C dL_rights_10 rfl ?_
  refine r_aload C dL_rights_11 rfl ?_
  refine r_callS C E hh (c_L_could E.2.1 Γ B0 ad M (fw Γ ad P) (xw Γ ad R) hL) lk_L_163 rfl rfl (Nat.le_of_ble_eq_true rfl) dL_rights_13 ⟨by decide, by decide⟩ ⟨by omega, by omega⟩ (fun _ _ z9 => False.elim z9) (kk_is (fun H locs hs9 hh => ?_))
  refine r_istore C dL_rights_16 rfl rfl ?_
  refine r_iload C dL_rights_18 rfl ?_
  refine r_bipush C (nI 8) dL_rights_20 rfl ?_
  refine r_callS C E hh (c_low E.2.1 Γ B0 _ _ 8 (by omega) (by omega)) lk_L_149 rfl rfl (Nat.le_of_ble_eq_true rfl) dL_rights_22 ⟨by decide, by decide⟩ ⟨by omega, by omega⟩ (fun _ _ z9 => False.elim z9) (kk_rI (fun r9 w9 H locs hs9 hp9 hh => ?_))
  obtain ⟨⟨f, hf, rfl⟩, rfl⟩ := hp9
  refine r_istore C dL_rights_25 rfl rfl ?_
  refine r_iconst C (nI 0) dL_rights_27 rfl ?_
  refine r_istore C dL_rights_28 rfl rfl ?_
  refine r_iload C dL_rights_30 rfl ?_
  refine r_iconst C (nI 5) dL_rights_32 rfl ?_
  refine r_callS C E hh (c_low E.2.1 Γ B0 _ _ 5 (by omega) (by omega)) lk_L_149 rfl rfl (Nat.le_of_ble_eq_true rfl) dL_rights_33 ⟨by decide, by decide⟩ ⟨by omega, by omega⟩ (fun _ _ z9 => False.elim z9) (kk_rI (fun r9 w9 H locs hs9 hp9 hh => ?_))
  obtain ⟨⟨j3, hj3, rfl⟩, rfl⟩ := hp9
  refine r_iconst C (nI 3) dL_rights_36 rfl ?_
  refine r_icmp_geN (tgt := 122) C dL_rights_37 (by decide) (by omega) (by omega) (fun h37 => ?_) (fun h37 => ?_)
  · refine r_iload C dL_rights_122 rfl ?_
    refine r_iconst C (nI 5) dL_rights_124 rfl ?_
    refine r_callS C E hh (c_low E.2.1 Γ B0 _ _ 5 (by omega) (by omega)) lk_L_149 rfl rfl (Nat.le_of_ble_eq_true rfl) dL_rights_125 ⟨by decide, by decide⟩ ⟨by omega, by omega⟩ (fun _ _ z9 => False.elim z9) (kk_rI (fun r9 w9 H locs hs9 hp9 hh => ?_))
    obtain ⟨⟨j7, hj7, rfl⟩, rfl⟩ := hp9
    refine r_iconst C (nI 3) dL_rights_128 rfl ?_
    refine r_icmp_neN (tgt := 183) C dL_rights_129 (by decide) (by omega) (by omega) (fun h129 => ?_) (fun h129 => ?_)
    · exact s_rig183 h hn x y hf C E hh
    · exact s_rig132 h hn x y hf C E hh
  · refine r_iload C dL_rights_40 rfl ?_
    refine r_iconst C (nI 3) dL_rights_42 rfl ?_
    refine r_ishr C dL_rights_43 ?_
    refine r_iconst C (nI 3) dL_rights_44 rfl ?_
    refine r_callS C E hh (c_low E.2.1 Γ B0 _ _ 3 (by omega) (by omega)) lk_L_149 rfl rfl (Nat.le_of_ble_eq_true rfl) dL_rights_45 ⟨by decide, by decide⟩ ⟨by omega, by omega⟩ (fun _ _ z9 => False.elim z9) (kk_rI (fun r9 w9 H locs hs9 hp9 hh => ?_))
    obtain ⟨⟨j4, hj4, rfl⟩, rfl⟩ := hp9
    have jn68 : ∀ (fr : Nat), fr ≤ 604 → ∀ (H : Heap) (locs : List Loc), f_HS Γ B0 (wj (fw Γ ad P) (xw Γ ad R) (mw Γ ad M)) X9 H locs → f_W X9 H locs 0 0 68 [some (.ref (ad 1 0)), some (.ref (ad 30 1)), some (.ref (ad 30 2)), some (.ref (ad 30 3)), some (.ref (ad 30 4)), some (.int x), some (.int y), some (.int (nI (rdL M (M 4 0 0)))), some (.int (nI (cdL M 8))), some (.int (nI (f))), some (.int (nI (0))), none, none] [.int (nI fr)] := by
      intro fr hfr H locs hh
      refine r_istore C dL_rights_68 rfl rfl ?_
      refine r_iload C dL_rights_70 rfl ?_
      refine r_aload C dL_rights_72 rfl ?_
      refine r_iconst C (nI 2) dL_rights_74 rfl ?_
      refine al_m_g C hh (by omega) dL_rights_75 ?_
      refine r_iaddN C dL_rights_76 ?_
      refine r_iload C dL_rights_77 rfl ?_
      refine r_bipush C (nI 7) dL_rights_79 rfl ?_
      refine r_ishr C dL_rights_81 ?_
      refine r_bipush C (nI 90) dL_rights_82 rfl ?_
      refine r_callS C E hh (c_low E.2.1 Γ B0 _ _ 90 (by omega) (by omega)) lk_L_149 rfl rfl (Nat.le_of_ble_eq_true rfl) dL_rights_84 ⟨by decide, by decide⟩ ⟨by omega, by omega⟩ (fun _ _ z9 => False.elim z9) (kk_rI (fun r9 w9 H locs hs9 hp9 hh => ?_))
      obtain ⟨⟨j6, hj6, rfl⟩, rfl⟩ := hp9
      refine r_iaddN C dL_rights_87 ?_
      refine r_istore C dL_rights_88 rfl rfl ?_
      exact s_rig90 h hn x y hf (by omega) (by omega) C E hh
    refine r_if_leN (tgt := 55) C dL_rights_48 (by decide) (by omega) (fun h48 => ?_) (fun h48 => ?_)
    · refine r_aload C dL_rights_55 rfl ?_
      refine r_iconst C (nI 2) dL_rights_57 rfl ?_
      refine al_m_g C hh (by omega) dL_rights_58 ?_
      refine r_iload C dL_rights_59 rfl ?_
      refine r_iconst C (nI 5) dL_rights_61 rfl ?_
      refine r_ishr C dL_rights_62 ?_
      refine r_iconst C (nI 4) dL_rights_63 rfl ?_
      refine r_callS C E hh (c_low E.2.1 Γ B0 _ _ 4 (by omega) (by omega)) lk_L_149 rfl rfl (Nat.le_of_ble_eq_true rfl) dL_rights_64 ⟨by decide, by decide⟩ ⟨by omega, by omega⟩ (fun _ _ z9 => False.elim z9) (kk_rI (fun r9 w9 H locs hs9 hp9 hh => ?_))
      obtain ⟨⟨j5, hj5, rfl⟩, rfl⟩ := hp9
      refine r_iaddN C dL_rights_67 ?_
      first | exact jn68 0 (by omega) _ _ hh | exact jn68 _ (by omega) _ _ hh
    · refine r_iconst C (nI 0) dL_rights_51 rfl ?_
      refine r_goto (tgt := 68) C dL_rights_52 (by decide) ?_
      first | exact jn68 0 (by omega) _ _ hh | exact jn68 _ (by omega) _ _ hh

