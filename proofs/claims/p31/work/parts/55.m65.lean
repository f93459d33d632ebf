/-! ===== proves ===== -/
set_option maxHeartbeats 4000000 in
set_option maxRecDepth 100000 in
theorem s_prv111 {X9 : fX} {Γ : fG} {B0 : Nat} {ad : Nat → Nat → Nat} {P R M : fR} {n : Nat} (h : RZ n P R M) {i c : Nat} (hi : i < R 0 0 0) (hc : c < 4) (jb ab : Bool) {H : Heap} {locs : List Loc} (C : f_C X9 Γ B0 RL cL_proves 15 9 9 54 159) (E : f_E X9 Γ B0 (some .boolean) 9 54 (f_rI (fun r9 w9 => r9 = bI true ∧ ACT0 Γ ad n (R 0 0 0) w9)) f_no) (hh : f_HS Γ B0 (wj (fw Γ ad P) (xw Γ ad R) (mw Γ ad M)) X9 H locs) : f_W X9 H locs 3 18 111 [some (.ref (ad 1 0)), some (.ref (ad 30 1)), some (.ref (ad 30 2)), some (.ref (ad 30 3)), some (.ref (ad 30 4)), some (.int (nI (i))), some (.int (nI (c))), some (.int (bI (jb))), some (.int (bI (ab))), none, none, none, none, none, none] [] := by
  have hF := rl_fi h
  have hI := rl_xi h
  have hL := rl_li h
  have h64 := rl_64 h
  have h24 := rl_24 h
  have e0 := rl_0 h
  have hsh := FI_sh (R := R) hF h64
  have esh := rl_sh h
  have hs6 := shL_6 hL
  obtain ⟨l1, l2, l3, l40, l41, l42, ⟨l43, l43h⟩, l44, l45⟩ := id hL
  have g1 := l1 i
  have g2 := l2 i
  have hpc := pow2c hc
  have hi24 : i < 24 := by omega
  refine r_aload_n C dL_proves_111 rfl ?_
  refine r_iload C dL_proves_112 rfl ?_
  refine r_iconst C (nI 4) dL_proves_114 rfl ?_
  refine r_iconst C (bI true) dL_proves_115 rfl ?_
  refine r_callSW C hh (x_judge2 E.2.1 Γ B0 ad R _ _ _ _ true hI ⟨rg_N hi (by omega), not_rg (by decide) (by decide)⟩) lw_L_180 rfl rfl (Nat.le_of_ble_eq_true rfl) dL_proves_116 ⟨by decide, by decide⟩ ⟨by omega, by omega⟩ (kk_is (fun H locs hs9 hh => ?_))
  refine r_ldc C ct_L_21 dL_proves_119 ?_
  refine r_icmp_ne (tgt := 143) C dL_proves_121 (by decide) (fun h121 => ?_) (fun h121 => ?_)
  · exact absurd (rfl) h121
  · refine r_aload_n C dL_proves_124 rfl ?_
    refine r_aload C dL_proves_125 rfl ?_
    refine r_iconst C (nI 0) dL_proves_127 rfl ?_
    refine al_m_g C hh (by omega) dL_proves_128 ?_
    refine r_iconst C (nI 4) dL_proves_129 rfl ?_
    refine r_iconst C (bI true) dL_proves_130 rfl ?_
    refine r_callSW C hh (x_judge1 E.2.1 Γ B0 ad R _ _ _ _ true hI (not_rg (by omega) (by omega))) lw_L_180 rfl rfl (Nat.le_of_ble_eq_true rfl) dL_proves_131 ⟨by decide, by decide⟩ ⟨by omega, by omega⟩ (kk_is (fun H locs hs9 hh => ?_))
    refine r_ldc C ct_L_18 dL_proves_134 ?_
    refine r_icmp_ne (tgt := 143) C dL_proves_136 (by decide) (fun h136 => ?_) (fun h136 => ?_)
    · exact absurd (rfl) h136
    · refine r_iconst C (bI true) dL_proves_139 rfl ?_
      refine r_goto (tgt := 144) C dL_proves_140 (by decide) ?_
      exact r_zret C E hh dL_proves_144 (by omega) (by omega) ⟨_, rfl, rfl, ad, P, R, M, ⟨h, rfl⟩, rfl, fun _ => rfl, rfl⟩

set_option maxHeartbeats 4000000 in
set_option maxRecDepth 100000 in
theorem s_prv69 {X9 : fX} {Γ : fG} {B0 : Nat} {ad : Nat → Nat → Nat} {P R M : fR} {n : Nat} (h : RZ n P R M) {i c : Nat} (hi : i < R 0 0 0) (hc : c < 4) (jb ab : Bool) (hst : ¬ dg (M 2 i 0) c = 1) {H : Heap} {locs : List Loc} (C : f_C X9 Γ B0 RL cL_proves 15 9 9 54 159) (E : f_E X9 Γ B0 (some .boolean) 9 54 (f_rI (fun r9 w9 => r9 = bI true ∧ ACT0 Γ ad n (R 0 0 0) w9)) f_no) (hh : f_HS Γ B0 (wj (fw Γ ad P) (xw Γ ad R) (mw Γ ad M)) X9 H locs) : f_W X9 H locs 0 0 69 [some (.ref (ad 1 0)), some (.ref (ad 30 1)), some (.ref (ad 30 2)), some (.ref (ad 30 3)), some (.ref (ad 30 4)), some (.int (nI (i))), some (.int (nI (c))), some (.int (bI (jb))), some (.int (bI (ab))), none, some (.int (nI (dg (M 2 i 0) c))), none, none, none, none] [] := by
  have hF := rl_fi h
  have hI := rl_xi h
  have hL := rl_li h
  have h64 := rl_64 h
  have h24 := rl_24 h
  have e0 := rl_0 h
  have hsh := FI_sh (R := R) hF h64
  have esh := rl_sh h
  have hs6 := shL_6 hL
  obtain ⟨l1, l2, l3, l40, l41, l42, ⟨l43, l43h⟩, l44, l45⟩ := id hL
  have g1 := l1 i
  have g2 := l2 i
  have hpc := pow2c hc
  have hi24 : i < 24 := by omega
  have hj : jdC R (pg R i) c = false := by rw [jdC_law h hi hc, decide_eq_false hst]
  refine r_aload_n C dL_proves_69 rfl ?_
  refine r_iload C dL_proves_70 rfl ?_
  refine r_iload C dL_proves_72 rfl ?_
  refine r_iload C dL_proves_74 rfl ?_
  refine r_callSW C hh (x_judge3 E.2.1 Γ B0 ad R _ _ _ _ ab hI (xj3 hI hi hc hj)) lw_L_180 rfl rfl (Nat.le_of_ble_eq_true rfl) dL_proves_76 ⟨by decide, by decide⟩ ⟨by omega, by omega⟩ (kk_is (fun H locs hs9 hh => ?_))
  refine r_iload C dL_proves_79 rfl ?_
  refine r_iconst C (nI 1) dL_proves_81 rfl ?_
  refine r_icmp_eqN (tgt := 90) C dL_proves_82 (by decide) (Nat.lt_of_le_of_lt Nat.and_le_right (by decide)) (by omega) (fun h82 => ?_) (fun h82 => ?_)
  · exact absurd h82 hst
  · refine r_ldc C ct_L_24 dL_proves_85 ?_
    refine r_goto (tgt := 108) C dL_proves_87 (by decide) ?_
    refine r_icmp_ne (tgt := 143) C dL_proves_108 (by decide) (fun h108 => ?_) (fun h108 => ?_)
    · exact absurd (rfl) h108
    · refine f_W.le ?_ (s_prv111 h hi hc jb ab C E hh)
      exact (And.intro rfl (And.intro rfl (And.intro rfl (And.intro rfl (And.intro rfl (And.intro rfl (And.intro rfl (And.intro rfl (And.intro rfl trivial)))))))))

set_option maxHeartbeats 4000000 in
set_option maxRecDepth 100000 in
theorem s_prv69j {X9 : fX} {Γ : fG} {B0 : Nat} {ad : Nat → Nat → Nat} {P R M0 : fR} {n : Nat} (h0 : RZ n P R M0) {M : fR} {i c : Nat} (hi : i < R 0 0 0) (hc : c < 4) (jb ab : Bool) {st : Nat} (hst : st = 1) (hI : XI R) (hj : jdC R (pg R i) c = true) (h : RZ n P (jdR R (pg R i) c ab) M) {H : Heap} {locs : List Loc} (C : f_C X9 Γ B0 RL cL_proves 15 9 9 54 159) (E : f_E X9 Γ B0 (some .boolean) 9 54 (f_rI (fun r9 w9 => r9 = bI true ∧ ACT0 Γ ad n (R 0 0 0) w9)) f_no) (hh : f_HS Γ B0 (wj (fw Γ ad P) (xw Γ ad R) (mw Γ ad M)) X9 H locs) : f_W X9 H locs 0 0 69 [some (.ref (ad 1 0)), some (.ref (ad 30 1)), some (.ref (ad 30 2)), some (.ref (ad 30 3)), some (.ref (ad 30 4)), some (.int (nI (i))), some (.int (nI (c))), some (.int (bI (jb))), some (.int (bI (ab))), none, some (.int (nI (st))), none, none, none, none] [] := by
  have hL := rl_li h
  have h24 := rl_24 h0
  have hfn : fnL M i 4 = fin (jdR R (pg R i) c ab) (pg R i) := rl_fin h hi
  refine r_aload_n C dL_proves_69 rfl ?_
  refine r_iload C dL_proves_70 rfl ?_
  refine r_iload C dL_proves_72 rfl ?_
  refine r_iload C dL_proves_74 rfl ?_
  refine r_callSW C hh (L_judge_k E.2.1 Γ B0 ad _ hI ab hi hc hj) lw_L_180 rfl rfl (Nat.le_of_ble_eq_true rfl) dL_proves_76 ⟨by decide, by decide⟩ ⟨by omega, by omega⟩ (kk_is (fun H locs hs9 hh => ?_))
  refine r_iload C dL_proves_79 rfl ?_
  refine r_iconst C (nI 1) dL_proves_81 rfl ?_
  refine r_icmp_eqN (tgt := 90) C dL_proves_82 (by decide) (by omega) (by omega) (fun h82 => ?_) (fun h82 => ?_)
  · refine r_aload_n C dL_proves_90 rfl ?_
    refine r_aload_n C dL_proves_91 rfl ?_
    refine r_aload_n C dL_proves_92 rfl ?_
    refine r_aload C dL_proves_93 rfl ?_
    refine r_iload C dL_proves_95 rfl ?_
    refine r_callS C E hh (c_L_finished E.2.1 Γ B0 ad M (fw Γ ad P) (xw Γ ad (jdR R (pg R i) c ab)) i (by omega) hL) lk_L_104 rfl rfl (Nat.le_of_ble_eq_true rfl) dL_proves_97 ⟨by decide, by decide⟩ ⟨by omega, by omega⟩ (fun _ _ z9 => False.elim z9) (kk_is (fun H locs hs9 hh => ?_))
    refine r_if_eqB (tgt := 107) C dL_proves_100 (by decide) (fun h100 => ?_) (fun h100 => ?_)
    · refine r_iconst C (bI false) dL_proves_107 rfl ?_
      refine r_icmp_ne (tgt := 143) C dL_proves_108 (by decide) (fun h108 => ?_) (fun h108 => ?_)
      · exact absurd (by rw [← hfn, h100]) h108
      · refine f_W.le ?_ (s_prv111 h (show i < jdR R (pg R i) c ab 0 0 0 from hi) hc jb ab C E hh)
        exact (And.intro rfl (And.intro rfl (And.intro rfl (And.intro rfl (And.intro rfl (And.intro rfl (And.intro rfl (And.intro rfl (And.intro rfl trivial)))))))))
    · refine r_iconst C (bI true) dL_proves_103 rfl ?_
      refine r_goto (tgt := 108) C dL_proves_104 (by decide) ?_
      refine r_icmp_ne (tgt := 143) C dL_proves_108 (by decide) (fun h108 => ?_) (fun h108 => ?_)
      · exact absurd (by rw [← hfn, h100]) h108
      · refine f_W.le ?_ (s_prv111 h (show i < jdR R (pg R i) c ab 0 0 0 from hi) hc jb ab C E hh)
        exact (And.intro rfl (And.intro rfl (And.intro rfl (And.intro rfl (And.intro rfl (And.intro rfl (And.intro rfl (And.intro rfl (And.intro rfl trivial)))))))))
  · exact absurd hst h82

set_option maxHeartbeats 4000000 in
set_option maxRecDepth 100000 in
theorem s_prv47 {X9 : fX} {Γ : fG} {B0 : Nat} {ad : Nat → Nat → Nat} {P R M : fR} {n : Nat} (h : RZ n P R M) {i c : Nat} (hi : i < R 0 0 0) (hc : c < 4) (jb ab : Bool) (hst : dg (M 2 i 0) c = 1) {H : Heap} {locs : List Loc} (C : f_C X9 Γ B0 RL cL_proves 15 9 9 54 159) (E : f_E X9 Γ B0 (some .boolean) 9 54 (f_rI (fun r9 w9 => r9 = bI true ∧ ACT0 Γ ad n (R 0 0 0) w9)) f_no) (hh : f_HS Γ B0 (wj (fw Γ ad P) (xw Γ ad R) (mw Γ ad M)) X9 H locs) : f_W X9 H locs 0 0 47 [some (.ref (ad 1 0)), some (.ref (ad 30 1)), some (.ref (ad 30 2)), some (.ref (ad 30 3)), some (.ref (ad 30 4)), some (.int (nI (i))), some (.int (nI (c))), some (.int (bI (jb))), some (.int (bI (ab))), none, some (.int (nI (dg (M 2 i 0) c))), none, none, none, none] [] := by
  have hF := rl_fi h
  have hI := rl_xi h
  have hL := rl_li h
  have h64 := rl_64 h
  have h24 := rl_24 h
  have e0 := rl_0 h
  have hsh := FI_sh (R := R) hF h64
  have esh := rl_sh h
  have hs6 := shL_6 hL
  obtain ⟨l1, l2, l3, l40, l41, l42, ⟨l43, l43h⟩, l44, l45⟩ := id hL
  have g1 := l1 i
  have g2 := l2 i
  have hpc := pow2c hc
  have hi24 : i < 24 := by omega
  have hj : jdC R (pg R i) c = true := by rw [jdC_law h hi hc, decide_eq_true hst]
  refine r_aload_n C dL_proves_47 rfl ?_
  refine r_iload C dL_proves_48 rfl ?_
  refine r_dup2 C dL_proves_50 rfl rfl ?_
  refine al_m_q C hh (by omega) dL_proves_51 ?_
  refine r_iload C dL_proves_52 rfl ?_
  have jn62 : ∀ (v : Nat), v = (if ab = true then 1 else 2) → f_W X9 H locs 0 0 62 [some (.ref (ad 1 0)), some (.ref (ad 30 1)), some (.ref (ad 30 2)), some (.ref (ad 30 3)), some (.ref (ad 30 4)), some (.int (nI (i))), some (.int (nI (c))), some (.int (bI (jb))), some (.int (bI (ab))), none, some (.int (nI (dg (M 2 i 0) c))), none, none, none, none] [.int (nI v), .int (nI (M 2 i 0)), .int (nI i), .ref (ad 30 2)] := by
    intro v hS
    have hv2 : v ≤ 2 := by rw [hS]; split <;> omega
    have hv9 : v * 2 ^ (2 * c) ≤ 2 * 64 := Nat.mul_le_mul hv2 hpc.2
    obtain ⟨d1, d2⟩ := jd_dg (M 2 i 0) g2 c hc hst v (by omega)
    refine r_iconst C (nI 2) dL_proves_62 rfl ?_
    refine r_iload C dL_proves_63 rfl ?_
    refine r_imulN C dL_proves_65 ?_
    refine r_ishlN C dL_proves_66 (by omega) (by omega) ?_
    refine r_iaddN C dL_proves_67 ?_
    refine as_m_q C hh (by omega) dL_proves_68 (fun H locs hh => ?_)
    have h' : RZ n P (jdR R (pg R i) c ab) (rs M 2 (u1 (M 2) i (M 2 i 0 + v * 2 ^ (2 * c)))) := RZ_pf h hi hc (v := if ab = true then 2 else 3) (by split <;> omega) (fun _ => rl_c h (pg R i) c hc (by rw [← rl_dg h hi hc, hst]; decide)) d1 (fun c' hc' => by
      rw [d2 c' hc']
      by_cases z : c' = c
      · rw [if_pos z, if_pos z, hS]; cases ab <;> rfl
      · rw [if_neg z, if_neg z])
    exact s_prv69j h hi hc jb ab hst hI hj h' C E hh
  refine r_if_eqB (tgt := 61) C dL_proves_54 (by decide) (fun h54 => ?_) (fun h54 => ?_)
  · refine r_iconst C (nI 2) dL_proves_61 rfl ?_
    exact jn62 _ (by rw [h54]; rfl)
  · refine r_iconst C (nI 1) dL_proves_57 rfl ?_
    refine r_goto (tgt := 62) C dL_proves_58 (by decide) ?_
    exact jn62 _ (by rw [h54]; rfl)

set_option maxHeartbeats 4000000 in
set_option maxRecDepth 100000 in
theorem s_prv331 {X9 : fX} {Γ : fG} {B0 : Nat} {ad : Nat → Nat → Nat} {P R M : fR} {n : Nat} (h : RZ n P R M) {i c : Nat} (hi : i < R 0 0 0) (hc : c < 4) (jb ab : Bool) {H : Heap} {locs : List Loc} (C : f_C X9 Γ B0 RL cL_proves 15 9 9 54 159) (E : f_E X9 Γ B0 (some .boolean) 9 54 (f_rI (fun r9 w9 => r9 = bI true ∧ ACT0 Γ ad n (R 0 0 0) w9)) f_no) (hh : f_HS Γ B0 (wj (fw Γ ad P) (xw Γ ad R) (mw Γ ad M)) X9 H locs) : f_W X9 H locs 3 18 331 [some (.ref (ad 1 0)), some (.ref (ad 30 1)), some (.ref (ad 30 2)), some (.ref (ad 30 3)), some (.ref (ad 30 4)), some (.int (nI (i))), some (.int (nI (c))), some (.int (bI (jb))), some (.int (bI (ab))), none, none, none, none, none, none] [] := by
  have hF := rl_fi h
  have hI := rl_xi h
  have hL := rl_li h
  have h64 := rl_64 h
  have h24 := rl_24 h
  have e0 := rl_0 h
  have hsh := FI_sh (R := R) hF h64
  have esh := rl_sh h
  have hs6 := shL_6 hL
  obtain ⟨l1, l2, l3, l40, l41, l42, ⟨l43, l43h⟩, l44, l45⟩ := id hL
  have g1 := l1 i
  have g2 := l2 i
  have hpc := pow2c hc
  have hi24 : i < 24 := by omega
  refine r_aload_n C dL_proves_331 rfl ?_
  refine r_iload C dL_proves_332 rfl ?_
  refine r_iconst C (-1) dL_proves_334 rfl ?_
  refine r_callSW C hh (x_prove2 E.2.1 Γ B0 ad R _ _ _ _ hI ⟨rg_N hi (by omega), not_rg_m⟩) lw_L_183 rfl rfl (Nat.le_of_ble_eq_true rfl) dL_proves_335 ⟨by decide, by decide⟩ ⟨by omega, by omega⟩ (kk_is (fun H locs hs9 hh => ?_))
  refine r_ldc C ct_L_21 dL_proves_338 ?_
  refine r_icmp_ne (tgt := 362) C dL_proves_340 (by decide) (fun h340 => ?_) (fun h340 => ?_)
  · exact absurd (rfl) h340
  · refine r_aload_n C dL_proves_343 rfl ?_
    refine r_aload C dL_proves_344 rfl ?_
    refine r_iconst C (nI 0) dL_proves_346 rfl ?_
    refine al_m_g C hh (by omega) dL_proves_347 ?_
    refine r_bipush C (nI 9) dL_proves_348 rfl ?_
    refine r_callSW C hh (x_prove1 E.2.1 Γ B0 ad R _ _ _ _ hI (not_rg (by omega) (by omega))) lw_L_183 rfl rfl (Nat.le_of_ble_eq_true rfl) dL_proves_350 ⟨by decide, by decide⟩ ⟨by omega, by omega⟩ (kk_is (fun H locs hs9 hh => ?_))
    refine r_ldc C ct_L_18 dL_proves_353 ?_
    refine r_icmp_ne (tgt := 362) C dL_proves_355 (by decide) (fun h355 => ?_) (fun h355 => ?_)
    · exact absurd (rfl) h355
    · refine r_iconst C (bI true) dL_proves_358 rfl ?_
      refine r_goto (tgt := 363) C dL_proves_359 (by decide) ?_
      exact r_zret C E hh dL_proves_363 (by omega) (by omega) ⟨_, rfl, rfl, ad, P, R, M, ⟨h, rfl⟩, rfl, fun _ => rfl, rfl⟩

set_option maxHeartbeats 4000000 in
set_option maxRecDepth 100000 in
theorem s_prv308t {X9 : fX} {Γ : fG} {B0 : Nat} {ad : Nat → Nat → Nat} {P R M : fR} {n : Nat} {i c : Nat} (hi : i < R 0 0 0) (hc : c < 4) (jb ab : Bool) (hI : XI R) (hj : pvC R (pg R i) c = true) (h : RZ n P (pvR R (pg R i) c) M) {H : Heap} {locs : List Loc} (C : f_C X9 Γ B0 RL cL_proves 15 9 9 54 159) (E : f_E X9 Γ B0 (some .boolean) 9 54 (f_rI (fun r9 w9 => r9 = bI true ∧ ACT0 Γ ad n (R 0 0 0) w9)) f_no) (hh : f_HS Γ B0 (wj (fw Γ ad P) (xw Γ ad R) (mw Γ ad M)) X9 H locs) : f_W X9 H locs 0 0 308 [some (.ref (ad 1 0)), some (.ref (ad 30 1)), some (.ref (ad 30 2)), some (.ref (ad 30 3)), some (.ref (ad 30 4)), some (.int (nI (i))), some (.int (nI (c))), some (.int (bI (jb))), some (.int (bI (ab))), none, none, some (.int (bI (true))), some (.int (nI (smL (M 2 i 0) 4))), none, none] [] := by
  have hsm := smL_le (M 2 i 0) 4
  have hc4 : cnt (pvR R (pg R i) c 16 (pg R i)) 1 4 + cnt (pvR R (pg R i) c 16 (pg R i)) 2 4 = smL (M 2 i 0) 4 := sm_cnt h hi
  have h24 := rl_24 h
  refine r_aload_n C dL_proves_308 rfl ?_
  refine r_iload C dL_proves_309 rfl ?_
  refine r_iload C dL_proves_311 rfl ?_
  refine r_callSW C hh (L_prove_k E.2.1 Γ B0 ad _ hI hi hc hj) lw_L_183 rfl rfl (Nat.le_of_ble_eq_true rfl) dL_proves_313 ⟨by decide, by decide⟩ ⟨by omega, by omega⟩ (kk_is (fun H locs hs9 hh => ?_))
  rw [hc4]
  refine r_iload C dL_proves_316 rfl ?_
  refine r_if_eqB (tgt := 326) C dL_proves_318 (by decide) (fun h318 => ?_) (fun h318 => ?_)
  · exact absurd h318 (by decide)
  · refine r_iload C dL_proves_321 rfl ?_
    refine r_goto (tgt := 328) C dL_proves_323 (by decide) ?_
    refine r_icmp_neN (tgt := 362) C dL_proves_328 (by decide) (by omega) (by omega) (fun h328 => ?_) (fun h328 => ?_)
    · exact absurd (rfl) h328
    · refine f_W.le ?_ (s_prv331 h (show i < pvR R (pg R i) c 0 0 0 from hi) hc jb ab C E hh)
      exact (And.intro rfl (And.intro rfl (And.intro rfl (And.intro rfl (And.intro rfl (And.intro rfl (And.intro rfl (And.intro rfl (And.intro rfl trivial)))))))))

set_option maxHeartbeats 4000000 in
set_option maxRecDepth 100000 in
theorem s_prv308f {X9 : fX} {Γ : fG} {B0 : Nat} {ad : Nat → Nat → Nat} {P R M : fR} {n : Nat} (h : RZ n P R M) {i c : Nat} (hi : i < R 0 0 0) (hc : c < 4) (jb ab : Bool) (hj : pvC R (pg R i) c = false) {H : Heap} {locs : List Loc} (C : f_C X9 Γ B0 RL cL_proves 15 9 9 54 159) (E : f_E X9 Γ B0 (some .boolean) 9 54 (f_rI (fun r9 w9 => r9 = bI true ∧ ACT0 Γ ad n (R 0 0 0) w9)) f_no) (hh : f_HS Γ B0 (wj (fw Γ ad P) (xw Γ ad R) (mw Γ ad M)) X9 H locs) : f_W X9 H locs 0 0 308 [some (.ref (ad 1 0)), some (.ref (ad 30 1)), some (.ref (ad 30 2)), some (.ref (ad 30 3)), some (.ref (ad 30 4)), some (.int (nI (i))), some (.int (nI (c))), some (.int (bI (jb))), some (.int (bI (ab))), none, none, some (.int (bI (false))), none, none, none] [] := by
  have hF := rl_fi h
  have hI := rl_xi h
  have hL := rl_li h
  have h64 := rl_64 h
  have h24 := rl_24 h
  have e0 := rl_0 h
  have hsh := FI_sh (R := R) hF h64
  have esh := rl_sh h
  have hs6 := shL_6 hL
  obtain ⟨l1, l2, l3, l40, l41, l42, ⟨l43, l43h⟩, l44, l45⟩ := id hL
  have g1 := l1 i
  have g2 := l2 i
  have hpc := pow2c hc
  have hi24 : i < 24 := by omega
  refine r_aload_n C dL_proves_308 rfl ?_
  refine r_iload C dL_proves_309 rfl ?_
  refine r_iload C dL_proves_311 rfl ?_
  refine r_callSW C hh (x_prove3 E.2.1 Γ B0 ad R _ _ _ _ hI (xp3 hI hi hc hj)) lw_L_183 rfl rfl (Nat.le_of_ble_eq_true rfl) dL_proves_313 ⟨by decide, by decide⟩ ⟨by omega, by omega⟩ (kk_is (fun H locs hs9 hh => ?_))
  refine r_iload C dL_proves_316 rfl ?_
  refine r_if_eqB (tgt := 326) C dL_proves_318 (by decide) (fun h318 => ?_) (fun h318 => ?_)
  · refine r_ldc C ct_L_24 dL_proves_326 ?_
    refine r_icmp_ne (tgt := 362) C dL_proves_328 (by decide) (fun h328 => ?_) (fun h328 => ?_)
    · exact absurd (rfl) h328
    · refine f_W.le ?_ (s_prv331 h hi hc jb ab C E hh)
      exact (And.intro rfl (And.intro rfl (And.intro rfl (And.intro rfl (And.intro rfl (And.intro rfl (And.intro rfl (And.intro rfl (And.intro rfl trivial)))))))))
  · exact absurd h318 (by decide)

set_option maxHeartbeats 4000000 in
set_option maxRecDepth 100000 in
theorem s_prv258t {X9 : fX} {Γ : fG} {B0 : Nat} {ad : Nat → Nat → Nat} {P R M : fR} {n : Nat} {i c : Nat} (hi : i < R 0 0 0) (hc : c < 4) (jb ab : Bool) (hI : XI R) (hj : pvC R (pg R i) c = true) (h : RZ n P (pvR R (pg R i) c) M) {H : Heap} {locs : List Loc} (C : f_C X9 Γ B0 RL cL_proves 15 9 9 54 159) (E : f_E X9 Γ B0 (some .boolean) 9 54 (f_rI (fun r9 w9 => r9 = bI true ∧ ACT0 Γ ad n (R 0 0 0) w9)) f_no) (hh : f_HS Γ B0 (wj (fw Γ ad P) (xw Γ ad R) (mw Γ ad M)) X9 H locs) : f_W X9 H locs 0 0 258 [some (.ref (ad 1 0)), some (.ref (ad 30 1)), some (.ref (ad 30 2)), some (.ref (ad 30 3)), some (.ref (ad 30 4)), some (.int (nI (i))), some (.int (nI (c))), some (.int (bI (jb))), some (.int (bI (ab))), none, none, some (.int (bI (true))), some (.int (nI (0))), none, none] [] := by
  have hL := rl_li h
  have g2 := hL.2.1 i
  have h24 := rl_24 h
  have hi24 : i < 24 := Nat.lt_of_lt_of_le hi h24
  refine r_iconst C (nI 0) dL_proves_258 rfl ?_
  refine r_istore C dL_proves_259 rfl rfl ?_
  have lp261 : ∀ (d9 : Nat) (k : Nat) (H : Heap) (locs : List Loc), 4 - k < d9 → k ≤ 4 → f_HS Γ B0 (wj (fw Γ ad P) (xw Γ ad R) (mw Γ ad M)) X9 H locs → f_W X9 H locs 0 0 261 [some (.ref (ad 1 0)), some (.ref (ad 30 1)), some (.ref (ad 30 2)), some (.ref (ad 30 3)), some (.ref (ad 30 4)), some (.int (nI (i))), some (.int (nI (c))), some (.int (bI (jb))), some (.int (bI (ab))), none, none, some (.int (bI (true))), some (.int (nI (smL (M 2 i 0) k))), some (.int (nI (k))), none] [] := by
    intro d9
    induction d9 with
    | zero => intro k H locs hd9 hk9 hh; exact absurd hd9 (Nat.not_lt_zero _)
    | succ d9 ih261 =>
      intro k H locs hd9 hk9 hh
      have hsm := smL_le (M 2 i 0) k
      refine r_iload C dL_proves_261 rfl ?_
      refine r_iconst C (nI 4) dL_proves_263 rfl ?_
      refine r_icmp_geN (tgt := 308) C dL_proves_264 (by decide) (by omega) (by omega) (fun h264 => ?_) (fun h264 => ?_)
      · obtain rfl : k = 4 := by omega
        refine f_W.le ?_ (s_prv308t hi hc jb ab hI hj h C E hh)
        exact (And.intro rfl (And.intro rfl (And.intro rfl (And.intro rfl (And.intro rfl (And.intro rfl (And.intro rfl (And.intro rfl (And.intro rfl (And.intro rfl (And.intro rfl trivial)))))))))))
      · refine r_aload_n C dL_proves_267 rfl ?_
        refine r_iload C dL_proves_268 rfl ?_
        refine al_m_q C hh (by omega) dL_proves_270 ?_
        refine r_iconst C (nI 2) dL_proves_271 rfl ?_
        refine r_iload C dL_proves_272 rfl ?_
        refine r_imulN C dL_proves_274 ?_
        refine r_ishrN C dL_proves_275 (by omega) (by omega) ?_
        refine r_iconst C (nI 3) dL_proves_276 rfl ?_
        refine r_iandN C dL_proves_277 ?_
        refine r_istore C dL_proves_278 rfl rfl ?_
        refine r_iload C dL_proves_280 rfl ?_
        refine r_iload C dL_proves_282 rfl ?_
        refine r_iconst C (nI 1) dL_proves_284 rfl ?_
        have jn299 : ∀ (v : Nat), (if dg (M 2 i 0) k = 1 ∨ dg (M 2 i 0) k = 2 then 1 else 0) = v → f_W X9 H locs 0 0 299 [some (.ref (ad 1 0)), some (.ref (ad 30 1)), some (.ref (ad 30 2)), some (.ref (ad 30 3)), some (.ref (ad 30 4)), some (.int (nI (i))), some (.int (nI (c))), some (.int (bI (jb))), some (.int (bI (ab))), none, none, some (.int (bI (true))), some (.int (nI (smL (M 2 i 0) k))), some (.int (nI (k))), none] [.int (nI v), .int (nI (smL (M 2 i 0) k))] := by
          intro v hS
          subst hS
          refine r_iaddN C dL_proves_299 ?_
          refine r_istore C dL_proves_300 rfl rfl ?_
          refine r_iincN C dL_proves_302 rfl rfl ?_
          refine r_goto (tgt := 261) C dL_proves_305 (by decide) ?_
          refine f_W.le ?_ (ih261 (k + 1) _ _ (by omega) (by omega) hh)
          exact (And.intro rfl (And.intro rfl (And.intro rfl (And.intro rfl (And.intro rfl (And.intro rfl (And.intro rfl (And.intro rfl (And.intro rfl (And.intro rfl (And.intro rfl (And.intro rfl trivial))))))))))))
        refine r_icmp_eqN (tgt := 294) C dL_proves_285 (by decide) (Nat.lt_of_le_of_lt Nat.and_le_right (by decide)) (by omega) (fun h285 => ?_) (fun h285 => ?_)
        · refine r_iconst C (nI 1) dL_proves_294 rfl ?_
          refine r_goto (tgt := 299) C dL_proves_295 (by decide) ?_
          refine f_W.le ?_ (jn299 _ (by first | exact if_pos (Or.inl h285) | exact if_pos (Or.inr h291) | exact if_neg (by rintro (u | u); exact h285 u; exact h291 u)))
          exact (And.intro rfl (And.intro rfl (And.intro rfl (And.intro rfl (And.intro rfl (And.intro rfl (And.intro rfl (And.intro rfl (And.intro rfl (And.intro rfl (And.intro rfl (And.intro rfl trivial))))))))))))
        · refine r_iload C dL_proves_288 rfl ?_
          refine r_iconst C (nI 2) dL_proves_290 rfl ?_
          refine r_icmp_neN (tgt := 298) C dL_proves_291 (by decide) (Nat.lt_of_le_of_lt Nat.and_le_right (by decide)) (by omega) (fun h291 => ?_) (fun h291 => ?_)
          · refine r_iconst C (nI 0) dL_proves_298 rfl ?_
            refine f_W.le ?_ (jn299 _ (by first | exact if_pos (Or.inl h285) | exact if_pos (Or.inr h291) | exact if_neg (by rintro (u | u); exact h285 u; exact h291 u)))
            exact (And.intro rfl (And.intro rfl (And.intro rfl (And.intro rfl (And.intro rfl (And.intro rfl (And.intro rfl (And.intro rfl (And.intro rfl (And.intro rfl (And.intro rfl (And.intro rfl trivial))))))))))))
          · refine r_iconst C (nI 1) dL_proves_294 rfl ?_
            refine r_goto (tgt := 299) C dL_proves_295 (by decide) ?_
            refine f_W.le ?_ (jn299 _ (by first | exact if_pos (Or.inl h285) | exact if_pos (Or.inr h291) | exact if_neg (by rintro (u | u); exact h285 u; exact h291 u)))
            exact (And.intro rfl (And.intro rfl (And.intro rfl (And.intro rfl (And.intro rfl (And.intro rfl (And.intro rfl (And.intro rfl (And.intro rfl (And.intro rfl (And.intro rfl (And.intro rfl trivial))))))))))))
  refine f_W.le ?_ (lp261 5 0 _ _ (by omega) (by omega) hh)
  exact (And.intro rfl (And.intro rfl (And.intro rfl (And.intro rfl (And.intro rfl (And.intro rfl (And.intro rfl (And.intro rfl (And.intro rfl (And.intro rfl (And.intro rfl (And.intro rfl trivial))))))))))))

set_option maxHeartbeats 4000000 in
set_option maxRecDepth 100000 in
theorem s_prv258f {X9 : fX} {Γ : fG} {B0 : Nat} {ad : Nat → Nat → Nat} {P R M : fR} {n : Nat} (h : RZ n P R M) {i c : Nat} (hi : i < R 0 0 0) (hc : c < 4) (jb ab : Bool) (hj : pvC R (pg R i) c = false) {H : Heap} {locs : List Loc} (C : f_C X9 Γ B0 RL cL_proves 15 9 9 54 159) (E : f_E X9 Γ B0 (some .boolean) 9 54 (f_rI (fun r9 w9 => r9 = bI true ∧ ACT0 Γ ad n (R 0 0 0) w9)) f_no) (hh : f_HS Γ B0 (wj (fw Γ ad P) (xw Γ ad R) (mw Γ ad M)) X9 H locs) : f_W X9 H locs 0 0 258 [some (.ref (ad 1 0)), some (.ref (ad 30 1)), some (.ref (ad 30 2)), some (.ref (ad 30 3)), some (.ref (ad 30 4)), some (.int (nI (i))), some (.int (nI (c))), some (.int (bI (jb))), some (.int (bI (ab))), none, none, some (.int (bI (false))), some (.int (nI (0))), none, none] [] := by
  have hF := rl_fi h
  have hI := rl_xi h
  have hL := rl_li h
  have h64 := rl_64 h
  have h24 := rl_24 h
  have e0 := rl_0 h
  have hsh := FI_sh (R := R) hF h64
  have esh := rl_sh h
  have hs6 := shL_6 hL
  obtain ⟨l1, l2, l3, l40, l41, l42, ⟨l43, l43h⟩, l44, l45⟩ := id hL
  have g1 := l1 i
  have g2 := l2 i
  have hpc := pow2c hc
  have hi24 : i < 24 := by omega
  refine r_iconst C (nI 0) dL_proves_258 rfl ?_
  refine r_istore C dL_proves_259 rfl rfl ?_
  have lp261 : ∀ (d9 : Nat) (k : Nat) (H : Heap) (locs : List Loc), 4 - k < d9 → k ≤ 4 → f_HS Γ B0 (wj (fw Γ ad P) (xw Γ ad R) (mw Γ ad M)) X9 H locs → f_W X9 H locs 0 0 261 [some (.ref (ad 1 0)), some (.ref (ad 30 1)), some (.ref (ad 30 2)), some (.ref (ad 30 3)), some (.ref (ad 30 4)), some (.int (nI (i))), some (.int (nI (c))), some (.int (bI (jb))), some (.int (bI (ab))), none, none, some (.int (bI (false))), some (.int (nI (smL (M 2 i 0) k))), some (.int (nI (k))), none] [] := by
    intro d9
    induction d9 with
    | zero => intro k H locs hd9 hk9 hh; exact absurd hd9 (Nat.not_lt_zero _)
    | succ d9 ih261 =>
      intro k H locs hd9 hk9 hh
      have hsm := smL_le (M 2 i 0) k
      refine r_iload C dL_proves_261 rfl ?_
      refine r_iconst C (nI 4) dL_proves_263 rfl ?_
      refine r_icmp_geN (tgt := 308) C dL_proves_264 (by decide) (by omega) (by omega) (fun h264 => ?_) (fun h264 => ?_)
      · obtain rfl : k = 4 := by omega
        refine f_W.le ?_ (s_prv308f h hi hc jb ab hj C E hh)
        exact (And.intro rfl (And.intro rfl (And.intro rfl (And.intro rfl (And.intro rfl (And.intro rfl (And.intro rfl (And.intro rfl (And.intro rfl (And.intro rfl trivial))))))))))
      · refine r_aload_n C dL_proves_267 rfl ?_
        refine r_iload C dL_proves_268 rfl ?_
        refine al_m_q C hh (by omega) dL_proves_270 ?_
        refine r_iconst C (nI 2) dL_proves_271 rfl ?_
        refine r_iload C dL_proves_272 rfl ?_
        refine r_imulN C dL_proves_274 ?_
        refine r_ishrN C dL_proves_275 (by omega) (by omega) ?_
        refine r_iconst C (nI 3) dL_proves_276 rfl ?_
        refine r_iandN C dL_proves_277 ?_
        refine r_istore C dL_proves_278 rfl rfl ?_
        refine r_iload C dL_proves_280 rfl ?_
        refine r_iload C dL_proves_282 rfl ?_
        refine r_iconst C (nI 1) dL_proves_284 rfl ?_
        have jn299 : ∀ (v : Nat), (if dg (M 2 i 0) k = 1 ∨ dg (M 2 i 0) k = 2 then 1 else 0) = v → f_W X9 H locs 0 0 299 [some (.ref (ad 1 0)), some (.ref (ad 30 1)), some (.ref (ad 30 2)), some (.ref (ad 30 3)), some (.ref (ad 30 4)), some (.int (nI (i))), some (.int (nI (c))), some (.int (bI (jb))), some (.int (bI (ab))), none, none, some (.int (bI (false))), some (.int (nI (smL (M 2 i 0) k))), some (.int (nI (k))), none] [.int (nI v), .int (nI (smL (M 2 i 0) k))] := by
          intro v hS
          subst hS
          refine r_iaddN C dL_proves_299 ?_
          refine r_istore C dL_proves_300 rfl rfl ?_
          refine r_iincN C dL_proves_302 rfl rfl ?_
          refine r_goto (tgt := 261) C dL_proves_305 (by decide) ?_
          refine f_W.le ?_ (ih261 (k + 1) _ _ (by omega) (by omega) hh)
          exact (And.intro rfl (And.intro rfl (And.intro rfl (And.intro rfl (And.intro rfl (And.intro rfl (And.intro rfl (And.intro rfl (And.intro rfl (And.intro rfl (And.intro rfl (And.intro rfl trivial))))))))))))
        refine r_icmp_eqN (tgt := 294) C dL_proves_285 (by decide) (Nat.lt_of_le_of_lt Nat.and_le_right (by decide)) (by omega) (fun h285 => ?_) (fun h285 => ?_)
        · refine r_iconst C (nI 1) dL_proves_294 rfl ?_
          refine r_goto (tgt := 299) C dL_proves_295 (by decide) ?_
          refine f_W.le ?_ (jn299 _ (by first | exact if_pos (Or.inl h285) | exact if_pos (Or.inr h291) | exact if_neg (by rintro (u | u); exact h285 u; exact h291 u)))
          exact (And.intro rfl (And.intro rfl (And.intro rfl (And.intro rfl (And.intro rfl (And.intro rfl (And.intro rfl (And.intro rfl (And.intro rfl (And.intro rfl (And.intro rfl (And.intro rfl trivial))))))))))))
        · refine r_iload C dL_proves_288 rfl ?_
          refine r_iconst C (nI 2) dL_proves_290 rfl ?_
          refine r_icmp_neN (tgt := 298) C dL_proves_291 (by decide) (Nat.lt_of_le_of_lt Nat.and_le_right (by decide)) (by omega) (fun h291 => ?_) (fun h291 => ?_)
          · refine r_iconst C (nI 0) dL_proves_298 rfl ?_
            refine f_W.le ?_ (jn299 _ (by first | exact if_pos (Or.inl h285) | exact if_pos (Or.inr h291) | exact if_neg (by rintro (u | u); exact h285 u; exact h291 u)))
            exact (And.intro rfl (And.intro rfl (And.intro rfl (And.intro rfl (And.intro rfl (And.intro rfl (And.intro rfl (And.intro rfl (And.intro rfl (And.intro rfl (And.intro rfl (And.intro rfl trivial))))))))))))
          · refine r_iconst C (nI 1) dL_proves_294 rfl ?_
            refine r_goto (tgt := 299) C dL_proves_295 (by decide) ?_
            refine f_W.le ?_ (jn299 _ (by first | exact if_pos (Or.inl h285) | exact if_pos (Or.inr h291) | exact if_neg (by rintro (u | u); exact h285 u; exact h291 u)))
            exact (And.intro rfl (And.intro rfl (And.intro rfl (And.intro rfl (And.intro rfl (And.intro rfl (And.intro rfl (And.intro rfl (And.intro rfl (And.intro rfl (And.intro rfl (And.intro rfl trivial))))))))))))
  refine f_W.le ?_ (lp261 5 0 _ _ (by omega) (by omega) hh)
  exact (And.intro rfl (And.intro rfl (And.intro rfl (And.intro rfl (And.intro rfl (And.intro rfl (And.intro rfl (And.intro rfl (And.intro rfl (And.intro rfl (And.intro rfl (And.intro rfl trivial))))))))))))

set_option maxHeartbeats 4000000 in
set_option maxRecDepth 100000 in
theorem s_prv222t {X9 : fX} {Γ : fG} {B0 : Nat} {ad : Nat → Nat → Nat} {P R M : fR} {n : Nat} (h : RZ n P R M) {i c : Nat} (hi : i < R 0 0 0) (hc : c < 4) (jb ab : Bool) (hj : pvC R (pg R i) c = true) {H : Heap} {locs : List Loc} (C : f_C X9 Γ B0 RL cL_proves 15 9 9 54 159) (E : f_E X9 Γ B0 (some .boolean) 9 54 (f_rI (fun r9 w9 => r9 = bI true ∧ ACT0 Γ ad n (R 0 0 0) w9)) f_no) (hh : f_HS Γ B0 (wj (fw Γ ad P) (xw Γ ad R) (mw Γ ad M)) X9 H locs) : f_W X9 H locs 0 0 222 [some (.ref (ad 1 0)), some (.ref (ad 30 1)), some (.ref (ad 30 2)), some (.ref (ad 30 3)), some (.ref (ad 30 4)), some (.int (nI (i))), some (.int (nI (c))), some (.int (bI (jb))), some (.int (bI (ab))), none, none, some (.int (bI (true))), some (.int (nI (0))), none, none] [] := by
  have hF := rl_fi h
  have hI := rl_xi h
  have hL := rl_li h
  have h64 := rl_64 h
  have h24 := rl_24 h
  have e0 := rl_0 h
  have hsh := FI_sh (R := R) hF h64
  have esh := rl_sh h
  have hs6 := shL_6 hL
  obtain ⟨l1, l2, l3, l40, l41, l42, ⟨l43, l43h⟩, l44, l45⟩ := id hL
  have g1 := l1 i
  have g2 := l2 i
  have hpc := pow2c hc
  have hi24 : i < 24 := by omega
  refine r_aload_n C dL_proves_222 rfl ?_
  refine r_iload C dL_proves_223 rfl ?_
  refine r_iload C dL_proves_225 rfl ?_
  refine r_if_eqB (tgt := 253) C dL_proves_227 (by decide) (fun h227 => ?_) (fun h227 => ?_)
  · exact absurd h227 (by decide)
  · refine r_aload_n C dL_proves_230 rfl ?_
    refine r_iload C dL_proves_231 rfl ?_
    refine al_m_q C hh (by omega) dL_proves_233 ?_
    refine r_iconst C (nI 3) dL_proves_234 rfl ?_
    refine r_iconst C (nI 2) dL_proves_235 rfl ?_
    refine r_iload C dL_proves_236 rfl ?_
    refine r_imulN C dL_proves_238 ?_
    refine r_ishlN C dL_proves_239 (by omega) (by omega) ?_
    refine r_iconst C (nI 4294967295) dL_proves_240 rfl ?_
    refine r_ixorN C dL_proves_241 ?_
    refine r_iandN C dL_proves_242 ?_
    refine r_iconst C (nI 1) dL_proves_243 rfl ?_
    refine r_iconst C (nI 2) dL_proves_244 rfl ?_
    refine r_iload C dL_proves_245 rfl ?_
    refine r_imulN C dL_proves_247 ?_
    refine r_ishlN C dL_proves_248 (by omega) (by omega) ?_
    rw [Nat.one_mul]
    refine r_iorN C dL_proves_249 ?_
    refine r_goto (tgt := 257) C dL_proves_250 (by decide) ?_
    refine as_m_q C hh (by omega) dL_proves_257 (fun H locs hh => ?_)
    obtain ⟨d1, d2⟩ := pv_dg (M 2 i 0) g2 c hc
    have h' : RZ n P (pvR R (pg R i) c) (rs M 2 (u1 (M 2) i (M 2 i 0 &&& (3 * 2 ^ (2 * c) ^^^ 4294967295) ||| 2 ^ (2 * c)))) := RZ_pf h hi hc (v := 1) (by decide) (fun _ => ?_) d1 d2
    · exact s_prv258t hi hc jb ab hI hj h' C E hh
    · unfold pvC at hj
      rw [Bool.and_eq_true, Bool.and_eq_true] at hj
      exact hj.1.1

set_option maxHeartbeats 4000000 in
set_option maxRecDepth 100000 in
theorem s_prv222f {X9 : fX} {Γ : fG} {B0 : Nat} {ad : Nat → Nat → Nat} {P R M : fR} {n : Nat} (h : RZ n P R M) {i c : Nat} (hi : i < R 0 0 0) (hc : c < 4) (jb ab : Bool) (hj : pvC R (pg R i) c = false) {H : Heap} {locs : List Loc} (C : f_C X9 Γ B0 RL cL_proves 15 9 9 54 159) (E : f_E X9 Γ B0 (some .boolean) 9 54 (f_rI (fun r9 w9 => r9 = bI true ∧ ACT0 Γ ad n (R 0 0 0) w9)) f_no) (hh : f_HS Γ B0 (wj (fw Γ ad P) (xw Γ ad R) (mw Γ ad M)) X9 H locs) : f_W X9 H locs 0 0 222 [some (.ref (ad 1 0)), some (.ref (ad 30 1)), some (.ref (ad 30 2)), some (.ref (ad 30 3)), some (.ref (ad 30 4)), some (.int (nI (i))), some (.int (nI (c))), some (.int (bI (jb))), some (.int (bI (ab))), none, none, some (.int (bI (false))), some (.int (nI (0))), none, none] [] := by
  have hF := rl_fi h
  have hI := rl_xi h
  have hL := rl_li h
  have h64 := rl_64 h
  have h24 := rl_24 h
  have e0 := rl_0 h
  have hsh := FI_sh (R := R) hF h64
  have esh := rl_sh h
  have hs6 := shL_6 hL
  obtain ⟨l1, l2, l3, l40, l41, l42, ⟨l43, l43h⟩, l44, l45⟩ := id hL
  have g1 := l1 i
  have g2 := l2 i
  have hpc := pow2c hc
  have hi24 : i < 24 := by omega
  refine r_aload_n C dL_proves_222 rfl ?_
  refine r_iload C dL_proves_223 rfl ?_
  refine r_iload C dL_proves_225 rfl ?_
  refine r_if_eqB (tgt := 253) C dL_proves_227 (by decide) (fun h227 => ?_) (fun h227 => ?_)
  · refine r_aload_n C dL_proves_253 rfl ?_
    refine r_iload C dL_proves_254 rfl ?_
    refine al_m_q C hh (by omega) dL_proves_256 ?_
    refine as_m_q C hh (by omega) dL_proves_257 (fun H locs hh => ?_)
    exact s_prv258f h hi hc jb ab hj C E (hs_mw hh (fun _ => rfl) (fun k => by show u1 (M 2) i (M 2 i 0) k 0 = M 2 k 0; unfold u1; split <;> simp_all) (fun _ => rfl) (fun _ => rfl) (fun _ => rfl) rfl)
  · exact absurd h227 (by decide)

set_option maxHeartbeats 4000000 in
set_option maxRecDepth 100000 in
theorem s_prv145 {X9 : fX} {Γ : fG} {B0 : Nat} {ad : Nat → Nat → Nat} {P R M : fR} {n : Nat} (h : RZ n P R M) {i c : Nat} (hi : i < R 0 0 0) (hc : c < 4) (jb ab : Bool) {H : Heap} {locs : List Loc} (C : f_C X9 Γ B0 RL cL_proves 15 9 9 54 159) (E : f_E X9 Γ B0 (some .boolean) 9 54 (f_rI (fun r9 w9 => r9 = bI true ∧ ACT0 Γ ad n (R 0 0 0) w9)) f_no) (hh : f_HS Γ B0 (wj (fw Γ ad P) (xw Γ ad R) (mw Γ ad M)) X9 H locs) : f_W X9 H locs 0 0 145 [some (.ref (ad 1 0)), some (.ref (ad 30 1)), some (.ref (ad 30 2)), some (.ref (ad 30 3)), some (.ref (ad 30 4)), some (.int (nI (i))), some (.int (nI (c))), some (.int (bI (jb))), some (.int (bI (ab))), some (.int (bI (tb (M 1 i 0) (8 + c)))), some (.int (nI (dg (M 2 i 0) c))), none, none, none, none] [] := by
  have hF := rl_fi h
  have hI := rl_xi h
  have hL := rl_li h
  have h64 := rl_64 h
  have h24 := rl_24 h
  have e0 := rl_0 h
  have hsh := FI_sh (R := R) hF h64
  have esh := rl_sh h
  have hs6 := shL_6 hL
  obtain ⟨l1, l2, l3, l40, l41, l42, ⟨l43, l43h⟩, l44, l45⟩ := id hL
  have g1 := l1 i
  have g2 := l2 i
  have hpc := pow2c hc
  have hi24 : i < 24 := by omega
  refine r_iload C dL_proves_145 rfl ?_
  have jn166 : ∀ (b : Bool), (tb (M 1 i 0) (8 + c) && (decide (dg (M 2 i 0) c = 0) || decide (dg (M 2 i 0) c = 3))) = b → f_W X9 H locs 0 0 166 [some (.ref (ad 1 0)), some (.ref (ad 30 1)), some (.ref (ad 30 2)), some (.ref (ad 30 3)), some (.ref (ad 30 4)), some (.int (nI (i))), some (.int (nI (c))), some (.int (bI (jb))), some (.int (bI (ab))), none, none, none, none, none, none] [.int (bI b)] := by
    intro b hS
    refine r_istore C dL_proves_166 rfl rfl ?_
    refine r_iconst C (nI 0) dL_proves_168 rfl ?_
    refine r_istore C dL_proves_169 rfl rfl ?_
    have lp171 : ∀ (d9 : Nat) (k : Nat) (H : Heap) (locs : List Loc), 8 - k < d9 → k ≤ 8 → f_HS Γ B0 (wj (fw Γ ad P) (xw Γ ad R) (mw Γ ad M)) X9 H locs → f_W X9 H locs 0 0 171 [some (.ref (ad 1 0)), some (.ref (ad 30 1)), some (.ref (ad 30 2)), some (.ref (ad 30 3)), some (.ref (ad 30 4)), some (.int (nI (i))), some (.int (nI (c))), some (.int (bI (jb))), some (.int (bI (ab))), none, none, some (.int (bI ((tb (M 1 i 0) (8 + c) && (decide (dg (M 2 i 0) c = 0) || decide (dg (M 2 i 0) c = 3))) && afL M i k))), some (.int (nI (k))), none, none] [] := by
      intro d9
      induction d9 with
      | zero => intro k H locs hd9 hk9 hh; exact absurd hd9 (Nat.not_lt_zero _)
      | succ d9 ih171 =>
        intro k H locs hd9 hk9 hh
        refine r_iload C dL_proves_171 rfl ?_
        refine r_bipush C (nI 8) dL_proves_173 rfl ?_
        refine r_icmp_geN (tgt := 219) C dL_proves_175 (by decide) (by omega) (by omega) (fun h175 => ?_) (fun h175 => ?_)
        · obtain rfl : k = 8 := by omega
          refine r_iconst C (nI 0) dL_proves_219 rfl ?_
          refine r_istore C dL_proves_220 rfl rfl ?_
          have hcan := pvC_law h hi hc
          by_cases hj : pvC R (pg R i) c = true
          · have e9 : ((tb (M 1 i 0) (8 + c) && (decide (dg (M 2 i 0) c = 0) || decide (dg (M 2 i 0) c = 3))) && afL M i 8) = true := hcan.symm.trans hj
            rw [e9]
            refine f_W.le ?_ (s_prv222t h hi hc jb ab hj C E hh)
            exact (And.intro rfl (And.intro rfl (And.intro rfl (And.intro rfl (And.intro rfl (And.intro rfl (And.intro rfl (And.intro rfl (And.intro rfl (And.intro rfl (And.intro rfl trivial)))))))))))
          · have hj2 := Bool.eq_false_iff.mpr hj
            have e9 : ((tb (M 1 i 0) (8 + c) && (decide (dg (M 2 i 0) c = 0) || decide (dg (M 2 i 0) c = 3))) && afL M i 8) = false := hcan.symm.trans hj2
            rw [e9]
            refine f_W.le ?_ (s_prv222f h hi hc jb ab hj2 C E hh)
            exact (And.intro rfl (And.intro rfl (And.intro rfl (And.intro rfl (And.intro rfl (And.intro rfl (And.intro rfl (And.intro rfl (And.intro rfl (And.intro rfl (And.intro rfl trivial)))))))))))
        · refine r_iload C dL_proves_178 rfl ?_
          have jn211 : ∀ (b2 : Bool), ((tb (M 1 i 0) (8 + c) && (decide (dg (M 2 i 0) c = 0) || decide (dg (M 2 i 0) c = 3))) && afL M i (k + 1)) = b2 → ∀ (H : Heap) (locs : List Loc), f_HS Γ B0 (wj (fw Γ ad P) (xw Γ ad R) (mw Γ ad M)) X9 H locs → f_W X9 H locs 0 0 211 [some (.ref (ad 1 0)), some (.ref (ad 30 1)), some (.ref (ad 30 2)), some (.ref (ad 30 3)), some (.ref (ad 30 4)), some (.int (nI (i))), some (.int (nI (c))), some (.int (bI (jb))), some (.int (bI (ab))), none, none, none, some (.int (nI (k))), none, none] [.int (bI b2)] := by
            intro b2 hS2 H locs hh
            subst hS2
            refine r_istore C dL_proves_211 rfl rfl ?_
            refine r_iincN C dL_proves_213 rfl rfl ?_
            refine r_goto (tgt := 171) C dL_proves_216 (by decide) ?_
            refine f_W.le ?_ (ih171 (k + 1) _ _ (by omega) (by omega) hh)
            exact (And.intro rfl (And.intro rfl (And.intro rfl (And.intro rfl (And.intro rfl (And.intro rfl (And.intro rfl (And.intro rfl (And.intro rfl (And.intro rfl (And.intro rfl trivial)))))))))))
          refine r_if_eqB (tgt := 210) C dL_proves_180 (by decide) (fun h180 => ?_) (fun h180 => ?_)
          · refine r_iconst C (bI false) dL_proves_210 rfl ?_
            refine f_W.le ?_ (jn211 _ (by show (((tb (M 1 i 0) (8 + c) && (decide (dg (M 2 i 0) c = 0) || decide (dg (M 2 i 0) c = 3))) && afL M i (k + 1))) = _; show ((tb (M 1 i 0) (8 + c) && (decide (dg (M 2 i 0) c = 0) || decide (dg (M 2 i 0) c = 3))) && (afL M i k && (decide (M 1 i 0 / 2 ^ k &&& 1 = 0) || mayL M k))) = _; rw [← Bool.and_assoc]; first | (rw [h180]; rfl) | (rw [h180, decide_eq_true h192]; rfl) | (rw [h180, h203, decide_eq_false h192]; rfl)) _ _ hh)
            exact (And.intro rfl (And.intro rfl (And.intro rfl (And.intro rfl (And.intro rfl (And.intro rfl (And.intro rfl (And.intro rfl (And.intro rfl (And.intro rfl trivial))))))))))
          · refine r_aload_n C dL_proves_183 rfl ?_
            refine r_iload C dL_proves_184 rfl ?_
            refine al_m_p C hh (by omega) dL_proves_186 ?_
            refine r_iload C dL_proves_187 rfl ?_
            refine r_ishrN C dL_proves_189 (by omega) (by omega) ?_
            refine r_iconst C (nI 1) dL_proves_190 rfl ?_
            refine r_iandN C dL_proves_191 ?_
            refine r_if_eqN (tgt := 206) C dL_proves_192 (by decide) (Nat.lt_of_le_of_lt Nat.and_le_right (by decide)) (fun h192 => ?_) (fun h192 => ?_)
            · refine r_iconst C (bI true) dL_proves_206 rfl ?_
              refine r_goto (tgt := 211) C dL_proves_207 (by decide) ?_
              refine f_W.le ?_ (jn211 _ (by show (((tb (M 1 i 0) (8 + c) && (decide (dg (M 2 i 0) c = 0) || decide (dg (M 2 i 0) c = 3))) && afL M i (k + 1))) = _; show ((tb (M 1 i 0) (8 + c) && (decide (dg (M 2 i 0) c = 0) || decide (dg (M 2 i 0) c = 3))) && (afL M i k && (decide (M 1 i 0 / 2 ^ k &&& 1 = 0) || mayL M k))) = _; rw [← Bool.and_assoc]; first | (rw [h180]; rfl) | (rw [h180, decide_eq_true h192]; rfl) | (rw [h180, h203, decide_eq_false h192]; rfl)) _ _ hh)
              exact (And.intro rfl (And.intro rfl (And.intro rfl (And.intro rfl (And.intro rfl (And.intro rfl (And.intro rfl (And.intro rfl (And.intro rfl (And.intro rfl trivial))))))))))
            · refine r_aload_n C dL_proves_195 rfl ?_
              refine r_aload C dL_proves_196 rfl ?_
              refine r_iload C dL_proves_198 rfl ?_
              refine r_callS C E hh (c_L_may E.2.1 Γ B0 ad M (fw Γ ad P) (xw Γ ad R) k (by omega) hL) lk_L_94 rfl rfl (Nat.le_of_ble_eq_true rfl) dL_proves_200 ⟨by decide, by decide⟩ ⟨by omega, by omega⟩ (fun _ _ z9 => False.elim z9) (kk_is (fun H locs hs9 hh => ?_))
              refine r_if_eqB (tgt := 210) C dL_proves_203 (by decide) (fun h203 => ?_) (fun h203 => ?_)
              · refine r_iconst C (bI false) dL_proves_210 rfl ?_
                refine f_W.le ?_ (jn211 _ (by show (((tb (M 1 i 0) (8 + c) && (decide (dg (M 2 i 0) c = 0) || decide (dg (M 2 i 0) c = 3))) && afL M i (k + 1))) = _; show ((tb (M 1 i 0) (8 + c) && (decide (dg (M 2 i 0) c = 0) || decide (dg (M 2 i 0) c = 3))) && (afL M i k && (decide (M 1 i 0 / 2 ^ k &&& 1 = 0) || mayL M k))) = _; rw [← Bool.and_assoc]; first | (rw [h180]; rfl) | (rw [h180, decide_eq_true h192]; rfl) | (rw [h180, h203, decide_eq_false h192]; rfl)) _ _ hh)
                exact (And.intro rfl (And.intro rfl (And.intro rfl (And.intro rfl (And.intro rfl (And.intro rfl (And.intro rfl (And.intro rfl (And.intro rfl (And.intro rfl trivial))))))))))
              · refine r_iconst C (bI true) dL_proves_206 rfl ?_
                refine r_goto (tgt := 211) C dL_proves_207 (by decide) ?_
                refine f_W.le ?_ (jn211 _ (by show (((tb (M 1 i 0) (8 + c) && (decide (dg (M 2 i 0) c = 0) || decide (dg (M 2 i 0) c = 3))) && afL M i (k + 1))) = _; show ((tb (M 1 i 0) (8 + c) && (decide (dg (M 2 i 0) c = 0) || decide (dg (M 2 i 0) c = 3))) && (afL M i k && (decide (M 1 i 0 / 2 ^ k &&& 1 = 0) || mayL M k))) = _; rw [← Bool.and_assoc]; first | (rw [h180]; rfl) | (rw [h180, decide_eq_true h192]; rfl) | (rw [h180, h203, decide_eq_false h192]; rfl)) _ _ hh)
                exact (And.intro rfl (And.intro rfl (And.intro rfl (And.intro rfl (And.intro rfl (And.intro rfl (And.intro rfl (And.intro rfl (And.intro rfl (And.intro rfl trivial))))))))))
    have w9 := lp171 9 0 H locs (by omega) (by omega) hh
    rw [show ((tb (M 1 i 0) (8 + c) && (decide (dg (M 2 i 0) c = 0) || decide (dg (M 2 i 0) c = 3))) && afL M i 0) = b from by rw [← hS]; exact Bool.and_true _] at w9
    refine f_W.le ?_ (w9)
    exact (And.intro rfl (And.intro rfl (And.intro rfl (And.intro rfl (And.intro rfl (And.intro rfl (And.intro rfl (And.intro rfl (And.intro rfl (And.intro rfl (And.intro rfl trivial)))))))))))
  refine r_if_eqB (tgt := 165) C dL_proves_147 (by decide) (fun h147 => ?_) (fun h147 => ?_)
  · refine r_iconst C (bI false) dL_proves_165 rfl ?_
    refine f_W.le ?_ (jn166 _ (by first | (rw [h147]; rfl) | (rw [h147, decide_eq_true h152]; rfl) | (rw [h147, decide_eq_true h158, Bool.or_true]; rfl) | (rw [h147, decide_eq_false h152, decide_eq_false h158]; rfl)))
    exact (And.intro rfl (And.intro rfl (And.intro rfl (And.intro rfl (And.intro rfl (And.intro rfl (And.intro rfl (And.intro rfl (And.intro rfl trivial)))))))))
  · refine r_iload C dL_proves_150 rfl ?_
    refine r_if_eqN (tgt := 161) C dL_proves_152 (by decide) (Nat.lt_of_le_of_lt Nat.and_le_right (by decide)) (fun h152 => ?_) (fun h152 => ?_)
    · refine r_iconst C (bI true) dL_proves_161 rfl ?_
      refine r_goto (tgt := 166) C dL_proves_162 (by decide) ?_
      refine f_W.le ?_ (jn166 _ (by first | (rw [h147]; rfl) | (rw [h147, decide_eq_true h152]; rfl) | (rw [h147, decide_eq_true h158, Bool.or_true]; rfl) | (rw [h147, decide_eq_false h152, decide_eq_false h158]; rfl)))
      exact (And.intro rfl (And.intro rfl (And.intro rfl (And.intro rfl (And.intro rfl (And.intro rfl (And.intro rfl (And.intro rfl (And.intro rfl trivial)))))))))
    · refine r_iload C dL_proves_155 rfl ?_
      refine r_iconst C (nI 3) dL_proves_157 rfl ?_
      refine r_icmp_neN (tgt := 165) C dL_proves_158 (by decide) (Nat.lt_of_le_of_lt Nat.and_le_right (by decide)) (by omega) (fun h158 => ?_) (fun h158 => ?_)
      · refine r_iconst C (bI false) dL_proves_165 rfl ?_
        refine f_W.le ?_ (jn166 _ (by first | (rw [h147]; rfl) | (rw [h147, decide_eq_true h152]; rfl) | (rw [h147, decide_eq_true h158, Bool.or_true]; rfl) | (rw [h147, decide_eq_false h152, decide_eq_false h158]; rfl)))
        exact (And.intro rfl (And.intro rfl (And.intro rfl (And.intro rfl (And.intro rfl (And.intro rfl (And.intro rfl (And.intro rfl (And.intro rfl trivial)))))))))
      · refine r_iconst C (bI true) dL_proves_161 rfl ?_
        refine r_goto (tgt := 166) C dL_proves_162 (by decide) ?_
        refine f_W.le ?_ (jn166 _ (by first | (rw [h147]; rfl) | (rw [h147, decide_eq_true h152]; rfl) | (rw [h147, decide_eq_true h158, Bool.or_true]; rfl) | (rw [h147, decide_eq_false h152, decide_eq_false h158]; rfl)))
        exact (And.intro rfl (And.intro rfl (And.intro rfl (And.intro rfl (And.intro rfl (And.intro rfl (And.intro rfl (And.intro rfl (And.intro rfl trivial)))))))))

set_option maxHeartbeats 4000000 in
set_option maxRecDepth 100000 in
theorem c_L_proves {l : Launch} (hl : l.stackTraces = false) (Γ : fG) (B0 : Nat) (ad : Nat → Nat → Nat) (P R M : fR) (n : Nat) (h : RZ n P R M) (i c : Nat) (hi : i < R 0 0 0) (hc : c < 4) (jb ab : Bool) : f_Met l yL_proves cL_proves 15 (some .boolean) 9 9 54 159 Γ B0 [.ref (ad 1 0), .ref (ad 30 1), .ref (ad 30 2), .ref (ad 30 3), .ref (ad 30 4), .int (nI (i)), .int (nI (c)), .int (bI (jb)), .int (bI (ab))] (wj (fw Γ ad P) (xw Γ ad R) (mw Γ ad M)) (f_rI (fun r9 w9 => r9 = bI true ∧ ACT0 Γ ad n (R 0 0 0) w9)) f_no := by
  refine f_of hl (by decide) rfl (Nat.le_of_ble_eq_true rfl) (fun X9 C E hh hnm => ?_)
  generalize (f_s X9).heap = H, ([] : List Loc) = locs at hh ⊢
  have hF := rl_fi h
  have hI := rl_xi h
  have hL := rl_li h
  have h64 := rl_64 h
  have h24 := rl_24 h
  have e0 := rl_0 h
  have hsh := FI_sh (R := R) hF h64
  have esh := rl_sh h
  have hs6 := shL_6 hL
  obtain ⟨l1, l2, l3, l40, l41, l42, ⟨l43, l43h⟩, l44, l45⟩ := id hL
  have g1 := l1 i
  have g2 := l2 i
  have hpc := pow2c hc
  have hi24 : i < 24 := by omega
  refine r_aload_n C dL_proves_0 rfl ?_
  refine r_iload C dL_proves_1 rfl ?_
  refine al_m_p C hh (by omega) dL_proves_3 ?_
  refine r_bipush C (nI 8) dL_proves_4 rfl ?_
  refine r_iload C dL_proves_6 rfl ?_
  refine r_iaddN C dL_proves_8 ?_
  refine r_ishrN C dL_proves_9 (by omega) (by omega) ?_
  refine r_iconst C (nI 1) dL_proves_10 rfl ?_
  refine r_iandN C dL_proves_11 ?_
  refine r_iconst C (nI 1) dL_proves_12 rfl ?_
  have jn21 : ∀ (b : Bool), tb (M 1 i 0) (8 + c) = b → f_W X9 H locs 0 0 21 [some (.ref (ad 1 0)), some (.ref (ad 30 1)), some (.ref (ad 30 2)), some (.ref (ad 30 3)), some (.ref (ad 30 4)), some (.int (nI (i))), some (.int (nI (c))), some (.int (bI (jb))), some (.int (bI (ab))), none, none, none, none, none, none] [.int (bI b)] := by
    intro b hb
    subst hb
    refine r_istore C dL_proves_21 rfl rfl ?_
    refine r_aload_n C dL_proves_23 rfl ?_
    refine r_iload C dL_proves_24 rfl ?_
    refine al_m_q C hh (by omega) dL_proves_26 ?_
    refine r_iconst C (nI 2) dL_proves_27 rfl ?_
    refine r_iload C dL_proves_28 rfl ?_
    refine r_imulN C dL_proves_30 ?_
    refine r_ishrN C dL_proves_31 (by omega) (by omega) ?_
    refine r_iconst C (nI 3) dL_proves_32 rfl ?_
    refine r_iandN C dL_proves_33 ?_
    refine r_istore C dL_proves_34 rfl rfl ?_
    refine r_iload C dL_proves_36 rfl ?_
    refine r_if_eqB (tgt := 145) C dL_proves_38 (by decide) (fun h38 => ?_) (fun h38 => ?_)
    · exact s_prv145 h hi hc jb ab C E hh
    · refine r_iload C dL_proves_41 rfl ?_
      refine r_iconst C (nI 1) dL_proves_43 rfl ?_
      refine r_icmp_neN (tgt := 69) C dL_proves_44 (by decide) (Nat.lt_of_le_of_lt Nat.and_le_right (by decide)) (by omega) (fun h44 => ?_) (fun h44 => ?_)
      · refine f_W.le ?_ (s_prv69 h hi hc jb ab h44 C E hh)
        exact (And.intro rfl (And.intro rfl (And.intro rfl (And.intro rfl (And.intro rfl (And.intro rfl (And.intro rfl (And.intro rfl (And.intro rfl (And.intro rfl trivial))))))))))
      · refine f_W.le ?_ (s_prv47 h hi hc jb ab h44 C E hh)
        exact (And.intro rfl (And.intro rfl (And.intro rfl (And.intro rfl (And.intro rfl (And.intro rfl (And.intro rfl (And.intro rfl (And.intro rfl (And.intro rfl trivial))))))))))
  refine r_icmp_neN (tgt := 20) C dL_proves_13 (by decide) (Nat.lt_of_le_of_lt Nat.and_le_right (by decide)) (by omega) (fun h13 => ?_) (fun h13 => ?_)
  · refine r_iconst C (bI false) dL_proves_20 rfl ?_
    exact jn21 _ (by first | (rw [← b_2]; exact decide_eq_true h13) | (rw [← b_2]; exact decide_eq_false h13))
  · refine r_iconst C (bI true) dL_proves_16 rfl ?_
    refine r_goto (tgt := 21) C dL_proves_17 (by decide) ?_
    exact jn21 _ (by first | (rw [← b_2]; exact decide_eq_true h13) | (rw [← b_2]; exact decide_eq_false h13))

