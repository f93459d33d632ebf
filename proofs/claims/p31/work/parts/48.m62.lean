/-! ===== each page is laid once: areLaid ===== -/
theorem W_is {l : Launch} {y : MethodName} {cc : ByteArray} {nL : Nat} {ret : Option FieldType} {hs : List (Nat × Nat × Nat × Nat)} {fr mc ms lo : Nat} {Γ : fG} {B0 : Nat} {args : List Value} {w w2 : fV} {a b : Int32} (h : f_MetW l y cc nL ret hs fr mc ms lo Γ B0 args w (f_rI (fun r9 w9 => r9 = a ∧ w9 = w2))) (e : a = b) : f_MetW l y cc nL ret hs fr mc ms lo Γ B0 args w (f_is b w2) :=
  h.mono (fun v w' hp => by
    obtain ⟨r, rfl, e1, rfl⟩ := hp
    exact ⟨by rw [e1, e], rfl⟩)
theorem not_rg {x n : Nat} (h : n ≤ x) (hx : x < 2 ^ 31) : ¬ rg (nI x) n := fun z => absurd ((nI_ltI hx (by omega)).mp z.2) (by omega)
theorem not_rg_m {n : Nat} : ¬ rg (-1) n := fun z => absurd z.1 (by decide)
theorem bI_tb (a s : Nat) : nI (a / 2 ^ s &&& 1) = bI (tb a s) := by
  rw [tb_2, Nat.and_one_is_mod]
  have h := Nat.mod_lt (a / 2 ^ s) (show 0 < 2 by decide)
  by_cases z : a / 2 ^ s % 2 = 1
  · rw [z, decide_eq_true rfl]; rfl
  · rw [decide_eq_false z, show a / 2 ^ s % 2 = 0 by omega]; rfl
theorem face_ok : ∀ f, f < 32 → (f % 2 * 16 + f / 2) / 16 = f % 2 ∧ (f % 2 * 16 + f / 2) % 16 = f / 2 ∧ (f % 2 * 16 + f / 2) < 32 ∧ ((f / 2 * 2 + (1 - f % 2)) % 2 * 16 + (f / 2 * 2 + (1 - f % 2)) / 2) = (f % 2 * 16 + f / 2) ^^^ 16 ∧ (f / 2 * 2 + (1 - f % 2)) / 2 = f / 2 := by decide
theorem xor1 (a : Nat) : a ^^^ 1 = if a % 2 = 0 then a + 1 else a - 1 := by
  have h1 : (a ^^^ 1) / 2 = a / 2 ^^^ 1 / 2 := Nat.xor_div_two
  rw [show (1 : Nat) / 2 = 0 from rfl, Nat.xor_zero] at h1
  have h2 : (a ^^^ 1) % 2 = a % 2 ^^^ 1 % 2 := by
    have h := Nat.xor_mod_two_pow (a := a) (b := 1) (n := 1)
    rw [Nat.pow_one] at h
    exact h
  rcases Nat.mod_two_eq_zero_or_one a with z | z
  · rw [z, show (0 ^^^ 1 % 2 : Nat) = 1 from rfl] at h2
    rw [if_pos z]; omega
  · rw [z, show (1 ^^^ 1 % 2 : Nat) = 0 from rfl] at h2
    rw [if_neg (by omega)]; omega
/-- where the page at place k lies -/
theorem lay_ok {n : Nat} {P R M : fR} (h : RZ n P R M) {k : Nat} (hk : k < R 0 0 0) : ∃ f, P 7 (k % pgs P) 0 = f ∧ f < 32 ∧ P 6 f 0 = k % pgs P ∧ P 6 (f / 2 * 2 + (1 - f % 2)) 0 = (k % pgs P) ^^^ 1 ∧ (f / 2 / P 3 0 0 < P 2 0 0 ∧ f / 2 % P 3 0 0 < P 3 0 0 ∧ f / 2 / P 3 0 0 * P 3 0 0 + f / 2 % P 3 0 0 = f / 2 ∧ f / 2 < 2 ^ P 0 0 0) ∧ k / pgs P < shc P R ∧ k / pgs P * pgs P + k % pgs P = k ∧ (k % 2 = 1 → P 7 ((k - 1) % pgs P) 0 = f / 2 * 2 + (1 - f % 2)) := by
  have hF := rl_fi h
  have hpg := FI_pg hF
  have hrc := FI_rc hF
  have hm := Nat.mod_lt k (show 0 < pgs P by omega)
  have hdm := Nat.div_add_mod k (pgs P)
  obtain ⟨f1, f2, f3⟩ := rl_fp h
  obtain ⟨g1, g2, g3, g4⟩ := f2 (k % pgs P) hm
  have e2 : k % pgs P % 2 = k % 2 := by rw [hpg.2.2, Nat.mod_mul_right_mod]
  have hfl : ∀ x, flp x = x / 2 * 2 + (1 - x % 2) := fun x => rfl
  refine ⟨_, rfl, by omega, g4, ?_, ⟨?_, Nat.mod_lt _ (by omega), by rw [Nat.mul_comm]; exact Nat.div_add_mod _ _, by omega⟩, ?_, by rw [Nat.mul_comm]; exact hdm, fun ho => ?_⟩
  · rw [← hfl, xor1]
    by_cases z : k % pgs P % 2 = 0
    · rw [if_pos z]
      have a1 := f3 (k % pgs P / 2) (by omega)
      rw [show 2 * (k % pgs P / 2) = k % pgs P by omega] at a1
      rw [← a1]
      exact (f2 (k % pgs P + 1) (by omega)).2.2.2
    · rw [if_neg z]
      have a1 := f3 (k % pgs P / 2) (by omega)
      rw [show 2 * (k % pgs P / 2) + 1 = k % pgs P by omega, show 2 * (k % pgs P / 2) = k % pgs P - 1 by omega] at a1
      have a2 : flp (P 7 (k % pgs P) 0) = P 7 (k % pgs P - 1) 0 := by rw [a1, hfl, hfl]; omega
      rw [a2]
      exact (f2 (k % pgs P - 1) (by omega)).2.2.2
  · rw [Nat.div_lt_iff_lt_mul (by omega), hF.2.2.2.1]
    omega
  · have e : shc P R = (R 0 0 0 + pgs P - 1) / pgs P := rfl
    rw [e, Nat.lt_div_iff_mul_lt (by omega), Nat.mul_comm]
    omega
  · rw [← hfl]
    have z : k % pgs P % 2 = 1 := by omega
    have a1 := f3 (k % pgs P / 2) (by omega)
    rw [show 2 * (k % pgs P / 2) + 1 = k % pgs P by omega, show 2 * (k % pgs P / 2) = k % pgs P - 1 by omega] at a1
    have a3 : (k - 1) % pgs P = k % pgs P - 1 := by
      have : k - 1 = k / pgs P * pgs P + (k % pgs P - 1) := by rw [Nat.mul_comm]; omega
      rw [this, Nat.mul_comm, Nat.mul_add_mod, Nat.mod_eq_of_lt (by omega)]
    rw [a3, a1, hfl, hfl]; omega

theorem L_leafOf_k {l : Launch} (hl : l.stackTraces = false) (Γ : fG) (B0 : Nat) (ad : Nat → Nat → Nat) {P R M : fR} {n : Nat} (h : RZ n P R M) (k : Nat) (hk : k < R 0 0 0) : f_MetW l yL_leafOf cL_leafOf 3 (some .int) [(0, 5, 6, 16)] 8 1 6 133 Γ B0 [.ref (ad 1 0), .int (nI k)] (wj (fw Γ ad P) (xw Γ ad R) (mw Γ ad M)) (f_is (nI (P 7 (k % pgs P) 0 % 2 * 16 + P 7 (k % pgs P) 0 / 2)) (wj (fw Γ ad P) (xw Γ ad R) (mw Γ ad M))) :=
  W_is (n_leafOf hl Γ B0 ad P R (mw Γ ad M) _ (rl_fi h) (rl_64 h) (rg_N hk (by have := rl_24 h; omega))) (by have := rl_24 h; rw [xN_nI (by omega)])
theorem L_edition_k {l : Launch} (hl : l.stackTraces = false) (Γ : fG) (B0 : Nat) (ad : Nat → Nat → Nat) {P R M : fR} {n : Nat} (h : RZ n P R M) (k : Nat) (hk : k < R 0 0 0) : f_MetW l yL_edition cL_edition 3 (some .int) [(0, 5, 6, 16)] 8 1 6 132 Γ B0 [.ref (ad 1 0), .int (nI k)] (wj (fw Γ ad P) (xw Γ ad R) (mw Γ ad M)) (f_is (nI (M 1 k 0 / 4096)) (wj (fw Γ ad P) (xw Γ ad R) (mw Γ ad M))) :=
  W_is (n_edition hl Γ B0 ad R (fw Γ ad P) (mw Γ ad M) _ (rl_xi h) (rg_N hk (by have := rl_24 h; omega))) (by have := rl_24 h; rw [xN_nI (by omega), (rl_p h).2 k hk, pk_15 (rl_xi h)]; rfl)
theorem L_isTurned_k {l : Launch} (hl : l.stackTraces = false) (Γ : fG) (B0 : Nat) (ad : Nat → Nat → Nat) {P R M : fR} {n : Nat} (h : RZ n P R M) (k : Nat) (hk : k < R 0 0 0) : f_MetW l yL_isTurned cL_isTurned 3 (some .int) [(0, 13, 14, 16)] 8 1 6 132 Γ B0 [.ref (ad 1 0), .int (nI k)] (wj (fw Γ ad P) (xw Γ ad R) (mw Γ ad M)) (f_is (bI (zB (P 5 (P 7 (k % pgs P) 0 / 2) 0))) (wj (fw Γ ad P) (xw Γ ad R) (mw Γ ad M))) :=
  W_is (n_isTurned hl Γ B0 ad P R (mw Γ ad M) _ (rl_fi h) (rl_64 h) (rg_N hk (by have := rl_24 h; omega))) (by have := rl_24 h; rw [xN_nI (by omega)])
theorem L_proof_k {l : Launch} (hl : l.stackTraces = false) (Γ : fG) (B0 : Nat) (ad : Nat → Nat → Nat) {P R M : fR} {n : Nat} (h : RZ n P R M) (k : Nat) (hk : k < R 0 0 0) (c : Nat) (hc : c < 4) : f_MetW l yL_proof cL_proof 4 (some .int) [(0, 6, 7, 16), (0, 6, 11, 19)] 8 2 12 134 Γ B0 [.ref (ad 1 0), .int (nI k), .int (nI c)] (wj (fw Γ ad P) (xw Γ ad R) (mw Γ ad M)) (f_is (if M 1 k 0 / 2 ^ (8 + c) &&& 1 = 0 then -1 else nI (M 2 k 0 / 2 ^ (2 * c) &&& 3)) (wj (fw Γ ad P) (xw Γ ad R) (mw Γ ad M))) :=
  W_is (n_proof hl Γ B0 ad R (fw Γ ad P) (mw Γ ad M) _ _ (rl_xi h) ⟨rg_N hk (by have := rl_24 h; omega), rg_N hc (by decide)⟩) (by 
    have h24 := rl_24 h
    rw [xN_nI (by omega), xN_nI (by omega), rl_q h k hk, qk_16 (rl_xi h) _ hc]
    have e := b_20 (M 1 k 0) (8 + c)
    rw [(rl_p h).2 k hk, pk_14 (rl_xi h) _ hc] at e
    rw [(rl_p h).2 k hk]
    unfold prf
    show (if tb (R 14 (pg R k) 0) c = true then nI (R 16 (pg R k) c) else -1) = _
    cases z : tb (R 14 (pg R k) 0) c
    · rw [z] at e
      rw [if_neg (by decide), if_pos (of_decide_eq_true e)]
    · rw [z] at e
      rw [if_pos rfl, if_neg (of_decide_eq_false e)])
theorem L_isReady_k {l : Launch} (hl : l.stackTraces = false) (Γ : fG) (B0 : Nat) (ad : Nat → Nat → Nat) {P R M : fR} {n : Nat} (h : RZ n P R M) (s : Nat) (hs : s < shc P R) : f_MetW l yL_isReady cL_isReady 3 (some .int) [(0, 13, 14, 16)] 8 1 6 132 Γ B0 [.ref (ad 1 0), .int (nI s)] (wj (fw Γ ad P) (xw Γ ad R) (mw Γ ad M)) (f_is (bI (afo P R s)) (wj (fw Γ ad P) (xw Γ ad R) (mw Γ ad M))) :=
  W_is (n_isReady hl Γ B0 ad P R (mw Γ ad M) _ (rl_fi h) (rl_xi h) (rg_N hs (by have := FI_sh (rl_fi h) (rl_64 h); omega))) (by have := FI_sh (rl_fi h) (rl_64 h); rw [xN_nI (by omega)])
theorem L_mayUse_k {l : Launch} (hl : l.stackTraces = false) (Γ : fG) (B0 : Nat) (ad : Nat → Nat → Nat) {P R M : fR} {n : Nat} (h : RZ n P R M) (f : Nat) (hf : f < 8) : f_MetW l yL_mayUse cL_mayUse 3 (some .int) [(0, 13, 14, 19)] 8 1 6 131 Γ B0 [.ref (ad 1 0), .int (nI f)] (wj (fw Γ ad P) (xw Γ ad R) (mw Γ ad M)) (f_is (bI (mayL M f)) (wj (fw Γ ad P) (xw Γ ad R) (mw Γ ad M))) :=
  W_is (n_mayUse hl Γ B0 ad R (fw Γ ad P) (mw Γ ad M) _ (rl_xi h) (rg_N hf (by decide))) (by rw [xN_nI (by omega), us_may (rl_g h) hf])
theorem L_pageAt_k {l : Launch} (hl : l.stackTraces = false) (Γ : fG) (B0 : Nat) (ad : Nat → Nat → Nat) {P R M : fR} {n : Nat} (h : RZ n P R M) (k f : Nat) (hk : k < R 0 0 0) (hf : P 7 (k % pgs P) 0 = f) : f_MetW l yL_pageAt cL_pageAt 6 (some .int) [(0, 9, 10, 16), (0, 9, 15, 19)] 9 2 12 160 Γ B0 [.ref (ad 1 0), .int (nI (k / (2 * M 4 3 0))), .int (nI ((f % 2 * 16 + f / 2) / 16)), .int (nI ((f % 2 * 16 + f / 2) % 16 / P 3 0 0)), .int (nI ((f % 2 * 16 + f / 2) % 16 % P 3 0 0))] (wj (fw Γ ad P) (xw Γ ad R) (mw Γ ad M)) (f_is (nI k) (wj (fw Γ ad P) (xw Γ ad R) (mw Γ ad M))) :=
  W_is (n_pageAt hl Γ B0 ad P R (mw Γ ad M) _ _ _ _ (rl_fi h) (rl_64 h) (by
    obtain ⟨f', f0, f1, f2, f3, ⟨f4, f5, f6, f7⟩, f8, f9, -⟩ := lay_ok h hk
    have hff : f' = f := f0.symm.trans hf
    subst hff
    have hrc := FI_rc (rl_fi h)
    have hsh := FI_sh (rl_fi h) (rl_64 h)
    obtain ⟨g1, g2, g3, g4, g5⟩ := face_ok f' f1
    rw [g2, ← rl_w h]
    exact ⟨⟨rg_N f8 (by omega), rg_N f4 (by omega), rg_N f5 (by omega)⟩, by rw [g1]; exact rg_N (Nat.mod_lt _ (by decide)) (by decide)⟩)) (by 
    obtain ⟨f', f0, f1, f2, f3, ⟨f4, f5, f6, f7⟩, f8, f9, -⟩ := lay_ok h hk
    have hff : f' = f := f0.symm.trans hf
    subst hff
    have hrc := FI_rc (rl_fi h)
    have hsh := FI_sh (rl_fi h) (rl_64 h)
    obtain ⟨g1, g2, g3, g4, g5⟩ := face_ok f' f1
    rw [g1, g2, ← rl_w h, xN_nI (by omega), xN_nI (by omega), xN_nI (by omega), xN_nI (by omega), f6, show f' / 2 * 2 + f' % 2 = f' by omega, f2]
    unfold plO
    rw [f9, if_pos hk])
theorem L_pageByRule_k {l : Launch} (hl : l.stackTraces = false) (Γ : fG) (B0 : Nat) (ad : Nat → Nat → Nat) {P R M : fR} {n : Nat} (h : RZ n P R M) (k f : Nat) (hk : k < R 0 0 0) (hf : P 7 (k % pgs P) 0 = f) : f_MetW l yL_pageByRule cL_pageByRule 6 (some .int) [(0, 9, 10, 16), (0, 9, 15, 19)] 9 2 12 159 Γ B0 [.ref (ad 1 0), .int (nI (k / (2 * M 4 3 0))), .int (nI ((f % 2 * 16 + f / 2) / 16)), .int (nI ((f % 2 * 16 + f / 2) % 16 / P 3 0 0)), .int (nI ((f % 2 * 16 + f / 2) % 16 % P 3 0 0))] (wj (fw Γ ad P) (xw Γ ad R) (mw Γ ad M)) (f_is (nI k) (wj (fw Γ ad P) (xw Γ ad R) (mw Γ ad M))) :=
  W_is (n_pageByRule hl Γ B0 ad P R (mw Γ ad M) _ _ _ _ (rl_fj h) (rl_64 h) (by
    obtain ⟨f', f0, f1, f2, f3, ⟨f4, f5, f6, f7⟩, f8, f9, -⟩ := lay_ok h hk
    have hff : f' = f := f0.symm.trans hf
    subst hff
    have hrc := FI_rc (rl_fi h)
    have hsh := FI_sh (rl_fi h) (rl_64 h)
    obtain ⟨g1, g2, g3, g4, g5⟩ := face_ok f' f1
    rw [g2, ← rl_w h]
    exact ⟨⟨rg_N f8 (by omega), rg_N f4 (by omega), rg_N f5 (by omega)⟩, by rw [g1]; exact rg_N (Nat.mod_lt _ (by decide)) (by decide)⟩)) (by 
    obtain ⟨f', f0, f1, f2, f3, ⟨f4, f5, f6, f7⟩, f8, f9, -⟩ := lay_ok h hk
    have hff : f' = f := f0.symm.trans hf
    subst hff
    have hrc := FI_rc (rl_fi h)
    have hsh := FI_sh (rl_fi h) (rl_64 h)
    obtain ⟨g1, g2, g3, g4, g5⟩ := face_ok f' f1
    rw [g1, g2, ← rl_w h, xN_nI (by omega), xN_nI (by omega), xN_nI (by omega), xN_nI (by omega), (rl_fp h).1 _ f7 _ (Nat.mod_lt _ (by decide)), show f' / 2 * 2 + f' % 2 = f' by omega, f2]
    unfold plO
    rw [f9, if_pos hk])
theorem L_pageAt_o {l : Launch} (hl : l.stackTraces = false) (Γ : fG) (B0 : Nat) (ad : Nat → Nat → Nat) {P R M : fR} {n : Nat} (h : RZ n P R M) (k f : Nat) (hk : k < R 0 0 0) (hf : P 7 (k % pgs P) 0 = f) : f_MetW l yL_pageAt cL_pageAt 6 (some .int) [(0, 9, 10, 16), (0, 9, 15, 19)] 9 2 12 160 Γ B0 [.ref (ad 1 0), .int (nI (k / (2 * M 4 3 0))), .int (nI (1 - (f % 2 * 16 + f / 2) / 16)), .int (nI ((f % 2 * 16 + f / 2) % 16 / P 3 0 0)), .int (nI ((f % 2 * 16 + f / 2) % 16 % P 3 0 0))] (wj (fw Γ ad P) (xw Γ ad R) (mw Γ ad M)) (f_is (if k ^^^ 1 < M 4 0 0 then nI (k ^^^ 1) else -1) (wj (fw Γ ad P) (xw Γ ad R) (mw Γ ad M))) :=
  W_is (n_pageAt hl Γ B0 ad P R (mw Γ ad M) _ _ _ _ (rl_fi h) (rl_64 h) (by
    obtain ⟨f', f0, f1, f2, f3, ⟨f4, f5, f6, f7⟩, f8, f9, -⟩ := lay_ok h hk
    have hff : f' = f := f0.symm.trans hf
    subst hff
    have hrc := FI_rc (rl_fi h)
    have hsh := FI_sh (rl_fi h) (rl_64 h)
    obtain ⟨g1, g2, g3, g4, g5⟩ := face_ok f' f1
    rw [g2, ← rl_w h]
    exact ⟨⟨rg_N f8 (by omega), rg_N f4 (by omega), rg_N f5 (by omega)⟩, by rw [g1]; exact rg_N (by omega) (by decide)⟩)) (by 
    obtain ⟨f', f0, f1, f2, f3, ⟨f4, f5, f6, f7⟩, f8, f9, -⟩ := lay_ok h hk
    have hff : f' = f := f0.symm.trans hf
    subst hff
    have hrc := FI_rc (rl_fi h)
    have hsh := FI_sh (rl_fi h) (rl_64 h)
    obtain ⟨g1, g2, g3, g4, g5⟩ := face_ok f' f1
    rw [g1, g2, ← rl_w h, xN_nI (by omega), xN_nI (by omega), xN_nI (by omega), xN_nI (by omega), f6, f3]
    unfold plO
    have hpg := FI_pg (rl_fi h)
    have e : k / pgs P * pgs P + ((k % pgs P) ^^^ 1) = k ^^^ 1 := by
      have e2 : k % pgs P % 2 = k % 2 := by rw [hpg.2.2, Nat.mod_mul_right_mod]
      rw [xor1, xor1, e2]
      split <;> omega
    rw [e, rl_0 h])
set_option maxHeartbeats 4000000 in
set_option maxRecDepth 100000 in
theorem c_L_areLaid {l : Launch} (hl : l.stackTraces = false) (Γ : fG) (B0 : Nat) (ad : Nat → Nat → Nat) (P R M : fR) (n : Nat) (h : RZ n P R M) : f_Met l yL_areLaid cL_areLaid 13 (some .boolean) 10 500 3000 185 Γ B0 [.ref (ad 1 0), .ref (ad 30 1), .ref (ad 30 2), .ref (ad 30 3), .ref (ad 30 4)] (wj (fw Γ ad P) (xw Γ ad R) (mw Γ ad M)) (f_is (bI true) (wj (fw Γ ad P) (xw Γ ad R) (mw Γ ad M))) f_no := by
  refine f_of hl (by decide) rfl (Nat.le_of_ble_eq_true rfl) (fun X9 C E hh hnm => ?_)
  generalize (f_s X9).heap = H, ([] : List Loc) = locs at hh ⊢
  have hF := rl_fi h
  have hI := rl_xi h
  have hL := rl_li h
  have h64 := rl_64 h
  have h24 := rl_24 h
  have e0 := rl_0 h
  have hsh := FI_sh (R := R) hF h64
  have esh := rl_sh h
  have hs6 := shL_6 hL
  have hrc := FI_rc hF
  have hrcp : P 2 0 0 * P 3 0 0 = M 4 3 0 := hF.2.2.2.1.trans h.2.1.2.1
  have hw := rl_w h
  have hd2 := (rl_g h).1
  have hp4 := h.2.1.2.2.1
  have hrd := (rl_rd h).1
  obtain ⟨l1, l2, l3, l40, l41, l42, ⟨l43, l43h⟩, l44, l45⟩ := id hL
  refine r_aload_n C dL_areLaid_0 rfl ?_
  refine r_aload_n C dL_areLaid_1 rfl ?_
  refine r_aload_n C dL_areLaid_2 rfl ?_
  refine r_aload C dL_areLaid_3 rfl ?_
  refine r_callS C E hh (c_L_ready E.2.1 Γ B0 ad M (fw Γ ad P) (xw Γ ad R) hL) lk_L_108 rfl rfl (Nat.le_of_ble_eq_true rfl) dL_areLaid_5 ⟨by decide, by decide⟩ ⟨by omega, by omega⟩ (fun _ _ z9 => False.elim z9) (kk_is (fun H locs hs9 hh => ?_))
  refine r_istore C dL_areLaid_8 rfl rfl ?_
  refine r_iconst C (nI 0) dL_areLaid_10 rfl ?_
  refine r_istore C dL_areLaid_11 rfl rfl ?_
  have lp13 : ∀ (d9 : Nat) (k : Nat) (H : Heap) (locs : List Loc), M 4 0 0 - k < d9 → k ≤ M 4 0 0 → f_HS Γ B0 (wj (fw Γ ad P) (xw Γ ad R) (mw Γ ad M)) X9 H locs → f_W X9 H locs (19 * k) (114 * k) 13 [some (.ref (ad 1 0)), some (.ref (ad 30 1)), some (.ref (ad 30 2)), some (.ref (ad 30 3)), some (.ref (ad 30 4)), some (.int (nI (rdL M (M 4 0 0)))), some (.int (nI (k))), none, none, none, none, none, none] [] := by
    intro d9
    induction d9 with
    | zero => intro k H locs hd9 hk9 hh; exact absurd hd9 (Nat.not_lt_zero _)
    | succ d9 ih13 =>
      intro k H locs hd9 hk9 hh
      have gp := l1 k
      have gq := l2 k
      refine r_iload C dL_areLaid_13 rfl ?_
      refine r_aload C dL_areLaid_15 rfl ?_
      refine r_iconst C (nI 0) dL_areLaid_17 rfl ?_
      refine al_m_g C hh (by omega) dL_areLaid_18 ?_
      refine r_icmp_geN (tgt := 313) C dL_areLaid_19 (by decide) (by omega) (by omega) (fun h19 => ?_) (fun h19 => ?_)
      · obtain rfl : k = M 4 0 0 := by omega
        refine r_iconst C (nI 0) dL_areLaid_313 rfl ?_
        refine r_istore C dL_areLaid_314 rfl rfl ?_
        have lp316 : ∀ (d9 : Nat) (s : Nat) (H : Heap) (locs : List Loc), shL M - s < d9 → s ≤ shL M → f_HS Γ B0 (wj (fw Γ ad P) (xw Γ ad R) (mw Γ ad M)) X9 H locs → f_W X9 H locs (456 + s) (2736 + 6 * s) 316 [some (.ref (ad 1 0)), some (.ref (ad 30 1)), some (.ref (ad 30 2)), some (.ref (ad 30 3)), some (.ref (ad 30 4)), some (.int (nI (rdL M (M 4 0 0)))), some (.int (nI (s))), none, none, none, none, none, none] [] := by
          intro d9
          induction d9 with
          | zero => intro s H locs hd9 hs9 hh; exact absurd hd9 (Nat.not_lt_zero _)
          | succ d9 ih316 =>
            intro s H locs hd9 hs9 hh
            refine r_iload C dL_areLaid_316 rfl ?_
            refine r_aload C dL_areLaid_318 rfl ?_
            refine r_callS C E hh (c_L_sheets E.2.1 Γ B0 ad M (fw Γ ad P) (xw Γ ad R) hL) lk_L_100 rfl rfl (Nat.le_of_ble_eq_true rfl) dL_areLaid_320 ⟨by decide, by decide⟩ ⟨by omega, by omega⟩ (fun _ _ z9 => False.elim z9) (kk_is (fun H locs hs9 hh => ?_))
            refine r_icmp_geN (tgt := 350) C dL_areLaid_323 (by decide) (by omega) (by omega) (fun h323 => ?_) (fun h323 => ?_)
            · obtain rfl : s = shL M := by omega
              refine r_iconst C (nI 0) dL_areLaid_350 rfl ?_
              refine r_istore C dL_areLaid_351 rfl rfl ?_
              have lp353 : ∀ (d9 : Nat) (c : Nat) (H : Heap) (locs : List Loc), 8 - c < d9 → c ≤ 8 → f_HS Γ B0 (wj (fw Γ ad P) (xw Γ ad R) (mw Γ ad M)) X9 H locs → f_W X9 H locs (462 + c) (2772 + 6 * c) 353 [some (.ref (ad 1 0)), some (.ref (ad 30 1)), some (.ref (ad 30 2)), some (.ref (ad 30 3)), some (.ref (ad 30 4)), some (.int (nI (rdL M (M 4 0 0)))), some (.int (nI (c))), none, none, none, none, none, none] [] := by
                intro d9
                induction d9 with
                | zero => intro c H locs hd9 hc9 hh; exact absurd hd9 (Nat.not_lt_zero _)
                | succ d9 ih353 =>
                  intro c H locs hd9 hc9 hh
                  refine r_iload C dL_areLaid_353 rfl ?_
                  refine r_bipush C (nI 8) dL_areLaid_355 rfl ?_
                  refine r_icmp_geN (tgt := 393) C dL_areLaid_357 (by decide) (by omega) (by omega) (fun h357 => ?_) (fun h357 => ?_)
                  · obtain rfl : c = 8 := by omega
                    refine r_aload_n C dL_areLaid_393 rfl ?_
                    refine r_callV C E hh (c_X4_pages E.2.1 Γ B0 ad R _ _) lk_L_135 (tr := .inr (.inl (0, 0))) rfl rfl rfl rfl (Nat.le_of_ble_eq_true rfl) dL_areLaid_394 ⟨by decide, by decide⟩ ⟨by omega, by omega⟩ (fun _ _ z9 => False.elim z9) (kk_is (fun H locs hs9 hh => ?_))
                    refine r_aload C dL_areLaid_397 rfl ?_
                    refine r_iconst C (nI 0) dL_areLaid_399 rfl ?_
                    refine al_m_g C hh (by omega) dL_areLaid_400 ?_
                    refine r_icmp_neN (tgt := 613) C dL_areLaid_401 (by decide) (by omega) (by omega) (fun h401 => ?_) (fun h401 => ?_)
                    · exact absurd (e0) h401
                    · refine r_aload_n C dL_areLaid_404 rfl ?_
                      refine r_callV C E hh (c_X4_today E.2.1 Γ B0 ad R _ _) lk_L_138 (tr := .inr (.inl (0, 0))) rfl rfl rfl rfl (Nat.le_of_ble_eq_true rfl) dL_areLaid_405 ⟨by decide, by decide⟩ ⟨by omega, by omega⟩ (fun _ _ z9 => False.elim z9) (kk_is (fun H locs hs9 hh => ?_))
                      refine r_aload C dL_areLaid_408 rfl ?_
                      refine r_iconst C (nI 2) dL_areLaid_410 rfl ?_
                      refine al_m_g C hh (by omega) dL_areLaid_411 ?_
                      refine r_icmp_neN (tgt := 613) C dL_areLaid_412 (by decide) (by omega) (by omega) (fun h412 => ?_) (fun h412 => ?_)
                      · exact absurd ((rl_g h).1) h412
                      · refine r_aload_n C dL_areLaid_415 rfl ?_
                        refine r_callV C E hh (c_X4_sheets E.2.1 Γ B0 ad P R _ hF.2.1 h64) lk_L_141 (tr := .inr (.inl (0, 0))) rfl rfl rfl rfl (Nat.le_of_ble_eq_true rfl) dL_areLaid_416 ⟨by decide, by decide⟩ ⟨by omega, by omega⟩ (fun _ _ z9 => False.elim z9) (kk_is (fun H locs hs9 hh => ?_))
                        refine r_aload C dL_areLaid_419 rfl ?_
                        refine r_callS C E hh (c_L_sheets E.2.1 Γ B0 ad M (fw Γ ad P) (xw Γ ad R) hL) lk_L_100 rfl rfl (Nat.le_of_ble_eq_true rfl) dL_areLaid_421 ⟨by decide, by decide⟩ ⟨by omega, by omega⟩ (fun _ _ z9 => False.elim z9) (kk_is (fun H locs hs9 hh => ?_))
                        refine r_icmp_neN (tgt := 613) C dL_areLaid_424 (by decide) (by omega) (by omega) (fun h424 => ?_) (fun h424 => ?_)
                        · exact absurd (esh) h424
                        · refine r_aload_n C dL_areLaid_427 rfl ?_
                          refine r_callV C E hh (c_X4_rows E.2.1 Γ B0 ad P R _) lk_L_143 (tr := .inr (.inl (0, 0))) rfl rfl rfl rfl (Nat.le_of_ble_eq_true rfl) dL_areLaid_428 ⟨by decide, by decide⟩ ⟨by omega, by omega⟩ (fun _ _ z9 => False.elim z9) (kk_is (fun H locs hs9 hh => ?_))
                          refine r_aload_n C dL_areLaid_431 rfl ?_
                          refine r_callV C E hh (c_X4_columns E.2.1 Γ B0 ad P R _) lk_L_115 (tr := .inr (.inl (0, 0))) rfl rfl rfl rfl (Nat.le_of_ble_eq_true rfl) dL_areLaid_432 ⟨by decide, by decide⟩ ⟨by omega, by omega⟩ (fun _ _ z9 => False.elim z9) (kk_is (fun H locs hs9 hh => ?_))
                          refine r_imulN C dL_areLaid_435 ?_
                          refine r_aload C dL_areLaid_436 rfl ?_
                          refine r_iconst C (nI 3) dL_areLaid_438 rfl ?_
                          refine al_m_g C hh (by omega) dL_areLaid_439 ?_
                          refine r_icmp_neN (tgt := 613) C dL_areLaid_440 (by decide) (by omega) (by omega) (fun h440 => ?_) (fun h440 => ?_)
                          · exact absurd (hrcp) h440
                          · refine r_aload_n C dL_areLaid_443 rfl ?_
                            refine r_callV C E hh (c_X4_plates E.2.1 Γ B0 ad R _ _) lk_L_146 (tr := .inr (.inl (0, 0))) rfl rfl rfl rfl (Nat.le_of_ble_eq_true rfl) dL_areLaid_444 ⟨by decide, by decide⟩ ⟨by omega, by omega⟩ (fun _ _ z9 => False.elim z9) (kk_is (fun H locs hs9 hh => ?_))
                            refine r_aload C dL_areLaid_447 rfl ?_
                            refine r_iconst C (nI 4) dL_areLaid_449 rfl ?_
                            refine al_m_g C hh (by omega) dL_areLaid_450 ?_
                            refine r_icmp_neN (tgt := 613) C dL_areLaid_451 (by decide) (by omega) (by omega) (fun h451 => ?_) (fun h451 => ?_)
                            · exact absurd (h.2.1.2.2.1) h451
                            · refine r_aload_n C dL_areLaid_454 rfl ?_
                              refine r_aload C dL_areLaid_455 rfl ?_
                              refine r_callS C E hh (c_L_sheets E.2.1 Γ B0 ad M (fw Γ ad P) (xw Γ ad R) hL) lk_L_100 rfl rfl (Nat.le_of_ble_eq_true rfl) dL_areLaid_457 ⟨by decide, by decide⟩ ⟨by omega, by omega⟩ (fun _ _ z9 => False.elim z9) (kk_is (fun H locs hs9 hh => ?_))
                              refine r_callSW C hh (x_isReady1 E.2.1 Γ B0 ad P R _ _ hF hI (not_rg (by omega) (by omega))) lw_L_131 rfl rfl (Nat.le_of_ble_eq_true rfl) dL_areLaid_460 ⟨by decide, by decide⟩ ⟨by omega, by omega⟩ (kk_is (fun H locs hs9 hh => ?_))
                              refine r_ldc C ct_L_18 dL_areLaid_463 ?_
                              refine r_icmp_ne (tgt := 613) C dL_areLaid_465 (by decide) (fun h465 => ?_) (fun h465 => ?_)
                              · exact absurd (rfl) h465
                              · refine r_aload_n C dL_areLaid_468 rfl ?_
                                refine r_aload C dL_areLaid_469 rfl ?_
                                refine r_iconst C (nI 0) dL_areLaid_471 rfl ?_
                                refine al_m_g C hh (by omega) dL_areLaid_472 ?_
                                refine r_callSW C hh (x_leafOf1 E.2.1 Γ B0 ad P R _ _ hF h64 (not_rg (by omega) (by omega))) lw_L_112 rfl rfl (Nat.le_of_ble_eq_true rfl) dL_areLaid_473 ⟨by decide, by decide⟩ ⟨by omega, by omega⟩ (kk_is (fun H locs hs9 hh => ?_))
                                refine r_ldc C ct_L_18 dL_areLaid_476 ?_
                                refine r_icmp_ne (tgt := 613) C dL_areLaid_478 (by decide) (fun h478 => ?_) (fun h478 => ?_)
                                · exact absurd (rfl) h478
                                · refine r_aload_n C dL_areLaid_481 rfl ?_
                                  refine r_iconst C (-1) dL_areLaid_482 rfl ?_
                                  refine r_callSW C hh (x_isTurned1 E.2.1 Γ B0 ad P R _ _ hF h64 not_rg_m) lw_L_126 rfl rfl (Nat.le_of_ble_eq_true rfl) dL_areLaid_483 ⟨by decide, by decide⟩ ⟨by omega, by omega⟩ (kk_is (fun H locs hs9 hh => ?_))
                                  refine r_ldc C ct_L_18 dL_areLaid_486 ?_
                                  refine r_icmp_ne (tgt := 613) C dL_areLaid_488 (by decide) (fun h488 => ?_) (fun h488 => ?_)
                                  · exact absurd (rfl) h488
                                  · refine r_aload_n C dL_areLaid_491 rfl ?_
                                    refine r_aload C dL_areLaid_492 rfl ?_
                                    refine r_iconst C (nI 0) dL_areLaid_494 rfl ?_
                                    refine al_m_g C hh (by omega) dL_areLaid_495 ?_
                                    refine r_callSW C hh (x_edition1 E.2.1 Γ B0 ad R _ _ _ hI (not_rg (by omega) (by omega))) lw_L_124 rfl rfl (Nat.le_of_ble_eq_true rfl) dL_areLaid_496 ⟨by decide, by decide⟩ ⟨by omega, by omega⟩ (kk_is (fun H locs hs9 hh => ?_))
                                    refine r_ldc C ct_L_18 dL_areLaid_499 ?_
                                    refine r_icmp_ne (tgt := 613) C dL_areLaid_501 (by decide) (fun h501 => ?_) (fun h501 => ?_)
                                    · exact absurd (rfl) h501
                                    · refine r_aload_n C dL_areLaid_504 rfl ?_
                                      refine r_aload C dL_areLaid_505 rfl ?_
                                      refine r_iconst C (nI 0) dL_areLaid_507 rfl ?_
                                      refine al_m_g C hh (by omega) dL_areLaid_508 ?_
                                      refine r_iconst C (nI 4) dL_areLaid_509 rfl ?_
                                      refine r_callSW C hh (x_proof1 E.2.1 Γ B0 ad R _ _ _ _ hI (not_rg (by omega) (by omega))) lw_L_128 rfl rfl (Nat.le_of_ble_eq_true rfl) dL_areLaid_510 ⟨by decide, by decide⟩ ⟨by omega, by omega⟩ (kk_is (fun H locs hs9 hh => ?_))
                                      refine r_ldc C ct_L_18 dL_areLaid_513 ?_
                                      refine r_icmp_ne (tgt := 613) C dL_areLaid_515 (by decide) (fun h515 => ?_) (fun h515 => ?_)
                                      · exact absurd (rfl) h515
                                      · refine r_aload_n C dL_areLaid_518 rfl ?_
                                        refine r_bipush C (nI 8) dL_areLaid_519 rfl ?_
                                        refine r_callSW C hh (x_mayUse1 E.2.1 Γ B0 ad R _ _ _ hI (not_rg (by decide) (by decide))) lw_L_133 rfl rfl (Nat.le_of_ble_eq_true rfl) dL_areLaid_521 ⟨by decide, by decide⟩ ⟨by omega, by omega⟩ (kk_is (fun H locs hs9 hh => ?_))
                                        refine r_ldc C ct_L_21 dL_areLaid_524 ?_
                                        refine r_icmp_ne (tgt := 613) C dL_areLaid_526 (by decide) (fun h526 => ?_) (fun h526 => ?_)
                                        · exact absurd (rfl) h526
                                        · refine r_aload_n C dL_areLaid_529 rfl ?_
                                          refine r_aload C dL_areLaid_530 rfl ?_
                                          refine r_callS C E hh (c_L_sheets E.2.1 Γ B0 ad M (fw Γ ad P) (xw Γ ad R) hL) lk_L_100 rfl rfl (Nat.le_of_ble_eq_true rfl) dL_areLaid_532 ⟨by decide, by decide⟩ ⟨by omega, by omega⟩ (fun _ _ z9 => False.elim z9) (kk_is (fun H locs hs9 hh => ?_))
                                          refine r_iconst C (nI 2) dL_areLaid_535 rfl ?_
                                          refine r_iconst C (nI 0) dL_areLaid_536 rfl ?_
                                          refine r_iconst C (nI 0) dL_areLaid_537 rfl ?_
                                          refine r_callSW C hh (x_pageAt1 E.2.1 Γ B0 ad P R _ _ _ _ _ hF h64 (fun z => not_rg (by omega) (by omega) z.1)) lw_L_119 rfl rfl (Nat.le_of_ble_eq_true rfl) dL_areLaid_538 ⟨by decide, by decide⟩ ⟨by omega, by omega⟩ (kk_is (fun H locs hs9 hh => ?_))
                                          refine r_ldc C ct_L_18 dL_areLaid_541 ?_
                                          refine r_icmp_ne (tgt := 613) C dL_areLaid_543 (by decide) (fun h543 => ?_) (fun h543 => ?_)
                                          · exact absurd (rfl) h543
                                          · refine r_aload_n C dL_areLaid_546 rfl ?_
                                            refine r_iconst C (nI 0) dL_areLaid_547 rfl ?_
                                            refine r_iconst C (nI 0) dL_areLaid_548 rfl ?_
                                            refine r_aload_n C dL_areLaid_549 rfl ?_
                                            refine r_callV C E hh (c_X4_rows E.2.1 Γ B0 ad P R _) lk_L_143 (tr := .inr (.inl (0, 0))) rfl rfl rfl rfl (Nat.le_of_ble_eq_true rfl) dL_areLaid_550 ⟨by decide, by decide⟩ ⟨by omega, by omega⟩ (fun _ _ z9 => False.elim z9) (kk_is (fun H locs hs9 hh => ?_))
                                            refine r_iconst C (nI 0) dL_areLaid_553 rfl ?_
                                            refine r_callSW C hh (x_pageByRule1 E.2.1 Γ B0 ad P R _ _ _ _ _ (rl_fj h) h64 (fun z => not_rg (Nat.le_refl _) (by omega) z.2.1)) lw_L_122 rfl rfl (Nat.le_of_ble_eq_true rfl) dL_areLaid_554 ⟨by decide, by decide⟩ ⟨by omega, by omega⟩ (kk_is (fun H locs hs9 hh => ?_))
                                            refine r_ldc C ct_L_18 dL_areLaid_557 ?_
                                            refine r_icmp_ne (tgt := 613) C dL_areLaid_559 (by decide) (fun h559 => ?_) (fun h559 => ?_)
                                            · exact absurd (rfl) h559
                                            · refine r_aload_n C dL_areLaid_562 rfl ?_
                                              refine r_iconst C (nI 0) dL_areLaid_563 rfl ?_
                                              refine r_iconst C (nI 0) dL_areLaid_564 rfl ?_
                                              refine r_iconst C (nI 0) dL_areLaid_565 rfl ?_
                                              refine r_aload_n C dL_areLaid_566 rfl ?_
                                              refine r_callV C E hh (c_X4_columns E.2.1 Γ B0 ad P R _) lk_L_115 (tr := .inr (.inl (0, 0))) rfl rfl rfl rfl (Nat.le_of_ble_eq_true rfl) dL_areLaid_567 ⟨by decide, by decide⟩ ⟨by omega, by omega⟩ (fun _ _ z9 => False.elim z9) (kk_is (fun H locs hs9 hh => ?_))
                                              refine r_callSW C hh (x_pageAt1 E.2.1 Γ B0 ad P R _ _ _ _ _ hF h64 (fun z => not_rg (Nat.le_refl _) (by omega) z.2.2)) lw_L_119 rfl rfl (Nat.le_of_ble_eq_true rfl) dL_areLaid_570 ⟨by decide, by decide⟩ ⟨by omega, by omega⟩ (kk_is (fun H locs hs9 hh => ?_))
                                              refine r_ldc C ct_L_18 dL_areLaid_573 ?_
                                              refine r_icmp_ne (tgt := 613) C dL_areLaid_575 (by decide) (fun h575 => ?_) (fun h575 => ?_)
                                              · exact absurd (rfl) h575
                                              · refine r_aload C dL_areLaid_578 rfl ?_
                                                refine r_iconst C (nI 0) dL_areLaid_580 rfl ?_
                                                refine al_m_g C hh (by omega) dL_areLaid_581 ?_
                                                refine r_if_eqN (tgt := 609) C dL_areLaid_582 (by decide) (by omega) (fun h582 => ?_) (fun h582 => ?_)
                                                · refine r_iconst C (bI true) dL_areLaid_609 rfl ?_
                                                  refine r_goto (tgt := 614) C dL_areLaid_610 (by decide) ?_
                                                  exact r_zret C E hh dL_areLaid_614 (by omega) (by omega) ⟨rfl, rfl⟩
                                                · have hs0 : 0 < shc P R := by
                                                    have e : shc P R = (R 0 0 0 + pgs P - 1) / pgs P := rfl
                                                    have hpg := FI_pg hF
                                                    rw [e]
                                                    exact Nat.div_pos (by omega) (by omega)
                                                  refine r_aload_n C dL_areLaid_585 rfl ?_
                                                  refine r_iconst C (nI 0) dL_areLaid_586 rfl ?_
                                                  refine r_iconst C (nI 2) dL_areLaid_587 rfl ?_
                                                  refine r_iconst C (nI 0) dL_areLaid_588 rfl ?_
                                                  refine r_iconst C (nI 0) dL_areLaid_589 rfl ?_
                                                  refine r_callSW C hh (x_pageAt2 E.2.1 Γ B0 ad P R _ _ _ _ _ hF h64 ⟨⟨rg_N hs0 (by omega), rg_N hrc.1 (by omega), rg_N hrc.2.2.1 (by omega)⟩, not_rg (by decide) (by decide)⟩) lw_L_119 rfl rfl (Nat.le_of_ble_eq_true rfl) dL_areLaid_590 ⟨by decide, by decide⟩ ⟨by omega, by omega⟩ (kk_is (fun H locs hs9 hh => ?_))
                                                  refine r_ldc C ct_L_21 dL_areLaid_593 ?_
                                                  refine r_icmp_ne (tgt := 613) C dL_areLaid_595 (by decide) (fun h595 => ?_) (fun h595 => ?_)
                                                  · exact absurd (rfl) h595
                                                  · refine r_aload_n C dL_areLaid_598 rfl ?_
                                                    refine r_iconst C (nI 0) dL_areLaid_599 rfl ?_
                                                    refine r_iconst C (nI 4) dL_areLaid_600 rfl ?_
                                                    refine r_callSW C hh (x_proof2 E.2.1 Γ B0 ad R _ _ _ _ hI ⟨rg_N (by omega) (by omega), not_rg (by decide) (by decide)⟩) lw_L_128 rfl rfl (Nat.le_of_ble_eq_true rfl) dL_areLaid_601 ⟨by decide, by decide⟩ ⟨by omega, by omega⟩ (kk_is (fun H locs hs9 hh => ?_))
                                                    refine r_ldc C ct_L_21 dL_areLaid_604 ?_
                                                    refine r_icmp_ne (tgt := 613) C dL_areLaid_606 (by decide) (fun h606 => ?_) (fun h606 => ?_)
                                                    · exact absurd (rfl) h606
                                                    · refine r_iconst C (bI true) dL_areLaid_609 rfl ?_
                                                      refine r_goto (tgt := 614) C dL_areLaid_610 (by decide) ?_
                                                      exact r_zret C E hh dL_areLaid_614 (by omega) (by omega) ⟨rfl, rfl⟩
                  · refine r_aload_n C dL_areLaid_360 rfl ?_
                    refine r_iload C dL_areLaid_361 rfl ?_
                    refine r_callSW C hh (L_mayUse_k E.2.1 Γ B0 ad h c (by omega)) lw_L_133 rfl rfl (Nat.le_of_ble_eq_true rfl) dL_areLaid_363 ⟨by decide, by decide⟩ ⟨by omega, by omega⟩ (kk_is (fun H locs hs9 hh => ?_))
                    refine r_aload_n C dL_areLaid_366 rfl ?_
                    refine r_aload C dL_areLaid_367 rfl ?_
                    refine r_iload C dL_areLaid_369 rfl ?_
                    refine r_callS C E hh (c_L_may E.2.1 Γ B0 ad M (fw Γ ad P) (xw Γ ad R) c (by omega) hL) lk_L_94 rfl rfl (Nat.le_of_ble_eq_true rfl) dL_areLaid_371 ⟨by decide, by decide⟩ ⟨by omega, by omega⟩ (fun _ _ z9 => False.elim z9) (kk_is (fun H locs hs9 hh => ?_))
                    refine r_if_eqB (tgt := 381) C dL_areLaid_374 (by decide) (fun h374 => ?_) (fun h374 => ?_)
                    · refine r_iconst C (bI false) dL_areLaid_381 rfl ?_
                      refine r_icmp_eq (tgt := 387) C dL_areLaid_382 (by decide) (fun h382 => ?_) (fun h382 => ?_)
                      · refine r_iincN C dL_areLaid_387 rfl rfl ?_
                        refine r_goto (tgt := 353) C dL_areLaid_390 (by decide) ?_
                        exact ih353 (c + 1) _ _ (by omega) (by omega) hh
                      · exact absurd (by rw [h374]) h382
                    · refine r_iconst C (bI true) dL_areLaid_377 rfl ?_
                      refine r_goto (tgt := 382) C dL_areLaid_378 (by decide) ?_
                      refine r_icmp_eq (tgt := 387) C dL_areLaid_382 (by decide) (fun h382 => ?_) (fun h382 => ?_)
                      · refine r_iincN C dL_areLaid_387 rfl rfl ?_
                        refine r_goto (tgt := 353) C dL_areLaid_390 (by decide) ?_
                        exact ih353 (c + 1) _ _ (by omega) (by omega) hh
                      · exact absurd (by rw [h374]) h382
              refine f_widen (by omega) (by omega) (f_W.le ?_ (lp353 9 0 _ _ (by omega) (by omega) hh))
              exact (And.intro rfl (And.intro rfl (And.intro rfl (And.intro rfl (And.intro rfl (And.intro rfl (And.intro rfl trivial)))))))
            · refine r_aload_n C dL_areLaid_326 rfl ?_
              refine r_iload C dL_areLaid_327 rfl ?_
              refine r_callSW C hh (L_isReady_k E.2.1 Γ B0 ad h s (by omega)) lw_L_131 rfl rfl (Nat.le_of_ble_eq_true rfl) dL_areLaid_329 ⟨by decide, by decide⟩ ⟨by omega, by omega⟩ (kk_is (fun H locs hs9 hh => ?_))
              refine r_iload C dL_areLaid_332 rfl ?_
              refine r_iload C dL_areLaid_334 rfl ?_
              refine r_ishrN C dL_areLaid_336 (by omega) (by omega) ?_
              refine r_iconst C (nI 1) dL_areLaid_337 rfl ?_
              refine r_iandN C dL_areLaid_338 ?_
              refine r_icmp_eq (tgt := 344) C dL_areLaid_339 (by decide) (fun h339 => ?_) (fun h339 => ?_)
              · refine r_iincN C dL_areLaid_344 rfl rfl ?_
                refine r_goto (tgt := 316) C dL_areLaid_347 (by decide) ?_
                exact ih316 (s + 1) _ _ (by omega) (by omega) hh
              · exact absurd (by rw [bI_tb, (rl_rd h).2 s (by omega), decide_eq_true (by omega), Bool.true_and]) h339
        refine f_widen (by omega) (by omega) (f_W.le ?_ (lp316 (shL M + 1) 0 _ _ (by omega) (by omega) hh))
        exact (And.intro rfl (And.intro rfl (And.intro rfl (And.intro rfl (And.intro rfl (And.intro rfl (And.intro rfl trivial)))))))
      · have hk : k < R 0 0 0 := by omega
        obtain ⟨f, f0, f1, f2, f3, ⟨f4, f5, f6, f7⟩, f8, f9, f10⟩ := lay_ok h hk
        obtain ⟨g1, g2, g3, g4, g5⟩ := face_ok f f1
        refine r_aload_n C dL_areLaid_22 rfl ?_
        refine r_iload C dL_areLaid_23 rfl ?_
        refine r_callSW C hh (L_leafOf_k E.2.1 Γ B0 ad h k hk) lw_L_112 rfl rfl (Nat.le_of_ble_eq_true rfl) dL_areLaid_25 ⟨by decide, by decide⟩ ⟨by omega, by omega⟩ (kk_is (fun H locs hs9 hh => ?_))
        rw [f0]
        refine r_istore C dL_areLaid_28 rfl rfl ?_
        refine r_iload C dL_areLaid_30 rfl ?_
        refine r_bipush C (nI 16) dL_areLaid_32 rfl ?_
        refine r_iremN C dL_areLaid_34 (by omega) (by omega) (by omega) ?_
        refine r_aload_n C dL_areLaid_35 rfl ?_
        refine r_callV C E hh (c_X4_columns E.2.1 Γ B0 ad P R _) lk_L_115 (tr := .inr (.inl (0, 0))) rfl rfl rfl rfl (Nat.le_of_ble_eq_true rfl) dL_areLaid_36 ⟨by decide, by decide⟩ ⟨by omega, by omega⟩ (fun _ _ z9 => False.elim z9) (kk_is (fun H locs hs9 hh => ?_))
        refine r_idivN C dL_areLaid_39 (by omega) (by omega) (by omega) ?_
        refine r_istore C dL_areLaid_40 rfl rfl ?_
        refine r_iload C dL_areLaid_42 rfl ?_
        refine r_bipush C (nI 16) dL_areLaid_44 rfl ?_
        refine r_iremN C dL_areLaid_46 (by omega) (by omega) (by omega) ?_
        refine r_aload_n C dL_areLaid_47 rfl ?_
        refine r_callV C E hh (c_X4_columns E.2.1 Γ B0 ad P R _) lk_L_115 (tr := .inr (.inl (0, 0))) rfl rfl rfl rfl (Nat.le_of_ble_eq_true rfl) dL_areLaid_48 ⟨by decide, by decide⟩ ⟨by omega, by omega⟩ (fun _ _ z9 => False.elim z9) (kk_is (fun H locs hs9 hh => ?_))
        refine r_iremN C dL_areLaid_51 (by omega) (by omega) (by omega) ?_
        refine r_istore C dL_areLaid_52 rfl rfl ?_
        refine r_iload C dL_areLaid_54 rfl ?_
        refine r_iconst C (nI 2) dL_areLaid_56 rfl ?_
        refine r_aload C dL_areLaid_57 rfl ?_
        refine r_iconst C (nI 3) dL_areLaid_59 rfl ?_
        refine al_m_g C hh (by omega) dL_areLaid_60 ?_
        refine r_imulN C dL_areLaid_61 ?_
        refine r_idivN C dL_areLaid_62 (by omega) (by omega) (by omega) ?_
        refine r_istore C dL_areLaid_63 rfl rfl ?_
        refine r_iload C dL_areLaid_65 rfl ?_
        refine r_if_ltN (tgt := 138) C dL_areLaid_67 (by decide) (by omega) ?_
        refine r_iload C dL_areLaid_70 rfl ?_
        refine r_bipush C (nI 32) dL_areLaid_72 rfl ?_
        refine r_icmp_geN (tgt := 138) C dL_areLaid_74 (by decide) (by omega) (by omega) (fun h74 => ?_) (fun h74 => ?_)
        · exact absurd h74 (by omega)
        · refine r_aload_n C dL_areLaid_77 rfl ?_
          refine r_iload C dL_areLaid_78 rfl ?_
          refine r_iload C dL_areLaid_80 rfl ?_
          refine r_bipush C (nI 16) dL_areLaid_82 rfl ?_
          refine r_idivN C dL_areLaid_84 (by omega) (by omega) (by omega) ?_
          refine r_iload C dL_areLaid_85 rfl ?_
          refine r_iload C dL_areLaid_87 rfl ?_
          refine r_callSW C hh (L_pageAt_k E.2.1 Γ B0 ad h k f hk f0) lw_L_119 rfl rfl (Nat.le_of_ble_eq_true rfl) dL_areLaid_89 ⟨by decide, by decide⟩ ⟨by omega, by omega⟩ (kk_is (fun H locs hs9 hh => ?_))
          refine r_iload C dL_areLaid_92 rfl ?_
          refine r_icmp_neN (tgt := 138) C dL_areLaid_94 (by decide) (by omega) (by omega) (fun h94 => ?_) (fun h94 => ?_)
          · exact absurd (rfl) h94
          · refine r_aload_n C dL_areLaid_97 rfl ?_
            refine r_iload C dL_areLaid_98 rfl ?_
            refine r_iload C dL_areLaid_100 rfl ?_
            refine r_bipush C (nI 16) dL_areLaid_102 rfl ?_
            refine r_idivN C dL_areLaid_104 (by omega) (by omega) (by omega) ?_
            refine r_iload C dL_areLaid_105 rfl ?_
            refine r_iload C dL_areLaid_107 rfl ?_
            refine r_callSW C hh (L_pageByRule_k E.2.1 Γ B0 ad h k f hk f0) lw_L_122 rfl rfl (Nat.le_of_ble_eq_true rfl) dL_areLaid_109 ⟨by decide, by decide⟩ ⟨by omega, by omega⟩ (kk_is (fun H locs hs9 hh => ?_))
            refine r_iload C dL_areLaid_112 rfl ?_
            refine r_icmp_neN (tgt := 138) C dL_areLaid_114 (by decide) (by omega) (by omega) (fun h114 => ?_) (fun h114 => ?_)
            · exact absurd (rfl) h114
            · refine r_aload_n C dL_areLaid_117 rfl ?_
              refine r_iload C dL_areLaid_118 rfl ?_
              refine r_callSW C hh (L_edition_k E.2.1 Γ B0 ad h k hk) lw_L_124 rfl rfl (Nat.le_of_ble_eq_true rfl) dL_areLaid_120 ⟨by decide, by decide⟩ ⟨by omega, by omega⟩ (kk_is (fun H locs hs9 hh => ?_))
              refine r_aload_n C dL_areLaid_123 rfl ?_
              refine r_iload C dL_areLaid_124 rfl ?_
              refine al_m_p C hh (by omega) dL_areLaid_126 ?_
              refine r_sipush C (nI 4096) dL_areLaid_127 rfl ?_
              refine r_idivN C dL_areLaid_130 (by omega) (by omega) (by omega) ?_
              refine r_icmp_neN (tgt := 138) C dL_areLaid_131 (by decide) (by omega) (by omega) (fun h131 => ?_) (fun h131 => ?_)
              · exact absurd (rfl) h131
              · refine r_iconst C (bI true) dL_areLaid_134 rfl ?_
                refine r_goto (tgt := 139) C dL_areLaid_135 (by decide) ?_
                refine r_istore C dL_areLaid_139 rfl rfl ?_
                refine r_iload C dL_areLaid_141 rfl ?_
                refine r_if_eqB (tgt := 229) C dL_areLaid_143 (by decide) (fun h143 => ?_) (fun h143 => ?_)
                · exact absurd h143 (by decide)
                · have jn230 : ∀ (H : Heap) (locs : List Loc), f_HS Γ B0 (wj (fw Γ ad P) (xw Γ ad R) (mw Γ ad M)) X9 H locs → f_W X9 H locs (19 * k + 11) (114 * k + 66) 230 [some (.ref (ad 1 0)), some (.ref (ad 30 1)), some (.ref (ad 30 2)), some (.ref (ad 30 3)), some (.ref (ad 30 4)), some (.int (nI (rdL M (M 4 0 0)))), some (.int (nI (k))), some (.int (nI (f % 2 * 16 + f / 2))), some (.int (nI ((f % 2 * 16 + f / 2) % 16 / P 3 0 0))), some (.int (nI ((f % 2 * 16 + f / 2) % 16 % P 3 0 0))), some (.int (nI (k / (2 * M 4 3 0)))), none, none] [.int (bI true)] := by
                    intro H locs hh
                    refine r_istore C dL_areLaid_230 rfl rfl ?_
                    refine r_iconst C (nI 0) dL_areLaid_232 rfl ?_
                    refine r_istore C dL_areLaid_233 rfl rfl ?_
                    have lp235 : ∀ (d9 : Nat) (c : Nat) (H : Heap) (locs : List Loc), 4 - c < d9 → c ≤ 4 → f_HS Γ B0 (wj (fw Γ ad P) (xw Γ ad R) (mw Γ ad M)) X9 H locs → f_W X9 H locs (19 * k + 11 + 2 * c) (114 * k + 66 + 12 * c) 235 [some (.ref (ad 1 0)), some (.ref (ad 30 1)), some (.ref (ad 30 2)), some (.ref (ad 30 3)), some (.ref (ad 30 4)), some (.int (nI (rdL M (M 4 0 0)))), some (.int (nI (k))), some (.int (nI (f % 2 * 16 + f / 2))), some (.int (nI ((f % 2 * 16 + f / 2) % 16 / P 3 0 0))), some (.int (nI ((f % 2 * 16 + f / 2) % 16 % P 3 0 0))), some (.int (nI (k / (2 * M 4 3 0)))), some (.int (bI (true))), some (.int (nI (c)))] [] := by
                      intro d9
                      induction d9 with
                      | zero => intro c H locs hd9 hc9 hh; exact absurd hd9 (Nat.not_lt_zero _)
                      | succ d9 ih235 =>
                        intro c H locs hd9 hc9 hh
                        refine r_iload C dL_areLaid_235 rfl ?_
                        refine r_iconst C (nI 4) dL_areLaid_237 rfl ?_
                        refine r_icmp_geN (tgt := 300) C dL_areLaid_238 (by decide) (by omega) (by omega) (fun h238 => ?_) (fun h238 => ?_)
                        · obtain rfl : c = 4 := by omega
                          refine r_iload C dL_areLaid_300 rfl ?_
                          refine r_if_neB (tgt := 307) C dL_areLaid_302 (by decide) (fun h302 => ?_) (fun h302 => ?_)
                          · refine r_iincN C dL_areLaid_307 rfl rfl ?_
                            refine r_goto (tgt := 13) C dL_areLaid_310 (by decide) ?_
                            refine f_widen (by omega) (by omega) (f_W.le ?_ (ih13 (k + 1) _ _ (by omega) (by omega) hh))
                            exact (And.intro rfl (And.intro rfl (And.intro rfl (And.intro rfl (And.intro rfl (And.intro rfl (And.intro rfl trivial)))))))
                          · exact absurd h302 (by decide)
                        · refine r_iload C dL_areLaid_241 rfl ?_
                          refine r_if_eqB (tgt := 291) C dL_areLaid_243 (by decide) (fun h243 => ?_) (fun h243 => ?_)
                          · exact absurd h243 (by decide)
                          · refine r_aload_n C dL_areLaid_246 rfl ?_
                            refine r_iload C dL_areLaid_247 rfl ?_
                            refine r_iload C dL_areLaid_249 rfl ?_
                            refine r_callSW C hh (L_proof_k E.2.1 Γ B0 ad h k hk c (by omega)) lw_L_128 rfl rfl (Nat.le_of_ble_eq_true rfl) dL_areLaid_251 ⟨by decide, by decide⟩ ⟨by omega, by omega⟩ (kk_is (fun H locs hs9 hh => ?_))
                            refine r_aload_n C dL_areLaid_254 rfl ?_
                            refine r_iload C dL_areLaid_255 rfl ?_
                            refine al_m_p C hh (by omega) dL_areLaid_257 ?_
                            refine r_bipush C (nI 8) dL_areLaid_258 rfl ?_
                            refine r_iload C dL_areLaid_260 rfl ?_
                            refine r_iaddN C dL_areLaid_262 ?_
                            refine r_ishrN C dL_areLaid_263 (by omega) (by omega) ?_
                            refine r_iconst C (nI 1) dL_areLaid_264 rfl ?_
                            refine r_iandN C dL_areLaid_265 ?_
                            refine r_if_neN (tgt := 273) C dL_areLaid_266 (by decide) (Nat.lt_of_le_of_lt Nat.and_le_right (by decide)) (fun h266 => ?_) (fun h266 => ?_)
                            · refine r_aload_n C dL_areLaid_273 rfl ?_
                              refine r_iload C dL_areLaid_274 rfl ?_
                              refine al_m_q C hh (by omega) dL_areLaid_276 ?_
                              refine r_iconst C (nI 2) dL_areLaid_277 rfl ?_
                              refine r_iload C dL_areLaid_278 rfl ?_
                              refine r_imulN C dL_areLaid_280 ?_
                              refine r_ishrN C dL_areLaid_281 (by omega) (by omega) ?_
                              refine r_iconst C (nI 3) dL_areLaid_282 rfl ?_
                              refine r_iandN C dL_areLaid_283 ?_
                              refine r_icmp_ne (tgt := 291) C dL_areLaid_284 (by decide) (fun h284 => ?_) (fun h284 => ?_)
                              · first | exact absurd (if_pos h266) h284 | exact absurd (if_neg h266) h284
                              · refine r_iconst C (bI true) dL_areLaid_287 rfl ?_
                                refine r_goto (tgt := 292) C dL_areLaid_288 (by decide) ?_
                                refine r_istore C dL_areLaid_292 rfl rfl ?_
                                refine r_iincN C dL_areLaid_294 rfl rfl ?_
                                refine r_goto (tgt := 235) C dL_areLaid_297 (by decide) ?_
                                exact ih235 (c + 1) _ _ (by omega) (by omega) hh
                            · refine r_iconst C (-1) dL_areLaid_269 rfl ?_
                              refine r_goto (tgt := 284) C dL_areLaid_270 (by decide) ?_
                              refine r_icmp_ne (tgt := 291) C dL_areLaid_284 (by decide) (fun h284 => ?_) (fun h284 => ?_)
                              · first | exact absurd (if_pos h266) h284 | exact absurd (if_neg h266) h284
                              · refine r_iconst C (bI true) dL_areLaid_287 rfl ?_
                                refine r_goto (tgt := 292) C dL_areLaid_288 (by decide) ?_
                                refine r_istore C dL_areLaid_292 rfl rfl ?_
                                refine r_iincN C dL_areLaid_294 rfl rfl ?_
                                refine r_goto (tgt := 235) C dL_areLaid_297 (by decide) ?_
                                exact ih235 (c + 1) _ _ (by omega) (by omega) hh
                    exact lp235 5 0 _ _ (by omega) (by omega) hh
                  refine r_aload_n C dL_areLaid_146 rfl ?_
                  refine r_iload C dL_areLaid_147 rfl ?_
                  refine r_iconst C (nI 1) dL_areLaid_149 rfl ?_
                  refine r_iload C dL_areLaid_150 rfl ?_
                  refine r_bipush C (nI 16) dL_areLaid_152 rfl ?_
                  refine r_idivN C dL_areLaid_154 (by omega) (by omega) (by omega) ?_
                  refine r_isubN C dL_areLaid_155 (by omega) ?_
                  refine r_iload C dL_areLaid_156 rfl ?_
                  refine r_iload C dL_areLaid_158 rfl ?_
                  refine r_callSW C hh (L_pageAt_o E.2.1 Γ B0 ad h k f hk f0) lw_L_119 rfl rfl (Nat.le_of_ble_eq_true rfl) dL_areLaid_160 ⟨by decide, by decide⟩ ⟨by omega, by omega⟩ (kk_is (fun H locs hs9 hh => ?_))
                  refine r_iload C dL_areLaid_163 rfl ?_
                  refine r_iconst C (nI 1) dL_areLaid_165 rfl ?_
                  refine r_ixorN C dL_areLaid_166 ?_
                  refine r_aload C dL_areLaid_167 rfl ?_
                  refine r_iconst C (nI 0) dL_areLaid_169 rfl ?_
                  refine al_m_g C hh (by omega) dL_areLaid_170 ?_
                  refine r_icmp_geN (tgt := 181) C dL_areLaid_171 (by decide) (by have hx1 : k ^^^ 1 ≤ k + 1 := (by rw [xor1]; split <;> omega); omega) (by omega) (fun h171 => ?_) (fun h171 => ?_)
                  · refine r_iconst C (-1) dL_areLaid_181 rfl ?_
                    refine r_icmp_ne (tgt := 229) C dL_areLaid_182 (by decide) (fun h182 => ?_) (fun h182 => ?_)
                    · first | exact absurd (if_pos (by omega)) h182 | exact absurd (if_neg (by omega)) h182
                    · refine r_iload C dL_areLaid_185 rfl ?_
                      refine r_iconst C (nI 2) dL_areLaid_187 rfl ?_
                      refine r_iremN C dL_areLaid_188 (by omega) (by omega) (by omega) ?_
                      refine r_if_eqN (tgt := 225) C dL_areLaid_189 (by decide) (by omega) (fun h189 => ?_) (fun h189 => ?_)
                      · refine r_iconst C (bI true) dL_areLaid_225 rfl ?_
                        refine r_goto (tgt := 230) C dL_areLaid_226 (by decide) ?_
                        refine f_widen (by omega) (by omega) (f_W.le ?_ (jn230 _ _ hh))
                        exact (And.intro rfl (And.intro rfl (And.intro rfl (And.intro rfl (And.intro rfl (And.intro rfl (And.intro rfl (And.intro rfl (And.intro rfl (And.intro rfl (And.intro rfl trivial)))))))))))
                      · refine r_aload_n C dL_areLaid_192 rfl ?_
                        refine r_iload C dL_areLaid_193 rfl ?_
                        refine r_iconst C (nI 1) dL_areLaid_195 rfl ?_
                        refine r_isubN C dL_areLaid_196 (by omega) ?_
                        refine r_callSW C hh (L_leafOf_k E.2.1 Γ B0 ad h (k - 1) (by omega)) lw_L_112 rfl rfl (Nat.le_of_ble_eq_true rfl) dL_areLaid_197 ⟨by decide, by decide⟩ ⟨by omega, by omega⟩ (kk_is (fun H locs hs9 hh => ?_))
                        rw [f10 (by omega), g4]
                        refine r_iload C dL_areLaid_200 rfl ?_
                        refine r_bipush C (nI 16) dL_areLaid_202 rfl ?_
                        refine r_ixorN C dL_areLaid_204 ?_
                        refine r_icmp_neN (tgt := 229) C dL_areLaid_205 (by decide) (by omega) (by omega) (fun h205 => ?_) (fun h205 => ?_)
                        · exact absurd (rfl) h205
                        · refine r_aload_n C dL_areLaid_208 rfl ?_
                          refine r_iload C dL_areLaid_209 rfl ?_
                          refine r_callSW C hh (L_isTurned_k E.2.1 Γ B0 ad h k hk) lw_L_126 rfl rfl (Nat.le_of_ble_eq_true rfl) dL_areLaid_211 ⟨by decide, by decide⟩ ⟨by omega, by omega⟩ (kk_is (fun H locs hs9 hh => ?_))
                          rw [f0]
                          refine r_aload_n C dL_areLaid_214 rfl ?_
                          refine r_iload C dL_areLaid_215 rfl ?_
                          refine r_iconst C (nI 1) dL_areLaid_217 rfl ?_
                          refine r_isubN C dL_areLaid_218 (by omega) ?_
                          refine r_callSW C hh (L_isTurned_k E.2.1 Γ B0 ad h (k - 1) (by omega)) lw_L_126 rfl rfl (Nat.le_of_ble_eq_true rfl) dL_areLaid_219 ⟨by decide, by decide⟩ ⟨by omega, by omega⟩ (kk_is (fun H locs hs9 hh => ?_))
                          rw [f10 (by omega), g5]
                          refine r_icmp_ne (tgt := 229) C dL_areLaid_222 (by decide) (fun h222 => ?_) (fun h222 => ?_)
                          · exact absurd (rfl) h222
                          · refine r_iconst C (bI true) dL_areLaid_225 rfl ?_
                            refine r_goto (tgt := 230) C dL_areLaid_226 (by decide) ?_
                            refine f_widen (by omega) (by omega) (f_W.le ?_ (jn230 _ _ hh))
                            exact (And.intro rfl (And.intro rfl (And.intro rfl (And.intro rfl (And.intro rfl (And.intro rfl (And.intro rfl (And.intro rfl (And.intro rfl (And.intro rfl (And.intro rfl trivial)))))))))))
                  · refine r_iload C dL_areLaid_174 rfl ?_
                    refine r_iconst C (nI 1) dL_areLaid_176 rfl ?_
                    refine r_ixorN C dL_areLaid_177 ?_
                    refine r_goto (tgt := 182) C dL_areLaid_178 (by decide) ?_
                    refine r_icmp_ne (tgt := 229) C dL_areLaid_182 (by decide) (fun h182 => ?_) (fun h182 => ?_)
                    · first | exact absurd (if_pos (by omega)) h182 | exact absurd (if_neg (by omega)) h182
                    · refine r_iload C dL_areLaid_185 rfl ?_
                      refine r_iconst C (nI 2) dL_areLaid_187 rfl ?_
                      refine r_iremN C dL_areLaid_188 (by omega) (by omega) (by omega) ?_
                      refine r_if_eqN (tgt := 225) C dL_areLaid_189 (by decide) (by omega) (fun h189 => ?_) (fun h189 => ?_)
                      · refine r_iconst C (bI true) dL_areLaid_225 rfl ?_
                        refine r_goto (tgt := 230) C dL_areLaid_226 (by decide) ?_
                        refine f_widen (by omega) (by omega) (f_W.le ?_ (jn230 _ _ hh))
                        exact (And.intro rfl (And.intro rfl (And.intro rfl (And.intro rfl (And.intro rfl (And.intro rfl (And.intro rfl (And.intro rfl (And.intro rfl (And.intro rfl (And.intro rfl trivial)))))))))))
                      · refine r_aload_n C dL_areLaid_192 rfl ?_
                        refine r_iload C dL_areLaid_193 rfl ?_
                        refine r_iconst C (nI 1) dL_areLaid_195 rfl ?_
                        refine r_isubN C dL_areLaid_196 (by omega) ?_
                        refine r_callSW C hh (L_leafOf_k E.2.1 Γ B0 ad h (k - 1) (by omega)) lw_L_112 rfl rfl (Nat.le_of_ble_eq_true rfl) dL_areLaid_197 ⟨by decide, by decide⟩ ⟨by omega, by omega⟩ (kk_is (fun H locs hs9 hh => ?_))
                        rw [f10 (by omega), g4]
                        refine r_iload C dL_areLaid_200 rfl ?_
                        refine r_bipush C (nI 16) dL_areLaid_202 rfl ?_
                        refine r_ixorN C dL_areLaid_204 ?_
                        refine r_icmp_neN (tgt := 229) C dL_areLaid_205 (by decide) (by omega) (by omega) (fun h205 => ?_) (fun h205 => ?_)
                        · exact absurd (rfl) h205
                        · refine r_aload_n C dL_areLaid_208 rfl ?_
                          refine r_iload C dL_areLaid_209 rfl ?_
                          refine r_callSW C hh (L_isTurned_k E.2.1 Γ B0 ad h k hk) lw_L_126 rfl rfl (Nat.le_of_ble_eq_true rfl) dL_areLaid_211 ⟨by decide, by decide⟩ ⟨by omega, by omega⟩ (kk_is (fun H locs hs9 hh => ?_))
                          rw [f0]
                          refine r_aload_n C dL_areLaid_214 rfl ?_
                          refine r_iload C dL_areLaid_215 rfl ?_
                          refine r_iconst C (nI 1) dL_areLaid_217 rfl ?_
                          refine r_isubN C dL_areLaid_218 (by omega) ?_
                          refine r_callSW C hh (L_isTurned_k E.2.1 Γ B0 ad h (k - 1) (by omega)) lw_L_126 rfl rfl (Nat.le_of_ble_eq_true rfl) dL_areLaid_219 ⟨by decide, by decide⟩ ⟨by omega, by omega⟩ (kk_is (fun H locs hs9 hh => ?_))
                          rw [f10 (by omega), g5]
                          refine r_icmp_ne (tgt := 229) C dL_areLaid_222 (by decide) (fun h222 => ?_) (fun h222 => ?_)
                          · exact absurd (rfl) h222
                          · refine r_iconst C (bI true) dL_areLaid_225 rfl ?_
                            refine r_goto (tgt := 230) C dL_areLaid_226 (by decide) ?_
                            refine f_widen (by omega) (by omega) (f_W.le ?_ (jn230 _ _ hh))
                            exact (And.intro rfl (And.intro rfl (And.intro rfl (And.intro rfl (And.intro rfl (And.intro rfl (And.intro rfl (And.intro rfl (And.intro rfl (And.intro rfl (And.intro rfl trivial)))))))))))
  exact lp13 (M 4 0 0 + 1) 0 _ _ (by omega) (by omega) hh

