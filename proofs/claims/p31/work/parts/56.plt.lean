/-! ===== plates and prints: what the law keeps and what the class does ===== -/
def nnx (P R : fR) (s x : Nat) : Nat := lkN P R s (x / 4) (x % 4)
def gdx (P R : fR) (s x : Nat) : Bool := gd (lkF P R s (x / 4) (x % 4)) (8 * s + x)
/-- the wear, one more; 0 where there is no good plate -/
def wrx (P R : fR) (s x : Nat) : Nat := if gdx P R s x = true then R 18 (8 * s + x) 0 + 1 else 0
def cntB (b : Nat → Bool) : Nat → Nat
  | 0 => 0
  | k + 1 => cntB b k + (if b k = true then 1 else 0)
theorem cntB_le (b : Nat → Bool) : ∀ k, cntB b k ≤ k
  | 0 => Nat.le_refl 0
  | k + 1 => by have := cntB_le b k; unfold cntB; split <;> omega
theorem cntB_c {b b' : Nat → Bool} : ∀ k, (∀ y, y < k → b y = b' y) → cntB b k = cntB b' k
  | 0, _ => rfl
  | k + 1, h => by
    show cntB b k + (if b k = true then 1 else 0) = cntB b' k + (if b' k = true then 1 else 0)
    rw [cntB_c k (fun y hy => h y (by omega)), h k (by omega)]
def mdB (P R : fR) (s y : Nat) : Bool := decide (nnx P R s y ≠ 0) && decide (wrx P R s y = 0)
theorem slot_x {s x : Nat} (hx : x < 8) : slot s (x / 4) (x % 4) = 8 * s + x := by unfold slot; omega
theorem iM_wrx {P R : fR} {s x : Nat} (hx : x < 8) : iM (wrx P R s x) = wrV P R s (x / 4) (x % 4) := by
  unfold wrx wrV iM gdx
  rw [slot_x hx]
  split
  · rw [if_neg (Nat.succ_ne_zero _), Nat.add_sub_cancel]
  · rfl
section PLT
variable {n : Nat} {P R M : fR}
theorem gd_f (P R : fR) (s i c t : Nat) : gd (lkF P R s i c) t = if R 8 t 0 = 0 then false else (decide (R 18 t 0 < 1000) && (decide (lkN P R s i c = R 17 t 0) && allm (lkF P R s i c) t (R 17 t 0))) := rfl
theorem gd_pt (P : fR) {R1 R : fR} (h0 : R1 0 = R 0) (h6 : R1 6 = R 6) (h14 : R1 14 = R 14) (h15 : R1 15 = R 15) {t : Nat} (h8 : R1 8 t 0 = R 8 t 0) (h17 : R1 17 t 0 = R 17 t 0) (h18 : R1 18 t 0 = R 18 t 0) (h19 : ∀ j, R1 19 t j = R 19 t j) (s i c : Nat) : gd (lkF P R1 s i c) t = gd (lkF P R s i c) t := by
  have en : lkN P R1 s i c = lkN P R s i c := lkn_eq P h0 h6 h14 s i c _
  have em : ∀ j, j < lkN P R s i c → lkm P R1 s i c (P 2 0 0 * P 3 0 0) j 0 = lkm P R s i c (P 2 0 0 * P 3 0 0) j 0 := lkm_eq P h0 h6 h14 h15 s i c _
  rw [gd_f, gd_f, h8, h17, h18, en]
  by_cases z : lkN P R s i c = R 17 t 0
  · have ea : ∀ k, k ≤ lkN P R s i c → allm (lkF P R1 s i c) t k = allm (lkF P R s i c) t k := by
      intro k
      induction k with
      | zero => intro _; rfl
      | succ k ih =>
        intro hk
        show (allm (lkF P R1 s i c) t k && decide (cM (R1 19 t k) = cM (lkm P R1 s i c (P 2 0 0 * P 3 0 0) k 0))) = (allm (lkF P R s i c) t k && decide (cM (R 19 t k) = cM (lkm P R s i c (P 2 0 0 * P 3 0 0) k 0)))
        rw [ih (by omega), h19, em k (by omega)]
    rw [← z, ea _ (Nat.le_refl _)]
  · rw [decide_eq_false z, Bool.false_and, Bool.false_and]
theorem wrx_pt (P : fR) {R1 R : fR} (h0 : R1 0 = R 0) (h6 : R1 6 = R 6) (h14 : R1 14 = R 14) (h15 : R1 15 = R 15) {s x : Nat} (h8 : R1 8 (8 * s + x) 0 = R 8 (8 * s + x) 0) (h17 : R1 17 (8 * s + x) 0 = R 17 (8 * s + x) 0) (h18 : R1 18 (8 * s + x) 0 = R 18 (8 * s + x) 0) (h19 : ∀ j, R1 19 (8 * s + x) j = R 19 (8 * s + x) j) : wrx P R1 s x = wrx P R s x := by
  unfold wrx gdx
  rw [gd_pt P h0 h6 h14 h15 h8 h17 h18 h19, h18]
theorem wrx_jk (P : fR) {R1 R : fR} (h : jk R1 R) (s x : Nat) : wrx P R1 s x = wrx P R s x :=
  wrx_pt P (h 0 (by decide) (by decide)) (h 6 (by decide) (by decide)) (h 14 (by decide) (by decide)) (h 15 (by decide) (by decide)) (by rw [h 8 (by decide) (by decide)]) (by rw [h 17 (by decide) (by decide)]) (by rw [h 18 (by decide) (by decide)]) (fun j => by rw [h 19 (by decide) (by decide)])
theorem nnx_eq (P : fR) {R1 R : fR} (h0 : R1 0 = R 0) (h6 : R1 6 = R 6) (h14 : R1 14 = R 14) (s x : Nat) : nnx P R1 s x = nnx P R s x := lkn_eq P h0 h6 h14 s _ _ _
theorem RZ_jk (h : RZ n P R M) {R1 : fR} (hj : jk R1 R) (hX : XI R1) : RZ n P R1 M := by
  obtain ⟨⟨a, fp, b, lm⟩, ⟨g1, g2, g3, g4⟩, hG, hP, hQ, hC, hinj, h17, hb⟩ := h
  have hpg : ∀ i, pg R1 i = pg R i := fun i => by unfold pg; rw [hj 6 (by decide) (by decide)]
  have hpk : ∀ x, pkd R1 x = pkd R x := fun x => by unfold pkd; rw [hj 13 (by decide) (by decide), hj 14 (by decide) (by decide), hj 15 (by decide) (by decide)]
  have hqk : ∀ x, qkd R1 x = qkd R x := fun x => by unfold qkd; rw [hj 16 (by decide) (by decide)]
  have hG2 : RG R1 M := RG_of hG (hj 2 (by decide) (by decide)) (hj 10 (by decide) (by decide)) (hj 11 (by decide) (by decide)) (hj 12 (by decide) (by decide)) (fun _ => rfl) rfl
  have hC2 : RC R1 := fun q c hc hne => by
    rw [hj 14 (by decide) (by decide)]
    rw [hj 16 (by decide) (by decide)] at hne
    exact hC q c hc hne
  unfold RZ RP RQ
  rw [hj 0 (by decide) (by decide), hj 1 (by decide) (by decide), hj 2 (by decide) (by decide), hj 4 (by decide) (by decide), hj 5 (by decide) (by decide), hj 6 (by decide) (by decide), hj 8 (by decide) (by decide), hj 15 (by decide) (by decide), hj 17 (by decide) (by decide)]
  exact ⟨⟨a, fp, hX, lm⟩, ⟨g1, g2, g3, g4⟩, hG2, ⟨hP.1, fun i hi => by rw [hpg, hpk]; exact hP.2 i hi⟩, fun i hi => by rw [hpg, hqk]; exact hQ i hi, hC2, hinj, h17, hb⟩
/-- where a plate is made anew -/
theorem mpR_at {P R : fR} {s i c : Nat} (hN : mpN P R s i c = false) :
    (∀ k, k ≠ 3 → k ≠ 4 → k ≠ 8 → k ≠ 9 → k ≠ 17 → k ≠ 18 → k ≠ 19 → mpR P R s i c k = R k) ∧
    (mpR P R s i c 8 (slot s i c) 0 ≠ 0 ∧ mpR P R s i c 17 (slot s i c) 0 = lkN P R s i c ∧ mpR P R s i c 18 (slot s i c) 0 = 0 ∧ ∀ j, j < lkN P R s i c → mpR P R s i c 19 (slot s i c) j = lkm P R s i c (P 2 0 0 * P 3 0 0) j 0) ∧
    (∀ t, t ≠ slot s i c → mpR P R s i c 8 t 0 = R 8 t 0 ∧ mpR P R s i c 17 t 0 = R 17 t 0 ∧ mpR P R s i c 18 t 0 = R 18 t 0 ∧ ∀ j, mpR P R s i c 19 t j = R 19 t j) ∧ mpR P R s i c 4 0 0 = R 4 0 0 + 1 := by
  have e : mpR P R s i c = rs (egR (mpP P R s i c) (slot s i c) (lkN P R s i c)) 4 (k0 (R 4 0 0 + 1)) := if_neg (by rw [hN]; decide)
  have q9 : mpP P R s i c 9 = lkm P R s i c (P 2 0 0 * P 3 0 0) := by unfold mpP; split <;> rfl
  have q8 : mpP P R s i c 8 (slot s i c) 0 ≠ 0 ∧ ∀ t, t ≠ slot s i c → mpP P R s i c 8 t 0 = R 8 t 0 := by
    unfold mpP
    by_cases z : R 8 (slot s i c) 0 = 0
    · rw [if_pos z]
      refine ⟨?_, fun t ht => if_neg ht⟩
      show u1 (R 8) (slot s i c) 1 (slot s i c) 0 ≠ 0
      unfold u1; rw [if_pos rfl]; decide
    · rw [if_neg z]; exact ⟨z, fun t _ => rfl⟩
  have q17 : ∀ t, t ≠ slot s i c → mpP P R s i c 17 t 0 = R 17 t 0 ∧ mpP P R s i c 18 t 0 = R 18 t 0 ∧ ∀ j, mpP P R s i c 19 t j = R 19 t j := fun t ht => by
    unfold mpP
    split
    · exact ⟨if_neg ht, if_neg ht, fun j => if_neg ht⟩
    · exact ⟨rfl, rfl, fun j => rfl⟩
  have qk : ∀ k, k ≠ 3 → k ≠ 8 → k ≠ 9 → k ≠ 17 → k ≠ 18 → k ≠ 19 → mpP P R s i c k = R k := fun k h3 h8 h9 h17 h18 h19 => by
    have ek : lkF P R s i c k = R k := by unfold lkF lkR; rw [rs_ne _ _ h3, rs_ne _ _ h9]
    unfold mpP
    split
    · unfold npR; rw [rs_ne _ _ h19, rs_ne _ _ h18, rs_ne _ _ h17, rs_ne _ _ h8, ek]
    · exact ek
  rw [e]
  refine ⟨fun k h3 h4 h8 h9 h17 h18 h19 => ?_, ⟨q8.1, if_pos rfl, if_pos rfl, fun j hj => ?_⟩, fun t ht => ⟨q8.2 t ht, ?_, ?_, fun j => ?_⟩, rfl⟩
  · unfold egR; rw [rs_ne _ _ h4, rs_ne _ _ h18, rs_ne _ _ h19, rs_ne _ _ h17, qk k h3 h8 h9 h17 h18 h19]
  · show cpy (mpP P R s i c 19) (slot s i c) (mpP P R s i c 9) (lkN P R s i c) (slot s i c) j = _
    unfold cpy; rw [if_pos ⟨rfl, hj⟩, q9]
  · show u1 (mpP P R s i c 17) (slot s i c) _ t 0 = _
    unfold u1; rw [if_neg ht]; exact (q17 t ht).1
  · show u1 (mpP P R s i c 18) (slot s i c) 0 t 0 = _
    unfold u1; rw [if_neg ht]; exact (q17 t ht).2.1
  · show cpy (mpP P R s i c 19) (slot s i c) (mpP P R s i c 9) (lkN P R s i c) t j = _
    unfold cpy; rw [if_neg (fun u => ht u.1)]; exact (q17 t ht).2.2 j
theorem mpR_good {P R : fR} {s i c : Nat} (hN : mpN P R s i c = false) : gd (lkF P (mpR P R s i c) s i c) (slot s i c) = true := by
  obtain ⟨a, ⟨b8, b17, b18, b19⟩, -, -⟩ := mpR_at hN
  have h0 := a 0 (by decide) (by decide) (by decide) (by decide) (by decide) (by decide) (by decide)
  have h6 := a 6 (by decide) (by decide) (by decide) (by decide) (by decide) (by decide) (by decide)
  have h14 := a 14 (by decide) (by decide) (by decide) (by decide) (by decide) (by decide) (by decide)
  have h15 := a 15 (by decide) (by decide) (by decide) (by decide) (by decide) (by decide) (by decide)
  have en : lkN P (mpR P R s i c) s i c = lkN P R s i c := lkn_eq P h0 h6 h14 s i c _
  have em : ∀ j, j < lkN P R s i c → lkm P (mpR P R s i c) s i c (P 2 0 0 * P 3 0 0) j 0 = lkm P R s i c (P 2 0 0 * P 3 0 0) j 0 := lkm_eq P h0 h6 h14 h15 s i c _
  rw [gd_f, if_neg b8, b17, b18, en, decide_eq_true rfl, decide_eq_true (show 0 < 1000 by decide), Bool.true_and, Bool.true_and]
  have ea : ∀ k, k ≤ lkN P R s i c → allm (lkF P (mpR P R s i c) s i c) (slot s i c) k = true := by
    intro k
    induction k with
    | zero => intro _; rfl
    | succ k ih =>
      intro hk
      show (allm (lkF P (mpR P R s i c) s i c) (slot s i c) k && decide (cM (mpR P R s i c 19 (slot s i c) k) = cM (lkm P (mpR P R s i c) s i c (P 2 0 0 * P 3 0 0) k 0))) = true
      rw [ih (by omega), b19 k (by omega), em k (by omega), decide_eq_true rfl]; rfl
  exact ea _ (Nat.le_refl _)
/-- the plates that makePlates makes, slot after slot -/
theorem mks_at (hF : FI P) (hX : XI R) (h4 : R 4 0 0 ≤ 880000) (h17 : ∀ t, t < 128 → R 8 t 0 ≠ 0 → 1 ≤ R 17 t 0) {s : Nat} (hs : s < 16) : ∀ x, x ≤ 8 →
    (∀ k, k ≠ 3 → k ≠ 4 → k ≠ 8 → k ≠ 9 → k ≠ 17 → k ≠ 18 → k ≠ 19 → mks P R s x k = R k) ∧
    (∀ y, y < 8 → wrx P (mks P R s x) s y = if y < x ∧ mdB P R s y = true then 1 else wrx P R s y) ∧
    mks P R s x 4 0 0 = R 4 0 0 + cntB (mdB P R s) x ∧
    (∀ t, t < 128 → mks P R s x 8 t 0 ≠ 0 → 1 ≤ mks P R s x 17 t 0)
  | 0, _ => ⟨fun _ _ _ _ _ _ _ _ => rfl, fun y _ => by rw [if_neg (fun u => absurd u.1 (Nat.not_lt_zero y))]; rfl, rfl, h17⟩
  | x + 1, hx => by
    obtain ⟨a, b, c, d⟩ := mks_at hF hX h4 h17 hs x (by omega)
    have hx8 : x < 8 := by omega
    have hsl := slot_x (s := s) hx8
    generalize hQ : mks P R s x = Q at *
    have e : mks P R s (x + 1) = mpR P Q s (x / 4) (x % 4) := by rw [← hQ]; rfl
    rw [e]
    have a' := fun k h3 h4 h8 h9 h17 h18 h19 => a k h3 h4 h8 h9 h17 h18 h19
    have f0 := a 0 (by decide) (by decide) (by decide) (by decide) (by decide) (by decide) (by decide)
    have f6 := a 6 (by decide) (by decide) (by decide) (by decide) (by decide) (by decide) (by decide)
    have f14 := a 14 (by decide) (by decide) (by decide) (by decide) (by decide) (by decide) (by decide)
    have enn : nnx P Q s x = nnx P R s x := nnx_eq P f0 f6 f14 s x
    have ewr : wrx P Q s x = wrx P R s x := by rw [b x hx8, if_neg (fun u => absurd u.1 (Nat.lt_irrefl x))]
    have ecn : cntB (mdB P R s) (x + 1) = cntB (mdB P R s) x + (if mdB P R s x = true then 1 else 0) := rfl
    have emp : mpN P Q s (x / 4) (x % 4) = !mdB P R s x := by
      have g : gdx P Q s x = decide (wrx P Q s x ≠ 0) := by
        unfold wrx
        cases z : gdx P Q s x
        · rfl
        · rw [if_pos rfl]; exact (decide_eq_true (Nat.succ_ne_zero _)).symm
      have e1 : mpN P Q s (x / 4) (x % 4) = (decide (nnx P Q s x = 0) || gdx P Q s x) := by
        unfold mpN gdx; rw [hsl]; rfl
      rw [e1, g, enn, ewr]
      unfold mdB
      by_cases y1 : nnx P R s x = 0
      · rw [decide_eq_true y1, decide_eq_false (p := nnx P R s x ≠ 0) (fun u => u y1)]; rfl
      · rw [decide_eq_false y1, decide_eq_true (p := nnx P R s x ≠ 0) y1]
        by_cases y2 : wrx P R s x = 0
        · rw [decide_eq_true y2, decide_eq_false (p := wrx P R s x ≠ 0) (fun u => u y2)]; rfl
        · rw [decide_eq_false y2, decide_eq_true (p := wrx P R s x ≠ 0) y2]; rfl
    cases hm : mdB P R s x
    · -- nothing is made
      rw [hm] at emp
      have e2 : mpR P Q s (x / 4) (x % 4) = lkF P Q s (x / 4) (x % 4) := if_pos emp
      have hj : jk (lkF P Q s (x / 4) (x % 4)) Q := jk_lkF (fun _ _ _ => rfl) s _ _
      rw [e2]
      refine ⟨fun k h3 h4 h8 h9 h17 h18 h19 => ?_, fun y hy => ?_, ?_, fun t ht => ?_⟩
      · rw [hj k h3 h9]; exact a k h3 h4 h8 h9 h17 h18 h19
      · rw [wrx_jk P hj, b y hy]
        by_cases z : y = x
        · rw [z, if_neg (fun u => absurd u.1 (Nat.lt_irrefl x)), if_neg (fun u => by rw [hm] at u; exact absurd u.2 (by decide))]
        · by_cases w : y < x ∧ mdB P R s y = true
          · rw [if_pos w, if_pos ⟨by omega, w.2⟩]
          · rw [if_neg w, if_neg (fun u => w ⟨by omega, u.2⟩)]
      · rw [hj 4 (by decide) (by decide), c, ecn, hm]; rfl
      · rw [hj 8 (by decide) (by decide), hj 17 (by decide) (by decide)]; exact d t ht
    · rw [hm] at emp
      obtain ⟨m1, ⟨m8, m17, m18, m19⟩, mo, m4⟩ := mpR_at (show mpN P Q s (x / 4) (x % 4) = false from emp)
      have hg := mpR_good (show mpN P Q s (x / 4) (x % 4) = false from emp)
      rw [hsl] at m8 m17 m18 hg mo
      have hnn : nnx P R s x ≠ 0 := by
        unfold mdB at hm
        rw [Bool.and_eq_true] at hm
        exact of_decide_eq_true hm.1
      have w0 := m1 0 (by decide) (by decide) (by decide) (by decide) (by decide) (by decide) (by decide)
      have w6 := m1 6 (by decide) (by decide) (by decide) (by decide) (by decide) (by decide) (by decide)
      have w14 := m1 14 (by decide) (by decide) (by decide) (by decide) (by decide) (by decide) (by decide)
      have w15 := m1 15 (by decide) (by decide) (by decide) (by decide) (by decide) (by decide) (by decide)
      refine ⟨fun k h3 h4 h8 h9 h17 h18 h19 => ?_, fun y hy => ?_, ?_, fun t ht hne => ?_⟩
      · rw [m1 k h3 h4 h8 h9 h17 h18 h19]; exact a k h3 h4 h8 h9 h17 h18 h19
      · by_cases z : y = x
        · rw [z, if_pos ⟨Nat.lt_succ_self x, hm⟩]
          unfold wrx gdx
          rw [if_pos hg, m18]
        · obtain ⟨o8, o17, o18, o19⟩ := mo (8 * s + y) (by omega)
          rw [wrx_pt P w0 w6 w14 w15 o8 o17 o18 o19, b y hy]
          by_cases w : y < x ∧ mdB P R s y = true
          · rw [if_pos w, if_pos ⟨by omega, w.2⟩]
          · rw [if_neg w, if_neg (fun u => w ⟨by omega, u.2⟩)]
      · rw [m4, c, ecn, hm]; rfl
      · by_cases z : t = 8 * s + x
        · rw [z, m17]
          have : lkN P Q s (x / 4) (x % 4) = nnx P R s x := enn
          omega
        · obtain ⟨o8, o17, -, -⟩ := mo t z
          rw [o17]
          rw [o8] at hne
          exact d t ht hne
theorem RZ_mks (h : RZ n P R M) {n' : Nat} (hn : n ≤ n') (hn' : n' ≤ 160) {s : Nat} (hs : s < 16) (h8 : R 4 0 0 + cntB (mdB P R s) 8 ≤ 8 * n') {M1 : fR} (hM : ∀ k, k ≠ 4 → M1 k = M k) (hM4 : ∀ i, i ≠ 4 → M1 4 i 0 = M 4 i 0) (hM44 : M1 4 4 0 = M 4 4 0 + cntB (mdB P R s) 8) : RZ n' P (mks P R s 8) M1 := by
  have hr4 := (rl_b h).2.2.1
  obtain ⟨a, b, c, d⟩ := mks_at (rl_fi h) (rl_xi h) (by omega) (rl_17 h) hs 8 (Nat.le_refl _)
  have hX := XI_mks (rl_fi h) (rl_xi h) (by omega) s 8 (Nat.le_refl _)
  obtain ⟨⟨af, fp, bx, lm⟩, ⟨g1, g2, g3, g4⟩, hG, hP, hQ, hC, hinj, h17, ⟨b1, b2, b3, b4⟩⟩ := h
  generalize mks P R s 8 = Q at *
  have k0 := fun k h3 h4 h8 h9 h17 h18 h19 => a k h3 h4 h8 h9 h17 h18 h19
  have e0 := a 0 (by decide) (by decide) (by decide) (by decide) (by decide) (by decide) (by decide)
  have e1 := a 1 (by decide) (by decide) (by decide) (by decide) (by decide) (by decide) (by decide)
  have e2 := a 2 (by decide) (by decide) (by decide) (by decide) (by decide) (by decide) (by decide)
  have e5 := a 5 (by decide) (by decide) (by decide) (by decide) (by decide) (by decide) (by decide)
  have e6 := a 6 (by decide) (by decide) (by decide) (by decide) (by decide) (by decide) (by decide)
  have e10 := a 10 (by decide) (by decide) (by decide) (by decide) (by decide) (by decide) (by decide)
  have e11 := a 11 (by decide) (by decide) (by decide) (by decide) (by decide) (by decide) (by decide)
  have e12 := a 12 (by decide) (by decide) (by decide) (by decide) (by decide) (by decide) (by decide)
  have e13 := a 13 (by decide) (by decide) (by decide) (by decide) (by decide) (by decide) (by decide)
  have e14 := a 14 (by decide) (by decide) (by decide) (by decide) (by decide) (by decide) (by decide)
  have e15 := a 15 (by decide) (by decide) (by decide) (by decide) (by decide) (by decide) (by decide)
  have e16 := a 16 (by decide) (by decide) (by decide) (by decide) (by decide) (by decide) (by decide)
  have hpg : ∀ i, pg Q i = pg R i := fun i => by unfold pg; rw [e6]
  have hpk : ∀ x, pkd Q x = pkd R x := fun x => by unfold pkd; rw [e13, e14, e15]
  have hqk : ∀ x, qkd Q x = qkd R x := fun x => by unfold qkd; rw [e16]
  have hL1 : LI M1 := by
    obtain ⟨a1, a2, a3, a40, a41, a42, a43, a44, a45⟩ := lm
    unfold LI
    rw [hM 1 (by decide), hM 2 (by decide), hM 3 (by decide), hM4 0 (by decide), hM4 1 (by decide), hM4 2 (by decide), hM4 3 (by decide), hM4 5 (by decide), hM44]
    exact ⟨a1, a2, a3, a40, a41, a42, a43, by omega, a45⟩
  have hG2 : RG Q M1 := RG_of hG e2 e10 e11 e12 (fun i => by rw [hM 3 (by decide)]) (hM4 2 (by decide))
  have hC2 : RC Q := fun q c hc hne => by
    rw [e14]
    rw [e16] at hne
    exact hC q c hc hne
  unfold RZ RP RQ
  rw [e0, e1, e2, e5, e6, e15, hM 1 (by decide), hM 2 (by decide), hM4 0 (by decide), hM4 1 (by decide), hM4 3 (by decide), hM4 5 (by decide), hM44, c]
  exact ⟨⟨af, fp, hX, hL1⟩, ⟨g1, g2, by omega, g4⟩, hG2, ⟨hP.1, fun i hi => by rw [hpg, hpk]; exact hP.2 i hi⟩, fun i hi => by rw [hpg, hqk]; exact hQ i hi, hC2, hinj, d, by omega, fun q => by have := b2 q; omega, h8, by omega⟩
/-! what a sheet needs -/
def ndL (P M : fR) (lo : Nat) : Nat → Nat
  | 0 => 0
  | d + 1 => ndL P M lo d ||| (M 1 (lo + d) 0 / 256 % 16 * 2 ^ (4 * (P 7 ((lo + d) % pgs P) 0 % 2)))
theorem nd_one : ∀ v, v < 16 → ∀ i, i < 2 → v * 2 ^ (4 * i) < 256 ∧ ∀ y, y < 8 → tb (v * 2 ^ (4 * i)) y = (decide (i = y / 4) && tb v (y % 4)) := by decide +kernel
theorem nd_tb (a : Nat) {c : Nat} (hc : c < 4) : tb (a / 256 % 16) c = tb a (8 + c) := by
  rw [tb_2, tb_2, Bool.eq_iff_iff, decide_eq_true_iff, decide_eq_true_iff]
  match c, hc with
  | 0, _ => omega
  | 1, _ => omega
  | 2, _ => omega
  | 3, _ => omega
theorem ndL_lt (P M : fR) (lo : Nat) : ∀ d, ndL P M lo d < 2 ^ 8
  | 0 => by show 0 < 2 ^ 8; decide
  | d + 1 => Nat.or_lt_two_pow (ndL_lt P M lo d) ((nd_one _ (Nat.mod_lt _ (by decide)) _ (Nat.mod_lt _ (by decide))).1)
theorem ndL_tb (P M : fR) (lo : Nat) {y : Nat} (hy : y < 8) : ∀ d, tb (ndL P M lo d) y = true ↔ ∃ e, e < d ∧ P 7 ((lo + e) % pgs P) 0 % 2 = y / 4 ∧ tb (M 1 (lo + e) 0) (8 + y % 4) = true
  | 0 => by
    constructor
    · intro h
      have h2 : tb 0 y = true := h
      rw [tb_bit, Nat.zero_testBit] at h2; cases h2
    · rintro ⟨e, he, -⟩; omega
  | d + 1 => by
    have ih := ndL_tb P M lo hy d
    show tb (ndL P M lo d ||| (M 1 (lo + d) 0 / 256 % 16 * 2 ^ (4 * (P 7 ((lo + d) % pgs P) 0 % 2)))) y = true ↔ _
    rw [tb_or, (nd_one _ (Nat.mod_lt _ (by decide)) _ (Nat.mod_lt _ (by decide))).2 y hy, nd_tb _ (Nat.mod_lt y (by decide)), Bool.or_eq_true, ih, Bool.and_eq_true, decide_eq_true_iff]
    constructor
    · rintro (⟨e, he, h1, h2⟩ | ⟨h1, h2⟩)
      · exact ⟨e, by omega, h1, h2⟩
      · exact ⟨d, by omega, h1, h2⟩
    · rintro ⟨e, he, h1, h2⟩
      by_cases z : e = d
      · subst z; exact Or.inr ⟨h1, h2⟩
      · exact Or.inl ⟨e, by omega, h1, h2⟩
theorem lkn_pos (P R : fR) (s i c : Nat) : ∀ L, lkn P R s i c L ≠ 0 ↔ ∃ l, l < L ∧ lkc P R s i c l = true
  | 0 => by
    constructor
    · intro h; exact absurd rfl h
    · rintro ⟨l, hl, -⟩; omega
  | L + 1 => by
    have ih := lkn_pos P R s i c L
    show lkn P R s i c L + (if lkc P R s i c L = true then 1 else 0) ≠ 0 ↔ _
    constructor
    · intro h
      by_cases z : lkc P R s i c L = true
      · exact ⟨L, by omega, z⟩
      · rw [if_neg z] at h
        obtain ⟨l, hl, hc⟩ := ih.mp h
        exact ⟨l, by omega, hc⟩
    · rintro ⟨l, hl, hc⟩
      by_cases z : l = L
      · subst z; rw [if_pos hc]; omega
      · have := ih.mpr ⟨l, by omega, hc⟩
        omega
/-- the sides and colours that are used are those of the pages on the sheet -/
theorem nd_nnx (h : RZ n P R M) {s : Nat} {y : Nat} (hy : y < 8) {d : Nat} (hd : d = min (pgs P) (R 0 0 0 - s * pgs P)) : tb (ndL P M (s * pgs P) d) y = decide (nnx P R s y ≠ 0) := by
  have hF := rl_fi h
  have hpg := FI_pg hF
  obtain ⟨f1, f2, f3⟩ := rl_fp h
  rw [Bool.eq_iff_iff, ndL_tb P M _ hy, decide_eq_true_iff]
  unfold nnx lkN
  rw [lkn_pos, hF.2.2.2.1]
  have hmod : ∀ e, e < pgs P → (s * pgs P + e) % pgs P = e := fun e he => by rw [Nat.mul_add_mod', Nat.mod_eq_of_lt he]
  constructor
  · rintro ⟨e, he, h1, h2⟩
    have hep : e < pgs P := by omega
    rw [hmod e hep] at h1
    obtain ⟨-, -, q1, q2⟩ := f2 e hep
    refine ⟨P 7 e 0 / 2, by omega, ?_⟩
    unfold lkc lkp lkq lkp
    rw [show P 7 e 0 / 2 * 2 + y / 4 = P 7 e 0 by omega, q2, decide_eq_true (by omega), Bool.true_and]
    have h3 := rl_tb h (i := s * pgs P + e) (c := y % 4) (by omega) (Nat.mod_lt _ (by decide))
    rw [h2] at h3
    exact h3.symm
  · rintro ⟨l, hl, hc⟩
    unfold lkc at hc
    rw [Bool.and_eq_true, decide_eq_true_iff] at hc
    obtain ⟨hc1, hc2⟩ := hc
    have hk : l * 2 + y / 4 < pgs P := by omega
    obtain ⟨q1, q2, -, -⟩ := f2 _ hk
    unfold lkp at hc1
    refine ⟨P 6 (l * 2 + y / 4) 0, by omega, ?_, ?_⟩
    · rw [hmod _ q1, q2]; omega
    · have h3 := rl_tb h (i := s * pgs P + P 6 (l * 2 + y / 4) 0) (c := y % 4) hc1 (Nat.mod_lt _ (by decide))
      rw [h3]
      exact hc2
/-! prints -/
theorem wrx_0 (h17 : ∀ t, t < 128 → R 8 t 0 ≠ 0 → 1 ≤ R 17 t 0) {s y : Nat} (hs : s < 16) (hy : y < 8) (hn : nnx P R s y = 0) : wrx P R s y = 0 := by
  unfold wrx gdx
  rw [gd_f]
  by_cases z : R 8 (8 * s + y) 0 = 0
  · rw [if_pos z]; rfl
  · have h1 := h17 (8 * s + y) (by omega) z
    have h2 : lkN P R s (y / 4) (y % 4) = 0 := hn
    rw [if_neg z, h2, decide_eq_false (show ¬ 0 = R 17 (8 * s + y) 0 by omega), Bool.false_and, Bool.and_false]; rfl
theorem ls_wrx {P R : fR} {s y m : Nat} (hy : y < 8) : lsO P R s (y / 4) (y % 4) m = (decide (nnx P R s y = 0) || (decide (wrx P R s y ≠ 0) && decide (wrx P R s y - 1 + m ≤ 1000))) := by
  unfold lsO wrx gdx
  rw [slot_x hy]
  cases z : gd (lkF P R s (y / 4) (y % 4)) (8 * s + y)
  · simp [nnx]; rfl
  · simp [nnx]; rfl
theorem wrx_lt {P R : fR} (hX : XI R) {s y : Nat} : wrx P R s y ≤ 1000 := by
  unfold wrx
  cases q : gdx P R s y
  · rw [if_neg (by decide)]; decide
  · rw [if_pos rfl]
    unfold gdx at q
    rw [gd_f] at q
    split at q
    · cases q
    · rw [Bool.and_eq_true, decide_eq_true_iff] at q; omega
/-- the wear behind a print -/
theorem wrx_print (h17 : ∀ t, t < 128 → R 8 t 0 ≠ 0 → 1 ≤ R 17 t 0) {R9 : fR} {s m y : Nat} (hs : s < 16) (hy : y < 8) (hj : jp P (rs R9 5 (R 5)) R s m 8) (hok : okP P R s m) : wrx P R9 s y = if nnx P R s y = 0 then wrx P R s y else if wrx P R s y - 1 + m = 1000 then 0 else wrx P R s y + m := by
  obtain ⟨j1, j2⟩ := hj
  have c : ∀ k, k ≠ 3 → k ≠ 5 → k ≠ 9 → k ≠ 18 → R9 k = R k := fun k a b c d => by
    have := j1 k a c d
    rw [rs_ne _ _ b] at this; exact this
  have j18 : R9 18 = prU P R s m 8 := by rw [← j2]; rfl
  have hl := hok.2 y hy
  rw [ls_wrx hy] at hl
  have e18 : R9 18 (8 * s + y) 0 = if nnx P R s y ≠ 0 ∧ R 8 (8 * s + y) 0 ≠ 0 then R 18 (8 * s + y) 0 + m else R 18 (8 * s + y) 0 := by
    rw [j18]
    unfold prU nnx
    rw [show 8 * s + y - s * 8 = y by omega]
    by_cases z : lkN P R s (y / 4) (y % 4) ≠ 0 ∧ R 8 (8 * s + y) 0 ≠ 0
    · rw [if_pos ⟨by omega, by omega, z.1, z.2⟩, if_pos z]
    · rw [if_neg (fun u => z ⟨u.2.2.1, u.2.2.2⟩), if_neg z]
  by_cases z : nnx P R s y = 0
  · rw [if_pos z]
    rw [if_neg (fun u => u.1 z)] at e18
    exact wrx_pt P (c 0 (by decide) (by decide) (by decide) (by decide)) (c 6 (by decide) (by decide) (by decide) (by decide)) (c 14 (by decide) (by decide) (by decide) (by decide)) (c 15 (by decide) (by decide) (by decide) (by decide)) (by rw [c 8 (by decide) (by decide) (by decide) (by decide)]) (by rw [c 17 (by decide) (by decide) (by decide) (by decide)]) e18 (fun j => by rw [c 19 (by decide) (by decide) (by decide) (by decide)])
  · rw [decide_eq_false z, Bool.false_or, Bool.and_eq_true, decide_eq_true_iff, decide_eq_true_iff] at hl
    obtain ⟨w1, w2⟩ := hl
    rw [if_neg z]
    -- the plate is there and good
    have hg : gdx P R s y = true := by
      cases q : gdx P R s y
      · exact absurd (show wrx P R s y = 0 by unfold wrx; rw [q]; rfl) w1
      · rfl
    have hw : wrx P R s y = R 18 (8 * s + y) 0 + 1 := by unfold wrx; rw [if_pos hg]
    have h8 : R 8 (8 * s + y) 0 ≠ 0 := by
      intro q
      unfold gdx at hg
      rw [gd_f, if_pos q] at hg
      cases hg
    rw [if_pos ⟨z, h8⟩] at e18
    -- its marks are as before
    have hR : gd (lkF P (rs R9 18 (R 18)) s (y / 4) (y % 4)) (8 * s + y) = gd (lkF P R s (y / 4) (y % 4)) (8 * s + y) :=
      gd_pt P (R1 := rs R9 18 (R 18)) (R := R) (t := 8 * s + y) (by rw [rs_ne _ _ (by decide)]; exact c 0 (by decide) (by decide) (by decide) (by decide)) (by rw [rs_ne _ _ (by decide)]; exact c 6 (by decide) (by decide) (by decide) (by decide)) (by rw [rs_ne _ _ (by decide)]; exact c 14 (by decide) (by decide) (by decide) (by decide)) (by rw [rs_ne _ _ (by decide)]; exact c 15 (by decide) (by decide) (by decide) (by decide)) (by rw [rs_ne _ _ (by decide), c 8 (by decide) (by decide) (by decide) (by decide)]) (by rw [rs_ne _ _ (by decide), c 17 (by decide) (by decide) (by decide) (by decide)]) rfl (fun j => by rw [rs_ne _ _ (by decide), c 19 (by decide) (by decide) (by decide) (by decide)]) s _ _
    unfold gdx at hg
    rw [hg] at hR
    rw [gd_f] at hR
    have h8' : ¬ rs R9 18 (R 18) 8 (8 * s + y) 0 = 0 := by rw [rs_ne _ _ (by decide), c 8 (by decide) (by decide) (by decide) (by decide)]; exact h8
    rw [if_neg h8', Bool.and_eq_true] at hR
    have hgd : gdx P R9 s y = decide (R9 18 (8 * s + y) 0 < 1000) := by
      unfold gdx
      rw [gd_f, if_neg (by rw [c 8 (by decide) (by decide) (by decide) (by decide)]; exact h8)]
      have h2 := hR.2
      have e2 : (decide (lkN P R9 s (y / 4) (y % 4) = R9 17 (8 * s + y) 0) && allm (lkF P R9 s (y / 4) (y % 4)) (8 * s + y) (R9 17 (8 * s + y) 0)) = (decide (lkN P (rs R9 18 (R 18)) s (y / 4) (y % 4) = rs R9 18 (R 18) 17 (8 * s + y) 0) && allm (lkF P (rs R9 18 (R 18)) s (y / 4) (y % 4)) (8 * s + y) (rs R9 18 (R 18) 17 (8 * s + y) 0)) := by
        have en : lkN P (rs R9 18 (R 18)) s (y / 4) (y % 4) = lkN P R9 s (y / 4) (y % 4) := lkn_eq P (R1 := rs R9 18 (R 18)) (R := R9) rfl rfl rfl s _ _ _
        have em : ∀ j, j < lkN P R9 s (y / 4) (y % 4) → lkm P (rs R9 18 (R 18)) s (y / 4) (y % 4) (P 2 0 0 * P 3 0 0) j 0 = lkm P R9 s (y / 4) (y % 4) (P 2 0 0 * P 3 0 0) j 0 := lkm_eq P (R1 := rs R9 18 (R 18)) (R := R9) rfl rfl rfl rfl s _ _ _
        rw [en]
        show _ = (decide (lkN P R9 s (y / 4) (y % 4) = R9 17 (8 * s + y) 0) && allm (lkF P (rs R9 18 (R 18)) s (y / 4) (y % 4)) (8 * s + y) (R9 17 (8 * s + y) 0))
        by_cases q : lkN P R9 s (y / 4) (y % 4) = R9 17 (8 * s + y) 0
        · have ea : ∀ k, k ≤ lkN P R9 s (y / 4) (y % 4) → allm (lkF P (rs R9 18 (R 18)) s (y / 4) (y % 4)) (8 * s + y) k = allm (lkF P R9 s (y / 4) (y % 4)) (8 * s + y) k := by
            intro k
            induction k with
            | zero => intro _; rfl
            | succ k ih =>
              intro hk
              show (allm (lkF P (rs R9 18 (R 18)) s (y / 4) (y % 4)) (8 * s + y) k && decide (cM (R9 19 (8 * s + y) k) = cM (lkm P (rs R9 18 (R 18)) s (y / 4) (y % 4) (P 2 0 0 * P 3 0 0) k 0))) = (allm (lkF P R9 s (y / 4) (y % 4)) (8 * s + y) k && decide (cM (R9 19 (8 * s + y) k) = cM (lkm P R9 s (y / 4) (y % 4) (P 2 0 0 * P 3 0 0) k 0)))
              rw [ih (by omega), em k (by omega)]
          rw [← q, ea _ (Nat.le_refl _)]
        · rw [decide_eq_false q, Bool.false_and, Bool.false_and]
      rw [e2, h2, Bool.and_true]
    unfold wrx
    rw [hgd, e18]
    have hgx : gdx P R s y = true := hg
    rw [if_pos hgx]
    by_cases q : R 18 (8 * s + y) 0 + m < 1000
    · rw [decide_eq_true q, if_pos rfl, if_neg (by omega)]; omega
    · rw [decide_eq_false q, if_neg (by decide), if_pos (by omega)]
theorem RZ_print (h : RZ n P R M) (hn : n ≤ 150) {R9 : fR} {s m : Nat} (hm : m ≤ 500) (hj : jp P (rs R9 5 (R 5)) R s m 8) (h5 : R9 5 0 0 = R 5 0 0 + m) (hX : XI R9) {M1 : fR} (hM : ∀ k, k ≠ 4 → M1 k = M k) (hM4 : ∀ i, i ≠ 5 → M1 4 i 0 = M 4 i 0) (hM45 : M1 4 5 0 = M 4 5 0 + m) : RZ (n + 1) P R9 M1 := by
  obtain ⟨⟨af, fp, bx, lm⟩, ⟨g1, g2, g3, g4⟩, hG, hP, hQ, hC, hinj, h17, ⟨b1, b2, b3, b4⟩⟩ := h
  have a : ∀ k, k ≠ 3 → k ≠ 5 → k ≠ 9 → k ≠ 18 → R9 k = R k := fun k a b c d => by
    have := hj.1 k a c d
    rw [rs_ne _ _ b] at this; exact this
  have e0 := a 0 (by decide) (by decide) (by decide) (by decide)
  have e1 := a 1 (by decide) (by decide) (by decide) (by decide)
  have e2 := a 2 (by decide) (by decide) (by decide) (by decide)
  have e4 := a 4 (by decide) (by decide) (by decide) (by decide)
  have e6 := a 6 (by decide) (by decide) (by decide) (by decide)
  have e8 := a 8 (by decide) (by decide) (by decide) (by decide)
  have e10 := a 10 (by decide) (by decide) (by decide) (by decide)
  have e11 := a 11 (by decide) (by decide) (by decide) (by decide)
  have e12 := a 12 (by decide) (by decide) (by decide) (by decide)
  have e13 := a 13 (by decide) (by decide) (by decide) (by decide)
  have e14 := a 14 (by decide) (by decide) (by decide) (by decide)
  have e15 := a 15 (by decide) (by decide) (by decide) (by decide)
  have e16 := a 16 (by decide) (by decide) (by decide) (by decide)
  have e17 := a 17 (by decide) (by decide) (by decide) (by decide)
  have hpg : ∀ i, pg R9 i = pg R i := fun i => by unfold pg; rw [e6]
  have hpk : ∀ x, pkd R9 x = pkd R x := fun x => by unfold pkd; rw [e13, e14, e15]
  have hqk : ∀ x, qkd R9 x = qkd R x := fun x => by unfold qkd; rw [e16]
  have hL1 : LI M1 := by
    obtain ⟨a1, a2, a3, a40, a41, a42, a43, a44, a45⟩ := lm
    unfold LI
    rw [hM 1 (by decide), hM 2 (by decide), hM 3 (by decide), hM4 0 (by decide), hM4 1 (by decide), hM4 2 (by decide), hM4 3 (by decide), hM4 4 (by decide), hM45]
    exact ⟨a1, a2, a3, a40, a41, a42, a43, a44, by omega⟩
  have hG2 : RG R9 M1 := RG_of hG e2 e10 e11 e12 (fun i => by rw [hM 3 (by decide)]) (hM4 2 (by decide))
  have hC2 : RC R9 := fun q c hc hne => by
    rw [e14]
    rw [e16] at hne
    exact hC q c hc hne
  unfold RZ RP RQ
  rw [e0, e1, e2, e4, e6, e8, e15, e17, h5, hM 1 (by decide), hM 2 (by decide), hM4 0 (by decide), hM4 1 (by decide), hM4 3 (by decide), hM4 4 (by decide), hM45]
  exact ⟨⟨af, fp, hX, hL1⟩, ⟨g1, g2, g3, by omega⟩, hG2, ⟨hP.1, fun i hi => by rw [hpg, hpk]; exact hP.2 i hi⟩, fun i hi => by rw [hpg, hqk]; exact hQ i hi, hC2, hinj, h17, by omega, fun q => by have := b2 q; omega, by omega, by omega⟩
end PLT
