/-! ===== the order of the pages: the law's changes and the class's ===== -/
theorem XI_ins {R : fR} (b : XI R) (h64 : R 0 0 0 < 64) (h100 : R 1 0 0 < 100) {j y z : Nat} (hj : j ≤ R 0 0 0) (hy : y < 256) (hz : z < 16) : XI (insR R j y z) := by
  obtain ⟨x1, x2, x3, x4, x5, x6, x7, x8, x9, x10, x11, x12, x13, x14, x15⟩ := b
  have e6 : insR R j y z 6 = ins6 R j := rfl
  have e13 : insR R j y z 13 = u1 (R 13) (R 20 0 0) y := rfl
  have e14 : insR R j y z 14 = u1 (R 14) (R 20 0 0) z := rfl
  have e15 : insR R j y z 15 = u1 (R 15) (R 20 0 0) 1 := rfl
  have e16 : insR R j y z 16 = fun t i => if t = R 20 0 0 then 0 else R 16 t i := rfl
  have e20 : insR R j y z 20 0 0 = R 20 0 0 + 1 := rfl
  have e0 : insR R j y z 0 0 0 = R 0 0 0 + 1 := rfl
  have e1 : insR R j y z 1 0 0 = R 20 0 0 + 1 := rfl
  unfold XI
  rw [e6, e13, e14, e15, e16, e20, e0, e1]
  refine ⟨by omega, fun i hi => ?_, by omega, rfl, x5, x6, fun q => ?_, fun q c => ?_, x9, x10, x11, x12, x13, x14, fun i => ?_⟩
  · unfold ins6 u1 sr2
    by_cases a : i = j
    · rw [if_pos a]; exact ⟨_, rfl, by omega⟩
    · rw [if_neg a]
      by_cases c : j < i ∧ i ≤ R 0 0 0
      · rw [if_pos c]
        obtain ⟨q, w1, w2⟩ := x2 (i - 1) (by omega)
        exact ⟨q, w1, by omega⟩
      · rw [if_neg c]
        obtain ⟨q, w1, w2⟩ := x2 i (by omega)
        exact ⟨q, w1, by omega⟩
  · have := x7 q
    unfold u1
    split
    · exact ⟨hy, hz, by omega⟩
    · exact this
  · have := x8 q c
    show (if q = R 20 0 0 then 0 else R 16 q c) < 4
    split <;> omega
  · have a1 := x15 i
    have a2 := x15 (i - 1)
    unfold ins6 u1 sr2
    split
    · omega
    · split <;> omega
theorem XI_rwr {R : fR} (b : XI R) {q x y : Nat} (hx : x < 256) (hy : y < 16) (h15 : R 15 q 0 + 1 ≤ 1000) : XI (rwr R q x y) := by
  obtain ⟨x1, x2, x3, x4, x5, x6, x7, x8, rest⟩ := b
  refine ⟨x1, x2, x3, x4, x5, x6, fun q' => ?_, fun q' j => ?_, rest⟩
  · show u1 (R 13) q x q' 0 < 256 ∧ u1 (R 14) q y q' 0 < 16 ∧ u1 (R 15) q (R 15 q 0 + 1) q' 0 ≤ 1000
    have := x7 q'
    unfold u1
    split
    · exact ⟨hx, hy, h15⟩
    · exact this
  · show drp (R 16) q 4 q' j < 4
    have := x8 q' j
    unfold drp; split <;> omega

def tk1 (f : Nat → Nat → Nat) (p a : Nat) : Nat → Nat → Nat := fun i j => if p ≤ i ∧ i < a then f (i + 1) 0 else f i j
theorem tk1_0 (f : Nat → Nat → Nat) (p : Nat) : tk1 f p p = f := by
  funext i j; unfold tk1; rw [if_neg (by omega)]
theorem tk1_s (f : Nat → Nat → Nat) {p a : Nat} (h : p ≤ a) : u1 (tk1 f p a) a (f (a + 1) 0) = tk1 f p (a + 1) := by
  funext i j
  unfold u1 tk1
  by_cases z : i = a
  · subst z; rw [if_pos rfl, if_pos ⟨h, by omega⟩]
  · rw [if_neg z]
    by_cases w : p ≤ i ∧ i < a
    · rw [if_pos w, if_pos ⟨w.1, by omega⟩]
    · rw [if_neg w, if_neg (by omega)]
def nx (k o : Nat) : Nat := if k < o then k + 1 else k - 1
def mvK (f : Nat → Nat → Nat) (p k : Nat) : Nat → Nat → Nat := if p ≤ k then tk1 f p k else sr2 f k p
theorem mvK_s (f : Nat → Nat → Nat) {p k o : Nat} (h : (p ≤ k ∧ k < o) ∨ (o < k ∧ k ≤ p)) : u1 (mvK f p k) k (mvK f p k (nx k o) 0) = mvK f p (nx k o) := by
  rcases h with ⟨h1, h2⟩ | ⟨h1, h2⟩
  · have e : nx k o = k + 1 := if_pos h2
    rw [e]
    unfold mvK
    rw [if_pos h1, if_pos (by omega), show tk1 f p k (k + 1) 0 = f (k + 1) 0 from if_neg (by omega)]
    exact tk1_s f h1
  · have e : nx k o = k - 1 := if_neg (by omega)
    have e2 : mvK f p k = sr2 f k p := by
      unfold mvK
      by_cases z : p ≤ k
      · rw [if_pos z, show p = k by omega, tk1_0, sr2_0]
      · rw [if_neg z]
    rw [e, e2]
    have e3 : mvK f p (k - 1) = sr2 f (k - 1) p := by unfold mvK; rw [if_neg (by omega)]
    rw [e3, sr2_n f (show k - 1 ≤ k by omega)]
    exact sr2_s f (by omega) h2 rfl
def insM (M : fR) (j v : Nat) : fR := rs (rs (rs M 1 (u1 (sr2 (M 1) j (M 4 0 0)) j v)) 2 (u1 (sr2 (M 2) j (M 4 0 0)) j 0)) 4 (u1 (u1 (M 4) 0 (M 4 0 0 + 1)) 1 (M 4 1 0 + 1))
def remM (M : fR) (p : Nat) : fR := rs (rs (rs M 4 (u1 (M 4) 0 (M 4 0 0 - 1))) 1 (tk1 (M 1) p (M 4 0 0 - 1))) 2 (tk1 (M 2) p (M 4 0 0 - 1))
def movM (M : fR) (p o : Nat) : fR := rs (rs M 1 (u1 (mvK (M 1) p o) o (M 1 p 0))) 2 (u1 (mvK (M 2) p o) o (M 2 p 0))
def ediM (M : fR) (p v : Nat) : fR := rs (rs M 1 (u1 (M 1) p v)) 2 (u1 (M 2) p 0)
def rvL (a f o : Nat) : Nat := (a &&& (2 ^ f ^^^ 4294967295) ||| 2 ^ o) + 4096
def repM (M : fR) (f o k : Nat) : fR := rs (rs M 1 (fun i _ => if i < k ∧ tb (M 1 i 0) f = true then rvL (M 1 i 0) f o else M 1 i 0)) 2 (fun i _ => if i < k ∧ tb (M 1 i 0) f = true then 0 else M 2 i 0)
theorem repM_1 (M : fR) (f o k i : Nat) : repM M f o k 1 i 0 = if i < k ∧ tb (M 1 i 0) f = true then rvL (M 1 i 0) f o else M 1 i 0 := rfl
theorem repM_2 (M : fR) (f o k i : Nat) : repM M f o k 2 i 0 = if i < k ∧ tb (M 1 i 0) f = true then 0 else M 2 i 0 := rfl
def repC (M : fR) (f : Nat) : Nat → Nat
  | 0 => 0
  | k + 1 => repC M f k + (if tb (M 1 k 0) f = true then 1 else 0)
/-- LI does not look at what is beside -/
theorem LI_of {M M1 : fR} (h : LI M) (h1 : ∀ i, M1 1 i 0 < 1048576) (h2 : ∀ i, M1 2 i 0 < 256) (h3 : ∀ i, M1 3 i 0 = M 3 i 0) (h40 : M1 4 0 0 ≤ 24) (h41 : M1 4 1 0 ≤ 1000) (h4 : ∀ i, 2 ≤ i → M1 4 i 0 = M 4 i 0) : LI M1 := by
  obtain ⟨a1, a2, a3, a40, a41, a42, a43, a44, a45⟩ := h
  refine ⟨h1, h2, fun i => by rw [h3]; exact a3 i, h40, h41, ?_, ?_, ?_, ?_⟩
  · rw [h4 2 (by decide)]; exact a42
  · rw [h4 3 (by decide)]; exact a43
  · rw [h4 4 (by decide)]; exact a44
  · rw [h4 5 (by decide)]; exact a45
theorem RG_of {R R1 M M1 : fR} (h : RG R M) (h2 : R1 2 = R 2) (h10 : R1 10 = R 10) (h11 : R1 11 = R 11) (h12 : R1 12 = R 12) (h3 : ∀ i, M1 3 i 0 = M 3 i 0) (h4 : M1 4 2 0 = M 4 2 0) : RG R1 M1 := by
  unfold RG
  rw [h2, h10, h11, h12, h4]
  refine ⟨h.1, fun f hf => ?_⟩
  rw [h3, h3]
  exact h.2 f hf
section ORD
variable {n : Nat} {P R M : fR}
theorem RL_perm (h : RZ n P R M) {m : Nat} (σ : Nat → Nat) (hm : m ≤ R 0 0 0) (hσ : ∀ i, i < m → σ i < R 0 0 0) (hi : ∀ i j, i < m → j < m → σ i = σ j → i = j) {R1 M1 : fR} (hR : ∀ k, k ≠ 0 → k ≠ 6 → R1 k = R k) (hR0 : R1 0 0 0 = m) (h6 : ∀ i, i < m → R1 6 i 0 = R 6 (σ i) 0) (h6l : ∀ i, R1 6 i 0 ≤ R 20 0 0)
    (hM1 : ∀ i, i < m → M1 1 i 0 = M 1 (σ i) 0) (hM2 : ∀ i, i < m → M1 2 i 0 = M 2 (σ i) 0) (h1 : ∀ i, M1 1 i 0 < 1048576) (h2 : ∀ i, M1 2 i 0 < 256) (hM3 : ∀ i, M1 3 i 0 = M 3 i 0) (hM4 : ∀ i, 1 ≤ i → M1 4 i 0 = M 4 i 0) (hM0 : M1 4 0 0 = m) : RZ n P R1 M1 := by
  have h0 := rl_24 h
  obtain ⟨⟨a, fp, b, lm⟩, ⟨g1, g2, g3, g4⟩, hG, hP, hQ, hC, hinj, h17, hb⟩ := h
  have hX : XI R1 := by
    obtain ⟨x1, x2, x3, x4, x5, x6, x7, x8, x9, x10, x11, x12, x13, x14, x15⟩ := b
    unfold XI
    rw [hR0, hR 20 (by decide) (by decide), hR 1 (by decide) (by decide), hR 2 (by decide) (by decide), hR 11 (by decide) (by decide), hR 12 (by decide) (by decide), hR 13 (by decide) (by decide), hR 14 (by decide) (by decide), hR 15 (by decide) (by decide), hR 16 (by decide) (by decide), hR 3 (by decide) (by decide), hR 17 (by decide) (by decide), hR 18 (by decide) (by decide), hR 4 (by decide) (by decide), hR 5 (by decide) (by decide), hR 9 (by decide) (by decide), hR 19 (by decide) (by decide)]
    exact ⟨by omega, fun i hi => by rw [h6 i hi]; exact x2 _ (hσ i hi), x3, x4, x5, x6, x7, x8, x9, x10, x11, x12, x13, x14, h6l⟩
  have hpg : ∀ i, i < m → pg R1 i = pg R (σ i) := fun i hi => by unfold pg; rw [h6 i hi]
  have hpk : ∀ x, pkd R1 x = pkd R x := fun x => by unfold pkd; rw [hR 13 (by decide) (by decide), hR 14 (by decide) (by decide), hR 15 (by decide) (by decide)]
  have hqk : ∀ x, qkd R1 x = qkd R x := fun x => by unfold qkd; rw [hR 16 (by decide) (by decide)]
  have hL1 : LI M1 := LI_of lm h1 h2 hM3 (by omega) (by rw [hM4 1 (by decide)]; exact lm.2.2.2.2.1) (fun i hi => hM4 i (by omega))
  have hG1 : RG R1 M1 := RG_of hG (hR 2 (by decide) (by decide)) (hR 10 (by decide) (by decide)) (hR 11 (by decide) (by decide)) (hR 12 (by decide) (by decide)) hM3 (hM4 2 (by decide))
  unfold RZ RP RQ RC
  rw [hR0, hM0, hM4 1 (by decide), hM4 3 (by decide), hM4 4 (by decide), hM4 5 (by decide), hR 1 (by decide) (by decide), hR 4 (by decide) (by decide), hR 5 (by decide) (by decide), hR 2 (by decide) (by decide), hR 14 (by decide) (by decide), hR 15 (by decide) (by decide), hR 16 (by decide) (by decide), hR 8 (by decide) (by decide), hR 17 (by decide) (by decide)]
  refine ⟨⟨a, fp, hX, hL1⟩, ⟨g1, g2, g3, g4⟩, hG1, ⟨rfl, fun i hi => ?_⟩, fun i hi => ?_, hC, fun i j hi' hj e => ?_, h17, hb⟩
  · rw [hM1 i hi, hpg i hi, hpk]; exact hP.2 _ (hσ i hi)
  · rw [hM2 i hi, hpg i hi, hqk]; exact hQ _ (hσ i hi)
  · rw [h6 i hi', h6 j hj] at e
    exact hi i j hi' hj (hinj _ _ (hσ i hi') (hσ j hj) e)
theorem RL_rem (h : RZ n P R M) {p : Nat} (hp : p < R 0 0 0) : RZ n P (rmR R p) (remM M p) := by
  have h24 := rl_24 h
  have e0 := rl_0 h
  have x15 := (rl_xi h).2.2.2.2.2.2.2.2.2.2.2.2.2.2
  have l1 := (rl_li h).1
  have l2 := (rl_li h).2.1
  refine RL_perm h (m := R 0 0 0 - 1) (fun i => if p ≤ i then i + 1 else i) (by omega) (fun i hi => ?_) (fun i j hi hj e => ?_) (fun k h0 h6 => ?_) rfl (fun i hi => ?_) (fun i => ?_) (fun i hi => ?_) (fun i hi => ?_) (fun i => ?_) (fun i => ?_) (fun i => rfl) (fun i hi => ?_) ?_
  · show (if p ≤ i then i + 1 else i) < _
    split <;> omega
  · have e : (if p ≤ i then i + 1 else i) = (if p ≤ j then j + 1 else j) := e
    split at e <;> split at e <;> omega
  · unfold rmR; rw [rs_ne _ _ h6, rs_ne _ _ h0, rs_ne _ _ h6]
  · show u1 (tk R p (R 0 0 0 - 1)) (R 0 0 0 - 1) 0 i 0 = R 6 (if p ≤ i then i + 1 else i) 0
    unfold u1 tk
    rw [if_neg (by omega)]
    by_cases z : p ≤ i
    · rw [if_pos ⟨z, hi⟩, if_pos z]
    · rw [if_neg (by omega), if_neg z]
  · show u1 (tk R p (R 0 0 0 - 1)) (R 0 0 0 - 1) 0 i 0 ≤ _
    unfold u1 tk
    split
    · omega
    · split <;> exact x15 _
  · show tk1 (M 1) p (M 4 0 0 - 1) i 0 = M 1 (if p ≤ i then i + 1 else i) 0
    unfold tk1
    by_cases z : p ≤ i
    · rw [if_pos ⟨z, by omega⟩, if_pos z]
    · rw [if_neg (by omega), if_neg z]
  · show tk1 (M 2) p (M 4 0 0 - 1) i 0 = M 2 (if p ≤ i then i + 1 else i) 0
    unfold tk1
    by_cases z : p ≤ i
    · rw [if_pos ⟨z, by omega⟩, if_pos z]
    · rw [if_neg (by omega), if_neg z]
  · show tk1 (M 1) p (M 4 0 0 - 1) i 0 < _
    unfold tk1; split <;> exact l1 _
  · show tk1 (M 2) p (M 4 0 0 - 1) i 0 < _
    unfold tk1; split <;> exact l2 _
  · show u1 (M 4) 0 (M 4 0 0 - 1) i 0 = M 4 i 0
    unfold u1; rw [if_neg (by omega)]
  · show M 4 0 0 - 1 = R 0 0 0 - 1
    rw [e0]
/-- where the page at place i came from, when the page at p goes to o -/
def mvS (p o i : Nat) : Nat := if i = o then p else if p ≤ i ∧ i < o then i + 1 else if o < i ∧ i ≤ p then i - 1 else i
theorem mvK_v (f : Nat → Nat → Nat) (p o i : Nat) : u1 (mvK f p o) o (f p 0) i 0 = f (mvS p o i) 0 := by
  unfold u1 mvS
  by_cases z : i = o
  · rw [if_pos z, if_pos z]
  · rw [if_neg z, if_neg z]
    unfold mvK
    by_cases w : p ≤ o
    · rw [if_pos w]
      unfold tk1
      by_cases q : p ≤ i ∧ i < o
      · rw [if_pos q, if_pos q]
      · rw [if_neg q, if_neg q, if_neg (by omega)]
    · rw [if_neg w]
      unfold sr2
      rw [if_neg (show ¬ (p ≤ i ∧ i < o) by omega)]
      by_cases q : o < i ∧ i ≤ p
      · rw [if_pos q, if_pos q]
      · rw [if_neg q, if_neg q]
theorem RL_mov (h : RZ n P R M) {p o : Nat} (hp : p < R 0 0 0) (ho : o < R 0 0 0) : RZ n P (mvR R p o) (movM M p o) := by
  have h24 := rl_24 h
  have e0 := rl_0 h
  have x15 := (rl_xi h).2.2.2.2.2.2.2.2.2.2.2.2.2.2
  have l1 := (rl_li h).1
  have l2 := (rl_li h).2.1
  refine RL_perm h (m := R 0 0 0) (mvS p o) (Nat.le_refl _) (fun i hi => ?_) (fun i j hi hj e => ?_) (fun k h0 h6 => ?_) rfl (fun i hi => ?_) (fun i => ?_) (fun i hi => mvK_v (M 1) p o i) (fun i hi => mvK_v (M 2) p o i) (fun i => ?_) (fun i => ?_) (fun i => rfl) (fun i hi => rfl) e0.symm
  · unfold mvS
    split
    · exact hp
    · split
      · omega
      · split <;> omega
  · unfold mvS at e
    split at e
    · split at e
      · omega
      · split at e
        · omega
        · split at e <;> omega
    · split at e
      · split at e
        · omega
        · split at e
          · omega
          · split at e <;> omega
      · split at e
        · split at e
          · omega
          · split at e
            · omega
            · split at e <;> omega
        · split at e
          · omega
          · split at e
            · omega
            · split at e <;> omega
  · unfold mvR; rw [rs_ne _ _ h6]
  · show u1 (sr2 (tk R p (R 0 0 0 - 1)) o (R 0 0 0 - 1)) o (R 6 p 0) i 0 = _
    unfold u1 mvS
    by_cases z : i = o
    · rw [if_pos z, if_pos z]
    · rw [if_neg z, if_neg z]
      unfold sr2
      by_cases w : o < i ∧ i ≤ R 0 0 0 - 1
      · rw [if_pos w, if_neg (by omega)]
        unfold tk
        by_cases q : i ≤ p
        · rw [if_neg (by omega), if_pos ⟨w.1, q⟩]
        · rw [if_pos (by omega), if_neg (by omega), show i - 1 + 1 = i by omega]
      · rw [if_neg w]
        unfold tk
        by_cases q : p ≤ i
        · rw [if_pos (by omega), if_pos (by omega)]
        · rw [if_neg (by omega), if_neg (by omega), if_neg (by omega)]
  · show u1 (sr2 (tk R p (R 0 0 0 - 1)) o (R 0 0 0 - 1)) o (R 6 p 0) i 0 ≤ _
    unfold u1 sr2 tk
    split
    · exact x15 _
    · split
      · split <;> exact x15 _
      · split <;> exact x15 _
  · rw [show movM M p o 1 i 0 = u1 (mvK (M 1) p o) o (M 1 p 0) i 0 from rfl, mvK_v]; exact l1 _
  · rw [show movM M p o 2 i 0 = u1 (mvK (M 2) p o) o (M 2 p 0) i 0 from rfl, mvK_v]; exact l2 _
theorem RL_ins (h : RZ n P R M) (hn : n ≤ 150) (h24 : R 0 0 0 < 24) (h100 : R 1 0 0 < 100) {j y z : Nat} (hj : j ≤ R 0 0 0) (hy : y < 256) (hz : z < 16) : RZ (n + 1) P (insR R j y z) (insM M j (y + 256 * z + 4096)) := by
  have e0 := rl_0 h
  have hX1 := XI_ins (rl_xi h) (by omega) h100 hj hy hz
  obtain ⟨⟨a, fp, b, lm⟩, ⟨g1, g2, g3, g4⟩, hG, hP, hQ, hC, hinj, h17, ⟨b1, b2, b3, b4⟩⟩ := h
  obtain ⟨x1, x2, x3, x4, x5, x6, x7, x8, x9, x10, x11, x12, x13, x14, x15⟩ := id b
  obtain ⟨l1, l2, l3, l40, l41, l42, l43, l44, l45⟩ := id lm
  have hm : M 4 0 0 = R 0 0 0 := e0.symm
  -- the pages, by place
  have k6 : ∀ i, insR R j y z 6 i 0 = if i = j then R 20 0 0 + 1 else if j < i ∧ i ≤ R 0 0 0 then R 6 (i - 1) 0 else R 6 i 0 := fun i => rfl
  have k1 : ∀ i, insM M j (y + 256 * z + 4096) 1 i 0 = if i = j then y + 256 * z + 4096 else if j < i ∧ i ≤ M 4 0 0 then M 1 (i - 1) 0 else M 1 i 0 := fun i => rfl
  have k2 : ∀ i, insM M j (y + 256 * z + 4096) 2 i 0 = if i = j then 0 else if j < i ∧ i ≤ M 4 0 0 then M 2 (i - 1) 0 else M 2 i 0 := fun i => rfl
  have hfr : ∀ i, i < R 0 0 0 → pg R i ≠ R 20 0 0 ∧ R 6 i 0 = pg R i + 1 ∧ pg R i < R 20 0 0 := fun i hi => by
    obtain ⟨q, w1, w2⟩ := x2 i hi
    have : pg R i = q := by unfold pg; omega
    omega
  have hpk : ∀ x, x ≠ R 20 0 0 → pkd (insR R j y z) x = pkd R x := fun x hx => by
    show u1 (R 13) (R 20 0 0) y x 0 + 256 * u1 (R 14) (R 20 0 0) z x 0 + 4096 * u1 (R 15) (R 20 0 0) 1 x 0 = _
    unfold u1; rw [if_neg hx, if_neg hx, if_neg hx]; rfl
  have hqk : ∀ x, x ≠ R 20 0 0 → qkd (insR R j y z) x = qkd R x := fun x hx => by
    have e : ∀ c, insR R j y z 16 x c = R 16 x c := fun c => if_neg hx
    unfold qkd; rw [e, e, e, e]
  have hpn : pkd (insR R j y z) (R 20 0 0) = y + 256 * z + 4096 := by
    show u1 (R 13) (R 20 0 0) y (R 20 0 0) 0 + 256 * u1 (R 14) (R 20 0 0) z (R 20 0 0) 0 + 4096 * u1 (R 15) (R 20 0 0) 1 (R 20 0 0) 0 = _
    unfold u1; rw [if_pos rfl, if_pos rfl, if_pos rfl]
  have hqn : qkd (insR R j y z) (R 20 0 0) = 0 := by
    have e : ∀ c, insR R j y z 16 (R 20 0 0) c = 0 := fun c => if_pos rfl
    unfold qkd; rw [e, e, e, e]
  have hL1 : LI (insM M j (y + 256 * z + 4096)) := by
    refine LI_of lm (fun i => ?_) (fun i => ?_) (fun _ => rfl) ?_ ?_ (fun i hi => ?_)
    · rw [k1]; split
      · omega
      · split <;> exact l1 _
    · rw [k2]; split
      · decide
      · split <;> exact l2 _
    · show M 4 0 0 + 1 ≤ 24
      omega
    · show M 4 1 0 + 1 ≤ 1000
      omega
    · show u1 (u1 (M 4) 0 (M 4 0 0 + 1)) 1 (M 4 1 0 + 1) i 0 = _
      unfold u1; rw [if_neg (by omega), if_neg (by omega)]
  have hG1 : RG (insR R j y z) (insM M j (y + 256 * z + 4096)) := RG_of hG rfl rfl rfl rfl (fun _ => rfl) rfl
  refine ⟨⟨a, fp, hX1, hL1⟩, ⟨?_, g2, g3, g4⟩, hG1, ⟨?_, fun i hi => ?_⟩, fun i hi => ?_, fun q c hc hne => ?_, fun i i' hi hi' e => ?_, h17, ?_, fun q => ?_, ?_, ?_⟩
  · show R 20 0 0 + 1 = M 4 1 0 + 1
    omega
  · show R 0 0 0 + 1 = M 4 0 0 + 1
    omega
  · have hi2 : i < R 0 0 0 + 1 := hi
    have e6 := k6 i
    rw [k1, hm]
    by_cases c1 : i = j
    · rw [if_pos c1] at e6 ⊢
      rw [show pg (insR R j y z) i = R 20 0 0 by unfold pg; rw [e6]; rfl, hpn]
    · rw [if_neg c1] at e6 ⊢
      by_cases c2 : j < i ∧ i ≤ R 0 0 0
      · rw [if_pos c2] at e6 ⊢
        rw [show pg (insR R j y z) i = pg R (i - 1) by unfold pg; rw [e6], hpk _ (hfr (i - 1) (by omega)).1]
        exact hP.2 _ (by omega)
      · rw [if_neg c2] at e6 ⊢
        rw [show pg (insR R j y z) i = pg R i by unfold pg; rw [e6], hpk _ (hfr i (by omega)).1]
        exact hP.2 _ (by omega)
  · have hi2 : i < R 0 0 0 + 1 := hi
    have e6 := k6 i
    rw [k2, hm]
    by_cases c1 : i = j
    · rw [if_pos c1] at e6 ⊢
      rw [show pg (insR R j y z) i = R 20 0 0 by unfold pg; rw [e6]; rfl, hqn]
    · rw [if_neg c1] at e6 ⊢
      by_cases c2 : j < i ∧ i ≤ R 0 0 0
      · rw [if_pos c2] at e6 ⊢
        rw [show pg (insR R j y z) i = pg R (i - 1) by unfold pg; rw [e6], hqk _ (hfr (i - 1) (by omega)).1]
        exact hQ _ (by omega)
      · rw [if_neg c2] at e6 ⊢
        rw [show pg (insR R j y z) i = pg R i by unfold pg; rw [e6], hqk _ (hfr i (by omega)).1]
        exact hQ _ (by omega)
  · have hne2 : (if q = R 20 0 0 then 0 else R 16 q c) ≠ 0 := hne
    show tb (u1 (R 14) (R 20 0 0) z q 0) c = true
    by_cases zq : q = R 20 0 0
    · rw [if_pos zq] at hne2; exact absurd rfl hne2
    · rw [if_neg zq] at hne2
      unfold u1; rw [if_neg zq]
      exact hC q c hc hne2
  · have hi2 : i < R 0 0 0 + 1 := hi
    have hi3 : i' < R 0 0 0 + 1 := hi'
    rw [k6, k6] at e
    by_cases c1 : i = j
    · rw [if_pos c1] at e
      by_cases c1' : i' = j
      · omega
      · rw [if_neg c1'] at e
        exfalso
        by_cases c2 : j < i' ∧ i' ≤ R 0 0 0
        · rw [if_pos c2] at e; have := hfr (i' - 1) (by omega); omega
        · rw [if_neg c2] at e; have := hfr i' (by omega); omega
    · rw [if_neg c1] at e
      by_cases c1' : i' = j
      · rw [if_pos c1'] at e
        exfalso
        by_cases c2 : j < i ∧ i ≤ R 0 0 0
        · rw [if_pos c2] at e; have := hfr (i - 1) (by omega); omega
        · rw [if_neg c2] at e; have := hfr i (by omega); omega
      · rw [if_neg c1'] at e
        by_cases c2 : j < i ∧ i ≤ R 0 0 0
        · rw [if_pos c2] at e
          by_cases c3 : j < i' ∧ i' ≤ R 0 0 0
          · rw [if_pos c3] at e; have := hinj _ _ (by omega) (by omega) e; omega
          · rw [if_neg c3] at e; have := hinj _ _ (by omega) (by omega) e; omega
        · rw [if_neg c2] at e
          by_cases c3 : j < i' ∧ i' ≤ R 0 0 0
          · rw [if_pos c3] at e; have := hinj _ _ (by omega) (by omega) e; omega
          · rw [if_neg c3] at e; have := hinj _ _ (by omega) (by omega) e; omega
  · show R 2 0 0 ≤ 4 * (n + 1)
    omega
  · show u1 (R 15) (R 20 0 0) 1 q 0 ≤ n + 1 + 1
    have := b2 q
    unfold u1; split <;> omega
  · show R 4 0 0 ≤ 8 * (n + 1)
    omega
  · show R 5 0 0 ≤ 500 * (n + 1)
    omega
/-- pages are edited: by place -/
theorem RL_edi (h : RZ n P R M) {R1 M1 : fR} {e : Nat → Bool} (hR : ∀ k, k ≠ 13 → k ≠ 14 → k ≠ 15 → k ≠ 16 → R1 k = R k) (hX : XI R1) (hC1 : RC R1) (h15 : ∀ q, R1 15 q 0 ≤ n + 2)
    (hM1 : ∀ i, i < R 0 0 0 → M1 1 i 0 = pkd R1 (pg R i)) (hM2 : ∀ i, i < R 0 0 0 → M1 2 i 0 = qkd R1 (pg R i)) (h1 : ∀ i, M1 1 i 0 < 1048576) (h2 : ∀ i, M1 2 i 0 < 256) (hM3 : ∀ i, M1 3 i 0 = M 3 i 0) (hM4 : ∀ i, M1 4 i 0 = M 4 i 0) : RZ (n + 1) P R1 M1 := by
  obtain ⟨⟨a, fp, b, lm⟩, ⟨g1, g2, g3, g4⟩, hG, hP, hQ, hC, hinj, h17, ⟨b1, b2, b3, b4⟩⟩ := h
  have hL1 : LI M1 := LI_of lm h1 h2 hM3 (by rw [hM4]; exact lm.2.2.2.1) (by rw [hM4]; exact lm.2.2.2.2.1) (fun i _ => hM4 i)
  have hG1 : RG R1 M1 := RG_of hG (hR 2 (by decide) (by decide) (by decide) (by decide)) (hR 10 (by decide) (by decide) (by decide) (by decide)) (hR 11 (by decide) (by decide) (by decide) (by decide)) (hR 12 (by decide) (by decide) (by decide) (by decide)) hM3 (hM4 2)
  have hpg : ∀ i, pg R1 i = pg R i := fun i => by unfold pg; rw [hR 6 (by decide) (by decide) (by decide) (by decide)]
  unfold RZ RP RQ
  rw [hR 0 (by decide) (by decide) (by decide) (by decide), hR 1 (by decide) (by decide) (by decide) (by decide), hR 2 (by decide) (by decide) (by decide) (by decide), hR 4 (by decide) (by decide) (by decide) (by decide), hR 5 (by decide) (by decide) (by decide) (by decide), hR 6 (by decide) (by decide) (by decide) (by decide), hR 8 (by decide) (by decide) (by decide) (by decide), hR 17 (by decide) (by decide) (by decide) (by decide), hM4, hM4, hM4, hM4, hM4]
  exact ⟨⟨a, fp, hX, hL1⟩, ⟨g1, g2, g3, g4⟩, hG1, ⟨hP.1, fun i hi => by rw [hpg]; exact hM1 i hi⟩, fun i hi => by rw [hpg]; exact hM2 i hi, hC1, hinj, h17, by omega, h15, by omega, by omega⟩
theorem RC_rwr (hC : RC R) (q x y : Nat) : RC (rwr R q x y) := by
  intro q' c hc hne
  have hne2 : drp (R 16) q 4 q' c ≠ 0 := hne
  show tb (u1 (R 14) q y q' 0) c = true
  unfold drp at hne2
  unfold u1
  by_cases z : q' = q
  · rw [if_pos ⟨z, hc⟩] at hne2; exact absurd rfl hne2
  · rw [if_neg (fun w => z w.1)] at hne2
    rw [if_neg z]
    exact hC q' c hc hne2
theorem pkd_rwr (R : fR) (q x y q' : Nat) : pkd (rwr R q x y) q' = if q' = q then x + 256 * y + 4096 * (R 15 q 0 + 1) else pkd R q' := by
  show u1 (R 13) q x q' 0 + 256 * u1 (R 14) q y q' 0 + 4096 * u1 (R 15) q (R 15 q 0 + 1) q' 0 = _
  unfold u1
  by_cases z : q' = q
  · rw [if_pos z, if_pos z, if_pos z, if_pos z]
  · rw [if_neg z, if_neg z, if_neg z, if_neg z]; rfl
theorem qkd_rwr (R : fR) (q x y q' : Nat) : qkd (rwr R q x y) q' = if q' = q then 0 else qkd R q' := by
  have e : ∀ c, c < 4 → rwr R q x y 16 q' c = if q' = q then 0 else R 16 q' c := fun c hc => by
    show drp (R 16) q 4 q' c = _
    unfold drp
    by_cases z : q' = q
    · rw [if_pos ⟨z, hc⟩, if_pos z]
    · rw [if_neg (fun w => z w.1), if_neg z]
  unfold qkd
  rw [e 0 (by decide), e 1 (by decide), e 2 (by decide), e 3 (by decide)]
  by_cases z : q' = q
  · rw [if_pos z, if_pos z, if_pos z, if_pos z, if_pos z]
  · rw [if_neg z, if_neg z, if_neg z, if_neg z, if_neg z]
theorem pg_inj (h : RZ n P R M) {i j : Nat} (hi : i < R 0 0 0) (hj : j < R 0 0 0) (e : pg R i = pg R j) : i = j := by
  obtain ⟨q, w1, -⟩ := (rl_xi h).2.1 i hi
  obtain ⟨q', w2, -⟩ := (rl_xi h).2.1 j hj
  unfold pg at e
  exact rl_inj h i j hi hj (by omega)
theorem RL_edit (h : RZ n P R M) (hn : n ≤ 150) {p y z : Nat} (hp : p < R 0 0 0) (hy : y < 256) (hz : z < 16) : RZ (n + 1) P (rwr R (pg R p) y z) (ediM M p (M 1 p 0 / 4096 * 4096 + 4096 + y + 256 * z)) := by
  have b2 := (rl_b h).2.1
  have l1 := (rl_li h).1
  have l2 := (rl_li h).2.1
  have hpp := (rl_p h).2 p hp
  have e15 := pk_15 (rl_xi h) (pg R p)
  have b15 := b2 (pg R p)
  refine RL_edi h (e := fun _ => true) (fun k a b c d => ?_) (XI_rwr (rl_xi h) hy hz (by omega)) (RC_rwr (rl_c h) _ _ _) (fun q => ?_) (fun i hi => ?_) (fun i hi => ?_) (fun i => ?_) (fun i => ?_) (fun _ => rfl) (fun _ => rfl)
  · unfold rwr; rw [rs_ne _ _ d, rs_ne _ _ c, rs_ne _ _ b, rs_ne _ _ a]
  · show u1 (R 15) (pg R p) (R 15 (pg R p) 0 + 1) q 0 ≤ _
    have := b2 q
    unfold u1; split <;> omega
  · rw [pkd_rwr]
    show u1 (M 1) p _ i 0 = _
    unfold u1
    by_cases c : i = p
    · rw [if_pos c, c, if_pos rfl, hpp, e15]; omega
    · rw [if_neg c, if_neg (fun w => c (pg_inj h hi hp w))]
      exact (rl_p h).2 i hi
  · rw [qkd_rwr]
    show u1 (M 2) p 0 i 0 = _
    unfold u1
    by_cases c : i = p
    · rw [if_pos c, c, if_pos rfl]
    · rw [if_neg c, if_neg (fun w => c (pg_inj h hi hp w))]
      exact rl_q h i hi
  · show u1 (M 1) p _ i 0 < _
    unfold u1; split
    · rw [hpp, e15]; omega
    · exact l1 i
  · show u1 (M 2) p 0 i 0 < _
    unfold u1; split
    · decide
    · exact l2 i
/-! replace -/
theorem and_low : ∀ a, a < 256 → ∀ f, f < 8 → ∀ o, o < 8 → (a &&& (2 ^ f ^^^ 4294967295) % 256 ||| 2 ^ o) = rpf a f o ∧ rpf a f o < 256 := by decide +kernel
theorem rvL_ok {a b f o : Nat} (ha : a < 256) (hb : b < 4096) (hf : f < 8) (ho : o < 8) : rvL (a + 256 * b) f o = rpf a f o + 256 * b + 4096 := by
  have hlo := and_low a ha f hf o ho
  have hff : (2 ^ f ^^^ 4294967295) / 256 = 16777215 := by
    have : ∀ f, f < 8 → (2 ^ f ^^^ 4294967295) / 256 = 16777215 := by decide +kernel
    exact this f hf
  have hoo : 2 ^ o / 256 = 0 ∧ 2 ^ o % 256 = 2 ^ o := by
    have : ∀ o, o < 8 → 2 ^ o / 256 = 0 ∧ 2 ^ o % 256 = 2 ^ o := by decide
    exact this o ho
  have hm : (a + 256 * b) % 2 ^ 8 = a ∧ (a + 256 * b) / 2 ^ 8 = b := by rw [show (2 : Nat) ^ 8 = 256 from rfl]; omega
  have hb2 : b &&& 16777215 = b := by rw [show (16777215 : Nat) = 2 ^ 24 - 1 from rfl, Nat.and_two_pow_sub_one_eq_mod]; omega
  have m1 : ((a + 256 * b) &&& (2 ^ f ^^^ 4294967295) ||| 2 ^ o) % 2 ^ 8 = rpf a f o := by
    rw [Nat.or_mod_two_pow, Nat.and_mod_two_pow, hm.1, show (2 : Nat) ^ 8 = 256 from rfl, hoo.2]
    exact hlo.1
  have m2 : ((a + 256 * b) &&& (2 ^ f ^^^ 4294967295) ||| 2 ^ o) / 2 ^ 8 = b := by
    rw [Nat.or_div_two_pow, Nat.and_div_two_pow, hm.2, show (2 : Nat) ^ 8 = 256 from rfl, hff, hoo.1, hb2, Nat.or_zero]
  unfold rvL
  rw [show (2 : Nat) ^ 8 = 256 from rfl] at m1 m2
  omega
theorem rpl_ne' (R : fR) (f o : Nat) {c : Nat} (h13 : c ≠ 13) (h14 : c ≠ 14) (h15 : c ≠ 15) (h16 : c ≠ 16) : ∀ k, rpl R f o k c = R c
  | 0 => rfl
  | k + 1 => by
    unfold rpl; split
    · unfold rwr; rw [rs_ne _ _ h16, rs_ne _ _ h15, rs_ne _ _ h14, rs_ne _ _ h13, rpl_ne' R f o h13 h14 h15 h16 k]
    · exact rpl_ne' R f o h13 h14 h15 h16 k
/-- what replace makes of each page, place after place -/
theorem rpl_at (h : RZ n P R M) (hn : n ≤ 150) {f o : Nat} (hf : f < 8) (ho : o < 8) : ∀ k, k ≤ R 0 0 0 → XI (rpl R f o k) ∧ RC (rpl R f o k) ∧ (∀ q, rpl R f o k 15 q 0 ≤ n + 2) ∧ (∀ i, i < R 0 0 0 → k ≤ i → rpl R f o k 13 (pg R i) 0 = R 13 (pg R i) 0 ∧ rpl R f o k 14 (pg R i) 0 = R 14 (pg R i) 0 ∧ rpl R f o k 15 (pg R i) 0 = R 15 (pg R i) 0) ∧
    (∀ i, i < R 0 0 0 → pkd (rpl R f o k) (pg R i) = repM M f o k 1 i 0) ∧ (∀ i, i < R 0 0 0 → qkd (rpl R f o k) (pg R i) = repM M f o k 2 i 0) ∧ rpc R f o k = repC M f k
  | 0, _ => by
    refine ⟨rl_xi h, rl_c h, fun q => by have := (rl_b h).2.1 q; show R 15 q 0 ≤ _; omega, fun i hi _ => ⟨rfl, rfl, rfl⟩, fun i hi => ?_, fun i hi => ?_, rfl⟩
    · rw [repM_1, if_neg (fun w => absurd w.1 (Nat.not_lt_zero _))]; exact ((rl_p h).2 i hi).symm
    · rw [repM_2, if_neg (fun w => absurd w.1 (Nat.not_lt_zero _))]; exact (rl_q h i hi).symm
  | k + 1, hk => by
    obtain ⟨c1, c2, c3, c4, c5, c6, c7⟩ := rpl_at h hn hf ho k (by omega)
    obtain ⟨d13, d14, d15⟩ := c4 k (by omega) (Nat.le_refl _)
    have hx := (rl_xi h).2.2.2.2.2.2.1 (pg R k)
    have hpk := (rl_p h).2 k (by omega)
    have htb : tb (M 1 k 0) f = tb (R 13 (pg R k) 0) f := by rw [hpk, pk_13 (rl_xi h) _ hf]
    have e1 : rpl R f o (k + 1) = if tb (rpl R f o k 13 (pg R k) 0) f = true then rwr (rpl R f o k) (pg R k) (rpf (rpl R f o k 13 (pg R k) 0) f o) (rpl R f o k 14 (pg R k) 0) else rpl R f o k := rfl
    have e2 : rpc R f o (k + 1) = rpc R f o k + (if tb (rpl R f o k 13 (pg R k) 0) f = true then 1 else 0) := rfl
    have e3 : repC M f (k + 1) = repC M f k + (if tb (M 1 k 0) f = true then 1 else 0) := rfl
    have s1 : ∀ i, repM M f o (k + 1) 1 i 0 = if i = k ∧ tb (M 1 k 0) f = true then rvL (M 1 k 0) f o else repM M f o k 1 i 0 := fun i => by
      show (if i < k + 1 ∧ tb (M 1 i 0) f = true then rvL (M 1 i 0) f o else M 1 i 0) = if i = k ∧ tb (M 1 k 0) f = true then rvL (M 1 k 0) f o else (if i < k ∧ tb (M 1 i 0) f = true then rvL (M 1 i 0) f o else M 1 i 0)
      by_cases z : i = k
      · subst z
        by_cases w : tb (M 1 i 0) f = true
        · rw [if_pos ⟨Nat.lt_succ_self i, w⟩, if_pos ⟨rfl, w⟩]
        · rw [if_neg (fun u => w u.2), if_neg (fun u => w u.2), if_neg (fun u => w u.2)]
      · rw [if_neg (show ¬ (i = k ∧ tb (M 1 k 0) f = true) from fun u => z u.1)]
        by_cases w : i < k ∧ tb (M 1 i 0) f = true
        · rw [if_pos (show i < k + 1 ∧ tb (M 1 i 0) f = true from ⟨by omega, w.2⟩), if_pos w]
        · rw [if_neg (show ¬ (i < k + 1 ∧ tb (M 1 i 0) f = true) from fun u => w ⟨by omega, u.2⟩), if_neg w]
    have s2 : ∀ i, repM M f o (k + 1) 2 i 0 = if i = k ∧ tb (M 1 k 0) f = true then 0 else repM M f o k 2 i 0 := fun i => by
      show (if i < k + 1 ∧ tb (M 1 i 0) f = true then 0 else M 2 i 0) = if i = k ∧ tb (M 1 k 0) f = true then 0 else (if i < k ∧ tb (M 1 i 0) f = true then 0 else M 2 i 0)
      by_cases z : i = k
      · subst z
        by_cases w : tb (M 1 i 0) f = true
        · rw [if_pos ⟨Nat.lt_succ_self i, w⟩, if_pos ⟨rfl, w⟩]
        · rw [if_neg (fun u => w u.2), if_neg (fun u => w u.2), if_neg (fun u => w u.2)]
      · rw [if_neg (show ¬ (i = k ∧ tb (M 1 k 0) f = true) from fun u => z u.1)]
        by_cases w : i < k ∧ tb (M 1 i 0) f = true
        · rw [if_pos (show i < k + 1 ∧ tb (M 1 i 0) f = true from ⟨by omega, w.2⟩), if_pos w]
        · rw [if_neg (show ¬ (i < k + 1 ∧ tb (M 1 i 0) f = true) from fun u => w ⟨by omega, u.2⟩), if_neg w]
    rw [d13, ← htb] at e1 e2
    rw [e2, e3, c7]
    by_cases w : tb (M 1 k 0) f = true
    · rw [if_pos w] at e1
      rw [e1, d14]
      have hlo := (and_low (R 13 (pg R k) 0) hx.1 f hf o ho).2
      have b15 := (rl_b h).2.1 (pg R k)
      refine ⟨XI_rwr c1 hlo hx.2.1 (by omega), RC_rwr c2 _ _ _, fun q => ?_, fun i hi hki => ?_, fun i hi => ?_, fun i hi => ?_, rfl⟩
      · show u1 (rpl R f o k 15) (pg R k) (rpl R f o k 15 (pg R k) 0 + 1) q 0 ≤ _
        have := c3 q
        unfold u1; split <;> omega
      · have hne : pg R i ≠ pg R k := fun u => by have := pg_inj h hi (by omega) u; omega
        obtain ⟨f1, f2, f3⟩ := c4 i hi (by omega)
        show u1 (rpl R f o k 13) _ _ _ 0 = _ ∧ u1 (rpl R f o k 14) _ _ _ 0 = _ ∧ u1 (rpl R f o k 15) _ _ _ 0 = _
        unfold u1
        rw [if_neg hne, if_neg hne, if_neg hne]
        exact ⟨f1, f2, f3⟩
      · rw [pkd_rwr, s1]
        by_cases z : i = k
        · rw [if_pos (show pg R i = pg R k by rw [z]), if_pos ⟨z, w⟩, d15, hpk]
          have e := rvL_ok (a := R 13 (pg R k) 0) (b := R 14 (pg R k) 0 + 16 * R 15 (pg R k) 0) hx.1 (by omega) hf ho
          rw [show pkd R (pg R k) = R 13 (pg R k) 0 + 256 * (R 14 (pg R k) 0 + 16 * R 15 (pg R k) 0) by unfold pkd; omega, e]
          omega
        · rw [if_neg (fun u => z (pg_inj h hi (by omega) u)), if_neg (fun u => z u.1)]
          exact c5 i hi
      · rw [qkd_rwr, s2]
        by_cases z : i = k
        · rw [if_pos (show pg R i = pg R k by rw [z]), if_pos ⟨z, w⟩]
        · rw [if_neg (fun u => z (pg_inj h hi (by omega) u)), if_neg (fun u => z u.1)]
          exact c6 i hi
    · rw [if_neg w] at e1
      rw [e1]
      refine ⟨c1, c2, c3, fun i hi hki => c4 i hi (by omega), fun i hi => ?_, fun i hi => ?_, rfl⟩
      · rw [s1, if_neg (fun u => w u.2)]; exact c5 i hi
      · rw [s2, if_neg (fun u => w u.2)]; exact c6 i hi
theorem rvL_lt {a f o : Nat} (ha : a < 1044480) (hf : f < 8) (ho : o < 8) : rvL a f o < 1048576 := by
  have e := rvL_ok (a := a % 256) (b := a / 256) (Nat.mod_lt _ (by decide)) (by omega) hf ho
  have h2 := (and_low (a % 256) (Nat.mod_lt _ (by decide)) f hf o ho).2
  rw [show a % 256 + 256 * (a / 256) = a by omega] at e
  omega
theorem RL_rep (h : RZ n P R M) (hn : n ≤ 150) {f o : Nat} (hf : f < 8) (ho : o < 8) : RZ (n + 1) P (rpl R f o (R 0 0 0)) (repM M f o (R 0 0 0)) ∧ rpc R f o (R 0 0 0) = repC M f (R 0 0 0) := by
  obtain ⟨c1, c2, c3, c4, c5, c6, c7⟩ := rpl_at h hn hf ho (R 0 0 0) (Nat.le_refl _)
  have l1 := (rl_li h).1
  have l2 := (rl_li h).2.1
  have b2 := (rl_b h).2.1
  refine ⟨RL_edi h (e := fun _ => true) (fun k a b c d => rpl_ne' R f o a b c d _) c1 c2 c3 (fun i hi => (c5 i hi).symm) (fun i hi => (c6 i hi).symm) (fun i => ?_) (fun i => ?_) (fun _ => rfl) (fun _ => rfl), c7⟩
  · show (if i < R 0 0 0 ∧ tb (M 1 i 0) f = true then rvL (M 1 i 0) f o else M 1 i 0) < _
    split
    · rename_i w
      have hp := (rl_p h).2 i w.1
      have hx := (rl_xi h).2.2.2.2.2.2.1 (pg R i)
      have hb := b2 (pg R i)
      refine rvL_lt ?_ hf ho
      rw [hp]; unfold pkd; omega
    · exact l1 i
  · show (if i < R 0 0 0 ∧ tb (M 1 i 0) f = true then 0 else M 2 i 0) < _
    split
    · decide
    · exact l2 i
end ORD
