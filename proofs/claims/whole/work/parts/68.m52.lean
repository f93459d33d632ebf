/-! ===== rights and days: setRight, withdraw, pass agree ===== -/
def lsq (L : Nat → Bool) (a : Nat) : Nat → Bool
  | 0 => false
  | f + 1 => lsq L a f || (L f && tb a f)
def inM9 (M : fR) (q : Nat) : Nat → Bool
  | 0 => false
  | k + 1 => inM9 M q k || decide (M 9 k 0 = q)
def LM (M : fR) (f : Nat) : Bool := zB (M 25 f 0) && !mayB M f
theorem lsq_c {L L' : Nat → Bool} (a : Nat) : ∀ x, (∀ f, f < x → L f = L' f) → lsq L a x = lsq L' a x
  | 0, _ => rfl
  | x + 1, h => by
    show (lsq L a x || (L x && tb a x)) = (lsq L' a x || (L' x && tb a x))
    rw [lsq_c a x (fun f hf => h f (by omega)), h x (by omega)]
theorem lsq_one {L : Nat → Bool} {f : Nat} (a : Nat) (ho : ∀ g, g < 8 → g ≠ f → L g = false) : ∀ x, x ≤ 8 → lsq L a x = (decide (f < x) && (L f && tb a f))
  | 0, _ => by rw [decide_eq_false (Nat.not_lt_zero f)]; rfl
  | x + 1, hx => by
    show (lsq L a x || (L x && tb a x)) = _
    rw [lsq_one a ho x (by omega)]
    by_cases z : x = f
    · rw [z, decide_eq_false (Nat.lt_irrefl f), decide_eq_true (Nat.lt_succ_self f)]; simp
    · rw [ho x (by omega) z]
      by_cases w : f < x
      · rw [decide_eq_true w, decide_eq_true (show f < x + 1 by omega)]; simp
      · rw [decide_eq_false w, decide_eq_false (show ¬ f < x + 1 by omega)]; simp
theorem dr1_v (M : fR) (p : Nat) (D : Nat → Nat → Nat) (i : Nat) : ∀ x, dr1 M p D x i 0 = if lsq (LM M) (M 10 p 0) x = true then clM D p 4 i 0 else D i 0
  | 0 => rfl
  | x + 1 => by
    have ih := dr1_v M p D i x
    have e1 : dr1 M p D (x + 1) = if dq M p x = true then clM (dr1 M p D x) p 4 else dr1 M p D x := rfl
    have e2 : lsq (LM M) (M 10 p 0) (x + 1) = (lsq (LM M) (M 10 p 0) x || (LM M x && tb (M 10 p 0) x)) := rfl
    have e3 : dq M p x = (LM M x && tb (M 10 p 0) x) := by unfold dq LM; rw [Bool.and_comm]
    rw [e1, e2, ← e3]
    by_cases q : dq M p x = true
    · rw [if_pos q, q, Bool.or_true, if_pos rfl]
      unfold clM
      by_cases z : 4 * p ≤ i ∧ i < 4 * p + 4
      · rw [if_pos z, if_pos z]
      · rw [if_neg z, if_neg z, ih]
        unfold clM
        split
        · rfl
        · rfl
    · rw [if_neg q, Bool.eq_false_iff.mpr q, Bool.or_false]; exact ih
theorem dr_v (M : fR) (q c : Nat) (hc : c < 4) : ∀ k, dr M k (4 * q + c) 0 = if (inM9 M q k && lsq (LM M) (M 10 q 0) 8) = true then 0 else M 13 (4 * q + c) 0
  | 0 => by
    show M 13 (4 * q + c) 0 = if (false && _) = true then 0 else _
    rw [Bool.false_and, if_neg (by decide)]
  | k + 1 => by
    have ih := dr_v M q c hc k
    have e1 : dr M (k + 1) = dr1 M (M 9 k 0) (dr M k) 8 := rfl
    have e2 : inM9 M q (k + 1) = (inM9 M q k || decide (M 9 k 0 = q)) := rfl
    rw [e1, e2, dr1_v]
    by_cases z : M 9 k 0 = q
    · rw [z, decide_eq_true rfl, Bool.or_true, Bool.true_and]
      by_cases w : lsq (LM M) (M 10 q 0) 8 = true
      · rw [if_pos w, if_pos w]
        unfold clM
        rw [if_pos (by omega)]
      · rw [if_neg w, if_neg w, ih, Bool.eq_false_iff.mpr w, Bool.and_false, if_neg (by decide)]
    · rw [decide_eq_false z, Bool.or_false]
      have e3 : clM (dr M k) (M 9 k 0) 4 (4 * q + c) 0 = dr M k (4 * q + c) 0 := by
        unfold clM
        rw [if_neg (by omega)]
      rw [e3, ih]
      split <;> rfl
section RE7
variable {n : Nat} {P R M : fR}
theorem RE_G (h : RE n P R M) {G D : Nat → Nat → Nat} (hG4 : ∀ q j, G q j < 4) (hD4 : ∀ k, D k 0 < 4) (hGD : ∀ q c, c < 4 → G q c = D (4 * q + c) 0) (hor : ∀ q c, c < 4 → G q c = 0 ∨ G q c = R 16 q c) : RE n P (rs R 16 G) (rs M 13 D) := by
  obtain ⟨⟨a, b, c0, d⟩, a2, a3, a4, a5, a6, a7, a8, a9, a10, a11⟩ := h
  have hM : MI (rs M 13 D) := by
    obtain ⟨x1, x2, x3, x4, x5, rest⟩ := c0
    exact ⟨x1, x2, x3, x4, hD4, rest⟩
  refine ⟨⟨a, XI_16 b hG4, hM, d⟩, a2, a3, a4, hGD, fun q c hc hq => ?_, fun q c hc hne => ?_, a8, a9, a10, a11⟩
  · show G q c = 0
    rcases hor q c hc with e | e
    · exact e
    · rw [e]; exact a6 q c hc hq
  · have hne2 : G q c ≠ 0 := hne
    rcases hor q c hc with e | e
    · exact absurd e hne2
    · rw [e] at hne2; exact a7 q c hc hne2
theorem RE_in (h : RE n P R M) (q : Nat) : ∀ k, k ≤ R 0 0 0 → inO R q k = inM9 M q k
  | 0, _ => rfl
  | k + 1, hk => by
    show (inO R q k || decide (R 6 k 0 = q + 1)) = (inM9 M q k || decide (M 9 k 0 = q))
    rw [RE_in h q k (by omega), RE_9 h (by omega)]
    congr 1
    rw [Bool.eq_iff_iff, decide_eq_true_iff, decide_eq_true_iff]
    omega
/-- what is dropped of the proofs of pages with lost fonts -/
theorem RE_drop (h : RE n P R M) {G : Nat → Nat → Nat} (hG : ∀ q j, G q j = if (inO R q (R 0 0 0) && lsq (LM M) (R 13 q 0) 8) = true ∧ j < 4 then 0 else R 16 q j) : RE n P (rs R 16 G) (drM M) := by
  have x8 := (RE_xi h).2.2.2.2.2.2.2.1
  refine RE_G h (fun q j => ?_) (dr_lt (RE_mi h).2.2.2.2.1 _) (fun q c hc => ?_) (fun q c hc => ?_)
  · rw [hG]
    have := x8 q j
    split <;> omega
  · rw [hG, dr_v M q c hc, RE_in h q _ (Nat.le_refl _), ← RE_n h, (RE_13 h q).1, ← RE_16 h q hc]
    by_cases z : (inM9 M q (R 0 0 0) && lsq (LM M) (M 10 q 0) 8) = true
    · rw [if_pos z, if_pos ⟨z, hc⟩]
    · rw [if_neg z, if_neg (fun w => z w.1)]
  · rw [hG]
    split
    · exact Or.inl rfl
    · exact Or.inr rfl
/-- counting what is sent back -/
theorem csb_sb {R' M' : fR} {s : Nat} {A : Nat → Bool} (h7 : ∀ i, i < 16 → zB (R' 7 i 0) = (decide (i < s) && A i)) (h24 : ∀ x, x < s → zB (M' 24 x 0) = A x) (hrd : ∀ x, afo P R' x = rdY M' x) : ∀ k, k ≤ 16 → csb P R' k = sbM M' (min k s)
  | 0, _ => by rw [Nat.zero_min]; rfl
  | k + 1, hk => by
    have ih := csb_sb h7 h24 hrd k (by omega)
    show csb P R' k + (if (zB (R' 7 k 0) && !afo P R' k) = true then 1 else 0) = _
    rw [ih, h7 k (by omega), hrd]
    by_cases z : k < s
    · rw [show min (k + 1) s = k + 1 by omega, show min k s = k by omega, decide_eq_true z, Bool.true_and, ← h24 k z]
      rfl
    · rw [show min (k + 1) s = s by omega, show min k s = s by omega, decide_eq_false z]
      rfl
theorem zB_t (b : Bool) : zB b.toNat = b := by cases b <;> rfl
theorem nr_7 (P R : fR) {i : Nat} (hi : i < 16) : zB (nr P R 7 i 0) = (decide (i < shc P R) && afo P R i) := by
  show zB (nrd P R 16 i 0) = _
  unfold nrd
  rw [if_pos hi, zB_t]
theorem no_24 (M : fR) {x : Nat} (hx : x < shM M) : zB (noM M 24 x 0) = rdY M x := by
  show zB (noT M (shM M) x 0) = _
  unfold noT
  rw [if_pos hx, zB_t]
theorem lo_25 (M : fR) {f : Nat} (hf : f < 8) : zB (loM M 25 f 0) = mayB M f := by
  show zB (loT M 8 f 0) = _
  unfold loT
  rw [if_pos hf, zB_t]
theorem RE_7 (h : RE n P R M) (g g1 g2 : Nat → Nat → Nat) : RE n P (rs R 7 g) (rs (rs M 24 g1) 25 g2) := h
/-- a right given or taken -/
theorem RE_rt (h : RE n P R M) {f a b v : Nat} {g11 g12 : Nat → Nat → Nat} {a' b' : Nat} (hf : f < 8) (ha' : a' ≤ 10000) (hb' : b' ≤ 10000) (hv : if zB v = true then a' = a + 1 ∧ b' = b + 1 else a' = 0) (ha : a ≤ 9999) (hb : b ≤ 9999)
    (h11 : g11 f 0 = a ∨ zB v = false) (h12 : g12 f 0 = b ∨ zB v = false) (o11 : ∀ g, g ≠ f → g11 g 0 = R 11 g 0) (o12 : ∀ g, g ≠ f → g12 g 0 = R 12 g 0) (l11 : ∀ g, g11 g 0 ≤ 9999) (l12 : ∀ g, g12 g 0 ≤ 9999) :
    RE n P (rs (rs (rs R 10 (u1 (R 10) f v)) 11 g11) 12 g12) (rs (rs M 14 (u1 (M 14) f a')) 15 (u1 (M 15) f b')) := by
  obtain ⟨⟨x, b0, c0, d⟩, a2, a3, a4, a5, a6, a7, a8, a9, a10, a11⟩ := h
  have hX : XI (rs (rs (rs R 10 (u1 (R 10) f v)) 11 g11) 12 g12) := by
    obtain ⟨x1, x2, x3, x4, x5, x6, rest⟩ := b0
    exact ⟨x1, x2, x3, x4, x5, fun g => ⟨l11 g, l12 g⟩, rest⟩
  refine ⟨⟨x, hX, MI_ft c0 ha' hb', d⟩, a2, a3, a4, a5, a6, a7, fun g hg => ?_, a9, a10, a11⟩
  show if zB (u1 (R 10) f v g 0) = true then u1 (M 14) f a' g 0 = g11 g 0 + 1 ∧ u1 (M 15) f b' g 0 = g12 g 0 + 1 else u1 (M 14) f a' g 0 = 0
  unfold u1
  by_cases z : g = f
  · rw [if_pos z, if_pos z, if_pos z, z]
    by_cases w : zB v = true
    · rw [if_pos w] at hv ⊢
      rcases h11 with e1 | e1
      · rcases h12 with e2 | e2
        · rw [e1, e2]; exact hv
        · rw [e2] at w; cases w
      · rw [e1] at w; cases w
    · rw [if_neg w] at hv ⊢; exact hv
  · rw [if_neg z, if_neg z, if_neg z, o11 g z, o12 g z]
    exact a8 g hg
theorem okS_iff {x y z : Int32} : okS x y z = true ↔ okR x y z := by
  unfold okS okR inn
  rw [Bool.and_eq_true, Bool.and_eq_true, decide_eq_true_iff, decide_eq_true_iff, rgB_rg (by decide), show (10000 : Nat) = 9999 + 1 from rfl, rg_le (n := 9999) (x := z) (by decide)]
  unfold rg
  rw [rg_le (n := 9999) (x := y) (by decide)]
  exact Iff.rfl
/-- one font's right changed: the proofs dropped, the sheets sent back -/
theorem RE_give (h : RE n P R M) {f a' b' : Nat} (hf : f < 8) {R1 : fR} (hR1 : RE n P R1 (gfM M f a' b')) (h7 : R1 7 = nr P R 7) (h0 : R1 0 = R 0) : RE n P (dlf R1 f (us R f)) (gvM M f a' b') ∧ csb P (dlf R1 f (us R f)) 16 = sbM (gvM M f a' b') (shM M) := by
  have hL : ∀ g, g < 8 → g ≠ f → LM (gfM M f a' b') g = false := fun g hg hne => by
    have e25 : zB (gfM M f a' b' 25 g 0) = mayB M g := lo_25 (rs M 24 (noT M (shM M))) hg
    have em : mayB (gfM M f a' b') g = mayB M g := by
      unfold mayB
      have e14 : gfM M f a' b' 14 g 0 = M 14 g 0 := if_neg hne
      have e15 : gfM M f a' b' 15 g 0 = M 15 g 0 := if_neg hne
      have e0 : gfM M f a' b' 0 = M 0 := rfl
      rw [e14, e15, e0]
    unfold LM
    rw [e25, em]
    cases mayB M g <;> rfl
  have hLf : LM (gfM M f a' b') f = (us R f && !us R1 f) := by
    have e25 : zB (gfM M f a' b' 25 f 0) = mayB M f := lo_25 (rs M 24 (noT M (shM M))) hf
    unfold LM
    rw [e25, RE_us hR1 hf, RE_us h hf]
  have hD : RE n P (dlf R1 f (us R f)) (gvM M f a' b') := by
    have e := RE_drop hR1 (G := dlf R1 f (us R f) 16) (fun q j => by
      rw [lsq_one _ hL 8 (Nat.le_refl _), decide_eq_true hf, Bool.true_and, hLf]
      unfold dlf
      by_cases w : (us R f && !us R1 f) = true
      · rw [if_pos w, w, Bool.true_and]
        show dlp R1 f (R1 0 0 0) q j = _
        unfold dlp; rfl
      · rw [if_neg w, Bool.eq_false_iff.mpr w, Bool.false_and, Bool.and_false, if_neg (fun u => by cases u.1)])
    have e2 : rs R1 16 (dlf R1 f (us R f) 16) = dlf R1 f (us R f) := by
      unfold dlf
      split
      · funext k
        by_cases z : k = 16
        · subst z; rw [rs_same, rs_same]
        · rw [rs_ne _ _ z, rs_ne _ _ z]
      · exact rs_id R1 16
    rw [e2] at e
    exact e
  refine ⟨hD, ?_⟩
  have s16 : shM M ≤ 16 := shM_16 (RE_mi h) (RE_pg h).2.1
  have hc := csb_sb (P := P) (R' := dlf R1 f (us R f)) (M' := gvM M f a' b') (s := shM M) (A := fun i => rdY M i) (fun i hi => by
    rw [dlf_c _ _ _ (by decide), h7, nr_7 P R hi, RE_sh h, RE_rd h]) (fun x hx => no_24 M hx) (fun x => RE_rd hD x) 16 (Nat.le_refl _)
  rw [hc, show min 16 (shM M) = shM M by omega]
theorem q_setRight_n (h : RE n P R M) {x y z : Int32} (hc : okR x y z) :
    srM M x y z 8 0 0 = 0 ∧ nI (csb P (srR P R (xN x) (xN y) (xN z)) 16) = srV M x y z ∧ RE (n + 1) P (srR P R (xN x) (xN y) (xN z)) (srM M x y z) := by
  have ok := okS_iff.mpr hc
  obtain ⟨jx, jy, jz, hjx, hjy, hjz, ex, ey, ez⟩ := okS_of ok
  have a1 : xN x = jx := by rw [ex]; exact xN_nI (by omega)
  have a2 : xN y = jy := by rw [ey]; exact xN_nI (by omega)
  have a3 : xN z = jz := by rw [ez]; exact xN_nI (by omega)
  have em : srM M x y z = gvM (rs M 8 (k0 0)) jx (jy + 1) (jz + 1) := by unfold srM; rw [if_pos ok, a1, a2, a3]
  have h8 := RE_8 h (k0 0)
  have hR1 : RE n P (giv (nr P R) jx jy jz) (gfM (rs M 8 (k0 0)) jx (jy + 1) (jz + 1)) := by
    have x6 := (RE_xi h).2.2.2.2.2.1
    refine RE_rt (R := nr P R) (M := noM (rs M 8 (k0 0))) (RE_7 h8 _ _ _) (f := jx) (a := jy) (b := jz) (v := 1) hjx (by omega) (by omega) (by rw [if_pos (show zB 1 = true from rfl)]; exact ⟨rfl, rfl⟩) hjy hjz (Or.inl (if_pos rfl)) (Or.inl (if_pos rfl)) (fun g hg => if_neg hg) (fun g hg => if_neg hg) (fun g => ?_) (fun g => ?_)
    · show u1 (R 11) jx jy g 0 ≤ 9999
      have := (x6 g).1
      unfold u1; split <;> omega
    · show u1 (R 12) jx jz g 0 ≤ 9999
      have := (x6 g).2
      unfold u1; split <;> omega
  have st := RE_give h8 hjx hR1 rfl rfl
  refine ⟨by rw [em]; rfl, ?_, by rw [em, a1, a2, a3]; exact RE_up (Nat.le_succ n) st.1⟩
  unfold srV
  rw [if_pos ok, em, a1, a2, a3]
  exact congrArg nI st.2
theorem q_setRight_x (h : RE n P R M) {x y z : Int32} (hc : ¬ okR x y z) : srM M x y z 8 0 0 = 1 ∧ RE (n + 1) P R (srM M x y z) := by
  have em : srM M x y z = rs M 8 (k0 1) := if_neg (fun w => hc (okS_iff.mp w))
  rw [em]; exact ⟨rfl, RE_t h _⟩
theorem q_hasRight (h : RE n P R M) {x : Int32} (hc : rg x 8) : okW M x = zB (R 10 (xN x) 0) := by
  have x1 := (rg_xN (by decide) hc).1
  have h8 := RE_ft8 h x1
  unfold okW
  rw [(rgb (by decide)).1 hc, Bool.true_and]
  by_cases z : zB (R 10 (xN x) 0) = true
  · rw [if_pos z] at h8
    rw [z, h8.1, bne_iff_ne]; omega
  · rw [if_neg z] at h8
    rw [h8, Bool.eq_false_iff.mpr z]; rfl
theorem q_withdraw_n (h : RE n P R M) {x : Int32} (hc : rg x 8 ∧ zB (R 10 (xN x) 0) = true) :
    wdM M x 8 0 0 = 0 ∧ nI (csb P (wdR P R (xN x)) 16) = wdV M x ∧ RE (n + 1) P (wdR P R (xN x)) (wdM M x) := by
  have x1 := (rg_xN (by decide) hc.1).1
  have ok : (rgB x 8 && okW M x) = true := by rw [(rgb (by decide)).1 hc.1, q_hasRight h hc.1, hc.2]; rfl
  have em : wdM M x = gvM (rs M 8 (k0 0)) (xN x) 0 0 := if_pos ok
  have h8 := RE_8 h (k0 0)
  have hR1 : RE n P (rs (nr P R) 10 (u1 (R 10) (xN x) 0)) (gfM (rs M 8 (k0 0)) (xN x) 0 0) := by
    have x6 := (RE_xi h).2.2.2.2.2.1
    have st := RE_rt (R := nr P R) (M := noM (rs M 8 (k0 0))) (RE_7 h8 _ _ _) (f := xN x) (a := 0) (b := 0) (a' := 0) (b' := 0) (v := 0) (g11 := R 11) (g12 := R 12) x1 (by omega) (by omega) (by rw [if_neg (show ¬ zB 0 = true by decide)]) (by omega) (by omega) (Or.inr rfl) (Or.inr rfl) (fun g hg => rfl) (fun g hg => rfl) (fun g => (x6 g).1) (fun g => (x6 g).2)
    have e : rs (rs (rs (nr P R) 10 (u1 (nr P R 10) (xN x) 0)) 11 (R 11)) 12 (R 12) = rs (nr P R) 10 (u1 (R 10) (xN x) 0) := by
      have e1 : rs (rs (nr P R) 10 (u1 (nr P R 10) (xN x) 0)) 11 (R 11) = rs (nr P R) 10 (u1 (nr P R 10) (xN x) 0) := rs_id (rs (nr P R) 10 (u1 (nr P R 10) (xN x) 0)) 11
      rw [e1]
      exact rs_id (rs (nr P R) 10 (u1 (nr P R 10) (xN x) 0)) 12
    rw [e] at st
    exact st
  have st := RE_give h8 x1 hR1 rfl rfl
  refine ⟨by rw [em]; rfl, ?_, by rw [em]; exact RE_up (Nat.le_succ n) st.1⟩
  unfold wdV
  rw [if_pos ok, em]
  exact congrArg nI st.2
theorem q_withdraw_x (h : RE n P R M) {x : Int32} {E9 : String} (hx : (E9 = IAEs ∧ ¬ rg x 8) ∨ (E9 = ISEs ∧ rg x 8 ∧ zB (R 10 (xN x) 0) = false)) : ((E9 = IAEs ∧ wdM M x 8 0 0 = 1) ∨ (E9 = ISEs ∧ wdM M x 8 0 0 = 2)) ∧ RE (n + 1) P R (wdM M x) := by
  have ok : (rgB x 8 && okW M x) = false := by
    rcases hx with ⟨-, z⟩ | ⟨-, z1, z⟩
    · rw [(rgb (by decide)).2 z]; rfl
    · rw [q_hasRight h z1, z, Bool.and_false]
  have em : wdM M x = rs M 8 (k0 (thr (rgB x 8) (okW M x) true)) := if_neg (by rw [ok]; decide)
  refine ⟨?_, by rw [em]; exact RE_t h _⟩
  have e8 : wdM M x 8 0 0 = thr (rgB x 8) (okW M x) true := by rw [em]; rfl
  rw [e8]
  rcases hx with ⟨e, z⟩ | ⟨e, z1, z⟩
  · exact Or.inl ⟨e, by rw [(rgb (by decide)).2 z]; rfl⟩
  · exact Or.inr ⟨e, by rw [(rgb (by decide)).1 z1, q_hasRight h z1, z]; rfl⟩
/-- the fonts lost at a new day, one after the other -/
theorem sdl_v (R : fR) (d : Nat) {L : Nat → Bool} (hL : ∀ f, f < 8 → L f = (fal R f d && !us R f)) : ∀ x, x ≤ 8 → ∀ q j, sdl R d x 16 q j = if (inO R q (R 0 0 0) && lsq L (R 13 q 0) x) = true ∧ j < 4 then 0 else R 16 q j
  | 0, _, q, j => by
    show R 16 q j = if (_ && false) = true ∧ j < 4 then 0 else R 16 q j
    rw [Bool.and_false, if_neg (fun u => by cases u.1)]
  | x + 1, hx, q, j => by
    have ih := sdl_v R d hL x (by omega) q j
    have e1 : sdl R d (x + 1) = dlf (sdl R d x) x (fal (sdl R d x) x d) := rfl
    have f1 : fal (sdl R d x) x d = fal R x d := by unfold fal; rw [sdl_c R d (by decide), sdl_c R d (by decide), sdl_c R d (by decide)]
    have f2 : us (sdl R d x) x = us R x := us_eq (sdl_c R d (by decide) x) (sdl_c R d (by decide) x) (sdl_c R d (by decide) x) (sdl_c R d (by decide) x) x
    have io : ∀ k, inO (sdl R d x) q k = inO R q k := fun k => by
      induction k with
      | zero => rfl
      | succ k ih2 =>
        show (inO (sdl R d x) q k || decide (sdl R d x 6 k 0 = q + 1)) = (inO R q k || decide (R 6 k 0 = q + 1))
        rw [ih2, sdl_c R d (by decide)]
    have e2 : lsq L (R 13 q 0) (x + 1) = (lsq L (R 13 q 0) x || (L x && tb (R 13 q 0) x)) := rfl
    rw [e1, e2, f1, hL x (by omega)]
    unfold dlf
    rw [f2]
    by_cases w : (fal R x d && !us R x) = true
    · rw [if_pos w, w, Bool.true_and]
      show dlp (sdl R d x) x (sdl R d x 0 0 0) q j = _
      unfold dlp
      rw [sdl_c R d (show 0 ≠ 16 by decide), io, sdl_c R d (show 13 ≠ 16 by decide), ih]
      by_cases u : (inO R q (R 0 0 0) && tb (R 13 q 0) x) = true ∧ j < 4
      · rw [if_pos u]
        rw [Bool.and_eq_true] at u
        rw [if_pos ⟨by rw [u.1.1, u.1.2, Bool.or_true]; rfl, u.2⟩]
      · rw [if_neg u]
        by_cases v : (inO R q (R 0 0 0) && lsq L (R 13 q 0) x) = true ∧ j < 4
        · rw [if_pos v]
          rw [Bool.and_eq_true] at v
          rw [if_pos ⟨by rw [v.1.1, v.1.2, Bool.true_or]; rfl, v.2⟩]
        · rw [if_neg v, if_neg]
          intro y
          rw [Bool.and_eq_true, Bool.or_eq_true] at y
          rcases y.1.2 with y2 | y2
          · exact v ⟨by rw [y.1.1, y2]; rfl, y.2⟩
          · exact u ⟨by rw [y.1.1, y2]; rfl, y.2⟩
    · rw [if_neg w, Bool.eq_false_iff.mpr w, Bool.false_and, Bool.or_false]
      exact ih
theorem RE_day (h : RE n P R M) (h2 : R 2 0 0 + 1 ≤ 100 * n) (h3 : R 2 0 0 + 1 ≤ 100000) : RE n P (snd R) (drM (rs (loM M) 0 (k0 (M 0 0 0 + 1)))) := by
  have e0 : R 2 0 0 = M 0 0 0 := h.2.1.2.2.1
  have h1 : RE n P (rs R 2 (k0 (R 2 0 0 + 1))) (rs (loM M) 0 (k0 (M 0 0 0 + 1))) := by
    obtain ⟨⟨a, b, c0, d⟩, a2, a3, a4, a5, a6, a7, a8, a9, ⟨b1, b2, b3, b4⟩, a11⟩ := h
    have hM : MI (rs (loM M) 0 (k0 (M 0 0 0 + 1))) := by
      obtain ⟨x1, x2, x3, x4, x5, x6, x7, x8, rest⟩ := c0
      refine ⟨x1, x2, x3, x4, x5, x6, x7, ?_, rest⟩
      show M 0 0 0 + 1 ≤ 100000
      omega
    refine ⟨⟨a, XI_2 b h3, hM, d⟩, ⟨a2.1, a2.2.1, ?_, a2.2.2.2⟩, a3, a4, a5, a6, a7, a8, a9, ⟨h2, b2, b3, b4⟩, a11⟩
    show R 2 0 0 + 1 = M 0 0 0 + 1
    rw [e0]
  have hL : ∀ f, f < 8 → LM (rs (loM M) 0 (k0 (M 0 0 0 + 1))) f = (fal (rs R 2 (k0 (R 2 0 0 + 1))) f (R 2 0 0) && !us (rs R 2 (k0 (R 2 0 0 + 1))) f) := fun f hf => by
    have e25 : zB (rs (loM M) 0 (k0 (M 0 0 0 + 1)) 25 f 0) = mayB M f := lo_25 M hf
    unfold LM
    rw [e25, ← RE_us h1 hf, ← RE_us h hf]
    rfl
  have e := RE_drop h1 (G := sdl (rs R 2 (k0 (R 2 0 0 + 1))) (R 2 0 0) 8 16) (fun q j => sdl_v _ _ hL 8 (Nat.le_refl _) q j)
  have e2 : rs (rs R 2 (k0 (R 2 0 0 + 1))) 16 (sdl (rs R 2 (k0 (R 2 0 0 + 1))) (R 2 0 0) 8 16) = snd R := by
    funext k
    by_cases z : k = 16
    · subst z; rw [rs_same]; rfl
    · rw [rs_ne _ _ z]
      exact (sdl_c _ _ z 8).symm
  rw [e2] at e
  exact e
theorem RE_days (h : RE n P R M) (hn : n ≤ 512) : ∀ x, x ≤ 100 → RE (n + 1) P (psR P R x) (psM M x)
  | 0, _ => RE_up (Nat.le_succ n) (RE_7 h _ _ _)
  | x + 1, hx => by
    have ih := RE_days h hn x (by omega)
    have b1 := h.2.2.2.2.2.2.2.2.2.1.1
    have e2 : snds (nr P R) x 2 0 0 = R 2 0 0 + x := snds_2 _ _
    exact RE_day ih (by omega) (by omega)
theorem psR_7 (P R : fR) : ∀ k, psR P R k 7 = nr P R 7
  | 0 => rfl
  | k + 1 => by
    show snd (psR P R k) 7 = _
    unfold snd
    rw [sdl_c _ _ (by decide)]
    show psR P R k 7 = _
    exact psR_7 P R k
theorem psM_24 (M : fR) : ∀ k, psM M k 24 = noM M 24
  | 0 => rfl
  | k + 1 => psM_24 M k
theorem passI_iff {x : Int32} : passI x = true ↔ (nI 1 ≤ x ∧ x < nI 101) := by
  unfold passI inn
  rw [decide_eq_true_iff, rg_le (by decide)]
theorem q_pass_n (h : RE n P R M) (hn : n ≤ 512) {x : Int32} (hc : nI 1 ≤ x ∧ x < nI 101) :
    paM M x 8 0 0 = 0 ∧ nI (csb P (psR P R (xN x)) 16) = paV M x ∧ RE (n + 1) P (psR P R (xN x)) (paM M x) := by
  have ok := passI_iff.mpr hc
  obtain ⟨j, hj, ex⟩ := passI_of ok
  have e1 : xN x = j := by rw [ex]; exact xN_nI (by omega)
  have em : paM M x = psM (rs M 8 (k0 0)) j := by unfold paM; rw [if_pos ok, e1]
  have h8 := RE_8 h (k0 0)
  have st := RE_days h8 hn j hj
  have p8 : ∀ k, psM (rs M 8 (k0 0)) k 8 0 0 = 0 := fun k => by
    induction k with
    | zero => rfl
    | succ k ih => exact ih
  refine ⟨by rw [em]; exact p8 j, ?_, by rw [em, e1]; exact st⟩
  unfold paV
  rw [if_pos ok, em, e1]
  have s16 : shM M ≤ 16 := shM_16 (RE_mi h) (RE_pg h).2.1
  have hc := csb_sb (P := P) (R' := psR P R j) (M' := psM (rs M 8 (k0 0)) j) (s := shM M) (A := fun i => rdY (rs M 8 (k0 0)) i) (fun i hi => by
    rw [psR_7, nr_7 P R hi, RE_sh h, RE_rd h8]) (fun x hx => by rw [psM_24]; exact no_24 (rs M 8 (k0 0)) hx) (fun x => RE_rd st x) 16 (Nat.le_refl _)
  rw [hc, show min 16 (shM M) = shM M by omega]
theorem q_pass_x (h : RE n P R M) {x : Int32} (hc : ¬ (nI 1 ≤ x ∧ x < nI 101)) : paM M x 8 0 0 = 1 ∧ RE (n + 1) P R (paM M x) := by
  have em : paM M x = rs M 8 (k0 1) := if_neg (fun w => hc (passI_iff.mp w))
  rw [em]; exact ⟨rfl, RE_t h _⟩
end RE7
