/-! ===== print and makePlates agree ===== -/
theorem lnN_6 (M : fR) (f : Nat → Nat → Nat) (t : Nat) : ∀ l, lnN (rs M 6 f) t l = lnN M t l
  | 0 => rfl
  | l + 1 => by
    show lnN (rs M 6 f) t l + (if lnC M t l = true then 1 else 0) = _
    rw [lnN_6 M f t l]; rfl
theorem lnn_6 (M : fR) (f : Nat → Nat → Nat) (t : Nat) : lnn (rs M 6 f) t = lnn M t := lnN_6 M f t _
theorem lnT_6 (M : fR) (f : Nat → Nat → Nat) (t : Nat) : ∀ l, lnT (rs M 6 f) t l = lnT M t l
  | 0 => rfl
  | l + 1 => by
    show (if lnC M t l = true then u1 (lnT (rs M 6 f) t l) (lnN (rs M 6 f) t l) (lnv M t l) else lnT (rs M 6 f) t l) = _
    rw [lnT_6 M f t l, lnN_6 M f t l]
    rfl
theorem lnt_6 (M : fR) (f : Nat → Nat → Nat) (t : Nat) : lnt (rs M 6 f) t = lnt M t := lnT_6 M f t _
theorem gdk_6 (M : fR) (f : Nat → Nat → Nat) (t : Nat) : ∀ k, gdk (rs M 6 f) t k = gdk M t k
  | 0 => by
    show (decide (0 < lnn (rs M 6 f) t) && (decide (M 20 t 0 = lnn (rs M 6 f) t) && decide (M 21 t 0 < 1000))) = _
    rw [lnn_6]; rfl
  | k + 1 => by
    show (gdk (rs M 6 f) t k && decide (M 22 (16 * t + k) 0 = lnt (rs M 6 f) t k 0)) = (gdk M t k && decide (M 22 (16 * t + k) 0 = lnt M t k 0))
    rw [gdk_6 M f t k, lnt_6]
theorem gdM_6 (M : fR) (f : Nat → Nat → Nat) (t : Nat) : gdM (rs M 6 f) t = gdM M t := by
  unfold gdM
  rw [lnn_6]
  exact gdk_6 M f t _
section RE3
variable {n : Nat} {P R M : fR}
/-- a good plate is there -/
theorem RE_there (h : RE n P R M) {t : Nat} (ht : t < 128) (g : gdM M t = true) : R 8 t 0 ≠ 0 ∧ R 17 t 0 = M 20 t 0 ∧ 1 ≤ M 20 t 0 ∧ R 18 t 0 = M 21 t 0 := by
  have h9 := h.2.2.2.2.2.2.2.2.1 t ht
  by_cases q : R 8 t 0 = 0
  · rw [if_pos q] at h9
    exfalso
    have g2 : gdk M t 0 = false := by
      show gd0M M t = false
      unfold gd0M
      by_cases z : 0 < lnn M t
      · rw [decide_eq_false (p := M 20 t 0 = lnn M t) (by omega), Bool.false_and, Bool.and_false]
      · rw [decide_eq_false z, Bool.false_and]
    unfold gdM at g
    rw [gdk_f M t g2 (Nat.zero_le _)] at g
    cases g
  · rw [if_neg q] at h9
    exact ⟨q, h9.1, h9.2.1, h9.2.2.1⟩
theorem RE_ls (h : RE n P R M) {s i c : Nat} (m : Nat) (hs : s < 16) (hi : i < 2) (hc : c < 4) : lsO P R s i c m = (decide (lnn M (slot s i c) = 0) || (gdM M (slot s i c) && decide (M 21 (slot s i c) 0 + m ≤ 1000))) := by
  unfold lsO
  rw [RE_nn h hi hc, RE_gd h hs hi hc]
  by_cases g : gdM M (slot s i c) = true
  · have ht : slot s i c < 128 := by unfold slot; omega
    rw [(RE_there h ht g).2.2.2]
  · rw [Bool.eq_false_iff.mpr g, Bool.false_and, Bool.false_and]
theorem slot_x {s x : Nat} (hx : x < 8) : slot s (x / 4) (x % 4) = 8 * s + x := by unfold slot; omega
theorem RE_ok (h : RE n P R M) {s m : Nat} (hs : s < 16) : okP P R s m ↔ prB M s m = true := by
  have ind : ∀ k, k ≤ 8 → ((afo P R s = true ∧ ∀ x, x < k → lsO P R s (x / 4) (x % 4) m = true) ↔ cpk M s m k = true) := by
    intro k
    induction k with
    | zero =>
      intro _
      show _ ↔ rdY M s = true
      rw [RE_rd h]
      exact ⟨fun z => z.1, fun z => ⟨z, fun x hx => absurd hx (Nat.not_lt_zero x)⟩⟩
    | succ k ih =>
      intro hk
      show _ ↔ (cpk M s m k && (decide (lnn M (8 * s + k) = 0) || (gdM M (8 * s + k) && decide (M 21 (8 * s + k) 0 + m ≤ 1000)))) = true
      have e := RE_ls h m hs (i := k / 4) (c := k % 4) (by omega) (by omega)
      rw [slot_x (by omega)] at e
      rw [Bool.and_eq_true, ← ih (by omega), ← e]
      constructor
      · intro z
        exact ⟨⟨z.1, fun x hx => z.2 x (by omega)⟩, z.2 k (by omega)⟩
      · intro z
        refine ⟨z.1.1, fun x hx => ?_⟩
        by_cases q : x = k
        · rw [q]; exact z.2
        · exact z.1.2 x (by omega)
  exact ind 8 (Nat.le_refl _)
theorem ptC_iff {y : Int32} : ptC y = true ↔ (nI 1 ≤ y ∧ y < nI 501) := by
  unfold ptC inn
  rw [decide_eq_true_iff, rg_le (by decide)]
theorem xN_500 {y : Int32} (h : nI 1 ≤ y ∧ y < nI 501) : 1 ≤ xN y ∧ xN y ≤ 500 ∧ y = nI (xN y) := by
  obtain ⟨j, hj, rfl⟩ := rg_of (x := y) (n := 501) ⟨Int32.le_trans (by decide) h.1, h.2⟩ (by decide)
  have h1 := (nI_leI (by decide) (by omega)).mp h.1
  rw [xN_nI (by omega)]
  exact ⟨h1, by omega, rfl⟩
theorem q_print_n (h : RE n P R M) (hn : n ≤ 512) {x y : Int32} (hc : (rg x (shc P R) ∧ (nI 1 ≤ y ∧ y < nI 501)) ∧ okP P R (xN x) (xN y)) {R9 : fR} (h9 : jp P (rs R9 5 (R 5)) R (xN x) (xN y) 8 ∧ R9 5 0 0 = R 5 0 0 + xN y ∧ XI R9) {T : Nat → Nat → Nat} (hT : ∀ k, T k 0 < 134217728) :
    ptM M x y 8 0 0 = 0 ∧ nI (R 5 0 0 + xN y) = ptW M x y ∧ RE (n + 1) P R9 (rs (ptM M x y) 23 T) := by
  obtain ⟨b, -, c⟩ := q_sheet h hc.1.1
  have b2 := ptC_iff.mpr hc.1.2
  obtain ⟨y1, y2, -⟩ := xN_500 hc.1.2
  have b3 := (RE_ok h c).mp hc.2
  have eo : ptO M x y = true := by unfold ptO; rw [b, b2, b3]; rfl
  have em : ptM M x y = prM1 (rs M 8 (k0 0)) (xN x) (xN y) := if_pos eo
  have e5 : R 5 0 0 = M 7 0 0 := h.2.1.2.2.2.2
  refine ⟨by rw [em]; rfl, by unfold ptW; rw [if_pos eo, e5], ?_⟩
  obtain ⟨⟨j1, j2⟩, j3, j4⟩ := h9
  have jk' : ∀ k, k ≠ 3 → k ≠ 5 → k ≠ 9 → k ≠ 18 → R9 k = R k := fun k a1 a2 a3 a4 => by
    have := j1 k a1 a3 a4
    rw [rs_ne _ _ a2] at this; exact this
  have j18 : R9 18 = prU P R (xN x) (xN y) 8 := by rw [← j2]; rfl
  rw [em]
  have hMI := MI_puT (M := rs M 8 (k0 0)) (RE_mi h) (s := xN x) (m := xN y) ((prB_8 _ _ _ _).trans b3) (n := 8) (Nat.le_refl _)
  have hRE := h
  obtain ⟨⟨a, -, -, d⟩, a2, a3, a4, a5, a6, a7, a8, a9, ⟨b1, b2', b3', b4⟩, a11⟩ := h
  have hM7 : M 7 0 0 + xN y ≤ 1000000 := by omega
  have hMI2 : MI (rs (prM1 (rs M 8 (k0 0)) (xN x) (xN y)) 23 T) := by
    obtain ⟨c1, c2, c3, c4, c5, c6, c7, c8, c9, c10, c11, c12, -, c14⟩ := hMI
    exact ⟨c1, c2, c3, c4, c5, c6, c7, c8, c9, ⟨c10.1, hM7⟩, c11, c12, hT, c14⟩
  unfold RE
  rw [jk' 0 (by decide) (by decide) (by decide) (by decide), jk' 1 (by decide) (by decide) (by decide) (by decide), jk' 2 (by decide) (by decide) (by decide) (by decide), jk' 4 (by decide) (by decide) (by decide) (by decide), jk' 6 (by decide) (by decide) (by decide) (by decide), jk' 13 (by decide) (by decide) (by decide) (by decide), jk' 14 (by decide) (by decide) (by decide) (by decide), jk' 15 (by decide) (by decide) (by decide) (by decide), jk' 16 (by decide) (by decide) (by decide) (by decide), jk' 20 (by decide) (by decide) (by decide) (by decide), jk' 10 (by decide) (by decide) (by decide) (by decide), jk' 11 (by decide) (by decide) (by decide) (by decide), jk' 12 (by decide) (by decide) (by decide) (by decide), jk' 8 (by decide) (by decide) (by decide) (by decide), jk' 17 (by decide) (by decide) (by decide) (by decide), jk' 19 (by decide) (by decide) (by decide) (by decide), j3, j18]
  refine ⟨⟨a, j4, hMI2, d⟩, ⟨a2.1, a2.2.1, a2.2.2.1, a2.2.2.2.1, ?_⟩, a3, a4, a5, a6, a7, a8, fun t ht => ?_, ⟨by omega, fun q => by have := b2' q; omega, by omega, by omega⟩, a11⟩
  · show R 5 0 0 + xN y = M 7 0 0 + xN y
    rw [e5]
  · have h9 := a9 t ht
    by_cases q : R 8 t 0 = 0
    · rw [if_pos q] at h9 ⊢; exact h9
    · rw [if_neg q] at h9 ⊢
      refine ⟨h9.1, h9.2.1, ?_, h9.2.2.2⟩
      show prU P R (xN x) (xN y) 8 t 0 = puT (rs M 8 (k0 0)) (xN x) (xN y) 8 t 0
      unfold prU puT
      rw [sL_n (sL_8 M _)]
      show _ = if 8 * xN x ≤ t ∧ t < 8 * xN x + 8 then M 21 t 0 + (if lnn M t = 0 then 0 else xN y) else M 21 t 0
      by_cases w : 8 * xN x ≤ t ∧ t < 8 * xN x + 8
      · have e := RE_nn hRE (s := xN x) (i := (t - xN x * 8) / 4) (c := (t - xN x * 8) % 4) (by omega) (by omega)
        rw [slot_x (by omega), show 8 * xN x + (t - xN x * 8) = t by omega] at e
        rw [if_pos w, e]
        by_cases z : lnn M t = 0
        · rw [if_pos z, if_neg (fun u => u.2.2.1 z), h9.2.2.1, Nat.add_zero]
        · rw [if_neg z, if_pos ⟨by omega, by omega, z, q⟩, h9.2.2.1]
      · rw [if_neg w, if_neg (fun u => w ⟨by omega, by omega⟩), h9.2.2.1]
theorem q_print_x (h : RE n P R M) {x y : Int32} {R9 : fR} (h9 : jk R9 R ∧ XI R9) {T : Nat → Nat → Nat} (hT : ∀ k, T k 0 < 134217728) {E9 : String}
    (hx : (E9 = IOBs ∧ ¬ rg x (shc P R)) ∨ (E9 = IAEs ∧ rg x (shc P R) ∧ ¬ (nI 1 ≤ y ∧ y < nI 501)) ∨ (E9 = ISEs ∧ (rg x (shc P R) ∧ (nI 1 ≤ y ∧ y < nI 501)) ∧ ¬ okP P R (xN x) (xN y))) :
    ((E9 = IOBs ∧ ptM M x y 8 0 0 = 1) ∨ (E9 = IAEs ∧ ptM M x y 8 0 0 = 2) ∨ (E9 = ISEs ∧ ptM M x y 8 0 0 = 3)) ∧ RE (n + 1) P R9 (rs (ptM M x y) 23 T) := by
  have eo : ptO M x y = false := by
    refine Bool.eq_false_iff.mpr (fun w => ?_)
    unfold ptO at w
    rw [Bool.and_eq_true, Bool.and_eq_true] at w
    rcases hx with ⟨-, z⟩ | ⟨-, -, z⟩ | ⟨-, z, z2⟩
    · rw [q_nosheet h z] at w; cases w.1.1
    · exact z (ptC_iff.mp w.1.2)
    · exact z2 ((RE_ok h (q_sheet h z.1).2.2).mpr w.2)
  have em : ptM M x y = rs M 8 (k0 (thr (rgB x (shM M)) (ptC y) (ptO M x y))) := if_neg (by rw [eo]; decide)
  refine ⟨?_, by rw [em]; exact RE_up (Nat.le_succ n) (RE_23 (RE_8 (RE_jk h h9.1 h9.2) _) hT)⟩
  have e8 : ptM M x y 8 0 0 = thr (rgB x (shM M)) (ptC y) (ptO M x y) := by rw [em]; rfl
  rw [e8]
  rcases hx with ⟨e, z⟩ | ⟨e, z1, z⟩ | ⟨e, z, z2⟩
  · exact Or.inl ⟨e, by rw [q_nosheet h z]; rfl⟩
  · exact Or.inr (Or.inl ⟨e, by rw [(q_sheet h z1).1, Bool.eq_false_iff.mpr (fun w => z (ptC_iff.mp w))]; rfl⟩)
  · exact Or.inr (Or.inr ⟨e, by rw [(q_sheet h z.1).1, ptC_iff.mpr z.2, eo]; rfl⟩)
end RE3
