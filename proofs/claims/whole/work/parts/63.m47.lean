/-! ===== plates: what they would show, whether they are good: both sides agree ===== -/
section RE2
variable {n : Nat} {P R M : fR}
theorem slot_of {s i c : Nat} (hi : i < 2) (hc : c < 4) : slot s i c / 8 = s ∧ slot s i c / 4 % 2 = i ∧ slot s i c % 4 = c ∧ slot s i c = 8 * s + 4 * i + c := by
  unfold slot; omega
theorem RE_lc (h : RE n P R M) {s i c l : Nat} (hi : i < 2) (hc : c < 4) (hl : l < 2 ^ P 0 0 0) : lkc P R s i c l = lnC M (slot s i c) l ∧ (lkc P R s i c l = true → lkv P R s i l = lnv M (slot s i c) l ∧ lnv M (slot s i c) l / 512 % 128 < 100) := by
  obtain ⟨e1, e2, e3, -⟩ := slot_of (s := s) hi hc
  have ep : lkp P s i l = lnP M (slot s i c) l := by unfold lkp lnP; rw [e1, e2]; exact RE_plm h hl hi
  have eq : lkp P s i l < R 0 0 0 → lkq P R s i l = M 9 (lnP M (slot s i c) l) 0 := fun q => by unfold lkq; rw [RE_9' h q, ep]
  have hC : lkc P R s i c l = lnC M (slot s i c) l := by
    unfold lkc lnC
    rw [e3, ← ep, ← RE_n h]
    by_cases q : lkp P s i l < R 0 0 0
    · rw [eq q, (RE_13 h _).2.1, ← ep]
    · rw [decide_eq_false q, Bool.false_and, Bool.false_and]
  refine ⟨hC, fun ht => ?_⟩
  unfold lkc at ht
  rw [Bool.and_eq_true, decide_eq_true_iff] at ht
  have e5 := eq ht.1
  have f5 := (RE_ft h).2.2.2.1 l hl
  have f3 := (RE_ft h).2.1.2
  have ev : lkv P R s i l = lnv M (slot s i c) l := by
    unfold lkv lnv lnW mkc spo
    rw [e5, (RE_13 h _).2.2, f5, f3]
    omega
  refine ⟨ev, ?_⟩
  have hV := (MI_v (RE_mi h)).2 (slot s i c) l (by have := pow4 (RE_fj h).1.1 (RE_fj h).1.2.1; omega)
  have h9 := (RE_mi h).2.2.1 (lnP M (slot s i c) l)
  have hw := hV.1
  unfold lnv
  omega
theorem RE_lN (h : RE n P R M) {s i c : Nat} (hi : i < 2) (hc : c < 4) : ∀ l, l ≤ 2 ^ P 0 0 0 → lkn P R s i c l = lnN M (slot s i c) l ∧ ∀ j, j < lkn P R s i c l → lkm P R s i c l j 0 = lnT M (slot s i c) l j 0 ∧ lnT M (slot s i c) l j 0 / 512 % 128 < 100
  | 0, _ => ⟨rfl, fun j hj => absurd hj (Nat.not_lt_zero j)⟩
  | l + 1, hl => by
    obtain ⟨a, b⟩ := RE_lN h (s := s) hi hc l (by omega)
    obtain ⟨c1, c2⟩ := RE_lc h (s := s) hi hc (show l < 2 ^ P 0 0 0 by omega)
    have f1 : lkn P R s i c (l + 1) = lkn P R s i c l + (if lkc P R s i c l = true then 1 else 0) := rfl
    have f2 : lnN M (slot s i c) (l + 1) = lnN M (slot s i c) l + (if lnC M (slot s i c) l = true then 1 else 0) := rfl
    have f3 : lkm P R s i c (l + 1) = if lkc P R s i c l = true then u1 (lkm P R s i c l) (lkn P R s i c l) (lkv P R s i l) else lkm P R s i c l := rfl
    have f4 : lnT M (slot s i c) (l + 1) = if lnC M (slot s i c) l = true then u1 (lnT M (slot s i c) l) (lnN M (slot s i c) l) (lnv M (slot s i c) l) else lnT M (slot s i c) l := rfl
    rw [f1, f2, f3, f4, ← c1, ← a]
    by_cases q : lkc P R s i c l = true
    · rw [if_pos q, if_pos q, if_pos q]
      refine ⟨rfl, fun j hj => ?_⟩
      obtain ⟨d1, d2⟩ := c2 q
      unfold u1
      by_cases z : j = lkn P R s i c l
      · rw [if_pos z, if_pos z]; exact ⟨d1, d2⟩
      · rw [if_neg z, if_neg z]; exact b j (by omega)
    · rw [if_neg q, if_neg q, if_neg q]
      exact ⟨rfl, fun j hj => b j (by omega)⟩
theorem RE_lv (h : RE n P R M) : P 2 0 0 * P 3 0 0 = 2 ^ P 0 0 0 ∧ M 4 0 0 * M 5 0 0 = 2 ^ P 0 0 0 := ⟨(RE_fj h).1.2.2.2.1, (RE_pg h).2.2⟩
theorem RE_nn (h : RE n P R M) {s i c : Nat} (hi : i < 2) (hc : c < 4) : lkN P R s i c = lnn M (slot s i c) := by
  unfold lkN lnn
  rw [(RE_lv h).1, (RE_lv h).2]
  exact (RE_lN h hi hc _ (Nat.le_refl _)).1
theorem RE_tt (h : RE n P R M) {s i c j : Nat} (hi : i < 2) (hc : c < 4) (hj : j < lnn M (slot s i c)) : lkF P R s i c 9 j 0 = lnt M (slot s i c) j 0 ∧ lnt M (slot s i c) j 0 / 512 % 128 < 100 := by
  have e : lkF P R s i c 9 = lkm P R s i c (P 2 0 0 * P 3 0 0) := rfl
  rw [e]
  unfold lnt
  rw [(RE_lv h).1, (RE_lv h).2]
  refine (RE_lN h hi hc _ (Nat.le_refl _)).2 j ?_
  rw [← RE_nn h hi hc] at hj
  unfold lkN at hj
  rw [(RE_lv h).1] at hj
  exact hj
theorem cM_inj {a b : Nat} (ha : a / 512 % 128 < 100) (hb : b / 512 % 128 < 100) : cM a = cM b ↔ a = b := by
  unfold cM
  constructor
  · intro z; omega
  · intro z; rw [z]
/-- whether the plate at a slot is good -/
theorem RE_gd (h : RE n P R M) {s i c : Nat} (hs : s < 16) (hi : i < 2) (hc : c < 4) : gd (lkF P R s i c) (slot s i c) = gdM M (slot s i c) := by
  obtain ⟨-, -, -, e4⟩ := slot_of (s := s) hi hc
  have ht : slot s i c < 128 := by omega
  have h9 := h.2.2.2.2.2.2.2.2.1 (slot s i c) ht
  have e8 : lkF P R s i c 8 = R 8 := rfl
  have enn := RE_nn h (s := s) hi hc
  have tt := fun j hj => RE_tt h (s := s) (j := j) hi hc hj
  generalize hT : slot s i c = t at *
  have k0' : ∀ k, gdk M t (k + 1) = (gdk M t k && decide (M 22 (16 * t + k) 0 = lnt M t k 0)) := fun _ => rfl
  by_cases q : R 8 t 0 = 0
  · rw [if_pos q] at h9
    have g1 : gd (lkF P R s i c) t = false := by unfold gd; rw [e8, if_pos q]
    have g2 : gd0M M t = false := by
      unfold gd0M
      by_cases z : 0 < lnn M t
      · rw [decide_eq_false (p := M 20 t 0 = lnn M t) (by omega), Bool.false_and, Bool.and_false]
      · rw [decide_eq_false z, Bool.false_and]
    rw [g1]
    exact (gdk_f M t (k := 0) g2 (Nat.zero_le _)).symm
  · rw [if_neg q] at h9
    obtain ⟨p17, p1, p18, p19⟩ := h9
    have g1 : gd (lkF P R s i c) t = (decide (R 18 t 0 < 1000) && (decide (lnn M t = R 17 t 0) && allm (lkF P R s i c) t (R 17 t 0))) := by
      unfold gd
      rw [e8, if_neg q, ← enn]
      rfl
    rw [g1, p17, p18]
    unfold gdM
    by_cases z : M 20 t 0 = lnn M t
    · have ind : ∀ k, k ≤ lnn M t → gdk M t k = (decide (M 21 t 0 < 1000) && allm (lkF P R s i c) t k) := by
        intro k
        induction k with
        | zero =>
          intro _
          show gd0M M t = (_ && true)
          unfold gd0M
          rw [decide_eq_true z, decide_eq_true (p := 0 < lnn M t) (by omega), Bool.true_and, Bool.true_and, Bool.and_true]
        | succ k ih =>
          intro hk
          have a1 : allm (lkF P R s i c) t (k + 1) = (allm (lkF P R s i c) t k && decide (cM (R 19 t k) = cM (lkF P R s i c 9 k 0))) := rfl
          have a2 := tt k (by omega)
          have a3 := p19 k (by omega)
          rw [k0', ih (by omega), a1, a2.1, a3.1, Bool.and_assoc]
          congr 2
          rw [Bool.eq_iff_iff, decide_eq_true_iff, decide_eq_true_iff]
          exact (cM_inj a3.2 a2.2).symm
      rw [ind _ (Nat.le_refl _), z, decide_eq_true rfl, Bool.true_and]
    · have g2 : gdk M t 0 = false := by
        show gd0M M t = false
        unfold gd0M
        rw [decide_eq_false z, Bool.false_and, Bool.and_false]
      rw [gdk_f M t g2 (Nat.zero_le _), decide_eq_false (p := lnn M t = M 20 t 0) (fun y => z y.symm), Bool.false_and, Bool.and_false]
theorem RE_lkF (h : RE n P R M) (s i c : Nat) : RE n P (lkF P R s i c) M := RE_jk h (jk_lkF (fun k _ _ => rfl) s i c) (XI_lkF (RE_fj h).1 (RE_xi h) s i c)
theorem q_wear_n (h : RE n P R M) {x y z : Int32} (hc : rg x (shc P R) ∧ (rg y 2 ∧ rg z 4)) : wrM M x y z = rs M 8 (k0 0) ∧ wrV P R (xN x) (xN y) (xN z) = wrW M x y z := by
  obtain ⟨b, -, c⟩ := q_sheet h hc.1
  have b2 := (rgb (by decide)).1 hc.2.1
  have b3 := (rgb (by decide)).1 hc.2.2
  have x2 := (rg_xN (by decide) hc.2.1).1
  have x3 := (rg_xN (by decide) hc.2.2).1
  have bw : wrB y z = true := by unfold wrB; rw [b2, b3]; rfl
  refine ⟨by unfold wrM; rw [b, bw]; rfl, ?_⟩
  unfold wrW wrI wrV
  obtain ⟨-, -, -, e4⟩ := slot_of (s := xN x) x2 x3
  rw [if_pos (show (rgB x (shM M) && wrB y z) = true by rw [b, bw]; rfl), RE_gd h c x2 x3, gdM_8, e4]
  by_cases q : gdM M (8 * xN x + 4 * xN y + xN z) = true
  · rw [if_pos q, if_pos q]
    have ht : slot (xN x) (xN y) (xN z) < 128 := by omega
    have h9 := h.2.2.2.2.2.2.2.2.1 _ ht
    rw [e4] at h9
    by_cases z8 : R 8 (8 * xN x + 4 * xN y + xN z) 0 = 0
    · rw [if_pos z8] at h9
      exfalso
      have g2 : gdk M (8 * xN x + 4 * xN y + xN z) 0 = false := by
        show gd0M M _ = false
        unfold gd0M
        by_cases w : 0 < lnn M (8 * xN x + 4 * xN y + xN z)
        · rw [decide_eq_false (p := M 20 _ 0 = lnn M _) (by omega), Bool.false_and, Bool.and_false]
        · rw [decide_eq_false w, Bool.false_and]
      have g3 := gdk_f M _ g2 (Nat.zero_le (lnn M (8 * xN x + 4 * xN y + xN z)))
      unfold gdM at q
      rw [g3] at q
      cases q
    · rw [if_neg z8] at h9
      rw [h9.2.2.1]; rfl
  · rw [if_neg q, if_neg q]
theorem q_wear_x (h : RE n P R M) {x y z : Int32} {E9 : String} (hx : (E9 = IOBs ∧ ¬ rg x (shc P R)) ∨ (E9 = IAEs ∧ rg x (shc P R) ∧ ¬ (rg y 2 ∧ rg z 4))) : (E9 = IOBs ∧ wrM M x y z 8 0 0 = 1) ∨ (E9 = IAEs ∧ wrM M x y z 8 0 0 = 2) := by
  have e : wrM M x y z 8 0 0 = thr (rgB x (shM M)) (wrB y z) true := rfl
  rw [e]
  rcases hx with ⟨e, w⟩ | ⟨e, z1, z2⟩
  · exact Or.inl ⟨e, by rw [q_nosheet h w]; rfl⟩
  · refine Or.inr ⟨e, ?_⟩
    have bw : wrB y z = false := by
      refine Bool.eq_false_iff.mpr (fun w => z2 ?_)
      unfold wrB at w
      rw [Bool.and_eq_true] at w
      exact ⟨(rgB_rg (by decide)).mp w.1, (rgB_rg (by decide)).mp w.2⟩
    rw [(q_sheet h z1).1, bw]; rfl
end RE2
