/-! ===== proofs and edits agree ===== -/
section RE5
variable {n : Nat} {P R M : fR}
theorem RE_q (h : RE n P R M) {i : Nat} (hi : i < R 0 0 0) : M 9 i 0 < R 20 0 0 := by
  obtain ⟨q, hv, hq⟩ := (RE_xi h).2.1 i hi
  have e := RE_9 h hi
  omega
/-- one proof of one page -/
theorem RE_pf (h : RE n P R M) {q c v : Nat} (hq : q < R 20 0 0) (hc : c < 4) (hv : v < 4) (ht : v ≠ 0 → tb (R 14 q 0) c = true) : RE n P (rs R 16 (u2 (R 16) q c v)) (rs M 13 (u1 (M 13) (4 * q + c) v)) := by
  obtain ⟨⟨a, b, c0, d⟩, a2, a3, a4, a5, a6, a7, a8, a9, a10, a11⟩ := h
  refine ⟨⟨a, XI_16 b (u2_lt b.2.2.2.2.2.2.2.1 hv), MI_pv1 c0 q c hv, d⟩, a2, a3, a4, fun q' c' hc' => ?_, fun q' c' hc' hq' => ?_, fun q' c' hc' hne => ?_, a8, a9, a10, a11⟩
  · show u2 (R 16) q c v q' c' = u1 (M 13) (4 * q + c) v (4 * q' + c') 0
    unfold u2 u1
    by_cases z : q' = q ∧ c' = c
    · rw [if_pos z, if_pos (by omega)]
    · rw [if_neg z, if_neg (fun w => z (by omega))]
      exact a5 q' c' hc'
  · show u2 (R 16) q c v q' c' = 0
    have hq2 : R 20 0 0 ≤ q' := hq'
    unfold u2
    rw [if_neg (by omega)]
    exact a6 q' c' hc' hq2
  · have hne2 : u2 (R 16) q c v q' c' ≠ 0 := hne
    show tb (R 14 q' 0) c' = true
    unfold u2 at hne2
    by_cases z : q' = q ∧ c' = c
    · rw [if_pos z] at hne2
      rw [z.1, z.2]; exact ht hne2
    · rw [if_neg z] at hne2
      exact a7 q' c' hc' hne2
theorem cnt_pc {f : Nat → Nat} {D : Nat → Nat → Nat} {p : Nat} (hf : ∀ k, k < 4 → f k = D (4 * p + k) 0) : ∀ k, k ≤ 4 → pcF D p k = cnt f 1 k + cnt f 2 k
  | 0, _ => rfl
  | k + 1, hk => by
    have ih := cnt_pc hf k (by omega)
    show pcF D p k + (if (decide (D (4 * p + k) 0 = 1) || decide (D (4 * p + k) 0 = 2)) = true then 1 else 0) = (cnt f 1 k + (if f k = 1 then 1 else 0)) + (cnt f 2 k + (if f k = 2 then 1 else 0))
    rw [ih, ← hf k (by omega)]
    by_cases z1 : f k = 1
    · rw [z1]; simp; omega
    · by_cases z2 : f k = 2
      · rw [z2]; simp; omega
      · rw [if_neg z1, if_neg z2, if_neg (by simp [z1, z2])]; omega
theorem q_prove_n (h : RE n P R M) {x y : Int32} (hc : (rg x (R 0 0 0) ∧ rg y 4) ∧ pvC R (R 6 (xN x) 0 - 1) (xN y) = true) :
    pwM M x y 8 0 0 = 0 ∧ nI (cnt (pvR R (R 6 (xN x) 0 - 1) (xN y) 16 (R 6 (xN x) 0 - 1)) 1 4 + cnt (pvR R (R 6 (xN x) 0 - 1) (xN y) 16 (R 6 (xN x) 0 - 1)) 2 4) = pwV M x y ∧ RE (n + 1) P (pvR R (R 6 (xN x) 0 - 1) (xN y)) (pwM M x y) := by
  obtain ⟨b, c, e, -⟩ := q_place h hc.1.1
  have b2 := (rgb (by decide)).1 hc.1.2
  have x2 := (rg_xN (by decide) hc.1.2).1
  have hq := RE_q h c
  have hp := hc.2
  rw [e] at hp ⊢
  unfold pvC at hp
  rw [Bool.and_eq_true, Bool.and_eq_true, Bool.not_eq_true', Bool.or_eq_false_iff, decide_eq_false_iff_not, decide_eq_false_iff_not] at hp
  obtain ⟨⟨p1, p2⟩, p3, p4⟩ := hp
  have e16 := RE_16 h (M 9 (xN x) 0) x2
  have e14 := (RE_13 h (M 9 (xN x) 0)).2.1
  have l4 := (RE_mi h).2.2.2.2.1 (4 * M 9 (xN x) 0 + xN y)
  have ok : okV2 M x y = true := by
    unfold okV2 pvB
    rw [b, b2, ← e14, p1, ← RE_afu h _ 8 (Nat.le_refl _), p2, ← e16, Bool.true_and, Bool.true_and, Bool.true_and, Bool.true_and, Bool.or_eq_true, decide_eq_true_iff, decide_eq_true_iff]
    omega
  have em : pwM M x y = pv1 (rs M 8 (k0 0)) (M 9 (xN x) 0) (xN y) 1 := if_pos ok
  have hRE := RE_pf (RE_8 h (k0 0)) hq x2 (v := 1) (by decide) (fun _ => p1)
  refine ⟨by rw [em]; rfl, ?_, by rw [em]; exact RE_up (Nat.le_succ n) hRE⟩
  unfold pwV
  rw [if_pos ok]
  have h5 := fun k hk => RE_16 hRE (M 9 (xN x) 0) (c := k) hk
  exact congrArg nI (cnt_pc h5 4 (Nat.le_refl _)).symm
theorem q_prove_x (h : RE n P R M) {x y : Int32} {E9 : String} (hx : (E9 = IOBs ∧ ¬ rg x (R 0 0 0)) ∨ (E9 = IAEs ∧ rg x (R 0 0 0) ∧ ¬ rg y 4) ∨ (E9 = ISEs ∧ (rg x (R 0 0 0) ∧ rg y 4) ∧ pvC R (R 6 (xN x) 0 - 1) (xN y) = false)) :
    ((E9 = IOBs ∧ pwM M x y 8 0 0 = 1) ∨ (E9 = IAEs ∧ pwM M x y 8 0 0 = 2) ∨ (E9 = ISEs ∧ pwM M x y 8 0 0 = 3)) ∧ RE (n + 1) P R (pwM M x y) := by
  have ok : okV2 M x y = false := by
    refine Bool.eq_false_iff.mpr (fun w => ?_)
    unfold okV2 at w
    rw [Bool.and_eq_true, Bool.and_eq_true] at w
    rcases hx with ⟨-, z⟩ | ⟨-, -, z⟩ | ⟨-, z, z2⟩
    · rw [q_noplace h z] at w; cases w.1
    · exact z ((rgB_rg (by decide)).mp w.2.1)
    · obtain ⟨-, c, e, -⟩ := q_place h z.1
      have x2 := (rg_xN (by decide) z.2).1
      have w2 := w.2.2
      unfold pvB at w2
      rw [← (RE_13 h _).2.1, ← RE_afu h _ 8 (Nat.le_refl _), ← RE_16 h _ x2, Bool.and_eq_true, Bool.and_eq_true, Bool.or_eq_true, decide_eq_true_iff, decide_eq_true_iff] at w2
      rw [e] at z2
      unfold pvC at z2
      rw [w2.1, w2.2.1, Bool.true_and, Bool.true_and, Bool.not_eq_false', Bool.or_eq_true, decide_eq_true_iff, decide_eq_true_iff] at z2
      omega
  have em : pwM M x y = rs M 8 (k0 (thr (rgB x (M 2 0 0)) (rgB y 4) (okV2 M x y))) := if_neg (by rw [ok]; decide)
  refine ⟨?_, by rw [em]; exact RE_t h _⟩
  have e8 : pwM M x y 8 0 0 = thr (rgB x (M 2 0 0)) (rgB y 4) (okV2 M x y) := by rw [em]; rfl
  rw [e8]
  rcases hx with ⟨e, z⟩ | ⟨e, z1, z⟩ | ⟨e, z, z2⟩
  · exact Or.inl ⟨e, by rw [q_noplace h z]; rfl⟩
  · exact Or.inr (Or.inl ⟨e, by rw [(q_place h z1).1, (rgb (by decide)).2 z]; rfl⟩)
  · exact Or.inr (Or.inr ⟨e, by rw [(q_place h z.1).1, (rgb (by decide)).1 z.2, ok]; rfl⟩)
theorem q_judge_n (h : RE n P R M) {x y : Int32} {b9 : Bool} (hc : (rg x (R 0 0 0) ∧ rg y 4) ∧ jdC R (R 6 (xN x) 0 - 1) (xN y) = true) :
    juM M x y b9 8 0 0 = 0 ∧ fin (jdR R (R 6 (xN x) 0 - 1) (xN y) b9) (R 6 (xN x) 0 - 1) = juV M x y b9 ∧ RE (n + 1) P (jdR R (R 6 (xN x) 0 - 1) (xN y) b9) (juM M x y b9) := by
  obtain ⟨b, c, e, -⟩ := q_place h hc.1.1
  have b2 := (rgb (by decide)).1 hc.1.2
  have x2 := (rg_xN (by decide) hc.1.2).1
  have hq := RE_q h c
  have hp := hc.2
  rw [e] at hp ⊢
  unfold jdC at hp
  rw [Bool.and_eq_true, decide_eq_true_iff] at hp
  have ok : okJ M x y = true := by
    unfold okJ
    rw [b, b2, ← RE_16 h _ x2, decide_eq_true hp.2]; rfl
  have em : juM M x y b9 = pv1 (rs M 8 (k0 0)) (M 9 (xN x) 0) (xN y) (if b9 = true then 2 else 3) := if_pos ok
  have hRE : RE n P (jdR R (M 9 (xN x) 0) (xN y) b9) (juM M x y b9) := by
    rw [em]
    exact RE_pf (RE_8 h (k0 0)) hq x2 (v := if b9 = true then 2 else 3) (by cases b9 <;> decide) (fun _ => hp.1)
  refine ⟨by rw [em]; rfl, ?_, RE_up (Nat.le_succ n) hRE⟩
  unfold juV
  rw [ok, Bool.true_and]
  exact RE_fin hRE _
theorem q_judge_x (h : RE n P R M) {x y : Int32} {b9 : Bool} {E9 : String} (hx : (E9 = IOBs ∧ ¬ rg x (R 0 0 0)) ∨ (E9 = IAEs ∧ rg x (R 0 0 0) ∧ ¬ rg y 4) ∨ (E9 = ISEs ∧ (rg x (R 0 0 0) ∧ rg y 4) ∧ jdC R (R 6 (xN x) 0 - 1) (xN y) = false)) :
    ((E9 = IOBs ∧ juM M x y b9 8 0 0 = 1) ∨ (E9 = IAEs ∧ juM M x y b9 8 0 0 = 2) ∨ (E9 = ISEs ∧ juM M x y b9 8 0 0 = 3)) ∧ RE (n + 1) P R (juM M x y b9) := by
  have ok : okJ M x y = false := by
    refine Bool.eq_false_iff.mpr (fun w => ?_)
    unfold okJ at w
    rw [Bool.and_eq_true, Bool.and_eq_true, decide_eq_true_iff] at w
    rcases hx with ⟨-, z⟩ | ⟨-, -, z⟩ | ⟨-, z, z2⟩
    · rw [q_noplace h z] at w; cases w.1
    · exact z ((rgB_rg (by decide)).mp w.2.1)
    · obtain ⟨-, c, e, -⟩ := q_place h z.1
      have x2 := (rg_xN (by decide) z.2).1
      have w2 := w.2.2
      rw [← RE_16 h _ x2] at w2
      rw [e] at z2
      unfold jdC at z2
      rw [decide_eq_true w2, Bool.and_true] at z2
      have t := h.2.2.2.2.2.2.1 (M 9 (xN x) 0) (xN y) x2 (by rw [w2]; decide)
      rw [t] at z2; cases z2
  have em : juM M x y b9 = rs M 8 (k0 (thr (rgB x (M 2 0 0)) (rgB y 4) (okJ M x y))) := if_neg (by rw [ok]; decide)
  refine ⟨?_, by rw [em]; exact RE_t h _⟩
  have e8 : juM M x y b9 8 0 0 = thr (rgB x (M 2 0 0)) (rgB y 4) (okJ M x y) := by rw [em]; rfl
  rw [e8]
  rcases hx with ⟨e, z⟩ | ⟨e, z1, z⟩ | ⟨e, z, z2⟩
  · exact Or.inl ⟨e, by rw [q_noplace h z]; rfl⟩
  · exact Or.inr (Or.inl ⟨e, by rw [(q_place h z1).1, (rgb (by decide)).2 z]; rfl⟩)
  · exact Or.inr (Or.inr ⟨e, by rw [(q_place h z.1).1, (rgb (by decide)).1 z.2, ok]; rfl⟩)
/-- one page edited -/
theorem XI_rwr {R : fR} (b : XI R) {q x y : Nat} (hx : x < 256) (hy : y < 16) (h15 : R 15 q 0 + 1 ≤ 1000) : XI (rwr R q x y) := by
  obtain ⟨x1, x2, x3, x4, x5, x6, x7, x8, rest⟩ := b
  refine ⟨x1, x2, x3, x4, x5, x6, fun q' => ?_, fun q' j => ?_, rest⟩
  · show u1 (R 13) q x q' 0 < 256 ∧ u1 (R 14) q y q' 0 < 16 ∧ u1 (R 15) q (R 15 q 0 + 1) q' 0 ≤ 1000
    have := x7 q'
    unfold u1
    split
    · exact ⟨hx, hy, h15⟩
    · exact this
  · show drp (R 16) q 4 q' j < 4
    have := x8 q' j
    unfold drp; split <;> omega
theorem MI_edM {M : fR} (b : MI M) {p x y : Nat} (hx : x < 256) (hy : y < 16) (h15 : M 12 p 0 + 1 ≤ 1000) : MI (edM M p x y) := by
  obtain ⟨x1, x2, x3, x4, x5, rest⟩ := b
  refine ⟨x1, x2, x3, fun q' => ?_, fun k => ?_, rest⟩
  · show u1 (M 10) p x q' 0 < 256 ∧ u1 (M 11) p y q' 0 < 16 ∧ u1 (M 12) p (M 12 p 0 + 1) q' 0 ≤ 1000
    have := x4 q'
    unfold u1
    split
    · exact ⟨hx, hy, h15⟩
    · exact this
  · exact clM_lt x5 p 4 k
theorem RE_ed (h : RE n P R M) (hn : n ≤ 900) {q x y : Nat} (hx : x < 256) (hy : y < 16) (h15 : R 15 q 0 + 1 ≤ n + 1) : RE n P (rwr R q x y) (edM M q x y) := by
  have e15 := (RE_13 h q).2.2
  obtain ⟨⟨a, b, c0, d⟩, a2, a3, a4, a5, a6, a7, a8, a9, ⟨b1, b2, b3, b4⟩, a11⟩ := h
  refine ⟨⟨a, XI_rwr b hx hy (by omega), MI_edM c0 hx hy (by omega), d⟩, a2, a3, fun q' => ?_, fun q' c' hc' => ?_, fun q' c' hc' hq' => ?_, fun q' c' hc' hne => ?_, a8, a9, ⟨b1, fun q' => ?_, b3, b4⟩, a11⟩
  · show u1 (R 13) q x q' 0 = u1 (M 10) q x q' 0 ∧ u1 (R 14) q y q' 0 = u1 (M 11) q y q' 0 ∧ u1 (R 15) q (R 15 q 0 + 1) q' 0 = u1 (M 12) q (M 12 q 0 + 1) q' 0
    unfold u1
    by_cases z : q' = q
    · rw [if_pos z, if_pos z, if_pos z, if_pos z, if_pos z, if_pos z, e15]; exact ⟨rfl, rfl, rfl⟩
    · rw [if_neg z, if_neg z, if_neg z, if_neg z, if_neg z, if_neg z]; exact a4 q'
  · show drp (R 16) q 4 q' c' = clM (M 13) q 4 (4 * q' + c') 0
    unfold drp clM
    by_cases z : q' = q
    · rw [if_pos ⟨z, hc'⟩, if_pos (by omega)]
    · rw [if_neg (fun w => z w.1), if_neg (by omega)]; exact a5 q' c' hc'
  · show drp (R 16) q 4 q' c' = 0
    unfold drp
    split
    · rfl
    · exact a6 q' c' hc' hq'
  · have hne2 : drp (R 16) q 4 q' c' ≠ 0 := hne
    show tb (u1 (R 14) q y q' 0) c' = true
    unfold drp at hne2
    by_cases z : q' = q
    · rw [if_pos ⟨z, hc'⟩] at hne2; exact absurd rfl hne2
    · rw [if_neg (fun w => z w.1)] at hne2
      unfold u1
      rw [if_neg z]
      exact a7 q' c' hc' hne2
  · show u1 (R 15) q (R 15 q 0 + 1) q' 0 ≤ n + 1
    have := b2 q'
    unfold u1; split <;> omega
theorem q_edit_n (h : RE n P R M) (hn : n ≤ 512) {x y z : Int32} (hc : rg x (R 0 0 0) ∧ (rg y 256 ∧ rg z 16)) :
    eiM M x y z 8 0 0 = 0 ∧ nI (R 15 (R 6 (xN x) 0 - 1) 0 + 1) = eiV M x y z ∧ RE (n + 1) P (rwr R (R 6 (xN x) 0 - 1) (xN y) (xN z)) (eiM M x y z) := by
  obtain ⟨b, c, e, -⟩ := q_place h hc.1
  have b2 := (rgb (by decide)).1 hc.2.1
  have b3 := (rgb (by decide)).1 hc.2.2
  have x2 := (rg_xN (by decide) hc.2.1).1
  have x3 := (rg_xN (by decide) hc.2.2).1
  have ok : okE M x y z = true := by unfold okE; rw [b, b2, b3]; rfl
  have em : eiM M x y z = edM (rs M 8 (k0 0)) (M 9 (xN x) 0) (xN y) (xN z) := if_pos ok
  rw [e]
  have b15 := h.2.2.2.2.2.2.2.2.2.1.2.1 (M 9 (xN x) 0)
  refine ⟨by rw [em]; rfl, ?_, by rw [em]; exact RE_ed (RE_up (Nat.le_succ n) (RE_8 h (k0 0))) (by omega) x2 x3 (by omega)⟩
  unfold eiV
  rw [if_pos ok, (RE_13 h _).2.2]
theorem q_edit_x (h : RE n P R M) {x y z : Int32} {E9 : String} (hx : (E9 = IOBs ∧ ¬ rg x (R 0 0 0)) ∨ (E9 = IAEs ∧ rg x (R 0 0 0) ∧ ¬ (rg y 256 ∧ rg z 16))) :
    ((E9 = IOBs ∧ eiM M x y z 8 0 0 = 1) ∨ (E9 = IAEs ∧ eiM M x y z 8 0 0 = 2)) ∧ RE (n + 1) P R (eiM M x y z) := by
  have ok : okE M x y z = false := by
    refine Bool.eq_false_iff.mpr (fun w => ?_)
    unfold okE at w
    rw [Bool.and_eq_true, Bool.and_eq_true] at w
    rcases hx with ⟨-, z⟩ | ⟨-, -, z⟩
    · rw [q_noplace h z] at w; cases w.1
    · exact z ⟨(rgB_rg (by decide)).mp w.2.1, (rgB_rg (by decide)).mp w.2.2⟩
  have em : eiM M x y z = rs M 8 (k0 (thr (rgB x (M 2 0 0)) (rgB y 256 && rgB z 16) true)) := if_neg (by rw [ok]; decide)
  refine ⟨?_, by rw [em]; exact RE_t h _⟩
  have e8 : eiM M x y z 8 0 0 = thr (rgB x (M 2 0 0)) (rgB y 256 && rgB z 16) true := by rw [em]; rfl
  rw [e8]
  rcases hx with ⟨e, w⟩ | ⟨e, z1, w⟩
  · exact Or.inl ⟨e, by rw [q_noplace h w]; rfl⟩
  · refine Or.inr ⟨e, ?_⟩
    unfold okE at ok
    rw [(q_place h z1).1, Bool.true_and] at ok
    rw [(q_place h z1).1, ok]; rfl
theorem RE_rp (h : RE n P R M) (hn : n ≤ 512) {f o : Nat} (hf : f < 8) (ho : o < 8) (hne : f ≠ o) : ∀ i, i ≤ R 0 0 0 → RE (n + 1) P (rpl R f o i) (rpM M f o i) ∧ rpc R f o i = rpK M f o i
  | 0, _ => ⟨RE_up (Nat.le_succ n) h, rfl⟩
  | i + 1, hi => by
    obtain ⟨a, b⟩ := RE_rp h hn hf ho hne i (by omega)
    have e9 := RE_9' h (show i < R 0 0 0 by omega)
    have hI := rpI_l (o := o) (rpI_0 (R := R) (f := f) (e := n + 1) (fun q => ⟨((RE_xi h).2.2.2.2.2.2.1 q).1, ((RE_xi h).2.2.2.2.2.2.1 q).2.1, h.2.2.2.2.2.2.2.2.2.1.2.1 q⟩)) hf ho hne i (M 9 i 0)
    have e13 := RE_13 a (M 9 i 0)
    have l1 : rpl R f o (i + 1) = if tb (rpl R f o i 13 (R 6 i 0 - 1) 0) f = true then rwr (rpl R f o i) (R 6 i 0 - 1) (rpf (rpl R f o i 13 (R 6 i 0 - 1) 0) f o) (rpl R f o i 14 (R 6 i 0 - 1) 0) else rpl R f o i := rfl
    have l2 : rpM M f o (i + 1) = if tb (rpM M f o i 10 (M 9 i 0) 0) f = true then edM (rpM M f o i) (M 9 i 0) (rpf (rpM M f o i 10 (M 9 i 0) 0) f o) (rpM M f o i 11 (M 9 i 0) 0) else rpM M f o i := rfl
    have l3 : rpc R f o (i + 1) = rpc R f o i + (if tb (rpl R f o i 13 (R 6 i 0 - 1) 0) f = true then 1 else 0) := rfl
    have l4 : rpK M f o (i + 1) = rpK M f o i + (if tb (rpM M f o i 10 (M 9 i 0) 0) f = true then 1 else 0) := rfl
    rw [l1, l2, l3, l4, e9, ← e13.1, ← e13.2.1, b]
    refine ⟨?_, rfl⟩
    by_cases q : tb (rpl R f o i 13 (M 9 i 0) 0) f = true
    · rw [if_pos q] at hI
      rw [if_pos q, if_pos q]
      exact RE_ed a (by omega) (rpf_ok _ hI.1 f hf o ho).1 hI.2.1 (by omega)
    · rw [if_neg q, if_neg q]; exact a
theorem q_replace_n (h : RE n P R M) (hn : n ≤ 512) {x y : Int32} (hc : (rg x 8 ∧ rg y 8) ∧ x ≠ y) :
    rqM M x y 8 0 0 = 0 ∧ nI (rpc R (xN x) (xN y) (R 0 0 0)) = rqV M x y ∧ RE (n + 1) P (rpl R (xN x) (xN y) (R 0 0 0)) (rqM M x y) := by
  have b1 := (rgb (by decide)).1 hc.1.1
  have b2 := (rgb (by decide)).1 hc.1.2
  obtain ⟨x1, x1'⟩ := rg_xN (by decide) hc.1.1
  obtain ⟨x2, x2'⟩ := rg_xN (by decide) hc.1.2
  have hne : xN x ≠ xN y := fun w => hc.2 (by rw [x1', x2', w])
  have ok : okQ x y = true := by unfold okQ; rw [b1, b2, decide_eq_false hc.2]; rfl
  have em : rqM M x y = rpM (rs M 8 (k0 0)) (xN x) (xN y) (M 2 0 0) := if_pos ok
  have st := RE_rp (RE_8 h (k0 0)) hn x1 x2 hne (R 0 0 0) (Nat.le_refl _)
  refine ⟨?_, ?_, by rw [em, ← RE_n h]; exact st.1⟩
  · rw [em, rpM_ne _ _ _ (by decide) (by decide) (by decide) (by decide)]; rfl
  · unfold rqV
    rw [if_pos ok, st.2, RE_n h]
theorem q_replace_x (h : RE n P R M) {x y : Int32} (hx : ¬ ((rg x 8 ∧ rg y 8) ∧ x ≠ y)) : rqM M x y 8 0 0 = 1 ∧ RE (n + 1) P R (rqM M x y) := by
  have ok : okQ x y = false := by
    refine Bool.eq_false_iff.mpr (fun w => hx ?_)
    unfold okQ at w
    rw [Bool.and_eq_true, Bool.and_eq_true, Bool.not_eq_true', decide_eq_false_iff_not] at w
    exact ⟨⟨(rgB_rg (by decide)).mp w.1, (rgB_rg (by decide)).mp w.2.1⟩, w.2.2⟩
  have em : rqM M x y = rs M 8 (k0 1) := if_neg (by rw [ok]; decide)
  rw [em]
  exact ⟨rfl, RE_t h _⟩
end RE5
