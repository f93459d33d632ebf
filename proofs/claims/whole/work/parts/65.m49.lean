/-! ===== makePlates agrees ===== -/
section RE4
variable {n : Nat} {P R M : fR}
/-- one plate more -/
def mk6 (M : fR) (v : Nat) : fR := rs M 6 (k0 v)
theorem RE_mp (h : RE n P R M) {s i c : Nat} (hs : s < 16) (hi : i < 2) (hc : c < 4) (h4 : R 4 0 0 ≤ 889999) (hn : R 4 0 0 + 1 ≤ 8 * n) :
    RE n P (mpR P R s i c) (mk6 (mk1 M (slot s i c)) (M 6 0 0 + (if neM M (slot s i c) = true then 1 else 0))) ∧ mpR P R s i c 4 0 0 = M 6 0 0 + (if neM M (slot s i c) = true then 1 else 0) := by
  obtain ⟨-, -, -, e4⟩ := slot_of (s := s) hi hc
  have ht : slot s i c < 128 := by omega
  have e46 : R 4 0 0 = M 6 0 0 := h.2.1.2.2.2.1
  have enn := RE_nn h (s := s) hi hc
  have egd := RE_gd h hs hi hc
  have hlk := RE_lkF h s i c
  have tt := fun j hj => RE_tt h (s := s) (j := j) hi hc hj
  have hX := XI_mpR (RE_fj h).1 (RE_xi h) (by omega) s i c
  have hN : mpN P R s i c = !neM M (slot s i c) := by
    unfold mpN neM
    rw [enn, egd]
    by_cases z : lnn M (slot s i c) = 0
    · rw [decide_eq_true z, decide_eq_false (p := 0 < lnn M (slot s i c)) (by omega)]; rfl
    · rw [decide_eq_false z, decide_eq_true (p := 0 < lnn M (slot s i c)) (by omega)]; simp
  by_cases q : neM M (slot s i c) = true
  · have hR : mpR P R s i c = rs (egR (mpP P R s i c) (slot s i c) (lkN P R s i c)) 4 (k0 (R 4 0 0 + 1)) := if_neg (by rw [hN, q]; decide)
    have hM : mk1 M (slot s i c) = rs (rs (rs M 20 (u1 (M 20) (slot s i c) (lnn M (slot s i c)))) 21 (u1 (M 21) (slot s i c) 0)) 22 (cpT (M 22) (slot s i c) (lnt M (slot s i c)) (lnn M (slot s i c))) := if_pos q
    have hMI := MI_mk1 (RE_mi h) (slot s i c)
    rw [if_pos q]
    refine ⟨?_, by rw [hR, ← e46]; rfl⟩
    have hp : 0 < lnn M (slot s i c) := by
      unfold neM at q
      rw [Bool.and_eq_true, decide_eq_true_iff] at q
      exact q.1
    have hn16 : lnn M (slot s i c) ≤ 16 := Nat.le_trans (lnN_le M _ _) (RE_mi h).2.1.2
    have k' : ∀ k, k ≠ 3 → k ≠ 4 → k ≠ 8 → k ≠ 9 → k ≠ 17 → k ≠ 18 → k ≠ 19 → mpR P R s i c k = R k := fun k a3 a4 a8 a9 a17 a18 a19 => by
      rw [hR]
      unfold egR
      rw [rs_ne _ _ a4, rs_ne _ _ a18, rs_ne _ _ a19, rs_ne _ _ a17]
      unfold mpP
      split
      · unfold npR
        rw [rs_ne _ _ a19, rs_ne _ _ a18, rs_ne _ _ a17, rs_ne _ _ a8]
        unfold lkF lkR
        rw [rs_ne _ _ a3, rs_ne _ _ a9]
      · unfold lkF lkR
        rw [rs_ne _ _ a3, rs_ne _ _ a9]
    have m4 : mpR P R s i c 4 0 0 = R 4 0 0 + 1 := by rw [hR]; rfl
    have m9 : mpP P R s i c 9 = lkF P R s i c 9 := by unfold mpP; split <;> rfl
    have m8 : mpR P R s i c 8 = mpP P R s i c 8 := by rw [hR]; rfl
    have m17 : mpR P R s i c 17 = u1 (mpP P R s i c 17) (slot s i c) (lkN P R s i c) := by rw [hR]; rfl
    have m18 : mpR P R s i c 18 = u1 (mpP P R s i c 18) (slot s i c) 0 := by rw [hR]; rfl
    have m19 : mpR P R s i c 19 = cpy (mpP P R s i c 19) (slot s i c) (mpP P R s i c 9) (lkN P R s i c) := by rw [hR]; rfl
    have o : ∀ t, t ≠ slot s i c → mpP P R s i c 8 t 0 = R 8 t 0 ∧ mpP P R s i c 17 t 0 = R 17 t 0 ∧ mpP P R s i c 18 t 0 = R 18 t 0 ∧ ∀ j, mpP P R s i c 19 t j = R 19 t j := fun t hne => by
      unfold mpP
      split
      · unfold npR
        refine ⟨?_, ?_, ?_, fun j => ?_⟩
        · show u1 (R 8) (slot s i c) 1 t 0 = R 8 t 0
          unfold u1; rw [if_neg hne]
        · show u1 (R 17) (slot s i c) 0 t 0 = R 17 t 0
          unfold u1; rw [if_neg hne]
        · show u1 (R 18) (slot s i c) 0 t 0 = R 18 t 0
          unfold u1; rw [if_neg hne]
        · show (if t = slot s i c then 0 else R 19 t j) = R 19 t j
          rw [if_neg hne]
      · exact ⟨rfl, rfl, rfl, fun _ => rfl⟩
    have o8 : mpP P R s i c 8 (slot s i c) 0 ≠ 0 := by
      unfold mpP
      split
      · show u1 (R 8) (slot s i c) 1 (slot s i c) 0 ≠ 0
        unfold u1; rw [if_pos rfl]; decide
      · assumption
    obtain ⟨⟨a, -, c0, d⟩, a2, a3, a4, a5, a6, a7, a8, a9, ⟨b1, b2, b3, b4⟩, a11⟩ := h
    have hMI2 : MI (mk6 (mk1 M (slot s i c)) (M 6 0 0 + 1)) := by
      obtain ⟨c1, c2, c3, c4, c5, c6, c7, c8, c9, c10, c11⟩ := hMI
      refine ⟨c1, c2, c3, c4, c5, c6, c7, c8, c9, ⟨?_, c10.2⟩, c11⟩
      show M 6 0 0 + 1 ≤ 1000000
      omega
    have w20 : mk6 (mk1 M (slot s i c)) (M 6 0 0 + 1) 20 = u1 (M 20) (slot s i c) (lnn M (slot s i c)) := by unfold mk6; rw [hM]; rfl
    have w21 : mk6 (mk1 M (slot s i c)) (M 6 0 0 + 1) 21 = u1 (M 21) (slot s i c) 0 := by unfold mk6; rw [hM]; rfl
    have w22 : mk6 (mk1 M (slot s i c)) (M 6 0 0 + 1) 22 = cpT (M 22) (slot s i c) (lnt M (slot s i c)) (lnn M (slot s i c)) := by unfold mk6; rw [hM]; rfl
    have w' : ∀ k, k ≠ 6 → k ≠ 20 → k ≠ 21 → k ≠ 22 → mk6 (mk1 M (slot s i c)) (M 6 0 0 + 1) k = M k := fun k x6 x20 x21 x22 => by
      unfold mk6; rw [rs_ne _ _ x6, mk1_ne _ _ x20 x21 x22]
    have w6 : mk6 (mk1 M (slot s i c)) (M 6 0 0 + 1) 6 0 0 = M 6 0 0 + 1 := rfl
    have d' : FT P (mk6 (mk1 M (slot s i c)) (M 6 0 0 + 1)) := by
      unfold FT
      rw [w' 3 (by decide) (by decide) (by decide) (by decide), w' 4 (by decide) (by decide) (by decide) (by decide), w' 5 (by decide) (by decide) (by decide) (by decide), w' 17 (by decide) (by decide) (by decide) (by decide), w' 18 (by decide) (by decide) (by decide) (by decide), w' 19 (by decide) (by decide) (by decide) (by decide)]
      exact d
    generalize hW : mk6 (mk1 M (slot s i c)) (M 6 0 0 + 1) = W at *
    generalize hV : mpR P R s i c = V at *
    have v := fun k => k' k
    unfold RE
    rw [v 0 (by decide) (by decide) (by decide) (by decide) (by decide) (by decide) (by decide), v 1 (by decide) (by decide) (by decide) (by decide) (by decide) (by decide) (by decide), v 2 (by decide) (by decide) (by decide) (by decide) (by decide) (by decide) (by decide), v 5 (by decide) (by decide) (by decide) (by decide) (by decide) (by decide) (by decide), v 6 (by decide) (by decide) (by decide) (by decide) (by decide) (by decide) (by decide), v 13 (by decide) (by decide) (by decide) (by decide) (by decide) (by decide) (by decide), v 14 (by decide) (by decide) (by decide) (by decide) (by decide) (by decide) (by decide), v 15 (by decide) (by decide) (by decide) (by decide) (by decide) (by decide) (by decide), v 16 (by decide) (by decide) (by decide) (by decide) (by decide) (by decide) (by decide), v 20 (by decide) (by decide) (by decide) (by decide) (by decide) (by decide) (by decide), v 10 (by decide) (by decide) (by decide) (by decide) (by decide) (by decide) (by decide), v 11 (by decide) (by decide) (by decide) (by decide) (by decide) (by decide) (by decide), v 12 (by decide) (by decide) (by decide) (by decide) (by decide) (by decide) (by decide), m4, m8, m17, m18, m19, w6,
      w' 0 (by decide) (by decide) (by decide) (by decide), w' 1 (by decide) (by decide) (by decide) (by decide), w' 2 (by decide) (by decide) (by decide) (by decide), w' 7 (by decide) (by decide) (by decide) (by decide), w' 9 (by decide) (by decide) (by decide) (by decide), w' 10 (by decide) (by decide) (by decide) (by decide), w' 11 (by decide) (by decide) (by decide) (by decide), w' 12 (by decide) (by decide) (by decide) (by decide), w' 13 (by decide) (by decide) (by decide) (by decide), w' 14 (by decide) (by decide) (by decide) (by decide), w' 15 (by decide) (by decide) (by decide) (by decide), w' 27 (by decide) (by decide) (by decide) (by decide), w20, w21, w22]
    refine ⟨⟨a, hX, hMI2, d'⟩, ⟨a2.1, a2.2.1, a2.2.2.1, by rw [e46], a2.2.2.2.2⟩, a3, a4, a5, a6, a7, a8, fun t ht' => ?_, ⟨b1, b2, hn, b4⟩, a11⟩
    by_cases z : t = slot s i c
    · subst z
      rw [if_neg o8]
      unfold u1
      rw [if_pos rfl, if_pos rfl, if_pos rfl, if_pos rfl, enn]
      refine ⟨rfl, hp, rfl, fun j hj => ?_⟩
      have t1 := tt j hj
      unfold cpy cpT
      rw [if_pos ⟨rfl, hj⟩, if_pos (by omega), m9, show 16 * slot s i c + j - 16 * slot s i c = j by omega, t1.1]
      exact ⟨rfl, t1.2⟩
    · have o9 := o t z
      have h9 := a9 t ht'
      rw [o9.1]
      unfold u1
      rw [if_neg z, if_neg z, if_neg z, if_neg z, o9.2.1, o9.2.2.1]
      by_cases r : R 8 t 0 = 0
      · rw [if_pos r] at h9 ⊢; exact h9
      · rw [if_neg r] at h9 ⊢
        refine ⟨h9.1, h9.2.1, h9.2.2.1, fun j hj => ?_⟩
        have m20 := (c0.2.2.2.2.2.2.2.2.2.2.1 t).1
        unfold cpy cpT
        rw [if_neg (fun u => z u.1), if_neg (by omega), o9.2.2.2 j]
        exact h9.2.2.2 j hj
  · have hR : mpR P R s i c = lkF P R s i c := if_pos (by rw [hN, Bool.eq_false_iff.mpr q]; rfl)
    have hM : mk1 M (slot s i c) = M := if_neg q
    rw [if_neg q, hR, hM, Nat.add_zero]
    refine ⟨?_, e46⟩
    exact hlk
theorem mk1_6 (M : fR) (f : Nat → Nat → Nat) (t : Nat) : mk1 (rs M 6 f) t = rs (mk1 M t) 6 f ∧ neM (rs M 6 f) t = neM M t := by
  have en : neM (rs M 6 f) t = neM M t := by unfold neM; rw [lnn_6, gdM_6]
  refine ⟨?_, en⟩
  unfold mk1
  rw [en]
  split
  · rw [lnn_6, lnt_6, rs_com _ (show 6 ≠ 20 by decide), rs_com _ (show 6 ≠ 21 by decide), rs_com _ (show 6 ≠ 22 by decide)]
    rfl
  · rfl
theorem RE_mks (h : RE n P R M) {s : Nat} (hs : s < 16) (hn : n ≤ 512) : ∀ x, x ≤ 8 → RE (n + 1) P (mks P R s x) (rs (mkS M s x) 6 (k0 (M 6 0 0 + mkC M s x))) ∧ mks P R s x 4 0 0 = M 6 0 0 + mkC M s x
  | 0, _ => by
    refine ⟨?_, h.2.1.2.2.2.1⟩
    have h1 := RE_up (Nat.le_succ n) h
    exact h1
  | x + 1, hx => by
    obtain ⟨a, b⟩ := RE_mks h hs hn x (by omega)
    have hmc := mkC_le M s x
    have h4 : R 4 0 0 = M 6 0 0 := h.2.1.2.2.2.1
    have hb := h.2.2.2.2.2.2.2.2.2.1.2.2.1
    have st := RE_mp a hs (i := x / 4) (c := x % 4) (by omega) (by omega) (by omega) (by omega)
    rw [slot_x (by omega)] at st
    obtain ⟨k1, k2⟩ := mk1_6 (mkS M s x) (k0 (M 6 0 0 + mkC M s x)) (8 * s + x)
    rw [k1, k2] at st
    have e6 : rs (mkS M s x) 6 (k0 (M 6 0 0 + mkC M s x)) 6 0 0 = M 6 0 0 + mkC M s x := rfl
    rw [e6] at st
    have em : mkC M s (x + 1) = mkC M s x + (if neM (mkS M s x) (8 * s + x) = true then 1 else 0) := rfl
    unfold mk6 at st
    rw [rs_rs, Nat.add_assoc, ← em] at st
    exact st
theorem q_makePlates_n (h : RE n P R M) (hn : n ≤ 512) {x : Int32} (hc : rg x (shc P R) ∧ afo P R (xN x) = true) {T : Nat → Nat → Nat} (hT : ∀ k, T k 0 < 134217728) :
    mpM M x 8 0 0 = 0 ∧ nI (mks P R (xN x) 8 4 0 0 - R 4 0 0) = mpV M x ∧ RE (n + 1) P (mks P R (xN x) 8) (rs (mpM M x) 23 T) := by
  obtain ⟨b, -, c⟩ := q_sheet h hc.1
  have ok : okK M x = true := by unfold okK; rw [b, ← RE_rd h, hc.2]; rfl
  have em : mpM M x = rs (mkS (rs M 8 (k0 0)) (xN x) 8) 6 (k0 (M 6 0 0 + mkC (rs M 8 (k0 0)) (xN x) 8)) := if_pos ok
  have st := RE_mks (RE_8 h (k0 0)) c hn 8 (Nat.le_refl _)
  have e4 : R 4 0 0 = M 6 0 0 := h.2.1.2.2.2.1
  have e6 : rs M 8 (k0 0) 6 0 0 = M 6 0 0 := rfl
  rw [e6] at st
  refine ⟨?_, ?_, by rw [em]; exact RE_23 st.1 hT⟩
  · rw [em, rs_ne _ _ (show 8 ≠ 6 by decide), mkS_ne _ _ (by decide) (by decide) (by decide)]; rfl
  · unfold mpV
    rw [if_pos ok, st.2, e4, Nat.add_sub_cancel_left]
theorem q_makePlates_x (h : RE n P R M) {x : Int32} {E9 : String} (hx : (E9 = IOBs ∧ ¬ rg x (shc P R)) ∨ (E9 = ISEs ∧ rg x (shc P R) ∧ afo P R (xN x) = false)) {T : Nat → Nat → Nat} (hT : ∀ k, T k 0 < 134217728) :
    ((E9 = IOBs ∧ mpM M x 8 0 0 = 1) ∨ (E9 = ISEs ∧ mpM M x 8 0 0 = 2)) ∧ RE (n + 1) P R (rs (mpM M x) 23 T) := by
  have ok : okK M x = false := by
    refine Bool.eq_false_iff.mpr (fun w => ?_)
    unfold okK at w
    rw [Bool.and_eq_true] at w
    rcases hx with ⟨-, z⟩ | ⟨-, -, z⟩
    · rw [q_nosheet h z] at w; cases w.1
    · rw [← RE_rd h, z] at w; cases w.2
  have em : mpM M x = rs M 8 (k0 (thr (rgB x (shM M)) (okK M x) true)) := if_neg (by rw [ok]; decide)
  refine ⟨?_, by rw [em]; exact RE_up (Nat.le_succ n) (RE_23 (RE_8 h _) hT)⟩
  have e8 : mpM M x 8 0 0 = thr (rgB x (shM M)) (okK M x) true := by rw [em]; rfl
  rw [e8]
  rcases hx with ⟨e, z⟩ | ⟨e, z1, z⟩
  · exact Or.inl ⟨e, by rw [q_nosheet h z]; rfl⟩
  · exact Or.inr ⟨e, by rw [(q_sheet h z1).1, ok]; rfl⟩
end RE4
