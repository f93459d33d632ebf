/-! ===== the model: drops, gives ===== -/
def dq (M : fR) (p f : Nat) : Bool := tb (M 10 p 0) f && (zB (M 25 f 0) && !mayB M f)
def dr1 (M : fR) (p : Nat) (D : Nat → Nat → Nat) : Nat → (Nat → Nat → Nat)
  | 0 => D
  | f + 1 => if dq M p f = true then clM (dr1 M p D f) p 4 else dr1 M p D f
def dr (M : fR) : Nat → (Nat → Nat → Nat)
  | 0 => M 13
  | k + 1 => dr1 M (M 9 k 0) (dr M k) 8
theorem clM_lt {f : Nat → Nat → Nat} (h : ∀ k, f k 0 < 4) (p x : Nat) : ∀ k, clM f p x k 0 < 4 := by
  intro k
  unfold clM
  have := h k
  split <;> omega
theorem dr1_lt {M : fR} {p : Nat} {D : Nat → Nat → Nat} (h : ∀ k, D k 0 < 4) : ∀ f k, dr1 M p D f k 0 < 4
  | 0 => h
  | f + 1 => by
    unfold dr1
    split
    · exact clM_lt (dr1_lt h f) p 4
    · exact dr1_lt h f
theorem dr_lt {M : fR} (h : ∀ k, M 13 k 0 < 4) : ∀ x k, dr M x k 0 < 4
  | 0 => h
  | x + 1 => by unfold dr; exact dr1_lt (dr_lt h x) 8
def drM (M : fR) : fR := rs M 13 (dr M (M 2 0 0))
set_option maxHeartbeats 4000000 in
set_option maxRecDepth 100000 in
theorem c_X5_drops {l : Launch} (hl : l.stackTraces = false) (Γ : fG) (B0 : Nat) (ad : Nat → Nat → Nat) (M : fR) (F : Nat → fO) (X : Nat × Nat → fO) (hI : MI M) : f_Met l yX5_drops cX5_drops 3 none 2 0 0 43 Γ B0 [.ref (ad 30 0)] (wj F X (mw Γ ad M)) (f_to (wj F X (mw Γ ad (drM M)))) f_no := by
  refine f_of hl (by decide) rfl (Nat.le_of_ble_eq_true rfl) (fun X9 C E hh hnm => ?_)
  generalize (f_s X9).heap = H, ([] : List Loc) = locs at hh ⊢
  obtain ⟨i2, i45, i9, i10, i13, i14, i17, i0, i1, -⟩ := id hI
  refine r_iconst C (nI 0) dX5_drops_0 rfl ?_
  refine r_istore_n C dX5_drops_1 rfl rfl ?_
  have lp2 : ∀ (d9 : Nat) (k : Nat) (H : Heap) (locs : List Loc), M 2 0 0 - k < d9 → k ≤ M 2 0 0 → f_HS Γ B0 (wj F X (mw Γ ad (rs M 13 (dr M k)))) X9 H locs → f_W X9 H locs 0 0 2 [some (.ref (ad 30 0)), some (.int (nI (k))), none] [] := by
    intro d9
    induction d9 with
    | zero => intro k H locs hd9 hl hh; exact absurd hd9 (Nat.not_lt_zero _)
    | succ d9 ih2 =>
      intro k H locs hd9 hl hh
      refine r_iload_n C dX5_drops_2 rfl ?_
      refine r_aload_n C dX5_drops_3 rfl ?_
      refine g_X5_70 C hh dX5_drops_4 ?_
      rw [show rs M 13 (dr M k) 2 0 0 = M 2 0 0 from rfl]
      refine r_icmp_geN (tgt := 75) C dX5_drops_7 (by decide) (by omega) (by omega) (fun h7 => ?_) (fun h7 => ?_)
      · obtain rfl : k = M 2 0 0 := by omega
        exact r_vret C E hh dX5_drops_75 (by omega) (by omega) ⟨rfl, rfl⟩
      · refine r_iconst C (nI 0) dX5_drops_10 rfl ?_
        refine r_istore_n C dX5_drops_11 rfl rfl ?_
        have lp12 : ∀ (d9 : Nat) (f : Nat) (H : Heap) (locs : List Loc), 8 - f < d9 → f ≤ 8 → f_HS Γ B0 (wj F X (mw Γ ad (rs M 13 (dr1 M (M 9 k 0) (dr M k) f)))) X9 H locs → f_W X9 H locs 0 0 12 [some (.ref (ad 30 0)), some (.int (nI (k))), some (.int (nI (f)))] [] := by
          intro d9
          induction d9 with
          | zero => intro f H locs hd9 hl hh; exact absurd hd9 (Nat.not_lt_zero _)
          | succ d9 ih12 =>
            intro f H locs hd9 hl hh
            have j9 := i9 k
            have j10 := i10 (M 9 k 0)
            refine r_iload_n C dX5_drops_12 rfl ?_
            refine r_bipush C (nI 8) dX5_drops_13 rfl ?_
            refine r_icmp_geN (tgt := 69) C dX5_drops_15 (by decide) (by omega) (by omega) (fun h15 => ?_) (fun h15 => ?_)
            · obtain rfl : f = 8 := by omega
              refine r_iincN C dX5_drops_69 rfl rfl ?_
              refine r_goto (tgt := 2) C dX5_drops_72 (by decide) ?_
              refine f_W.le ?_ (ih2 (k + 1) _ _ (by omega) (by omega) hh)
              exact (And.intro rfl (And.intro rfl trivial))
            · refine r_aload_n C dX5_drops_18 rfl ?_
              refine g_X5_13 C hh dX5_drops_19 ?_
              refine r_aload_n C dX5_drops_22 rfl ?_
              refine g_X5_7 C hh dX5_drops_23 ?_
              refine r_iload_n C dX5_drops_26 rfl ?_
              refine al_m_order C hh (by omega) dX5_drops_27 ?_
              rw [show (rs M 13 (dr1 M (M 9 k 0) (dr M k) f)) 9 k 0 = M 9 k 0 from rfl]
              refine al_m_fonts C hh (by omega) dX5_drops_28 ?_
              rw [show (rs M 13 (dr1 M (M 9 k 0) (dr M k) f)) 10 (M 9 k 0) 0 = M 10 (M 9 k 0) 0 from rfl]
              refine r_iload_n C dX5_drops_29 rfl ?_
              refine r_callS C E hh (c_X5_has E.2.1 Γ B0 _ _ _ (by omega) (by omega)) lk_X5_122 rfl rfl (Nat.le_of_ble_eq_true rfl) dX5_drops_30 ⟨by decide, by decide⟩ ⟨by omega, by omega⟩ (fun _ _ z9 => False.elim z9) (kk_is (fun H locs hs9 hh => ?_))
              refine r_if_eqB (tgt := 63) C dX5_drops_33 (by decide) (fun h33 => ?_) (fun h33 => ?_)
              · have hq : dq M (M 9 k 0) f = false := by simp [dq, h33]
                have e9 : dr1 M (M 9 k 0) (dr M k) (f + 1) = dr1 M (M 9 k 0) (dr M k) f := if_neg (by rw [hq]; decide)
                refine r_iincN C dX5_drops_63 rfl rfl ?_
                refine r_goto (tgt := 12) C dX5_drops_66 (by decide) ?_
                have w9 := ih12 (f + 1) H locs (by omega) (by omega) (by rw [e9]; exact hh)
                exact w9
              · refine r_aload_n C dX5_drops_36 rfl ?_
                refine g_X5_59 C hh dX5_drops_37 ?_
                refine r_iload_n C dX5_drops_40 rfl ?_
                refine al_m_could C hh (by omega) dX5_drops_41 ?_
                rw [show (rs M 13 (dr1 M (M 9 k 0) (dr M k) f)) 25 f 0 = M 25 f 0 from rfl]
                refine r_if_eqB (tgt := 63) C dX5_drops_42 (by decide) (fun h42 => ?_) (fun h42 => ?_)
                · have hq : dq M (M 9 k 0) f = false := by simp [dq, h42]
                  have e9 : dr1 M (M 9 k 0) (dr M k) (f + 1) = dr1 M (M 9 k 0) (dr M k) f := if_neg (by rw [hq]; decide)
                  refine r_iincN C dX5_drops_63 rfl rfl ?_
                  refine r_goto (tgt := 12) C dX5_drops_66 (by decide) ?_
                  have w9 := ih12 (f + 1) H locs (by omega) (by omega) (by rw [e9]; exact hh)
                  exact w9
                · refine r_aload_n C dX5_drops_45 rfl ?_
                  refine r_iload_n C dX5_drops_46 rfl ?_
                  refine r_callV C E hh (c_X5_may E.2.1 Γ B0 ad (rs M 13 (dr1 M (M 9 k 0) (dr M k) f)) F X f (by omega) (show M 14 f 0 < 2 ^ 31 from by have := (i14 f).1; omega)) lk_X5_152 (tr := .inr (.inr 0)) rfl rfl rfl rfl (Nat.le_of_ble_eq_true rfl) dX5_drops_47 ⟨by decide, by decide⟩ ⟨by omega, by omega⟩ (fun _ _ z9 => False.elim z9) (kk_is (fun H locs hs9 hh => ?_))
                  rw [show mayB (rs M 13 (dr1 M (M 9 k 0) (dr M k) f)) f = mayB M f from rfl]
                  refine r_if_neB (tgt := 63) C dX5_drops_50 (by decide) (fun h50 => ?_) (fun h50 => ?_)
                  · have hq : dq M (M 9 k 0) f = false := by simp [dq, h50]
                    have e9 : dr1 M (M 9 k 0) (dr M k) (f + 1) = dr1 M (M 9 k 0) (dr M k) f := if_neg (by rw [hq]; decide)
                    refine r_iincN C dX5_drops_63 rfl rfl ?_
                    refine r_goto (tgt := 12) C dX5_drops_66 (by decide) ?_
                    have w9 := ih12 (f + 1) H locs (by omega) (by omega) (by rw [e9]; exact hh)
                    exact w9
                  · have hq : dq M (M 9 k 0) f = true := by simp [dq, h33, h42, h50]
                    have e9 : dr1 M (M 9 k 0) (dr M k) (f + 1) = clM (dr1 M (M 9 k 0) (dr M k) f) (M 9 k 0) 4 := if_pos hq
                    refine r_aload_n C dX5_drops_53 rfl ?_
                    refine r_aload_n C dX5_drops_54 rfl ?_
                    refine g_X5_7 C hh dX5_drops_55 ?_
                    refine r_iload_n C dX5_drops_58 rfl ?_
                    refine al_m_order C hh (by omega) dX5_drops_59 ?_
                    rw [show (rs M 13 (dr1 M (M 9 k 0) (dr M k) f)) 9 k 0 = M 9 k 0 from rfl]
                    refine r_callV C E hh (c_X5_clears E.2.1 Γ B0 ad (rs M 13 (dr1 M (M 9 k 0) (dr M k) f)) F X (M 9 k 0) j9) lk_X5_112 (tr := .inr (.inr 0)) rfl rfl rfl rfl (Nat.le_of_ble_eq_true rfl) dX5_drops_60 ⟨by decide, by decide⟩ ⟨by omega, by omega⟩ (fun _ _ z9 => False.elim z9) (kk_to (fun H locs hs9 hh => ?_))
                    rw [rs_same, rs_rs] at hh
                    refine r_iincN C dX5_drops_63 rfl rfl ?_
                    refine r_goto (tgt := 12) C dX5_drops_66 (by decide) ?_
                    have w9 := ih12 (f + 1) H locs (by omega) (by omega) (by rw [e9]; exact hh)
                    exact w9
        exact lp12 9 0 _ _ (by omega) (by omega) hh
  rw [show M = rs M 13 (dr M 0) from (rs_id M 13).symm] at hh
  exact lp2 (M 2 0 0 + 1) 0 _ _ (by omega) (by omega) hh

