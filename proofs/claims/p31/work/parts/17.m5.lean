/-! ===== the class: the order, edits, proofs ===== -/
def tk (R : fR) (p a : Nat) : Nat → Nat → Nat := fun i j => if p ≤ i ∧ i < a then R 6 (i + 1) 0 else R 6 i j
theorem tk_0 (R : fR) (p : Nat) : rs R 6 (tk R p p) = R := by
  funext c i j
  by_cases h : c = 6
  · subst h
    have h2 : ¬ (p ≤ i ∧ i < p) := by omega
    simp [rs, tk, h2]
  · simp [rs, h]
theorem tk_n (R : fR) {p a i : Nat} (h : a ≤ i) : tk R p a i 0 = R 6 i 0 := by
  have h2 : ¬ (p ≤ i ∧ i < a) := by omega
  simp [tk, h2]
theorem tk_s (R : fR) {p a v : Nat} (hp : p ≤ a) (hv : R 6 (a + 1) 0 = v) : u1 (tk R p a) a v = tk R p (a + 1) := by
  funext i j
  unfold u1 tk
  by_cases h : i = a
  · subst h
    have h2 : p ≤ i ∧ i < i + 1 := by omega
    simp [h2, hv]
  · have h3 : (p ≤ i ∧ i < a + 1) ↔ (p ≤ i ∧ i < a) := by omega
    simp [h, h3]
def sr2 (f : Nat → Nat → Nat) (a m : Nat) : Nat → Nat → Nat := fun i j => if a < i ∧ i ≤ m then f (i - 1) 0 else f i j
theorem sr2_0 (f : Nat → Nat → Nat) (m : Nat) : sr2 f m m = f := by
  funext i j
  have h2 : ¬ (m < i ∧ i ≤ m) := by omega
  simp [sr2, h2]
theorem sr2_n (f : Nat → Nat → Nat) {a m i : Nat} (h : i ≤ a) : sr2 f a m i 0 = f i 0 := by
  have h2 : ¬ (a < i ∧ i ≤ m) := by omega
  simp [sr2, h2]
theorem sr2_s (f : Nat → Nat → Nat) {a m v : Nat} (h0 : 0 < a) (hm : a ≤ m) (hv : f (a - 1) 0 = v) : u1 (sr2 f a m) a v = sr2 f (a - 1) m := by
  funext i j
  unfold u1 sr2
  by_cases h : i = a
  · subst h
    have h2 : i - 1 < i ∧ i ≤ m := by omega
    simp [h2, hv]
  · have h3 : (a - 1 < i ∧ i ≤ m) ↔ (a < i ∧ i ≤ m) := by omega
    simp [h, h3]
def rmR (R : fR) (p : Nat) : fR := rs (rs (rs R 6 (tk R p (R 0 0 0 - 1))) 0 (k0 (R 0 0 0 - 1))) 6 (u1 (tk R p (R 0 0 0 - 1)) (R 0 0 0 - 1) 0)
def mvR (R : fR) (p o : Nat) : fR := rs R 6 (u1 (sr2 (tk R p (R 0 0 0 - 1)) o (R 0 0 0 - 1)) o (R 6 p 0))
set_option maxHeartbeats 4000000 in
set_option maxRecDepth 100000 in
theorem c_X4_takeOut {l : Launch} (hl : l.stackTraces = false) (Γ : fG) (B0 : Nat) (ad : Nat → Nat → Nat) (R : fR) (F : Nat → fO) (M : Nat → fO) (p : Nat) (hp : p < R 0 0 0) (hI : XI R) : f_Met l yX4_takeOut cX4_takeOut 3 none 0 0 0 0 Γ B0 [.ref (ad 1 0), .int (nI (p))] (wj F (xw Γ ad R) M) (f_to (wj F (xw Γ ad (rs R 6 (tk R p (R 0 0 0 - 1)))) M)) f_no := by
  refine f_of hl (by decide) rfl (Nat.le_of_ble_eq_true rfl) (fun X9 C E hh hnm => ?_)
  generalize (f_s X9).heap = H, ([] : List Loc) = locs at hh ⊢
  obtain ⟨i1, i2, -⟩ := id hI
  refine r_iload_n C dX4_takeOut_0 rfl ?_
  refine r_istore_n C dX4_takeOut_1 rfl rfl ?_
  have lp2 : ∀ (d9 : Nat) (a : Nat) (H : Heap) (locs : List Loc), R 0 0 0 - a < d9 → p ≤ a → a ≤ R 0 0 0 - 1 → f_HS Γ B0 (wj F (xw Γ ad (rs R 6 (tk R p (a)))) M) X9 H locs → f_W X9 H locs 0 0 2 [some (.ref (ad 1 0)), some (.int (nI (p))), some (.int (nI (a)))] [] := by
    intro d9
    induction d9 with
    | zero => intro a H locs hd9 ha1 ha2 hh; exact absurd hd9 (Nat.not_lt_zero _)
    | succ d9 ih2 =>
      intro a H locs hd9 ha1 ha2 hh
      have e0 : rs R 6 (tk R p a) 0 0 0 = R 0 0 0 := rfl
      refine r_iload_n C dX4_takeOut_2 rfl ?_
      refine r_aload_n C dX4_takeOut_3 rfl ?_
      refine g_X4_47 C hh dX4_takeOut_4 ?_
      refine r_iconst C (nI 1) dX4_takeOut_7 rfl ?_
      refine r_isubN C dX4_takeOut_8 (by omega) ?_
      refine r_icmp_geN (tgt := 32) C dX4_takeOut_9 (by decide) (by omega) (by omega) (fun h9 => ?_) (fun h9 => ?_)
      · obtain rfl : a = R 0 0 0 - 1 := by omega
        exact r_vret C E hh dX4_takeOut_32 (by omega) (by omega) ⟨rfl, rfl⟩
      · obtain ⟨q, hv, hq⟩ := i2 (a + 1) (by omega)
        refine r_aload_n C dX4_takeOut_12 rfl ?_
        refine g_X4_11 C hh dX4_takeOut_13 ?_
        refine r_iload_n C dX4_takeOut_16 rfl ?_
        refine r_aload_n C dX4_takeOut_17 rfl ?_
        refine g_X4_11 C hh dX4_takeOut_18 ?_
        refine r_iload_n C dX4_takeOut_21 rfl ?_
        refine r_iconst C (nI 1) dX4_takeOut_22 rfl ?_
        refine r_iaddN C dX4_takeOut_23 ?_
        refine al_order C hh (by omega) ((tk_n R (by omega)).trans hv) dX4_takeOut_24 ?_
        refine as_order C hh hq (by omega) dX4_takeOut_25 (fun H locs hh => ?_)
        rw [rs_same, rs_rs, tk_s R ha1 hv] at hh
        refine r_iincN C dX4_takeOut_26 rfl rfl ?_
        refine r_goto (tgt := 2) C dX4_takeOut_29 (by decide) ?_
        exact ih2 (a + 1) H locs (by omega) (by omega) (by omega) hh
  rw [← tk_0 R p] at hh
  exact lp2 (R 0 0 0 + 1) p _ _ (by omega) (by omega) (by omega) hh

set_option maxHeartbeats 4000000 in
set_option maxRecDepth 100000 in
theorem c_X4_remove {l : Launch} (hl : l.stackTraces = false) (Γ : fG) (B0 : Nat) (ad : Nat → Nat → Nat) (R : fR) (F : Nat → fO) (M : Nat → fO) (x : Int32) (hI : XI R) : f_Met l yX4_remove cX4_remove 2 (some .int) 7 1 6 111 Γ B0 [.ref (ad 1 0), .int x] (wj F (xw Γ ad R) M) (f_rI (fun r9 w9 => rg x (R 0 0 0) ∧ r9 = nI (R 0 0 0 - 1) ∧ w9 = wj F (xw Γ ad (rmR R (xN x))) M)) (fun E9 w9 => (E9 = "java/lang/IndexOutOfBoundsException" ∧ ¬ rg x (R 0 0 0)) ∧ w9 = wj F (xw Γ ad R) M) := by
  refine f_of hl (by decide) rfl (Nat.le_of_ble_eq_true rfl) (fun X9 C E hh hnm => ?_)
  generalize (f_s X9).heap = H, ([] : List Loc) = locs at hh ⊢
  obtain ⟨i1, i2, -⟩ := id hI
  refine r_aload_n C dX4_remove_0 rfl ?_
  refine r_iload_n C dX4_remove_1 rfl ?_
  refine r_callV C E hh (c_X4_checkPlace E.2.1 Γ B0 ad R F M x) lk_X4_72 (tr := .inr (.inl (0, 0))) rfl rfl rfl rfl (Nat.le_of_ble_eq_true rfl) dX4_remove_2 ⟨by decide, by decide⟩ ⟨by omega, by omega⟩ (fun _ _ z9 => z9) (kk_rV (fun w9 H locs hs9 hp9 hh => ?_))
  obtain ⟨r1, rfl⟩ := hp9
  obtain ⟨j, hj, rfl⟩ := rg_of r1 (by omega)
  refine r_aload_n C dX4_remove_5 rfl ?_
  refine r_iload_n C dX4_remove_6 rfl ?_
  refine r_callV C E hh (c_X4_takeOut E.2.1 Γ B0 ad R F M j hj hI) lk_X4_76 (tr := .inr (.inl (0, 0))) rfl rfl rfl rfl (Nat.le_of_ble_eq_true rfl) dX4_remove_7 ⟨by decide, by decide⟩ ⟨by omega, by omega⟩ (fun _ _ z9 => False.elim z9) (kk_to (fun H locs hs9 hh => ?_))
  have e0 : rs R 6 (tk R j (R 0 0 0 - 1)) 0 0 0 = R 0 0 0 := rfl
  refine r_aload_n C dX4_remove_10 rfl ?_
  refine r_dup C dX4_remove_11 rfl ?_
  refine g_X4_47 C hh dX4_remove_12 ?_
  refine r_iconst C (nI 1) dX4_remove_15 rfl ?_
  refine r_isubN C dX4_remove_16 (by omega) ?_
  refine p_X4_47 C hh dX4_remove_17 (fun H locs hh => ?_)
  refine r_aload_n C dX4_remove_20 rfl ?_
  refine g_X4_11 C hh dX4_remove_21 ?_
  refine r_aload_n C dX4_remove_24 rfl ?_
  refine g_X4_47 C hh dX4_remove_25 ?_
  refine r_null C dX4_remove_28 ?_
  refine as_order_null C hh (show R 0 0 0 - 1 < 64 by omega) dX4_remove_29 (fun H locs hh => ?_)
  refine r_aload_n C dX4_remove_30 rfl ?_
  refine g_X4_47 C hh dX4_remove_31 ?_
  exact r_iret C E hh dX4_remove_34 (by omega) (by omega) ⟨_, rfl, r1, rfl, by rw [xN_nI (by omega)]; rfl⟩

set_option maxHeartbeats 4000000 in
set_option maxRecDepth 100000 in
theorem c_X4_move {l : Launch} (hl : l.stackTraces = false) (Γ : fG) (B0 : Nat) (ad : Nat → Nat → Nat) (R : fR) (F : Nat → fO) (M : Nat → fO) (x y : Int32) (hI : XI R) : f_Met l yX4_move cX4_move 5 none 7 2 12 111 Γ B0 [.ref (ad 1 0), .int x, .int y] (wj F (xw Γ ad R) M) (f_rV (fun w9 => (rg x (R 0 0 0) ∧ rg y (R 0 0 0)) ∧ w9 = wj F (xw Γ ad (mvR R (xN x) (xN y))) M)) (fun E9 w9 => (E9 = "java/lang/IndexOutOfBoundsException" ∧ ¬ (rg x (R 0 0 0) ∧ rg y (R 0 0 0))) ∧ w9 = wj F (xw Γ ad R) M) := by
  refine f_of hl (by decide) rfl (Nat.le_of_ble_eq_true rfl) (fun X9 C E hh hnm => ?_)
  generalize (f_s X9).heap = H, ([] : List Loc) = locs at hh ⊢
  obtain ⟨i1, i2, -⟩ := id hI
  refine r_aload_n C dX4_move_0 rfl ?_
  refine r_iload_n C dX4_move_1 rfl ?_
  refine r_callV C E hh (c_X4_checkPlace E.2.1 Γ B0 ad R F M x) lk_X4_72 (tr := .inr (.inl (0, 0))) rfl rfl rfl rfl (Nat.le_of_ble_eq_true rfl) dX4_move_2 ⟨by decide, by decide⟩ ⟨by omega, by omega⟩ (fun _ _ z9 => ⟨⟨z9.1.1, fun q => z9.1.2 q.1⟩, z9.2⟩) (kk_rV (fun w9 H locs hs9 hp9 hh => ?_))
  obtain ⟨r1, rfl⟩ := hp9
  refine r_aload_n C dX4_move_5 rfl ?_
  refine r_iload_n C dX4_move_6 rfl ?_
  refine r_callV C E hh (c_X4_checkPlace E.2.1 Γ B0 ad R F M y) lk_X4_72 (tr := .inr (.inl (0, 0))) rfl rfl rfl rfl (Nat.le_of_ble_eq_true rfl) dX4_move_7 ⟨by decide, by decide⟩ ⟨by omega, by omega⟩ (fun _ _ z9 => ⟨⟨z9.1.1, fun q => z9.1.2 q.2⟩, z9.2⟩) (kk_rV (fun w9 H locs hs9 hp9 hh => ?_))
  obtain ⟨r2, rfl⟩ := hp9
  obtain ⟨j, hj, rfl⟩ := rg_of r1 (by omega)
  obtain ⟨o, ho, rfl⟩ := rg_of r2 (by omega)
  obtain ⟨q, hv, hq⟩ := i2 j hj
  refine r_aload_n C dX4_move_10 rfl ?_
  refine g_X4_11 C hh dX4_move_11 ?_
  refine r_iload_n C dX4_move_14 rfl ?_
  refine al_order C hh (by omega) hv dX4_move_15 ?_
  refine r_astore_n C dX4_move_16 rfl rfl ?_
  refine r_aload_n C dX4_move_17 rfl ?_
  refine r_iload_n C dX4_move_18 rfl ?_
  refine r_callV C E hh (c_X4_takeOut E.2.1 Γ B0 ad R F M j hj hI) lk_X4_76 (tr := .inr (.inl (0, 0))) rfl rfl rfl rfl (Nat.le_of_ble_eq_true rfl) dX4_move_19 ⟨by decide, by decide⟩ ⟨by omega, by omega⟩ (fun _ _ z9 => False.elim z9) (kk_to (fun H locs hs9 hh => ?_))
  have e0 : rs R 6 (tk R j (R 0 0 0 - 1)) 0 0 0 = R 0 0 0 := rfl
  refine r_aload_n C dX4_move_22 rfl ?_
  refine g_X4_47 C hh dX4_move_23 ?_
  refine r_iconst C (nI 1) dX4_move_26 rfl ?_
  refine r_isubN C dX4_move_27 (by omega) ?_
  refine r_istore C dX4_move_28 rfl rfl ?_
  have lp30 : ∀ (d9 : Nat) (a : Nat) (H : Heap) (locs : List Loc), a < d9 → o ≤ a → a ≤ R 0 0 0 - 1 → f_HS Γ B0 (wj F (xw Γ ad (rs R 6 (sr2 (tk R j (R 0 0 0 - 1)) (a) (R 0 0 0 - 1)))) M) X9 H locs → f_W X9 H locs 2 12 30 [some (.ref (ad 1 0)), some (.int (nI (j))), some (.int (nI (o))), some (.ref (ad 14 q)), some (.int (nI (a)))] [] := by
    intro d9
    induction d9 with
    | zero => intro a H locs hd9 ha1 ha2 hh; exact absurd hd9 (Nat.not_lt_zero _)
    | succ d9 ih30 =>
      intro a H locs hd9 ha1 ha2 hh
      refine r_iload C dX4_move_30 rfl ?_
      refine r_iload_n C dX4_move_32 rfl ?_
      refine r_icmp_leN (tgt := 58) C dX4_move_33 (by decide) (by omega) (by omega) (fun h33 => ?_) (fun h33 => ?_)
      · obtain rfl : a = o := by omega
        refine r_aload_n C dX4_move_58 rfl ?_
        refine g_X4_11 C hh dX4_move_59 ?_
        refine r_iload_n C dX4_move_62 rfl ?_
        refine r_aload_n C dX4_move_63 rfl ?_
        refine as_order C hh hq (by omega) dX4_move_64 (fun H locs hh => ?_)
        rw [rs_same, rs_rs] at hh
        exact r_vret C E hh dX4_move_65 (by omega) (by omega) ⟨rfl, ⟨r1, r2⟩, by unfold mvR; rw [xN_nI (by omega), xN_nI (by omega), hv]⟩
      · obtain ⟨v, hv2, hq2⟩ : ∃ v, tk R j (R 0 0 0 - 1) (a - 1) 0 = v + 1 ∧ v < R 20 0 0 := by
          unfold tk
          split
          · exact i2 (a - 1 + 1) (by omega)
          · exact i2 (a - 1) (by omega)
        refine r_aload_n C dX4_move_36 rfl ?_
        refine g_X4_11 C hh dX4_move_37 ?_
        refine r_iload C dX4_move_40 rfl ?_
        refine r_aload_n C dX4_move_42 rfl ?_
        refine g_X4_11 C hh dX4_move_43 ?_
        refine r_iload C dX4_move_46 rfl ?_
        refine r_iconst C (nI 1) dX4_move_48 rfl ?_
        refine r_isubN C dX4_move_49 (by omega) ?_
        refine al_order C hh (by omega) ((sr2_n _ (by omega)).trans hv2) dX4_move_50 ?_
        refine as_order C hh hq2 (by omega) dX4_move_51 (fun H locs hh => ?_)
        rw [rs_same, rs_rs, sr2_s _ (by omega) (by omega) hv2] at hh
        refine r_iincD C dX4_move_52 (by omega) rfl rfl ?_
        refine r_goto (tgt := 30) C dX4_move_55 (by decide) ?_
        exact ih30 (a - 1) H locs (by omega) (by omega) (by omega) hh
  rw [← sr2_0 (tk R j (R 0 0 0 - 1)) (R 0 0 0 - 1)] at hh
  exact lp30 (R 0 0 0) (R 0 0 0 - 1) _ _ (by omega) (by omega) (by omega) hh

set_option maxHeartbeats 4000000 in
set_option maxRecDepth 100000 in
theorem c_X4_edit {l : Launch} (hl : l.stackTraces = false) (Γ : fG) (B0 : Nat) (ad : Nat → Nat → Nat) (R : fR) (F : Nat → fO) (M : Nat → fO) (x a b : Int32) (hI : XI R) : f_Met l yX4_edit cX4_edit 4 (some .int) 7 2 12 111 Γ B0 [.ref (ad 1 0), .int x, .int a, .int b] (wj F (xw Γ ad R) M) (f_rI (fun r9 w9 => (rg x (R 0 0 0) ∧ (rg a 256 ∧ rg b 16)) ∧ r9 = nI (R 15 (R 6 (xN x) 0 - 1) 0 + 1) ∧ w9 = wj F (xw Γ ad (rwr R (R 6 (xN x) 0 - 1) (xN a) (xN b))) M)) (fun E9 w9 => ((E9 = "java/lang/IndexOutOfBoundsException" ∧ ¬ rg x (R 0 0 0)) ∨ (E9 = "java/lang/IllegalArgumentException" ∧ rg x (R 0 0 0) ∧ ¬ (rg a 256 ∧ rg b 16))) ∧ w9 = wj F (xw Γ ad R) M) := by
  refine f_of hl (by decide) rfl (Nat.le_of_ble_eq_true rfl) (fun X9 C E hh hnm => ?_)
  generalize (f_s X9).heap = H, ([] : List Loc) = locs at hh ⊢
  obtain ⟨i1, i2, -, -, -, -, i7, -⟩ := id hI
  refine r_aload_n C dX4_edit_0 rfl ?_
  refine r_iload_n C dX4_edit_1 rfl ?_
  refine r_callV C E hh (c_X4_checkPlace E.2.1 Γ B0 ad R F M x) lk_X4_72 (tr := .inr (.inl (0, 0))) rfl rfl rfl rfl (Nat.le_of_ble_eq_true rfl) dX4_edit_2 ⟨by decide, by decide⟩ ⟨by omega, by omega⟩ (fun _ _ z9 => ⟨Or.inl ⟨z9.1.1, z9.1.2⟩, z9.2⟩) (kk_rV (fun w9 H locs hs9 hp9 hh => ?_))
  obtain ⟨r1, rfl⟩ := hp9
  obtain ⟨j, hj, rfl⟩ := rg_of r1 (by omega)
  obtain ⟨q, hv, hq⟩ := i2 j hj
  refine r_iload_n C dX4_edit_5 rfl ?_
  refine r_iload_n C dX4_edit_6 rfl ?_
  refine r_callS C E hh (c_X4_checkFontsAndColors E.2.1 Γ B0 _ a b) lk_X4_58 rfl rfl (Nat.le_of_ble_eq_true rfl) dX4_edit_7 ⟨by decide, by decide⟩ ⟨by omega, by omega⟩ (fun _ _ z9 => ⟨Or.inr ⟨z9.1.1, r1, z9.1.2⟩, z9.2⟩) (kk_rV (fun w9 H locs hs9 hp9 hh => ?_))
  obtain ⟨r2, rfl⟩ := hp9
  obtain ⟨ja, hja, rfl⟩ := rg_of r2.1 (by omega)
  obtain ⟨jb, hjb, rfl⟩ := rg_of r2.2 (by omega)
  have hj2 := Nat.lt_of_lt_of_le hj i1
  refine r_aload_n C dX4_edit_10 rfl ?_
  refine g_X4_11 C hh dX4_edit_11 ?_
  refine r_iload_n C dX4_edit_14 rfl ?_
  refine al_order C hh (by omega) hv dX4_edit_15 ?_
  refine r_iload_n C dX4_edit_16 rfl ?_
  refine r_iload_n C dX4_edit_17 rfl ?_
  refine r_callV C E hh (c_X2_rewrite E.2.1 Γ B0 ad R F M q ja jb hq (i7 q).2.2) lk_X4_79 (tr := .inr (.inl (14, q))) (xw_page (Γ := Γ) hq) rfl rfl rfl (Nat.le_of_ble_eq_true rfl) dX4_edit_18 ⟨by decide, by decide⟩ ⟨by omega, by omega⟩ (fun _ _ z9 => False.elim z9) (kk_to (fun H locs hs9 hh => ?_))
  refine r_aload_n C dX4_edit_21 rfl ?_
  refine g_X4_11 C hh dX4_edit_22 ?_
  refine r_iload_n C dX4_edit_25 rfl ?_
  refine al_order C hh (by omega) hv dX4_edit_26 ?_
  refine g_X4_82 C hh hq dX4_edit_27 ?_
  exact r_iret C E hh dX4_edit_30 (by omega) (by omega) ⟨_, rfl, ⟨r1, r2⟩, by rw [xN_nI (by omega), hv]; simp [rwr, rs, u1], by rw [xN_nI (by omega), xN_nI (by omega), xN_nI (by omega), hv]; rfl⟩

def rpf (a f o : Nat) : Nat := a &&& (2 ^ f ^^^ 4294967295) ||| 2 ^ o
theorem rpf_ok : ∀ a, a < 256 → ∀ f, f < 8 → ∀ o, o < 8 → rpf a f o < 256 ∧ (f ≠ o → tb (rpf a f o) f = false) := by decide +kernel
theorem pow8 {f : Nat} (h : f < 8) : 1 * 2 ^ f < 4294967296 := by
  have h2 : 2 ^ f ≤ 2 ^ 8 := Nat.pow_le_pow_right (by decide) (by omega)
  omega
def rpl (R : fR) (f o : Nat) : Nat → fR
  | 0 => R
  | i + 1 => if tb (rpl R f o i 13 (R 6 i 0 - 1) 0) f = true then rwr (rpl R f o i) (R 6 i 0 - 1) (rpf (rpl R f o i 13 (R 6 i 0 - 1) 0) f o) (rpl R f o i 14 (R 6 i 0 - 1) 0) else rpl R f o i
def rpc (R : fR) (f o : Nat) : Nat → Nat
  | 0 => 0
  | i + 1 => rpc R f o i + (if tb (rpl R f o i 13 (R 6 i 0 - 1) 0) f = true then 1 else 0)
theorem rpc_le (R : fR) (f o : Nat) : ∀ i, rpc R f o i ≤ i
  | 0 => Nat.le_refl 0
  | i + 1 => by have := rpc_le R f o i; unfold rpc; split <;> omega
theorem rwr_c (R : fR) (q a b : Nat) {k : Nat} (h : k ≠ 13) (h1 : k ≠ 14) (h2 : k ≠ 15) (h3 : k ≠ 16) : rwr R q a b k = R k := by simp [rwr, rs, h, h1, h2, h3]
theorem rpl_c (R : fR) (f o : Nat) {k : Nat} (h : k ≠ 13) (h1 : k ≠ 14) (h2 : k ≠ 15) (h3 : k ≠ 16) : ∀ i, rpl R f o i k = R k
  | 0 => rfl
  | i + 1 => by
    unfold rpl; split
    · rw [rwr_c _ _ _ _ h h1 h2 h3, rpl_c R f o h h1 h2 h3 i]
    · exact rpl_c R f o h h1 h2 h3 i
/-- what the edits of replace keep -/
def rpI (R : fR) (f e : Nat) : Prop := ∀ q, R 13 q 0 < 256 ∧ R 14 q 0 < 16 ∧ R 15 q 0 ≤ e + (if tb (R 13 q 0) f = true then 0 else 1)
theorem rpI_s {R : fR} {f o e q : Nat} (h : rpI R f e) (hf : f < 8) (ho : o < 8) (hne : f ≠ o) (ht : tb (R 13 q 0) f = true) : rpI (rwr R q (rpf (R 13 q 0) f o) (R 14 q 0)) f e := by
  intro q'
  have h1 := h q'
  have h2 := rpf_ok (R 13 q 0) (h q).1 f hf o ho
  have h3 := h q
  rw [if_pos ht] at h3
  by_cases hq : q' = q
  · subst hq
    have e13 : ∀ a b, rwr R q' a b 13 q' 0 = a := by intro a b; simp [rwr, rs, u1]
    have e14 : ∀ a b, rwr R q' a b 14 q' 0 = b := by intro a b; simp [rwr, rs, u1]
    have e15 : ∀ a b, rwr R q' a b 15 q' 0 = R 15 q' 0 + 1 := by intro a b; simp [rwr, rs, u1]
    rw [e13, e14, e15]
    refine ⟨h2.1, h3.2.1, ?_⟩
    rw [if_neg (by rw [h2.2 hne]; decide)]
    omega
  · simp [rwr, rs, u1, hq]
    exact h1
theorem rpI_l {R : fR} {f o e : Nat} (h : rpI R f e) (hf : f < 8) (ho : o < 8) (hne : f ≠ o) : ∀ i, rpI (rpl R f o i) f e
  | 0 => h
  | i + 1 => by
    unfold rpl; split
    · exact rpI_s (rpI_l h hf ho hne i) hf ho hne (by assumption)
    · exact rpI_l h hf ho hne i
theorem rpI_0 {R : fR} {f e : Nat} (h : ∀ q, R 13 q 0 < 256 ∧ R 14 q 0 < 16 ∧ R 15 q 0 ≤ e) : rpI R f e := fun q => ⟨(h q).1, (h q).2.1, by have := (h q).2.2; omega⟩
set_option maxHeartbeats 4000000 in
set_option maxRecDepth 100000 in
theorem c_X4_replace {l : Launch} (hl : l.stackTraces = false) (Γ : fG) (B0 : Nat) (ad : Nat → Nat → Nat) (R : fR) (F : Nat → fO) (M : Nat → fO) (x y : Int32) (hI : XI R) (h15 : ∀ q, R 15 q 0 ≤ 900) : f_Met l yX4_replace cX4_replace 6 (some .int) 7 3 18 110 Γ B0 [.ref (ad 1 0), .int x, .int y] (wj F (xw Γ ad R) M) (f_rI (fun r9 w9 => ((rg x 8 ∧ rg y 8) ∧ x ≠ y) ∧ r9 = nI (rpc R (xN x) (xN y) (R 0 0 0)) ∧ w9 = wj F (xw Γ ad (rpl R (xN x) (xN y) (R 0 0 0))) M)) (fun E9 w9 => (E9 = "java/lang/IllegalArgumentException" ∧ ¬ ((rg x 8 ∧ rg y 8) ∧ x ≠ y)) ∧ w9 = wj F (xw Γ ad R) M) := by
  refine f_of hl (by decide) rfl (Nat.le_of_ble_eq_true rfl) (fun X9 C E hh hnm => ?_)
  generalize (f_s X9).heap = H, ([] : List Loc) = locs at hh ⊢
  obtain ⟨i1, i2, -, -, -, -, i7, -⟩ := id hI
  refine r_iload_n C dX4_replace_0 rfl ?_
  refine r_callS C E hh (c_X4_checkFont E.2.1 Γ B0 _ x) lk_X4_85 rfl rfl (Nat.le_of_ble_eq_true rfl) dX4_replace_1 ⟨by decide, by decide⟩ ⟨by omega, by omega⟩ (fun _ _ z9 => ⟨⟨z9.1.1, fun q => z9.1.2 q.1.1⟩, z9.2⟩) (kk_rV (fun w9 H locs hs9 hp9 hh => ?_))
  obtain ⟨r1, rfl⟩ := hp9
  refine r_iload_n C dX4_replace_4 rfl ?_
  refine r_callS C E hh (c_X4_checkFont E.2.1 Γ B0 _ y) lk_X4_85 rfl rfl (Nat.le_of_ble_eq_true rfl) dX4_replace_5 ⟨by decide, by decide⟩ ⟨by omega, by omega⟩ (fun _ _ z9 => ⟨⟨z9.1.1, fun q => z9.1.2 q.1.2⟩, z9.2⟩) (kk_rV (fun w9 H locs hs9 hp9 hh => ?_))
  obtain ⟨r2, rfl⟩ := hp9
  refine r_iload_n C dX4_replace_8 rfl ?_
  refine r_iload_n C dX4_replace_9 rfl ?_
  refine r_icmp_ne (tgt := 23) C dX4_replace_10 (by decide) (fun h10 => ?_) (fun h10 => ?_)
  · have rr : (rg x 8 ∧ rg y 8) ∧ x ≠ y := ⟨⟨r1, r2⟩, h10⟩
    obtain ⟨f, hf, rfl⟩ := rg_of r1 (by omega)
    obtain ⟨o, ho, rfl⟩ := rg_of r2 (by omega)
    have hne : f ≠ o := fun z => h10 (by rw [z])
    clear h10
    refine r_iconst C (nI 0) dX4_replace_23 rfl ?_
    refine r_istore_n C dX4_replace_24 rfl rfl ?_
    refine r_iconst C (nI 0) dX4_replace_25 rfl ?_
    refine r_istore C dX4_replace_26 rfl rfl ?_
    have lp28 : ∀ (d9 : Nat) (i : Nat) (H : Heap) (locs : List Loc), R 0 0 0 - i < d9 → i ≤ R 0 0 0 → f_HS Γ B0 (wj F (xw Γ ad (rpl R f o i)) M) X9 H locs → f_W X9 H locs 2 12 28 [some (.ref (ad 1 0)), some (.int (nI (f))), some (.int (nI (o))), some (.int (nI (rpc R f o i))), some (.int (nI (i))), none] [] := by
      intro d9
      induction d9 with
      | zero => intro i H locs hd9 hi hh; exact absurd hd9 (Nat.not_lt_zero _)
      | succ d9 ih28 =>
        intro i H locs hd9 hi hh
        have hr9 := rpc_le R f o i
        have e0 : rpl R f o i 0 0 0 = R 0 0 0 := by rw [rpl_c R f o (by decide) (by decide) (by decide) (by decide)]
        have hz := rpI_l (o := o) (rpI_0 (f := f) (e := 900) fun q => ⟨(i7 q).1, (i7 q).2.1, h15 q⟩) hf ho hne i
        refine r_iload C dX4_replace_28 rfl ?_
        refine r_aload_n C dX4_replace_30 rfl ?_
        refine g_X4_47 C hh dX4_replace_31 ?_
        refine r_icmp_geN (tgt := 89) C dX4_replace_34 (by decide) (by omega) (by omega) (fun h34 => ?_) (fun h34 => ?_)
        · obtain rfl : i = R 0 0 0 := by omega
          refine r_iload_n C dX4_replace_89 rfl ?_
          exact r_iret C E hh dX4_replace_90 (by omega) (by omega) ⟨_, rfl, rr, by rw [xN_nI (by omega), xN_nI (by omega)], by rw [xN_nI (by omega), xN_nI (by omega)]⟩
        · obtain ⟨q, hv, hq⟩ := i2 i (by omega)
          have e6 : rpl R f o i 6 i 0 = q + 1 := by rw [rpl_c R f o (by decide) (by decide) (by decide) (by decide)]; exact hv
          have hq2 : q < rpl R f o i 20 0 0 := by rw [rpl_c R f o (by decide) (by decide) (by decide) (by decide)]; exact hq
          have hz9 := hz q
          have e7 : R 6 i 0 - 1 = q := by rw [hv]; rfl
          refine r_aload_n C dX4_replace_37 rfl ?_
          refine g_X4_11 C hh dX4_replace_38 ?_
          refine r_iload C dX4_replace_41 rfl ?_
          refine al_order C hh (by omega) e6 dX4_replace_43 ?_
          refine r_astore C dX4_replace_44 rfl rfl ?_
          refine r_aload C dX4_replace_46 rfl ?_
          refine r_iload_n C dX4_replace_48 rfl ?_
          refine r_callV C E hh (c_X2_usesFont E.2.1 Γ B0 ad _ F M q f hq2 hf hz9.1) lk_X4_93 (tr := .inr (.inl (14, q))) (xw_page (Γ := Γ) hq2) rfl rfl rfl (Nat.le_of_ble_eq_true rfl) dX4_replace_49 ⟨by decide, by decide⟩ ⟨by omega, by omega⟩ (fun _ _ z9 => False.elim z9) (kk_is (fun H locs hs9 hh => ?_))
          refine r_if_eqB (tgt := 83) C dX4_replace_52 (by decide) (fun h52 => ?_) (fun h52 => ?_)
          · have e9 : rpl R f o (i + 1) = rpl R f o i := by rw [rpl, e7, if_neg (by rw [h52]; decide)]
            have e8 : rpc R f o (i + 1) = rpc R f o i := by rw [rpc, e7, if_neg (by rw [h52]; decide), Nat.add_zero]
            refine r_iincN C dX4_replace_83 rfl rfl ?_
            refine r_goto (tgt := 28) C dX4_replace_86 (by decide) ?_
            have w9 := ih28 (i + 1) H locs (by omega) (by omega) (by rw [e9]; exact hh)
            rw [e8] at w9
            refine f_W.le ?_ w9
            exact (And.intro rfl (And.intro rfl (And.intro rfl (And.intro rfl (And.intro rfl trivial)))))
          · have e9 : rpl R f o (i + 1) = rwr (rpl R f o i) q (rpf (rpl R f o i 13 q 0) f o) (rpl R f o i 14 q 0) := by rw [rpl, e7, if_pos h52]
            have e8 : rpc R f o (i + 1) = rpc R f o i + 1 := by rw [rpc, e7, if_pos h52]
            rw [if_pos h52] at hz9
            refine r_aload C dX4_replace_55 rfl ?_
            refine r_aload C dX4_replace_57 rfl ?_
            refine g_X4_97 C hh hq2 dX4_replace_59 ?_
            refine r_iconst C (nI 1) dX4_replace_62 rfl ?_
            refine r_iload_n C dX4_replace_63 rfl ?_
            refine r_ishlN C dX4_replace_64 (by omega) (pow8 hf) ?_
            rw [Nat.one_mul]
            refine r_iconst C (nI 4294967295) dX4_replace_65 rfl ?_
            refine r_ixorN C dX4_replace_66 ?_
            refine r_iandN C dX4_replace_67 ?_
            refine r_iconst C (nI 1) dX4_replace_68 rfl ?_
            refine r_iload_n C dX4_replace_69 rfl ?_
            refine r_ishlN C dX4_replace_70 (by omega) (pow8 ho) ?_
            rw [Nat.one_mul]
            refine r_iorN C dX4_replace_71 ?_
            refine r_aload C dX4_replace_72 rfl ?_
            refine g_X4_100 C hh hq2 dX4_replace_74 ?_
            refine r_callV C E hh (c_X2_rewrite E.2.1 Γ B0 ad _ F M q _ _ hq2 (by omega)) lk_X4_79 (tr := .inr (.inl (14, q))) (xw_page (Γ := Γ) hq2) rfl rfl rfl (Nat.le_of_ble_eq_true rfl) dX4_replace_77 ⟨by decide, by decide⟩ ⟨by omega, by omega⟩ (fun _ _ z9 => False.elim z9) (kk_to (fun H locs hs9 hh => ?_))
            refine r_iincN C dX4_replace_80 rfl rfl ?_
            refine r_iincN C dX4_replace_83 rfl rfl ?_
            refine r_goto (tgt := 28) C dX4_replace_86 (by decide) ?_
            have w9 := ih28 (i + 1) H locs (by omega) (by omega) (by rw [e9]; exact hh)
            rw [e8] at w9
            refine f_W.le ?_ w9
            exact (And.intro rfl (And.intro rfl (And.intro rfl (And.intro rfl (And.intro rfl trivial)))))
    refine f_W.le (L' := [some (.ref (ad 1 0)), some (.int (nI f)), some (.int (nI o)), some (.int (nI 0)), some (.int (nI 0)), none]) (And.intro rfl (And.intro rfl (And.intro rfl (And.intro rfl (And.intro rfl trivial))))) ?_
    exact lp28 (R 0 0 0 + 1) 0 _ _ (by omega) (by omega) hh
  · exact r_throw C E hh th_IA (is := 90) (text := "both fonts are the same") (by decide) dX4_replace_13 dX4_replace_16 dX4_replace_17 dX4_replace_19 dX4_replace_22 (by decide) (by decide) (Nat.le_of_ble_eq_true rfl) (by omega) (by omega) ⟨⟨rfl, fun z => z.2 h10⟩, rfl⟩

def pvC (R : fR) (q c : Nat) : Bool := tb (R 14 q 0) c && afu R q 8 && !(decide (R 16 q c = 1) || decide (R 16 q c = 2))
def pvR (R : fR) (q c : Nat) : fR := rs R 16 (u2 (R 16) q c 1)
def jdC (R : fR) (q c : Nat) : Bool := tb (R 14 q 0) c && decide (R 16 q c = 1)
def jdR (R : fR) (q c : Nat) (b : Bool) : fR := rs R 16 (u2 (R 16) q c (if b = true then 2 else 3))
theorem u2_lt {f : Nat → Nat → Nat} {a b v : Nat} (h : ∀ i j, f i j < 4) (hv : v < 4) : ∀ i j, u2 f a b v i j < 4 := by
  intro i j; unfold u2; split
  · exact hv
  · exact h i j
set_option maxHeartbeats 4000000 in
set_option maxRecDepth 100000 in
theorem c_X4_prove {l : Launch} (hl : l.stackTraces = false) (Γ : fG) (B0 : Nat) (ad : Nat → Nat → Nat) (R : fR) (F : Nat → fO) (M : Nat → fO) (x y : Int32) (hI : XI R) : f_Met l yX4_prove cX4_prove 4 (some .int) 7 3 18 111 Γ B0 [.ref (ad 1 0), .int x, .int y] (wj F (xw Γ ad R) M) (f_rI (fun r9 w9 => ((rg x (R 0 0 0) ∧ rg y 4) ∧ pvC R (R 6 (xN x) 0 - 1) (xN y) = true) ∧ r9 = nI (cnt (pvR R (R 6 (xN x) 0 - 1) (xN y) 16 (R 6 (xN x) 0 - 1)) 1 4 + cnt (pvR R (R 6 (xN x) 0 - 1) (xN y) 16 (R 6 (xN x) 0 - 1)) 2 4) ∧ w9 = wj F (xw Γ ad (pvR R (R 6 (xN x) 0 - 1) (xN y))) M)) (fun E9 w9 => ((E9 = "java/lang/IndexOutOfBoundsException" ∧ ¬ rg x (R 0 0 0)) ∨ (E9 = "java/lang/IllegalArgumentException" ∧ rg x (R 0 0 0) ∧ ¬ rg y 4) ∨ (E9 = "java/lang/IllegalStateException" ∧ (rg x (R 0 0 0) ∧ rg y 4) ∧ pvC R (R 6 (xN x) 0 - 1) (xN y) = false)) ∧ w9 = wj F (xw Γ ad R) M) := by
  refine f_of hl (by decide) rfl (Nat.le_of_ble_eq_true rfl) (fun X9 C E hh hnm => ?_)
  generalize (f_s X9).heap = H, ([] : List Loc) = locs at hh ⊢
  obtain ⟨i1, i2, -, -, -, -, i7, i8, -⟩ := id hI
  have i9 := i7
  refine r_aload_n C dX4_prove_0 rfl ?_
  refine r_iload_n C dX4_prove_1 rfl ?_
  refine r_callV C E hh (c_X4_checkPlace E.2.1 Γ B0 ad R F M x) lk_X4_72 (tr := .inr (.inl (0, 0))) rfl rfl rfl rfl (Nat.le_of_ble_eq_true rfl) dX4_prove_2 ⟨by decide, by decide⟩ ⟨by omega, by omega⟩ (fun _ _ z9 => ⟨Or.inl ⟨z9.1.1, z9.1.2⟩, z9.2⟩) (kk_rV (fun w9 H locs hs9 hp9 hh => ?_))
  obtain ⟨r1, rfl⟩ := hp9
  obtain ⟨j, hj, rfl⟩ := rg_of r1 (by omega)
  obtain ⟨q, hv, hq⟩ := i2 j hj
  refine r_iload_n C dX4_prove_5 rfl ?_
  refine r_callS C E hh (c_X4_checkColor E.2.1 Γ B0 _ y) lk_X4_223 rfl rfl (Nat.le_of_ble_eq_true rfl) dX4_prove_6 ⟨by decide, by decide⟩ ⟨by omega, by omega⟩ (fun _ _ z9 => ⟨Or.inr (Or.inl ⟨z9.1.1, r1, z9.1.2⟩), z9.2⟩) (kk_rV (fun w9 H locs hs9 hp9 hh => ?_))
  obtain ⟨r2, rfl⟩ := hp9
  obtain ⟨c, hc, rfl⟩ := rg_of r2 (by omega)
  refine r_aload_n C dX4_prove_9 rfl ?_
  refine g_X4_11 C hh dX4_prove_10 ?_
  refine r_iload_n C dX4_prove_13 rfl ?_
  refine al_order C hh (by omega) hv dX4_prove_14 ?_
  refine r_astore_n C dX4_prove_15 rfl rfl ?_
  refine r_aload_n C dX4_prove_16 rfl ?_
  refine r_iload_n C dX4_prove_17 rfl ?_
  refine r_callV C E hh (c_X2_usesColor E.2.1 Γ B0 ad R F M q c hq hc (i7 q).2.1) lk_X4_226 (tr := .inr (.inl (14, _))) (xw_page (Γ := Γ) (by omega)) rfl rfl rfl (Nat.le_of_ble_eq_true rfl) dX4_prove_18 ⟨by decide, by decide⟩ ⟨by omega, by omega⟩ (fun _ _ z9 => False.elim z9) (kk_is (fun H locs hs9 hh => ?_))
  have h16 := i8 q c
  refine r_if_neB (tgt := 34) C dX4_prove_21 (by decide) (fun h21 => ?_) (fun h21 => ?_)
  · refine r_aload_n C dX4_prove_34 rfl ?_
    refine r_aload_n C dX4_prove_35 rfl ?_
    refine r_callV C E hh (c_X4_allFontsUsable E.2.1 Γ B0 ad R F M q hq hI) lk_X4_231 (tr := .inr (.inl (0, 0))) rfl rfl rfl rfl (Nat.le_of_ble_eq_true rfl) dX4_prove_36 ⟨by decide, by decide⟩ ⟨by omega, by omega⟩ (fun _ _ z9 => False.elim z9) (kk_is (fun H locs hs9 hh => ?_))
    refine r_if_neB (tgt := 52) C dX4_prove_39 (by decide) (fun h39 => ?_) (fun h39 => ?_)
    · refine r_aload_n C dX4_prove_52 rfl ?_
      refine g_X4_237 C hh hq dX4_prove_53 ?_
      refine r_iload_n C dX4_prove_56 rfl ?_
      refine al_proofs C hh hq (by omega) dX4_prove_57 ?_
      refine r_iconst C (nI 1) dX4_prove_58 rfl ?_
      refine r_icmp_eqN (tgt := 72) C dX4_prove_59 (by decide) (by omega) (by omega) (fun h59 => ?_) (fun h59 => ?_)
      · exact r_throw C E hh th_IS (is := 240) (text := "the proof is made or approved") (by decide) dX4_prove_72 dX4_prove_75 dX4_prove_76 dX4_prove_78 dX4_prove_81 (by decide) (by decide) (Nat.le_of_ble_eq_true rfl) (by omega) (by omega) ⟨Or.inr (Or.inr ⟨rfl, ⟨r1, r2⟩, by rw [xN_nI (by omega), xN_nI (by omega), hv]; first | (simp [pvC, h59]; done) | (simp [pvC, h69]; done)⟩), rfl⟩
      · refine r_aload_n C dX4_prove_62 rfl ?_
        refine g_X4_237 C hh hq dX4_prove_63 ?_
        refine r_iload_n C dX4_prove_66 rfl ?_
        refine al_proofs C hh hq (by omega) dX4_prove_67 ?_
        refine r_iconst C (nI 2) dX4_prove_68 rfl ?_
        refine r_icmp_neN (tgt := 82) C dX4_prove_69 (by decide) (by omega) (by omega) (fun h69 => ?_) (fun h69 => ?_)
        · refine r_aload_n C dX4_prove_82 rfl ?_
          refine g_X4_237 C hh hq dX4_prove_83 ?_
          refine r_iload_n C dX4_prove_86 rfl ?_
          refine r_iconst C (nI 1) dX4_prove_87 rfl ?_
          refine as_proofs C hh hq (by omega) dX4_prove_88 (fun H locs hh => ?_)
          refine r_aload_n C dX4_prove_89 rfl ?_
          refine r_iconst C (nI 1) dX4_prove_90 rfl ?_
          refine r_callV C E hh (c_X2_countProofs E.2.1 Γ B0 ad _ F M q 1 hq (by decide) (u2_lt i8 (by decide))) lk_X4_242 (tr := .inr (.inl (14, q))) (xw_page (Γ := Γ) hq) rfl rfl rfl (Nat.le_of_ble_eq_true rfl) dX4_prove_91 ⟨by decide, by decide⟩ ⟨by omega, by omega⟩ (fun _ _ z9 => False.elim z9) (kk_is (fun H locs hs9 hh => ?_))
          refine r_aload_n C dX4_prove_94 rfl ?_
          refine r_iconst C (nI 2) dX4_prove_95 rfl ?_
          refine r_callV C E hh (c_X2_countProofs E.2.1 Γ B0 ad _ F M q 2 hq (by decide) (u2_lt i8 (by decide))) lk_X4_242 (tr := .inr (.inl (14, q))) (xw_page (Γ := Γ) hq) rfl rfl rfl (Nat.le_of_ble_eq_true rfl) dX4_prove_96 ⟨by decide, by decide⟩ ⟨by omega, by omega⟩ (fun _ _ z9 => False.elim z9) (kk_is (fun H locs hs9 hh => ?_))
          refine r_iaddN C dX4_prove_99 ?_
          exact r_iret C E hh dX4_prove_100 (by omega) (by omega) ⟨_, rfl, ⟨⟨r1, r2⟩, by rw [xN_nI (by omega), xN_nI (by omega), hv]; simp [pvC, h21, h39, h59, h69]⟩, by rw [xN_nI (by omega), xN_nI (by omega), hv]; rfl, by rw [xN_nI (by omega), xN_nI (by omega), hv]; rfl⟩
        · exact r_throw C E hh th_IS (is := 240) (text := "the proof is made or approved") (by decide) dX4_prove_72 dX4_prove_75 dX4_prove_76 dX4_prove_78 dX4_prove_81 (by decide) (by decide) (Nat.le_of_ble_eq_true rfl) (by omega) (by omega) ⟨Or.inr (Or.inr ⟨rfl, ⟨r1, r2⟩, by rw [xN_nI (by omega), xN_nI (by omega), hv]; first | (simp [pvC, h59]; done) | (simp [pvC, h69]; done)⟩), rfl⟩
    · exact r_throw C E hh th_IS (is := 235) (text := "a font of the page may not be used") (by decide) dX4_prove_42 dX4_prove_45 dX4_prove_46 dX4_prove_48 dX4_prove_51 (by decide) (by decide) (Nat.le_of_ble_eq_true rfl) (by omega) (by omega) ⟨Or.inr (Or.inr ⟨rfl, ⟨r1, r2⟩, by rw [xN_nI (by omega), xN_nI (by omega), hv]; simp [pvC, h39]⟩), rfl⟩
  · exact r_throw C E hh th_IS (is := 229) (text := "the page does not use the colour") (by decide) dX4_prove_24 dX4_prove_27 dX4_prove_28 dX4_prove_30 dX4_prove_33 (by decide) (by decide) (Nat.le_of_ble_eq_true rfl) (by omega) (by omega) ⟨Or.inr (Or.inr ⟨rfl, ⟨r1, r2⟩, by rw [xN_nI (by omega), xN_nI (by omega), hv]; simp [pvC, h21]⟩), rfl⟩

set_option maxHeartbeats 4000000 in
set_option maxRecDepth 100000 in
theorem c_X4_judge {l : Launch} (hl : l.stackTraces = false) (Γ : fG) (B0 : Nat) (ad : Nat → Nat → Nat) (R : fR) (F : Nat → fO) (M : Nat → fO) (x y : Int32) (b : Bool) (hI : XI R) : f_Met l yX4_judge cX4_judge 5 (some .boolean) 7 3 18 111 Γ B0 [.ref (ad 1 0), .int x, .int y, .int (bI b)] (wj F (xw Γ ad R) M) (f_rI (fun r9 w9 => ((rg x (R 0 0 0) ∧ rg y 4) ∧ jdC R (R 6 (xN x) 0 - 1) (xN y) = true) ∧ r9 = bI (fin (jdR R (R 6 (xN x) 0 - 1) (xN y) b) (R 6 (xN x) 0 - 1)) ∧ w9 = wj F (xw Γ ad (jdR R (R 6 (xN x) 0 - 1) (xN y) b)) M)) (fun E9 w9 => ((E9 = "java/lang/IndexOutOfBoundsException" ∧ ¬ rg x (R 0 0 0)) ∨ (E9 = "java/lang/IllegalArgumentException" ∧ rg x (R 0 0 0) ∧ ¬ rg y 4) ∨ (E9 = "java/lang/IllegalStateException" ∧ (rg x (R 0 0 0) ∧ rg y 4) ∧ jdC R (R 6 (xN x) 0 - 1) (xN y) = false)) ∧ w9 = wj F (xw Γ ad R) M) := by
  refine f_of hl (by decide) rfl (Nat.le_of_ble_eq_true rfl) (fun X9 C E hh hnm => ?_)
  generalize (f_s X9).heap = H, ([] : List Loc) = locs at hh ⊢
  obtain ⟨i1, i2, -, -, -, -, i7, i8, -⟩ := id hI
  have i9 := i7
  refine r_aload_n C dX4_judge_0 rfl ?_
  refine r_iload_n C dX4_judge_1 rfl ?_
  refine r_callV C E hh (c_X4_checkPlace E.2.1 Γ B0 ad R F M x) lk_X4_72 (tr := .inr (.inl (0, 0))) rfl rfl rfl rfl (Nat.le_of_ble_eq_true rfl) dX4_judge_2 ⟨by decide, by decide⟩ ⟨by omega, by omega⟩ (fun _ _ z9 => ⟨Or.inl ⟨z9.1.1, z9.1.2⟩, z9.2⟩) (kk_rV (fun w9 H locs hs9 hp9 hh => ?_))
  obtain ⟨r1, rfl⟩ := hp9
  obtain ⟨j, hj, rfl⟩ := rg_of r1 (by omega)
  obtain ⟨q, hv, hq⟩ := i2 j hj
  refine r_iload_n C dX4_judge_5 rfl ?_
  refine r_callS C E hh (c_X4_checkColor E.2.1 Γ B0 _ y) lk_X4_223 rfl rfl (Nat.le_of_ble_eq_true rfl) dX4_judge_6 ⟨by decide, by decide⟩ ⟨by omega, by omega⟩ (fun _ _ z9 => ⟨Or.inr (Or.inl ⟨z9.1.1, r1, z9.1.2⟩), z9.2⟩) (kk_rV (fun w9 H locs hs9 hp9 hh => ?_))
  obtain ⟨r2, rfl⟩ := hp9
  obtain ⟨c, hc, rfl⟩ := rg_of r2 (by omega)
  refine r_aload_n C dX4_judge_9 rfl ?_
  refine g_X4_11 C hh dX4_judge_10 ?_
  refine r_iload_n C dX4_judge_13 rfl ?_
  refine al_order C hh (by omega) hv dX4_judge_14 ?_
  refine r_astore C dX4_judge_15 rfl rfl ?_
  refine r_aload C dX4_judge_17 rfl ?_
  refine r_iload_n C dX4_judge_19 rfl ?_
  refine r_callV C E hh (c_X2_usesColor E.2.1 Γ B0 ad R F M q c hq hc (i7 q).2.1) lk_X4_226 (tr := .inr (.inl (14, _))) (xw_page (Γ := Γ) (by omega)) rfl rfl rfl (Nat.le_of_ble_eq_true rfl) dX4_judge_20 ⟨by decide, by decide⟩ ⟨by omega, by omega⟩ (fun _ _ z9 => False.elim z9) (kk_is (fun H locs hs9 hh => ?_))
  have h16 := i8 q c
  refine r_if_eqB (tgt := 37) C dX4_judge_23 (by decide) (fun h23 => ?_) (fun h23 => ?_)
  · exact r_throw C E hh th_IS (is := 245) (text := "the proof is not made") (by decide) dX4_judge_37 dX4_judge_40 dX4_judge_41 dX4_judge_43 dX4_judge_46 (by decide) (by decide) (Nat.le_of_ble_eq_true rfl) (by omega) (by omega) ⟨Or.inr (Or.inr ⟨rfl, ⟨r1, r2⟩, by rw [xN_nI (by omega), xN_nI (by omega), hv]; first | (simp [jdC, h23]; done) | (simp [jdC, h34]; done)⟩), rfl⟩
  · refine r_aload C dX4_judge_26 rfl ?_
    refine g_X4_237 C hh hq dX4_judge_28 ?_
    refine r_iload_n C dX4_judge_31 rfl ?_
    refine al_proofs C hh hq (by omega) dX4_judge_32 ?_
    refine r_iconst C (nI 1) dX4_judge_33 rfl ?_
    refine r_icmp_eqN (tgt := 47) C dX4_judge_34 (by decide) (by omega) (by omega) (fun h34 => ?_) (fun h34 => ?_)
    · refine r_aload C dX4_judge_47 rfl ?_
      refine g_X4_237 C hh hq dX4_judge_49 ?_
      refine r_iload_n C dX4_judge_52 rfl ?_
      refine r_iload_n C dX4_judge_53 rfl ?_
      refine r_if_eqB (tgt := 61) C dX4_judge_54 (by decide) (fun h54 => ?_) (fun h54 => ?_)
      · refine r_iconst C (nI 3) dX4_judge_61 rfl ?_
        refine as_proofs C hh hq (by omega) dX4_judge_62 (fun H locs hh => ?_)
        refine r_aload_n C dX4_judge_63 rfl ?_
        refine r_aload C dX4_judge_64 rfl ?_
        refine r_callV C E hh (c_X4_finished E.2.1 Γ B0 ad _ F M q hq (XI_16 hI (u2_lt i8 (by decide)))) lk_X4_247 (tr := .inr (.inl (0, 0))) rfl rfl rfl rfl (Nat.le_of_ble_eq_true rfl) dX4_judge_66 ⟨by decide, by decide⟩ ⟨by omega, by omega⟩ (fun _ _ z9 => False.elim z9) (kk_is (fun H locs hs9 hh => ?_))
        exact r_zret C E hh dX4_judge_69 (by omega) (by omega) ⟨_, rfl, ⟨⟨r1, r2⟩, by rw [xN_nI (by omega), xN_nI (by omega), hv]; simp [jdC, h23, h34]⟩, by rw [xN_nI (by omega), xN_nI (by omega), hv]; subst h54; rfl, by rw [xN_nI (by omega), xN_nI (by omega), hv]; subst h54; rfl⟩
      · refine r_iconst C (nI 2) dX4_judge_57 rfl ?_
        refine r_goto (tgt := 62) C dX4_judge_58 (by decide) ?_
        refine as_proofs C hh hq (by omega) dX4_judge_62 (fun H locs hh => ?_)
        refine r_aload_n C dX4_judge_63 rfl ?_
        refine r_aload C dX4_judge_64 rfl ?_
        refine r_callV C E hh (c_X4_finished E.2.1 Γ B0 ad _ F M q hq (XI_16 hI (u2_lt i8 (by decide)))) lk_X4_247 (tr := .inr (.inl (0, 0))) rfl rfl rfl rfl (Nat.le_of_ble_eq_true rfl) dX4_judge_66 ⟨by decide, by decide⟩ ⟨by omega, by omega⟩ (fun _ _ z9 => False.elim z9) (kk_is (fun H locs hs9 hh => ?_))
        exact r_zret C E hh dX4_judge_69 (by omega) (by omega) ⟨_, rfl, ⟨⟨r1, r2⟩, by rw [xN_nI (by omega), xN_nI (by omega), hv]; simp [jdC, h23, h34]⟩, by rw [xN_nI (by omega), xN_nI (by omega), hv]; subst h54; rfl, by rw [xN_nI (by omega), xN_nI (by omega), hv]; subst h54; rfl⟩
    · exact r_throw C E hh th_IS (is := 245) (text := "the proof is not made") (by decide) dX4_judge_37 dX4_judge_40 dX4_judge_41 dX4_judge_43 dX4_judge_46 (by decide) (by decide) (Nat.le_of_ble_eq_true rfl) (by omega) (by omega) ⟨Or.inr (Or.inr ⟨rfl, ⟨r1, r2⟩, by rw [xN_nI (by omega), xN_nI (by omega), hv]; first | (simp [jdC, h23]; done) | (simp [jdC, h34]; done)⟩), rfl⟩

