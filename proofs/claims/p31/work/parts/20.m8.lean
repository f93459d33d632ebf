/-! ===== the class: print ===== -/
def jk (R1 R : fR) : Prop := ∀ k, k ≠ 3 → k ≠ 9 → R1 k = R k
theorem lkq_eq (P : fR) {R1 R : fR} (h6 : R1 6 = R 6) (s i l : Nat) : lkq P R1 s i l = lkq P R s i l := by simp [lkq, h6]
theorem lkc_eq (P : fR) {R1 R : fR} (h0 : R1 0 = R 0) (h6 : R1 6 = R 6) (h14 : R1 14 = R 14) (s i c l : Nat) : lkc P R1 s i c l = lkc P R s i c l := by simp [lkc, lkq_eq P h6, h0, h14]
theorem lkv_eq (P : fR) {R1 R : fR} (h6 : R1 6 = R 6) (h15 : R1 15 = R 15) (s i l : Nat) : lkv P R1 s i l = lkv P R s i l := by simp [lkv, lkq_eq P h6, h15]
theorem lkn_eq (P : fR) {R1 R : fR} (h0 : R1 0 = R 0) (h6 : R1 6 = R 6) (h14 : R1 14 = R 14) (s i c : Nat) : ∀ l, lkn P R1 s i c l = lkn P R s i c l
  | 0 => rfl
  | l + 1 => by simp [lkn, lkn_eq P h0 h6 h14 s i c l, lkc_eq P h0 h6 h14]
theorem lkm_eq (P : fR) {R1 R : fR} (h0 : R1 0 = R 0) (h6 : R1 6 = R 6) (h14 : R1 14 = R 14) (h15 : R1 15 = R 15) (s i c : Nat) : ∀ l j, j < lkn P R s i c l → lkm P R1 s i c l j 0 = lkm P R s i c l j 0
  | 0, j, h => absurd h (Nat.not_lt_zero _)
  | l + 1, j, h => by
    unfold lkm
    rw [lkc_eq P h0 h6 h14, lkn_eq P h0 h6 h14, lkv_eq P h6 h15]
    unfold lkn at h
    split
    · rename_i hk
      rw [if_pos hk] at h
      unfold u1
      split
      · rfl
      · exact lkm_eq P h0 h6 h14 h15 s i c l j (by omega)
    · rename_i hk
      rw [if_neg hk] at h
      exact lkm_eq P h0 h6 h14 h15 s i c l j (by omega)
theorem allm_eq {R1 R : fR} {s m : Nat} (h19 : R1 19 = R 19) : ∀ k, k ≤ m → (∀ j, j < m → R1 9 j 0 = R 9 j 0) → allm R1 s k = allm R s k
  | 0, _, _ => rfl
  | k + 1, hk, h => by
    unfold allm
    rw [allm_eq h19 k (by omega) h, h19, h k (by omega)]
theorem shw_eq {R1 R : fR} {s m : Nat} (h17 : R1 17 = R 17) (h19 : R1 19 = R 19) (h9 : ∀ j, j < m → R1 9 j 0 = R 9 j 0) : shw R1 s m = shw R s m := by
  unfold shw
  rw [h17]
  by_cases hm : m = R 17 s 0
  · rw [allm_eq (m := m) h19 _ (by omega) h9]
  · simp [hm]
theorem gd_eq (P : fR) {R1 R : fR} (h0 : R1 0 = R 0) (h6 : R1 6 = R 6) (h14 : R1 14 = R 14) (h15 : R1 15 = R 15) (h8 : R1 8 = R 8) (h17 : R1 17 = R 17) (h18 : R1 18 = R 18) (h19 : R1 19 = R 19) (s i c t : Nat) : gd (lkF P R1 s i c) t = gd (lkF P R s i c) t := by
  have e3 : ∀ Q : fR, lkF P Q s i c 3 0 0 = lkN P Q s i c := fun _ => rfl
  unfold gd gdp
  rw [e3, e3, show lkN P R1 s i c = lkN P R s i c from lkn_eq P h0 h6 h14 s i c _]
  rw [show lkF P R1 s i c 8 = lkF P R s i c 8 from h8, show lkF P R1 s i c 18 = lkF P R s i c 18 from h18]
  rw [shw_eq (R1 := lkF P R1 s i c) (R := lkF P R s i c) (m := lkN P R s i c) h17 h19 (fun j hj => lkm_eq P h0 h6 h14 h15 s i c _ j hj)]
theorem lsO_eq (P : fR) {R1 R : fR} (h : jk R1 R) (s i c m : Nat) : lsO P R1 s i c m = lsO P R s i c m := by
  have e : ∀ k, k ≠ 3 → k ≠ 9 → R1 k = R k := h
  unfold lsO
  rw [gd_eq P (e 0 (by decide) (by decide)) (e 6 (by decide) (by decide)) (e 14 (by decide) (by decide)) (e 15 (by decide) (by decide)) (e 8 (by decide) (by decide)) (e 17 (by decide) (by decide)) (e 18 (by decide) (by decide)) (e 19 (by decide) (by decide)), show lkN P R1 s i c = lkN P R s i c from lkn_eq P (e 0 (by decide) (by decide)) (e 6 (by decide) (by decide)) (e 14 (by decide) (by decide)) s i c _, e 18 (by decide) (by decide)]
theorem jk_lkF {P R1 R : fR} (h : jk R1 R) (s i c : Nat) : jk (lkF P R1 s i c) R := fun k h3 h9 => by
  rw [← h k h3 h9]; simp [lkF, lkR, rs, h3, h9]
def okP (P R : fR) (s m : Nat) : Prop := afo P R s = true ∧ ∀ x, x < 8 → lsO P R s (x / 4) (x % 4) m = true
def prU (P R : fR) (s m n : Nat) : Nat → Nat → Nat := fun t j => if s * 8 ≤ t ∧ t < s * 8 + n ∧ lkN P R s ((t - s * 8) / 4) ((t - s * 8) % 4) ≠ 0 ∧ R 8 t 0 ≠ 0 then R 18 t 0 + m else R 18 t j
def jp (P R1 R : fR) (s m n : Nat) : Prop := (∀ k, k ≠ 3 → k ≠ 9 → k ≠ 18 → R1 k = R k) ∧ R1 18 = prU P R s m n
theorem prU_0 (P R : fR) (s m : Nat) : prU P R s m 0 = R 18 := by
  funext t j
  unfold prU
  rw [if_neg (by omega)]
theorem jp_s {P R1 R : fR} {s m i c : Nat} (hc : c < 4) (h : jp P R1 R s m (i * 4 + c)) : jp P (usR P R1 s i c m) R s m (i * 4 + c + 1) := by
  obtain ⟨e, h18⟩ := h
  have hN : lkN P R1 s i c = lkN P R s i c := lkn_eq P (e 0 (by decide) (by decide) (by decide)) (e 6 (by decide) (by decide) (by decide)) (e 14 (by decide) (by decide) (by decide)) s i c _
  have h8 := e 8 (by decide) (by decide) (by decide)
  have hs : slot s i c = s * 8 + (i * 4 + c) := by unfold slot; omega
  have hd : (slot s i c - s * 8) / 4 = i ∧ (slot s i c - s * 8) % 4 = c := by rw [hs]; omega
  refine ⟨fun k h3 h9 h18' => ?_, ?_⟩
  · rw [← e k h3 h9 h18']
    unfold usR
    split <;> simp [lkF, lkR, rs, h3, h9, h18']
  · unfold usR
    rw [hN, h8]
    split
    · rename_i hz
      rw [rs_same, h18]
      funext t j
      unfold u1
      by_cases ht : t = slot s i c
      · subst ht
        rw [if_pos rfl]
        unfold prU
        rw [if_neg (by omega), if_pos ⟨by omega, by omega, by rw [hd.1, hd.2]; exact hz.1, hz.2⟩]
      · rw [if_neg ht]
        unfold prU
        have h1 : (s * 8 ≤ t ∧ t < s * 8 + (i * 4 + c + 1)) ↔ (s * 8 ≤ t ∧ t < s * 8 + (i * 4 + c)) := by omega
        by_cases hx : s * 8 ≤ t ∧ t < s * 8 + (i * 4 + c)
        · simp [hx, h1.mpr hx]
        · have hy : ¬ (s * 8 ≤ t ∧ t < s * 8 + (i * 4 + c + 1)) := fun z => hx (h1.mp z)
          rw [if_neg (fun z => hx ⟨z.1, z.2.1⟩), if_neg (fun z => hy ⟨z.1, z.2.1⟩)]
    · rename_i hz
      show R1 18 = _
      rw [h18]
      funext t j
      unfold prU
      by_cases ht : t = slot s i c
      · subst ht
        rw [if_neg (by omega), if_neg (fun z => hz ⟨by rw [← hd.1, ← hd.2]; simpa [hd.1, hd.2] using z.2.2.1, z.2.2.2⟩)]
      · have h1 : (s * 8 ≤ t ∧ t < s * 8 + (i * 4 + c + 1)) ↔ (s * 8 ≤ t ∧ t < s * 8 + (i * 4 + c)) := by omega
        by_cases hx : s * 8 ≤ t ∧ t < s * 8 + (i * 4 + c)
        · simp [hx, h1.mpr hx]
        · have hy : ¬ (s * 8 ≤ t ∧ t < s * 8 + (i * 4 + c + 1)) := fun z => hx (h1.mp z)
          rw [if_neg (fun z => hx ⟨z.1, z.2.1⟩), if_neg (fun z => hy ⟨z.1, z.2.1⟩)]
theorem XI_18 {R : fR} {g : Nat → Nat → Nat} (h : XI R) (hg : ∀ t, g t 0 ≤ 1000) : XI (rs R 18 g) := by
  obtain ⟨i0, i1, i2, i3, i4, i5, i6, i7, i8, i9, i10⟩ := h
  exact ⟨i0, i1, i2, i3, i4, i5, i6, i7, i8, fun t => ⟨(i9 t).1, hg t⟩, i10⟩
theorem XI_5 {R : fR} {v : Nat} (h : XI R) (hv : v ≤ 1000000) : XI (rs R 5 (k0 v)) := by
  obtain ⟨i0, i1, i2, i3, i4, i5, i6, i7, i8, i9, i10, i11, i12⟩ := h
  exact ⟨i0, i1, i2, i3, i4, i5, i6, i7, i8, i9, i10, hv, i12⟩
theorem XI_us {P R1 R : fR} (hP : FI P) (hI : XI R1) {s m i c : Nat} (hi : i < 2) (hc : c < 4) (h : jp P R1 R s m (i * 4 + c)) (hl : lsO P R s i c m = true) : XI (usR P R1 s i c m) := by
  obtain ⟨e, h18⟩ := h
  have hN : lkN P R1 s i c = lkN P R s i c := lkn_eq P (e 0 (by decide) (by decide) (by decide)) (e 6 (by decide) (by decide) (by decide)) (e 14 (by decide) (by decide) (by decide)) s i c _
  have hs : slot s i c = s * 8 + (i * 4 + c) := by unfold slot; omega
  have hv : R1 18 (slot s i c) 0 = R 18 (slot s i c) 0 := by
    rw [h18]; unfold prU; rw [if_neg (by omega)]
  unfold usR
  split
  · rename_i hz
    refine XI_18 (XI_lkF hP hI s i c) fun t => ?_
    unfold u1
    split
    · rw [hv]
      unfold lsO at hl
      rw [← hN] at hl
      simp only [Bool.or_eq_true, Bool.and_eq_true, decide_eq_true_eq] at hl
      rcases hl with hl | hl
      · exact absurd hl hz.1
      · exact hl.2
    · exact (hI.2.2.2.2.2.2.2.2.2.1 t).2
  · exact XI_lkF hP hI s i c
set_option maxHeartbeats 4000000 in
set_option maxRecDepth 100000 in
theorem c_X4_print {l : Launch} (hl : l.stackTraces = false) (Γ : fG) (B0 : Nat) (ad : Nat → Nat → Nat) (P R : fR) (M : Nat → fO) (x y : Int32) (hP : FI P) (hI : XI R) (h5 : R 5 0 0 ≤ 900000) : f_Met l yX4_print cX4_print 5 (some .int) 7 11 66 130 Γ B0 [.ref (ad 1 0), .int x, .int y] (wj (fw Γ ad P) (xw Γ ad R) M) (f_rI (fun r9 w9 => ((rg x (shc P R) ∧ (nI 1 ≤ y ∧ y < nI 501)) ∧ okP P R (xN x) (xN y)) ∧ r9 = nI (R 5 0 0 + xN y) ∧ ∃ R9 : fR, (jp P (rs R9 5 (R 5)) R (xN x) (xN y) 8 ∧ R9 5 0 0 = R 5 0 0 + xN y ∧ XI R9) ∧ w9 = wj (fw Γ ad P) (xw Γ ad (R9)) M)) (fun E9 w9 => ∃ R9 : fR, (jk R9 R ∧ XI R9) ∧ w9 = wj (fw Γ ad P) (xw Γ ad (R9)) M ∧ ((E9 = "java/lang/IndexOutOfBoundsException" ∧ ¬ rg x (shc P R)) ∨ (E9 = "java/lang/IllegalArgumentException" ∧ rg x (shc P R) ∧ ¬ (nI 1 ≤ y ∧ y < nI 501)) ∨ (E9 = "java/lang/IllegalStateException" ∧ (rg x (shc P R) ∧ (nI 1 ≤ y ∧ y < nI 501)) ∧ ¬ okP P R (xN x) (xN y)))) := by
  refine f_of hl (by decide) rfl (Nat.le_of_ble_eq_true rfl) (fun X9 C E hh hnm => ?_)
  generalize (f_s X9).heap = H, ([] : List Loc) = locs at hh ⊢
  have hs6 := FI_sh (R := R) hP hI.1
  have i1 := hI.1
  refine r_aload_n C dX4_print_0 rfl ?_
  refine r_iload_n C dX4_print_1 rfl ?_
  refine r_callV C E hh (c_X4_checkSheet E.2.1 Γ B0 ad P R M x hP.2.1 hI.1) lk_X4_164 (tr := .inr (.inl (0, 0))) rfl rfl rfl rfl (Nat.le_of_ble_eq_true rfl) dX4_print_2 ⟨by decide, by decide⟩ ⟨by omega, by omega⟩ (fun _ _ z9 => ⟨R, ⟨fun _ _ _ => rfl, hI⟩, z9.2, Or.inl ⟨z9.1.1, z9.1.2⟩⟩) (kk_rV (fun w9 H locs hs9 hp9 hh => ?_))
  obtain ⟨r1, rfl⟩ := hp9
  refine r_iload_n C dX4_print_5 rfl ?_
  refine r_iconst C (nI 1) dX4_print_6 rfl ?_
  refine r_icmp_lt (tgt := 17) C dX4_print_7 (by decide) (fun h7 => ?_) (fun h7 => ?_)
  · exact r_throwW C E hh th_IA (is := 284) (text := "copies is out of range") (by decide) dX4_print_17 dX4_print_20 dX4_print_21 dX4_print_24 dX4_print_27 (by decide) (by decide) (Nat.le_of_ble_eq_true rfl) (by omega) (by omega) ⟨R, ⟨fun _ _ _ => rfl, hI⟩, rfl, Or.inr (Or.inl ⟨rfl, r1, by first | exact fun z => h14 ((rg_le (by decide)).mp z.2) | exact fun z => Int32.not_lt.mpr z.1 h7⟩)⟩
  · refine r_iload_n C dX4_print_10 rfl ?_
    refine r_sipush C (nI 500) dX4_print_11 rfl ?_
    refine r_icmp_le (tgt := 28) C dX4_print_14 (by decide) (fun h14 => ?_) (fun h14 => ?_)
    · have r2 : nI 1 ≤ y ∧ y < nI 501 := ⟨Int32.not_lt.mp h7, (rg_le (by decide)).mpr h14⟩
      obtain ⟨s, hs, rfl⟩ := rg_of r1 (by omega)
      obtain ⟨m, hm, rfl⟩ := rg_of (x := y) (n := 501) ⟨Int32.le_trans (by decide) r2.1, r2.2⟩ (by omega)
      clear h7 h14
      refine r_aload_n C dX4_print_28 rfl ?_
      refine r_iload_n C dX4_print_29 rfl ?_
      refine r_callV C E hh (c_X4_checkReady E.2.1 Γ B0 ad P R M s (by omega) hP.2.1 hI) lk_X4_262 (tr := .inr (.inl (0, 0))) rfl rfl rfl rfl (Nat.le_of_ble_eq_true rfl) dX4_print_30 ⟨by decide, by decide⟩ ⟨by omega, by omega⟩ (fun _ _ z9 => ⟨R, ⟨fun _ _ _ => rfl, hI⟩, z9.2, Or.inr (Or.inr ⟨z9.1.1, ⟨r1, r2⟩, fun q => by rw [okP, xN_nI (by omega), z9.1.2] at q; exact absurd q.1 (by decide)⟩)⟩) (kk_rV (fun w9 H locs hs9 hp9 hh => ?_))
      obtain ⟨hrd, rfl⟩ := hp9
      refine r_iconst C (nI 0) dX4_print_33 rfl ?_
      refine r_istore_n C dX4_print_34 rfl rfl ?_
      have lp35 : ∀ (d9 : Nat) (i : Nat) (R1 : fR) (H : Heap) (locs : List Loc), 2 - i < d9 → i ≤ 2 → jk R1 R → XI R1 → (∀ x, x < i * 4 → lsO P R s (x / 4) (x % 4) m = true) → f_HS Γ B0 (wj (fw Γ ad P) (xw Γ ad (R1)) M) X9 H locs → f_W X9 H locs (2 + i * 4) (12 + 6 * (i * 4)) 35 [some (.ref (ad 1 0)), some (.int (nI (s))), some (.int (nI (m))), some (.int (nI (i))), none] [] := by
        intro d9
        induction d9 with
        | zero => intro i R1 H locs hd9 hi hj hX hl hh; exact absurd hd9 (Nat.not_lt_zero _)
        | succ d9 ih35 =>
          intro i R1 H locs hd9 hi hj hX hl hh
          refine r_iload_n C dX4_print_35 rfl ?_
          refine r_iconst C (nI 2) dX4_print_36 rfl ?_
          refine r_icmp_geN (tgt := 70) C dX4_print_37 (by decide) (by omega) (by omega) (fun h37 => ?_) (fun h37 => ?_)
          · obtain rfl : i = 2 := by omega
            have hok : ∀ x, x < 8 → lsO P R s (x / 4) (x % 4) m = true := fun x hx => hl x (by omega)
            have hJ2 : jp P R1 R s m 0 := ⟨fun k a b _ => hj k a b, by rw [prU_0]; exact hj 18 (by decide) (by decide)⟩
            obtain ⟨R2, hR2⟩ : ∃ z, z = R1 := ⟨_, rfl⟩
            rw [← hR2] at hh hJ2 hX
            refine r_iconst C (nI 0) dX4_print_70 rfl ?_
            refine r_istore_n C dX4_print_71 rfl rfl ?_
            have lp72 : ∀ (d9 : Nat) (i : Nat) (R1 : fR) (H : Heap) (locs : List Loc), 2 - i < d9 → i ≤ 2 → jp P R1 R s m (i * 4) → XI R1 → f_HS Γ B0 (wj (fw Γ ad P) (xw Γ ad (R1)) M) X9 H locs → f_W X9 H locs 10 60 72 [some (.ref (ad 1 0)), some (.int (nI (s))), some (.int (nI (m))), some (.int (nI (i))), none] [] := by
              intro d9
              induction d9 with
              | zero => intro i R1 H locs hd9 hi hj hX hh; exact absurd hd9 (Nat.not_lt_zero _)
              | succ d9 ih72 =>
                intro i R1 H locs hd9 hi hj hX hh
                refine r_iload_n C dX4_print_72 rfl ?_
                refine r_iconst C (nI 2) dX4_print_73 rfl ?_
                refine r_icmp_geN (tgt := 107) C dX4_print_74 (by decide) (by omega) (by omega) (fun h74 => ?_) (fun h74 => ?_)
                · obtain rfl : i = 2 := by omega
                  have e5 : R1 5 = R 5 := hj.1 5 (by decide) (by decide) (by decide)
                  have e50 : R1 5 0 0 = R 5 0 0 := by rw [e5]
                  refine r_aload_n C dX4_print_107 rfl ?_
                  refine r_dup C dX4_print_108 rfl ?_
                  refine g_X4_292 C hh dX4_print_109 ?_
                  refine r_iload_n C dX4_print_112 rfl ?_
                  refine r_iaddN C dX4_print_113 ?_
                  refine p_X4_292 C hh dX4_print_114 (fun H locs hh => ?_)
                  refine r_aload_n C dX4_print_117 rfl ?_
                  refine g_X4_292 C hh dX4_print_118 ?_
                  exact r_iret C E hh dX4_print_121 (by omega) (by omega) ⟨_, rfl, ⟨⟨r1, r2⟩, by rw [xN_nI (by omega), xN_nI (by omega)]; exact ⟨hrd, hok⟩⟩, by rw [xN_nI (by omega)]; show nI (R1 5 0 0 + m) = _; rw [e50], rs R1 5 (k0 (R1 5 0 0 + m)), ⟨by
                        rw [xN_nI (by omega), xN_nI (by omega), rs_rs]
                        refine ⟨fun k a b c => ?_, hj.2⟩
                        by_cases hk : k = 5
                        · subst hk; rw [rs_same]
                        · rw [rs_ne _ _ hk]; exact hj.1 k a b c, by rw [xN_nI (by omega), rs_same]; show R1 5 0 0 + m = _; rw [e50], XI_5 hX (by omega)⟩, rfl⟩
                · refine r_iconst C (nI 0) dX4_print_77 rfl ?_
                  refine r_istore C dX4_print_78 rfl rfl ?_
                  have lp80 : ∀ (d9 : Nat) (c : Nat) (R1 : fR) (H : Heap) (locs : List Loc), 4 - c < d9 → c ≤ 4 → jp P R1 R s m (i * 4 + c) → XI R1 → f_HS Γ B0 (wj (fw Γ ad P) (xw Γ ad (R1)) M) X9 H locs → f_W X9 H locs 10 60 80 [some (.ref (ad 1 0)), some (.int (nI (s))), some (.int (nI (m))), some (.int (nI (i))), some (.int (nI (c)))] [] := by
                    intro d9
                    induction d9 with
                    | zero => intro c R1 H locs hd9 hc hj hX hh; exact absurd hd9 (Nat.not_lt_zero _)
                    | succ d9 ih80 =>
                      intro c R1 H locs hd9 hc hj hX hh
                      refine r_iload C dX4_print_80 rfl ?_
                      refine r_iconst C (nI 4) dX4_print_82 rfl ?_
                      refine r_icmp_geN (tgt := 101) C dX4_print_83 (by decide) (by omega) (by omega) (fun h83 => ?_) (fun h83 => ?_)
                      · obtain rfl : c = 4 := by omega
                        refine r_iincN C dX4_print_101 rfl rfl ?_
                        refine r_goto (tgt := 72) C dX4_print_104 (by decide) ?_
                        refine f_W.le ?_ (ih72 (i + 1) R1 _ _ (by omega) (by omega) (by rw [show (i + 1) * 4 = i * 4 + 4 by omega]; exact hj) hX hh)
                        exact (And.intro rfl (And.intro rfl (And.intro rfl (And.intro rfl trivial))))
                      · refine r_aload_n C dX4_print_86 rfl ?_
                        refine r_iload_n C dX4_print_87 rfl ?_
                        refine r_iload_n C dX4_print_88 rfl ?_
                        refine r_iload C dX4_print_89 rfl ?_
                        refine r_iload_n C dX4_print_91 rfl ?_
                        refine r_callV C E hh (c_X4_usePlateIfNeeded E.2.1 Γ B0 ad P R1 M s i c (by omega) h74 h83 hP m (by omega) hX) lk_X4_289 (tr := .inr (.inl (0, 0))) rfl rfl rfl rfl (Nat.le_of_ble_eq_true rfl) dX4_print_92 ⟨by decide, by decide⟩ ⟨by omega, by omega⟩ (fun _ _ z9 => False.elim z9) (kk_to (fun H locs hs9 hh => ?_))
                        refine r_iincN C dX4_print_95 rfl rfl ?_
                        refine r_goto (tgt := 80) C dX4_print_98 (by decide) ?_
                        exact ih80 (c + 1) (usR P R1 s i c m) _ _ (by omega) (by omega) (jp_s h83 hj) (XI_us hP hX h74 h83 hj (by have h9 := hok (i * 4 + c) (by omega); rw [show (i * 4 + c) / 4 = i by omega, show (i * 4 + c) % 4 = c by omega] at h9; exact h9)) hh
                  exact lp80 5 0 R1 _ _ (by omega) (by omega) hj hX hh
            refine f_widen (k2 := 10) (n2 := 60) (by omega) (by omega) ?_
            refine f_W.le ?_ (lp72 3 0 R2 H locs (by omega) (by omega) (by rw [Nat.zero_mul]; exact hJ2) hX hh)
            exact (And.intro rfl (And.intro rfl (And.intro rfl (And.intro rfl trivial))))
          · refine r_iconst C (nI 0) dX4_print_40 rfl ?_
            refine r_istore C dX4_print_41 rfl rfl ?_
            have lp43 : ∀ (d9 : Nat) (c : Nat) (R1 : fR) (H : Heap) (locs : List Loc), 4 - c < d9 → c ≤ 4 → jk R1 R → XI R1 → (∀ x, x < i * 4 + c → lsO P R s (x / 4) (x % 4) m = true) → f_HS Γ B0 (wj (fw Γ ad P) (xw Γ ad (R1)) M) X9 H locs → f_W X9 H locs (2 + (i * 4 + c)) (12 + 6 * (i * 4 + c)) 43 [some (.ref (ad 1 0)), some (.int (nI (s))), some (.int (nI (m))), some (.int (nI (i))), some (.int (nI (c)))] [] := by
              intro d9
              induction d9 with
              | zero => intro c R1 H locs hd9 hc hj hX hl hh; exact absurd hd9 (Nat.not_lt_zero _)
              | succ d9 ih43 =>
                intro c R1 H locs hd9 hc hj hX hl hh
                refine r_iload C dX4_print_43 rfl ?_
                refine r_iconst C (nI 4) dX4_print_45 rfl ?_
                refine r_icmp_geN (tgt := 64) C dX4_print_46 (by decide) (by omega) (by omega) (fun h46 => ?_) (fun h46 => ?_)
                · obtain rfl : c = 4 := by omega
                  refine r_iincN C dX4_print_64 rfl rfl ?_
                  refine r_goto (tgt := 35) C dX4_print_67 (by decide) ?_
                  refine f_widen (k2 := 2 + (i + 1) * 4) (n2 := 12 + 6 * ((i + 1) * 4)) (by omega) (by omega) ?_
                  refine f_W.le ?_ (ih35 (i + 1) R1 _ _ (by omega) (by omega) hj hX (fun x hx => hl x (by omega)) hh)
                  exact (And.intro rfl (And.intro rfl (And.intro rfl (And.intro rfl trivial))))
                · refine r_aload_n C dX4_print_49 rfl ?_
                  refine r_iload_n C dX4_print_50 rfl ?_
                  refine r_iload_n C dX4_print_51 rfl ?_
                  refine r_iload C dX4_print_52 rfl ?_
                  refine r_iload_n C dX4_print_54 rfl ?_
                  refine r_callV C E hh (c_X4_checkPlateLasts E.2.1 Γ B0 ad P R1 M s i c (by omega) h37 h46 hP m (by omega) hX) lk_X4_286 (tr := .inr (.inl (0, 0))) rfl rfl rfl rfl (Nat.le_of_ble_eq_true rfl) dX4_print_55 ⟨by decide, by decide⟩ ⟨by omega, by omega⟩ (fun _ _ z9 => ⟨lkF P R1 s i c, ⟨jk_lkF hj s i c, XI_lkF hP hX s i c⟩, z9.2, Or.inr (Or.inr ⟨z9.1.1, ⟨r1, r2⟩, fun q => by
                    have h9 := q.2 (i * 4 + c) (by omega)
                    rw [xN_nI (by omega), xN_nI (by omega), show (i * 4 + c) / 4 = i by omega, show (i * 4 + c) % 4 = c by omega, ← lsO_eq P hj, z9.1.2] at h9
                    cases h9⟩)⟩) (kk_rV (fun w9 H locs hs9 hp9 hh => ?_))
                  obtain ⟨hls, rfl⟩ := hp9
                  refine r_iincN C dX4_print_58 rfl rfl ?_
                  refine r_goto (tgt := 43) C dX4_print_61 (by decide) ?_
                  refine f_widen (k2 := 2 + (i * 4 + (c + 1))) (n2 := 12 + 6 * (i * 4 + (c + 1))) (by omega) (by omega) ?_
                  exact ih43 (c + 1) (lkF P R1 s i c) _ _ (by omega) (by omega) (jk_lkF hj s i c) (XI_lkF hP hX s i c) (fun x hx => by
                    by_cases hz : x < i * 4 + c
                    · exact hl x hz
                    · obtain rfl : x = i * 4 + c := by omega
                      rw [show (i * 4 + c) / 4 = i by omega, show (i * 4 + c) % 4 = c by omega, ← lsO_eq P hj]
                      exact hls) hh
            refine f_widen (k2 := 2 + (i * 4 + 0)) (n2 := 12 + 6 * (i * 4 + 0)) (by omega) (by omega) ?_
            exact lp43 5 0 R1 _ _ (by omega) (by omega) hj hX hl hh
      refine f_W.le ?_ (f_widen (k2 := 2 + 0 * 4) (n2 := 12 + 6 * (0 * 4)) (by omega) (by omega) (lp35 3 0 R H locs (by omega) (by omega) (fun _ _ _ => rfl) hI (fun x hx => absurd hx (by omega)) hh))
      exact (And.intro rfl (And.intro rfl (And.intro rfl (And.intro rfl trivial))))
    · exact r_throwW C E hh th_IA (is := 284) (text := "copies is out of range") (by decide) dX4_print_17 dX4_print_20 dX4_print_21 dX4_print_24 dX4_print_27 (by decide) (by decide) (Nat.le_of_ble_eq_true rfl) (by omega) (by omega) ⟨R, ⟨fun _ _ _ => rfl, hI⟩, rfl, Or.inr (Or.inl ⟨rfl, r1, by first | exact fun z => h14 ((rg_le (by decide)).mp z.2) | exact fun z => Int32.not_lt.mpr z.1 h7⟩)⟩

