/-! ===== the class: makePlates, insert ===== -/
def adP (ad : Nat → Nat → Nat) (f g : Nat → Nat) : Nat → Nat → Nat := fun i j => if i = 16 then f j else if i = 17 then g j else ad i j
theorem adP_id (ad : Nat → Nat → Nat) : adP ad (ad 16) (ad 17) = ad := by
  funext i j
  unfold adP
  split
  · rename_i h; subst h; rfl
  · split
    · rename_i h; subst h; rfl
    · rfl
theorem adP_np (ad : Nat → Nat → Nat) (f g : Nat → Nat) (s a1 a2 : Nat) : npA (adP ad f g) s a1 a2 = adP ad (va_up f s a1) (va_up g s a2) := by
  funext i j
  unfold npA adS adP va_up
  by_cases h1 : i = 16
  · subst h1; simp
  · by_cases h2 : i = 17
    · subst h2; simp
    · simp [h1, h2]
def mks (P R : fR) (s : Nat) : Nat → fR
  | 0 => R
  | x + 1 => mpR P (mks P R s x) s (x / 4) (x % 4)
theorem mpR_4 (P R : fR) (s i c : Nat) : R 4 0 0 ≤ mpR P R s i c 4 0 0 ∧ mpR P R s i c 4 0 0 ≤ R 4 0 0 + 1 := by
  unfold mpR
  split
  · exact ⟨Nat.le_refl _, Nat.le_succ _⟩
  · rw [rs_same]; exact ⟨Nat.le_succ _, Nat.le_refl _⟩
theorem mks_4 (P R : fR) (s : Nat) : ∀ x, R 4 0 0 ≤ mks P R s x 4 0 0 ∧ mks P R s x 4 0 0 ≤ R 4 0 0 + x
  | 0 => ⟨Nat.le_refl _, Nat.le_refl _⟩
  | x + 1 => by
    have h1 := mks_4 P R s x
    have h2 := mpR_4 P (mks P R s x) s (x / 4) (x % 4)
    unfold mks
    omega
theorem XI_mpR {P R : fR} (hP : FI P) (hI : XI R) (h4 : R 4 0 0 ≤ 900000) (s i c : Nat) : XI (mpR P R s i c) := by
  have hX := XI_lkF hP hI s i c
  have hn : lkN P R s i c ≤ 16 := by
    have h1 := lkn_le P R s i c (P 2 0 0 * P 3 0 0)
    have h2 := (FI_rc hP).2.2.2.2
    unfold lkN; omega
  unfold mpR
  split
  · exact hX
  · obtain ⟨i0, i1, i2, i3, i4, i5, i6, i7, i8, i9, i10, i11, i12, i13, i14⟩ := id hX
    have h17 : ∀ t, mpP P R s i c 17 t 0 ≤ 16 ∧ mpP P R s i c 18 t 0 ≤ 1000 := by
      intro t
      have h9 := i9 t
      unfold mpP
      split
      · show u1 (lkF P R s i c 17) (slot s i c) 0 t 0 ≤ 16 ∧ u1 (lkF P R s i c 18) (slot s i c) 0 t 0 ≤ 1000
        unfold u1
        split <;> omega
      · exact h9
    have h19 : ∀ t j, mpP P R s i c 19 t j < 134217728 := by
      intro t j
      unfold mpP
      split
      · unfold npR
        rw [rs_same]
        show (if t = slot s i c then 0 else lkF P R s i c 19 t j) < _
        split
        · decide
        · exact i13 t j
      · exact i13 t j
    have hc : ∀ k, k ≠ 8 → k ≠ 17 → k ≠ 18 → k ≠ 19 → mpP P R s i c k = lkF P R s i c k := by
      intro k a b c d
      unfold mpP
      split
      · simp [npR, rs, a, b, c, d]
      · rfl
    have he : ∀ k, k ≠ 4 → k ≠ 8 → k ≠ 17 → k ≠ 18 → k ≠ 19 → rs (egR (mpP P R s i c) (slot s i c) (lkN P R s i c)) 4 (k0 (R 4 0 0 + 1)) k = lkF P R s i c k := by
      intro k a b c d e
      rw [rs_ne _ _ a, ← hc k b c d e]
      simp [egR, rs, c, d, e]
    have e9 : mpP P R s i c 9 = lkF P R s i c 9 := hc 9 (by decide) (by decide) (by decide) (by decide)
    generalize hQ : rs (egR (mpP P R s i c) (slot s i c) (lkN P R s i c)) 4 (k0 (R 4 0 0 + 1)) = Q at he
    have q17 : ∀ t, Q 17 t 0 ≤ 16 := by
      intro t; subst hQ
      rw [rs_ne _ _ (by decide)]
      show (rs (rs (rs (mpP P R s i c) 17 (u1 (mpP P R s i c 17) (slot s i c) (lkN P R s i c))) 19 _) 18 _) 17 t 0 ≤ 16
      rw [rs_ne _ _ (by decide), rs_ne _ _ (by decide), rs_same]
      unfold u1; split
      · exact hn
      · exact (h17 t).1
    have q18 : ∀ t, Q 18 t 0 ≤ 1000 := by
      intro t; subst hQ
      rw [rs_ne _ _ (by decide)]
      unfold egR
      rw [rs_same]
      unfold u1; split
      · decide
      · exact (h17 t).2
    have q19 : ∀ t j, Q 19 t j < 134217728 := by
      intro t j; subst hQ
      rw [rs_ne _ _ (by decide)]
      unfold egR
      rw [rs_ne _ _ (by decide), rs_same]
      unfold cpy; split
      · rw [e9]; exact i12 j
      · exact h19 t j
    have q4 : Q 4 0 0 ≤ 1000000 := by subst hQ; rw [rs_same]; show R 4 0 0 + 1 ≤ 1000000; omega
    have z : ∀ k, k ≠ 4 → k ≠ 8 → k ≠ 17 → k ≠ 18 → k ≠ 19 → Q k = lkF P R s i c k := he
    unfold XI
    rw [z 0 (by decide) (by decide) (by decide) (by decide) (by decide), z 6 (by decide) (by decide) (by decide) (by decide) (by decide), z 20 (by decide) (by decide) (by decide) (by decide) (by decide), z 1 (by decide) (by decide) (by decide) (by decide) (by decide), z 2 (by decide) (by decide) (by decide) (by decide) (by decide), z 11 (by decide) (by decide) (by decide) (by decide) (by decide), z 12 (by decide) (by decide) (by decide) (by decide) (by decide), z 13 (by decide) (by decide) (by decide) (by decide) (by decide), z 14 (by decide) (by decide) (by decide) (by decide) (by decide), z 15 (by decide) (by decide) (by decide) (by decide) (by decide), z 16 (by decide) (by decide) (by decide) (by decide) (by decide), z 3 (by decide) (by decide) (by decide) (by decide) (by decide), z 5 (by decide) (by decide) (by decide) (by decide) (by decide), z 9 (by decide) (by decide) (by decide) (by decide) (by decide)]
    exact ⟨i0, i1, i2, i3, i4, i5, i6, i7, i8, fun t => ⟨q17 t, q18 t⟩, q4, i11, i12, q19, i14⟩
theorem XI_mks {P R : fR} (hP : FI P) (hI : XI R) (h4 : R 4 0 0 ≤ 890000) (s : Nat) : ∀ x, x ≤ 8 → XI (mks P R s x)
  | 0, _ => hI
  | x + 1, hx => XI_mpR hP (XI_mks hP hI h4 s x (by omega)) (by have := mks_4 P R s x; omega) s _ _
set_option maxHeartbeats 4000000 in
set_option maxRecDepth 100000 in
theorem c_X4_makePlates {l : Launch} (hl : l.stackTraces = false) (Γ : fG) (B0 : Nat) (ad : Nat → Nat → Nat) (P R : fR) (M : Nat → fO) (x : Int32) (hP : FI P) (hI : XI R) (h4 : R 4 0 0 ≤ 890000) : f_Met l yX4_makePlates cX4_makePlates 5 (some .int) 7 18 164 130 Γ B0 [.ref (ad 1 0), .int x] (wj (fw Γ ad P) (xw Γ ad R) M) (f_rI (fun r9 w9 => (rg x (shc P R) ∧ afo P R (xN x) = true) ∧ r9 = nI (mks P R (xN x) 8 4 0 0 - R 4 0 0) ∧ ∃ f g, w9 = wj (fw Γ (adP ad f g) P) (xw Γ (adP ad f g) (mks P R (xN x) 8)) M)) (fun E9 w9 => ((E9 = "java/lang/IndexOutOfBoundsException" ∧ ¬ rg x (shc P R)) ∨ (E9 = "java/lang/IllegalStateException" ∧ rg x (shc P R) ∧ afo P R (xN x) = false)) ∧ w9 = wj (fw Γ ad P) (xw Γ ad R) M) := by
  refine f_of hl (by decide) rfl (Nat.le_of_ble_eq_true rfl) (fun X9 C E hh hnm => ?_)
  generalize (f_s X9).heap = H, ([] : List Loc) = locs at hh ⊢
  have hs6 := FI_sh (R := R) hP hI.1
  refine r_aload_n C dX4_makePlates_0 rfl ?_
  refine r_iload_n C dX4_makePlates_1 rfl ?_
  refine r_callV C E hh (c_X4_checkSheet E.2.1 Γ B0 ad P R M x hP.2.1 hI.1) lk_X4_164 (tr := .inr (.inl (0, 0))) rfl rfl rfl rfl (Nat.le_of_ble_eq_true rfl) dX4_makePlates_2 ⟨by decide, by decide⟩ ⟨by omega, by omega⟩ (fun _ _ z9 => ⟨Or.inl ⟨z9.1.1, z9.1.2⟩, z9.2⟩) (kk_rV (fun w9 H locs hs9 hp9 hh => ?_))
  obtain ⟨r1, rfl⟩ := hp9
  obtain ⟨s, hs, rfl⟩ := rg_of r1 (by omega)
  refine r_aload_n C dX4_makePlates_5 rfl ?_
  refine r_iload_n C dX4_makePlates_6 rfl ?_
  refine r_callV C E hh (c_X4_checkReady E.2.1 Γ B0 ad P R M s (by omega) hP.2.1 hI) lk_X4_262 (tr := .inr (.inl (0, 0))) rfl rfl rfl rfl (Nat.le_of_ble_eq_true rfl) dX4_makePlates_7 ⟨by decide, by decide⟩ ⟨by omega, by omega⟩ (fun _ _ z9 => ⟨Or.inr ⟨z9.1.1, r1, by rw [xN_nI (by omega)]; exact z9.1.2⟩, z9.2⟩) (kk_rV (fun w9 H locs hs9 hp9 hh => ?_))
  obtain ⟨hrd, rfl⟩ := hp9
  refine r_aload_n C dX4_makePlates_10 rfl ?_
  refine g_X4_265 C hh dX4_makePlates_11 ?_
  refine r_istore_n C dX4_makePlates_14 rfl rfl ?_
  refine r_iconst C (nI 0) dX4_makePlates_15 rfl ?_
  refine r_istore_n C dX4_makePlates_16 rfl rfl ?_
  have lp17 : ∀ (d9 : Nat) (i : Nat) (f g : Nat → Nat) (H : Heap) (locs : List Loc), 2 - i < d9 → i ≤ 2 → f_HS Γ B0 (wj (fw Γ (adP ad f g) P) (xw Γ (adP ad f g) (mks P R s (i * 4))) M) X9 H locs → f_W X9 H locs (2 + 2 * (i * 4)) (12 + 19 * (i * 4)) 17 [some (.ref (ad 1 0)), some (.int (nI (s))), some (.int (nI (R 4 0 0))), some (.int (nI (i))), none] [] := by
    intro d9
    induction d9 with
    | zero => intro i f g H locs hd9 hi hh; exact absurd hd9 (Nat.not_lt_zero _)
    | succ d9 ih17 =>
      intro i f g H locs hd9 hi hh
      rw [show ad 1 0 = adP ad f g 1 0 from rfl]
      have hX8 : i = 2 → XI (mks P R s (i * 4)) := fun z => XI_mks hP hI h4 s _ (by omega)
      refine r_iload_n C dX4_makePlates_17 rfl ?_
      refine r_iconst C (nI 2) dX4_makePlates_18 rfl ?_
      refine r_icmp_geN (tgt := 51) C dX4_makePlates_19 (by decide) (by omega) (by omega) (fun h19 => ?_) (fun h19 => ?_)
      · obtain rfl : i = 2 := by omega
        have hm4 := mks_4 P R s 8
        have i10 := hI.2.2.2.2.2.2.2.2.2.2.1
        refine r_aload_n C dX4_makePlates_51 rfl ?_
        refine g_X4_265 C hh dX4_makePlates_52 ?_
        refine r_iload_n C dX4_makePlates_55 rfl ?_
        refine r_isubN C dX4_makePlates_56 (show R 4 0 0 ≤ mks P R s 8 4 0 0 from hm4.1) ?_
        exact r_iret C E hh dX4_makePlates_57 (by omega) (by omega) ⟨_, rfl, ⟨r1, by rw [xN_nI (by omega)]; exact hrd⟩, by rw [xN_nI (by omega)], f, g, by rw [xN_nI (by omega)]⟩
      · refine r_iconst C (nI 0) dX4_makePlates_22 rfl ?_
        refine r_istore C dX4_makePlates_23 rfl rfl ?_
        have lp25 : ∀ (d9 : Nat) (c : Nat) (f g : Nat → Nat) (H : Heap) (locs : List Loc), 4 - c < d9 → c ≤ 4 → f_HS Γ B0 (wj (fw Γ (adP ad f g) P) (xw Γ (adP ad f g) (mks P R s (i * 4 + c))) M) X9 H locs → f_W X9 H locs (2 + 2 * (i * 4 + c)) (12 + 19 * (i * 4 + c)) 25 [some (.ref (ad 1 0)), some (.int (nI (s))), some (.int (nI (R 4 0 0))), some (.int (nI (i))), some (.int (nI (c)))] [] := by
          intro d9
          induction d9 with
          | zero => intro c f g H locs hd9 hc hh; exact absurd hd9 (Nat.not_lt_zero _)
          | succ d9 ih25 =>
            intro c f g H locs hd9 hc hh
            rw [show ad 1 0 = adP ad f g 1 0 from rfl]
            refine r_iload C dX4_makePlates_25 rfl ?_
            refine r_iconst C (nI 4) dX4_makePlates_27 rfl ?_
            refine r_icmp_geN (tgt := 45) C dX4_makePlates_28 (by decide) (by omega) (by omega) (fun h28 => ?_) (fun h28 => ?_)
            · obtain rfl : c = 4 := by omega
              refine r_iincN C dX4_makePlates_45 rfl rfl ?_
              refine r_goto (tgt := 17) C dX4_makePlates_48 (by decide) ?_
              refine f_widen (k2 := 2 + 2 * ((i + 1) * 4)) (n2 := 12 + 19 * ((i + 1) * 4)) (by omega) (by omega) ?_
              refine f_W.le ?_ (ih17 (i + 1) f g _ _ (by omega) (by omega) (by rw [show (i + 1) * 4 = i * 4 + 4 by omega]; exact hh))
              exact (And.intro rfl (And.intro rfl (And.intro rfl (And.intro rfl trivial))))
            · refine r_aload_n C dX4_makePlates_31 rfl ?_
              refine r_iload_n C dX4_makePlates_32 rfl ?_
              refine r_iload_n C dX4_makePlates_33 rfl ?_
              refine r_iload C dX4_makePlates_34 rfl ?_
              refine r_callV C E hh (c_X4_makePlateIfNeeded E.2.1 Γ B0 (adP ad f g) P (mks P R s (i * 4 + c)) M s i c (by omega) h19 h28 hP (XI_mks hP hI h4 s _ (by omega)) (by have := mks_4 P R s (i * 4 + c); omega)) lk_X4_268 (tr := .inr (.inl (0, 0))) rfl rfl rfl rfl (Nat.le_of_ble_eq_true rfl) dX4_makePlates_36 ⟨by decide, by decide⟩ ⟨by omega, by omega⟩ (fun _ _ z9 => False.elim z9) (kk_rV (fun w9 H locs hs9 hp9 hh => ?_))
              obtain ⟨a1, a2, rfl⟩ := hp9
              rw [adP_np, show mpR P (mks P R s (i * 4 + c)) s i c = mks P R s (i * 4 + (c + 1)) by show _ = mpR P (mks P R s (i * 4 + c)) s ((i * 4 + c) / 4) ((i * 4 + c) % 4); rw [show (i * 4 + c) / 4 = i by omega, show (i * 4 + c) % 4 = c by omega]] at hh
              refine r_iincN C dX4_makePlates_39 rfl rfl ?_
              refine r_goto (tgt := 25) C dX4_makePlates_42 (by decide) ?_
              refine f_widen (k2 := 2 + 2 * (i * 4 + (c + 1))) (n2 := 12 + 19 * (i * 4 + (c + 1))) (by omega) (by omega) ?_
              exact ih25 (c + 1) _ _ _ _ (by omega) (by omega) hh
        refine f_widen (k2 := 2 + 2 * (i * 4 + 0)) (n2 := 12 + 19 * (i * 4 + 0)) (by omega) (by omega) ?_
        exact lp25 5 0 f g _ _ (by omega) (by omega) hh
  refine f_widen (k2 := 2 + 2 * (0 * 4)) (n2 := 12 + 19 * (0 * 4)) (by omega) (by omega) ?_
  refine f_W.le ?_ (lp17 3 0 (ad 16) (ad 17) H locs (by omega) (by omega) (by rw [adP_id, Nat.zero_mul]; exact hh))
  exact (And.intro rfl (And.intro rfl (And.intro rfl (And.intro rfl trivial))))

def pgR (R : fR) (m y z : Nat) : fR := rs (rs (rs (rs (rs R 13 (u1 (R 13) m y)) 14 (u1 (R 14) m z)) 15 (u1 (R 15) m 1)) 16 (fun t j => if t = m then 0 else R 16 t j)) 20 (k0 (m + 1))
def pgA (ad : Nat → Nat → Nat) (m a1 a2 : Nat) : Nat → Nat → Nat := adS (adS ad 14 m a1) 15 m a2
theorem fw_pg (Γ : fG) (ad : Nat → Nat → Nat) (P : fR) (s a1 a2 : Nat) : fw Γ (pgA ad s a1 a2) P = fw Γ ad P := by
  unfold pgA; rw [fw_ad _ _ _ (by decide), fw_ad _ _ _ (by decide)]
theorem pg_world (Γ : fG) (ad : Nat → Nat → Nat) (F : Nat → fO) (R : fR) (M : Nat → fO) {m a1 a2 y z : Nat} (hm : R 20 0 0 = m) (h6 : ∀ i, R 6 i 0 ≤ m) :
    f_add (f_add (wj F (xw Γ ad R) M) (.inr (.inl (14, m))) (a1, .inr (2, [.int (nI m), .ref a2, .int (nI y), .int (nI z), .int (nI 1)]))) (.inr (.inl (15, m))) (a2, .inl (Γ.2 0, 4, .inl (fun _ => 0))) = wj F (xw Γ (pgA ad m a1 a2) (pgR R m y z)) M := by
  funext t
  match t with
  | .inl z => simp [f_add, wj]
  | .inr (.inr z) => simp [f_add, wj]
  | .inr (.inl (i, j)) =>
    by_cases h14 : (i, j) = (14, m)
    · cases h14
      simp [f_add, wj, xw, pgA, adS, pgR, rs, u1, k0]
    · by_cases h15 : (i, j) = (15, m)
      · cases h15
        simp [f_add, wj, xw, pgA, adS, pgR, rs, u1, k0, nI00]
      · rw [f_add_ne (fun q => h15 (by injection (Sum.inr.inj q))), f_add_ne (fun q => h14 (by injection (Sum.inr.inj q)))]
        show xw Γ ad R (i, j) = xw Γ (pgA ad m a1 a2) (pgR R m y z) (i, j)
        unfold xw
        split
        case h_2 =>
          have e : (fun i => oR (ad 14) (R 6 i 0)) = fun i => oR (pgA ad m a1 a2 14) (pgR R m y z 6 i 0) := by
            funext i
            have h := h6 i
            show oR (ad 14) (R 6 i 0) = oR _ (R 6 i 0)
            unfold oR
            split
            · rfl
            · rw [show pgA ad m a1 a2 14 (R 6 i 0 - 1) = ad 14 (R 6 i 0 - 1) by
                unfold pgA adS
                rw [if_neg (by decide), if_pos rfl, if_neg (by omega)]]
          rw [e]; rfl
        all_goals first
          | rfl
          | (rename_i q9 e9
             cases e9
             have hq : j ≠ m := fun h => by subst h; first | exact h14 rfl | exact h15 rfl
             have e1 : j < m + 1 ↔ j < m := by omega
             simp [pgA, adS, pgR, rs, u1, k0, hm, hq, e1])
def ins6 (R : fR) (j : Nat) : Nat → Nat → Nat := u1 (sr2 (R 6) j (R 0 0 0)) j (R 20 0 0 + 1)
def insR (R : fR) (j y z : Nat) : fR := rs (rs (rs (pgR (rs R 6 (sr2 (R 6) j (R 0 0 0))) (R 20 0 0) y z) 6 (ins6 R j)) 1 (k0 (R 20 0 0 + 1))) 0 (k0 (R 0 0 0 + 1))
set_option maxHeartbeats 4000000 in
set_option maxRecDepth 100000 in
theorem c_X4_insert {l : Launch} (hl : l.stackTraces = false) (Γ : fG) (B0 : Nat) (ad : Nat → Nat → Nat) (R : fR) (F : Nat → fO) (M : Nat → fO) (x y z : Int32) (hI : XI R) : f_Met l yX4_insert cX4_insert 5 (some .int) 7 4 24 111 Γ B0 [.ref (ad 1 0), .int x, .int y, .int z] (wj F (xw Γ ad R) M) (f_rI (fun r9 w9 => ((rg x (R 0 0 0 + 1) ∧ (rg y 256 ∧ rg z 16)) ∧ (R 0 0 0 < 64 ∧ R 1 0 0 < 100)) ∧ r9 = nI (R 0 0 0 + 1) ∧ ∃ a1 a2, w9 = wj F (xw Γ (pgA ad (R 20 0 0) a1 a2) (insR R (xN x) (xN y) (xN z))) M)) (fun E9 w9 => ((E9 = "java/lang/IndexOutOfBoundsException" ∧ ¬ rg x (R 0 0 0 + 1)) ∨ (E9 = "java/lang/IllegalArgumentException" ∧ rg x (R 0 0 0 + 1) ∧ ¬ (rg y 256 ∧ rg z 16)) ∨ (E9 = "java/lang/IllegalStateException" ∧ (rg x (R 0 0 0 + 1) ∧ (rg y 256 ∧ rg z 16)) ∧ ¬ (R 0 0 0 < 64 ∧ R 1 0 0 < 100))) ∧ w9 = wj F (xw Γ ad R) M) := by
  refine f_of hl (by decide) rfl (Nat.le_of_ble_eq_true rfl) (fun X9 C E hh hnm => ?_)
  generalize (f_s X9).heap = H, ([] : List Loc) = locs at hh ⊢
  obtain ⟨i1, i2, i3, i4, -⟩ := id hI
  have i6 := hI.2.2.2.2.2.2.2.2.2.2.2.2.2.2
  refine r_iload_n C dX4_insert_0 rfl ?_
  refine r_if_lt (tgt := 12) C dX4_insert_1 (by decide) (fun h1 => ?_) (fun h1 => ?_)
  · exact r_throw C E hh th_IX (is := 53) (text := "place is out of range") (by decide) dX4_insert_12 dX4_insert_15 dX4_insert_16 dX4_insert_18 dX4_insert_21 (by decide) (by decide) (Nat.le_of_ble_eq_true rfl) (by omega) (by omega) ⟨Or.inl ⟨rfl, by first | exact fun z => h9 ((rg_le (by omega)).mp z.2) | exact fun z => Int32.not_lt.mpr z.1 h1⟩, rfl⟩
  · refine r_iload_n C dX4_insert_4 rfl ?_
    refine r_aload_n C dX4_insert_5 rfl ?_
    refine g_X4_47 C hh dX4_insert_6 ?_
    refine r_icmp_le (tgt := 22) C dX4_insert_9 (by decide) (fun h9 => ?_) (fun h9 => ?_)
    · have r1 : rg x (R 0 0 0 + 1) := ⟨Int32.not_lt.mp h1, (rg_le (by omega)).mpr h9⟩
      refine r_iload_n C dX4_insert_22 rfl ?_
      refine r_iload_n C dX4_insert_23 rfl ?_
      refine r_callS C E hh (c_X4_checkFontsAndColors E.2.1 Γ B0 _ y z) lk_X4_58 rfl rfl (Nat.le_of_ble_eq_true rfl) dX4_insert_24 ⟨by decide, by decide⟩ ⟨by omega, by omega⟩ (fun _ _ z9 => ⟨Or.inr (Or.inl ⟨z9.1.1, r1, z9.1.2⟩), z9.2⟩) (kk_rV (fun w9 H locs hs9 hp9 hh => ?_))
      obtain ⟨r2, rfl⟩ := hp9
      refine r_aload_n C dX4_insert_27 rfl ?_
      refine g_X4_47 C hh dX4_insert_28 ?_
      refine r_bipush C (nI 64) dX4_insert_31 rfl ?_
      refine r_icmp_geN (tgt := 45) C dX4_insert_33 (by decide) (by omega) (by omega) (fun h33 => ?_) (fun h33 => ?_)
      · exact r_throw C E hh th_IS (is := 66) (text := "no more pages") (by decide) dX4_insert_45 dX4_insert_48 dX4_insert_49 dX4_insert_51 dX4_insert_54 (by decide) (by decide) (Nat.le_of_ble_eq_true rfl) (by omega) (by omega) ⟨Or.inr (Or.inr ⟨rfl, ⟨r1, r2⟩, by omega⟩), rfl⟩
      · refine r_aload_n C dX4_insert_36 rfl ?_
        refine g_X4_61 C hh dX4_insert_37 ?_
        refine r_bipush C (nI 100) dX4_insert_40 rfl ?_
        refine r_icmp_ltN (tgt := 55) C dX4_insert_42 (by decide) (by omega) (by omega) (fun h42 => ?_) (fun h42 => ?_)
        · obtain ⟨j, hj, rfl⟩ := rg_of r1 (by omega)
          obtain ⟨jy, hjy, rfl⟩ := rg_of r2.1 (by omega)
          obtain ⟨jz, hjz, rfl⟩ := rg_of r2.2 (by omega)
          clear h1 h9
          refine r_aload_n C dX4_insert_55 rfl ?_
          refine g_X4_47 C hh dX4_insert_56 ?_
          refine r_istore C dX4_insert_59 rfl rfl ?_
          have lp61 : ∀ (d9 : Nat) (a : Nat) (H : Heap) (locs : List Loc), a < d9 → j ≤ a → a ≤ R 0 0 0 → f_HS Γ B0 (wj F (xw Γ ad (rs R 6 (sr2 (R 6) a (R 0 0 0)))) M) X9 H locs → f_W X9 H locs 1 6 61 [some (.ref (ad 1 0)), some (.int (nI (j))), some (.int (nI (jy))), some (.int (nI (jz))), some (.int (nI (a)))] [] := by
            intro d9
            induction d9 with
            | zero => intro a H locs hd9 ha1 ha2 hh; exact absurd hd9 (Nat.not_lt_zero _)
            | succ d9 ih61 =>
              intro a H locs hd9 ha1 ha2 hh
              refine r_iload C dX4_insert_61 rfl ?_
              refine r_iload_n C dX4_insert_63 rfl ?_
              refine r_icmp_leN (tgt := 89) C dX4_insert_64 (by decide) (by omega) (by omega) (fun h64 => ?_) (fun h64 => ?_)
              · obtain rfl : j = a := by omega
                refine r_aload_n C dX4_insert_89 rfl ?_
                refine g_X4_11 C hh dX4_insert_90 ?_
                refine r_iload_n C dX4_insert_93 rfl ?_
                refine r_new (.inr (.inl (14, R 20 0 0))) C hh (show xw Γ ad (rs R 6 (sr2 (R 6) j (R 0 0 0))) (14, R 20 0 0) = none by simp [xw, rs]) (ci := 2) rfl hinX2 tyX2 tyX2_ok kl_X4_9 is_X2 in_X2 [.int 0, .null, .int 0, .int 0, .int 0] (fun j9 hj9 => fsX2 j9 hj9) (by omega) (by omega) dX4_insert_94 (fun H1 hz9 hh => ?_)
                generalize H.size = a1 at hh ⊢
                refine r_dup C dX4_insert_97 rfl ?_
                refine r_aload_n C dX4_insert_98 rfl ?_
                refine r_getf C hh (t := .inr (.inl (0, 0))) ((f_add_ne (by simp)).trans rfl) rfl hinX4 2 (by decide) fl_X4_61 rfl dX4_insert_99 ?_
                rw [show rs R 6 (sr2 (R 6) j (R 0 0 0)) 1 0 0 = R 20 0 0 from i4]
                refine r_iload_n C dX4_insert_102 rfl ?_
                refine r_iload_n C dX4_insert_103 rfl ?_
                refine r_callI C E hh (c_X2_init E.2.1 Γ B0 _ (.inr (.inl (14, R 20 0 0))) (.inr (.inl (15, R 20 0 0))) a1 (R 20 0 0) jy jz f_add_self ((f_add_ne (by simp)).trans (show xw Γ ad (rs R 6 (sr2 (R 6) j (R 0 0 0))) (15, R 20 0 0) = none by simp [xw, rs])) (by simp)) lk_X4_69 rfl rfl (Nat.le_of_ble_eq_true rfl) dX4_insert_104 ⟨by decide, by decide⟩ ⟨by omega, by omega⟩ (kk_rV (fun w9 H locs hs9 hp9 hh => ?_))
                obtain ⟨a2, rfl⟩ := hp9
                rw [f_set_addS, pg_world Γ ad F (rs R 6 (sr2 (R 6) j (R 0 0 0))) M (by rfl) (fun i => by
                  show sr2 (R 6) j (R 0 0 0) i 0 ≤ R 20 0 0
                  unfold sr2; split
                  · exact i6 _
                  · exact i6 _)] at hh
                rw [show a1 = (pgA ad (R 20 0 0) a1 a2) 14 (R 20 0 0) by simp [pgA, adS], show ad 1 0 = (pgA ad (R 20 0 0) a1 a2) 1 0 from rfl, show ad 2 0 = (pgA ad (R 20 0 0) a1 a2) 2 0 from rfl]
                refine as_order C hh (show R 20 0 0 < R 20 0 0 + 1 by omega) (by omega) dX4_insert_107 (fun H locs hh => ?_)
                
                refine r_aload_n C dX4_insert_108 rfl ?_
                refine r_dup C dX4_insert_109 rfl ?_
                refine g_X4_61 C hh dX4_insert_110 ?_
                refine r_iconst C (nI 1) dX4_insert_113 rfl ?_
                refine r_iaddN C dX4_insert_114 ?_
                refine p_X4_61 C hh dX4_insert_115 (fun H locs hh => ?_)
                refine r_aload_n C dX4_insert_118 rfl ?_
                refine r_dup C dX4_insert_119 rfl ?_
                refine g_X4_47 C hh dX4_insert_120 ?_
                refine r_iconst C (nI 1) dX4_insert_123 rfl ?_
                refine r_iaddN C dX4_insert_124 ?_
                refine p_X4_47 C hh dX4_insert_125 (fun H locs hh => ?_)
                refine r_aload_n C dX4_insert_128 rfl ?_
                refine g_X4_47 C hh dX4_insert_129 ?_
                exact r_iret C E hh dX4_insert_132 (by omega) (by omega) ⟨_, rfl, ⟨⟨r1, r2⟩, by omega⟩, rfl, a1, a2, by rw [xN_nI (by omega), xN_nI (by omega), xN_nI (by omega)]; unfold insR ins6; rw [← i4]; rfl⟩
              · obtain ⟨q, hv, hq⟩ := i2 (a - 1) (by omega)
                refine r_aload_n C dX4_insert_67 rfl ?_
                refine g_X4_11 C hh dX4_insert_68 ?_
                refine r_iload C dX4_insert_71 rfl ?_
                refine r_aload_n C dX4_insert_73 rfl ?_
                refine g_X4_11 C hh dX4_insert_74 ?_
                refine r_iload C dX4_insert_77 rfl ?_
                refine r_iconst C (nI 1) dX4_insert_79 rfl ?_
                refine r_isubN C dX4_insert_80 (by omega) ?_
                refine al_order C hh (by omega) ((sr2_n _ (by omega)).trans hv) dX4_insert_81 ?_
                refine as_order C hh hq (by omega) dX4_insert_82 (fun H locs hh => ?_)
                rw [rs_same, rs_rs, sr2_s _ (by omega) (by omega) hv] at hh
                refine r_iincD C dX4_insert_83 (by omega) rfl rfl ?_
                refine r_goto (tgt := 61) C dX4_insert_86 (by decide) ?_
                exact ih61 (a - 1) H locs (by omega) (by omega) (by omega) hh
          rw [show R = rs R 6 (sr2 (R 6) (R 0 0 0) (R 0 0 0)) by rw [sr2_0]; funext k; by_cases hk : k = 6 <;> simp [rs, hk]] at hh
          exact lp61 (R 0 0 0 + 1) (R 0 0 0) _ _ (by omega) (by omega) (by omega) hh
        · exact r_throw C E hh th_IS (is := 66) (text := "no more pages") (by decide) dX4_insert_45 dX4_insert_48 dX4_insert_49 dX4_insert_51 dX4_insert_54 (by decide) (by decide) (Nat.le_of_ble_eq_true rfl) (by omega) (by omega) ⟨Or.inr (Or.inr ⟨rfl, ⟨r1, r2⟩, by omega⟩), rfl⟩
    · exact r_throw C E hh th_IX (is := 53) (text := "place is out of range") (by decide) dX4_insert_12 dX4_insert_15 dX4_insert_16 dX4_insert_18 dX4_insert_21 (by decide) (by decide) (Nat.le_of_ble_eq_true rfl) (by omega) (by omega) ⟨Or.inl ⟨rfl, by first | exact fun z => h9 ((rg_le (by omega)).mp z.2) | exact fun z => Int32.not_lt.mpr z.1 h1⟩, rfl⟩

