/-! ===== the class: new plates and pages ===== -/
theorem f_set_set (w : fV) (t : fT) (e e' : va_E) : f_set (f_set w t e) t e' = f_set w t e' := by
  funext t'
  by_cases h : t' = t
  · subst h; simp only [f_set, if_pos]; cases w t' <;> rfl
  · rw [f_set_ne h, f_set_ne h, f_set_ne h]
theorem f_set_add (w : fV) {t t2 : fT} (h : t ≠ t2) (q : Nat × va_E) (e : va_E) : f_set (f_add w t2 q) t e = f_add (f_set w t e) t2 q := by
  funext t'
  by_cases h1 : t' = t
  · subst h1
    rw [f_add_ne h]
    simp [f_set, f_add_ne h]
  · rw [f_set_ne h1]
    by_cases h2 : t' = t2
    · subst h2; rw [f_add_self, f_add_self]
    · rw [f_add_ne h2, f_add_ne h2, f_set_ne h1]
theorem f_set_addS (w : fV) (t : fT) (a : Nat) (e e' : va_E) : f_set (f_add w t (a, e)) t e' = f_add w t (a, e') := by
  funext t'
  by_cases h : t' = t
  · subst h; rw [f_set_self f_add_self, f_add_self]
  · rw [f_set_ne h, f_add_ne h, f_add_ne h]
def adS (ad : Nat → Nat → Nat) (k m a : Nat) : Nat → Nat → Nat := fun i j => if i = k then (if j = m then a else ad i j) else ad i j
set_option maxHeartbeats 4000000 in
set_option maxRecDepth 100000 in
theorem c_X3_init {l : Launch} (hl : l.stackTraces = false) (Γ : fG) (B0 : Nat) (w : fV) (t t2 : fT) (a : Nat) (ht : w t = some (a, .inr (3, [.null, .int 0, .int 0]))) (h2 : w t2 = none) (hne : t ≠ t2) : f_Met l yX3_init cX3_init 1 none 1 1 16 20 Γ B0 [.ref a] (w) (f_rV (fun w9 => ∃ a2, w9 = f_add (f_set w t (.inr (3, [.ref a2, .int 0, .int 0]))) t2 (a2, .inl (Γ.2 2, 16, .inr (.inl (fun _ => 0)))))) f_no := by
  refine f_of hl (by decide) rfl (Nat.le_of_ble_eq_true rfl) (fun X9 C E hh hnm => ?_)
  generalize (f_s X9).heap = H, ([] : List Loc) = locs at hh ⊢
  refine r_aload_n C dX3_init_0 rfl ?_
  refine r_objInit C oi_X3_3 (by decide) (by decide) (Nat.le_of_ble_eq_true rfl) dX3_init_1 ?_
  refine r_aload_n C dX3_init_4 rfl ?_
  refine r_bipush C (nI 16) dX3_init_5 rfl ?_
  refine r_newa (t2) C hh (h2) 2 rfl rfl (fun _ z9 => by cases z9) ac_long (16, .inr (.inl (fun _ => 0))) (fun _ => rfl) (by decide) (by decide) (by omega) (by omega) dX3_init_7 (fun H1 hz9 hh => ?_)
  generalize H.size = a2 at hh ⊢
  refine r_putF C hh (t := t) ((f_add_ne hne).trans ht) rfl hinX3 tyX3 tyX3_ok nmX3 0 (by decide) fl_X3_9 rfl hnm.1 rfl (tyX3_ok 0 (by decide)) rfl rfl (Nat.le_of_ble_eq_true rfl) dX3_init_9 (fun H locs hh => ?_)
  rw [f_set_add w hne] at hh
  exact r_vret C E hh dX3_init_12 (by omega) (by omega) ⟨rfl, a2, rfl⟩

set_option maxHeartbeats 4000000 in
set_option maxRecDepth 100000 in
theorem c_X2_init {l : Launch} (hl : l.stackTraces = false) (Γ : fG) (B0 : Nat) (w : fV) (t t2 : fT) (a : Nat) (x y z : Nat) (ht : w t = some (a, .inr (2, [.int 0, .null, .int 0, .int 0, .int 0]))) (h2 : w t2 = none) (hne : t ≠ t2) : f_Met l yX2_init cX2_init 4 none 1 1 4 20 Γ B0 [.ref a, .int (nI (x)), .int (nI (y)), .int (nI (z))] (w) (f_rV (fun w9 => ∃ a2, w9 = f_add (f_set w t (.inr (2, [.int (nI x), .ref a2, .int (nI y), .int (nI z), .int (nI 1)]))) t2 (a2, .inl (Γ.2 0, 4, .inl (fun _ => 0))))) f_no := by
  refine f_of hl (by decide) rfl (Nat.le_of_ble_eq_true rfl) (fun X9 C E hh hnm => ?_)
  generalize (f_s X9).heap = H, ([] : List Loc) = locs at hh ⊢
  refine r_aload_n C dX2_init_0 rfl ?_
  refine r_objInit C oi_X2_3 (by decide) (by decide) (Nat.le_of_ble_eq_true rfl) dX2_init_1 ?_
  refine r_aload_n C dX2_init_4 rfl ?_
  refine r_iload_n C dX2_init_5 rfl ?_
  refine r_putF C hh (t := t) ht rfl hinX2 tyX2 tyX2_ok nmX2 0 (by decide) fl_X2_9 rfl hnm.1 rfl (tyX2_ok 0 (by decide)) rfl rfl (Nat.le_of_ble_eq_true rfl) dX2_init_6 (fun H locs hh => ?_)
  have ht1 := f_set_self (e := .inr (2, [.int (nI x), .null, .int 0, .int 0, .int 0])) ht
  refine r_aload_n C dX2_init_9 rfl ?_
  refine r_iload_n C dX2_init_10 rfl ?_
  refine r_putf C hh (t := t) ht1 rfl hinX2 tyX2 tyX2_ok nmX2 2 (by decide) fl_X2_15 rfl (tyX2_ok 2 (by decide)) rfl rfl (Nat.le_of_ble_eq_true rfl) dX2_init_11 (fun H locs hh => ?_)
  rw [f_set_set] at hh
  have ht2 := f_set_self (e := .inr (2, [.int (nI x), .null, .int (nI y), .int 0, .int 0])) ht
  refine r_aload_n C dX2_init_14 rfl ?_
  refine r_iload_n C dX2_init_15 rfl ?_
  refine r_putf C hh (t := t) ht2 rfl hinX2 tyX2 tyX2_ok nmX2 3 (by decide) fl_X2_18 rfl (tyX2_ok 3 (by decide)) rfl rfl (Nat.le_of_ble_eq_true rfl) dX2_init_16 (fun H locs hh => ?_)
  rw [f_set_set] at hh
  have ht3 := f_set_self (e := .inr (2, [.int (nI x), .null, .int (nI y), .int (nI z), .int 0])) ht
  refine r_aload_n C dX2_init_19 rfl ?_
  refine r_iconst C (nI 1) dX2_init_20 rfl ?_
  refine r_putf C hh (t := t) ht3 rfl hinX2 tyX2 tyX2_ok nmX2 4 (by decide) fl_X2_21 rfl (tyX2_ok 4 (by decide)) rfl rfl (Nat.le_of_ble_eq_true rfl) dX2_init_21 (fun H locs hh => ?_)
  rw [f_set_set] at hh
  have ht4 := f_set_self (e := .inr (2, [.int (nI x), .null, .int (nI y), .int (nI z), .int (nI 1)])) ht
  refine r_aload_n C dX2_init_24 rfl ?_
  refine r_iconst C (nI 4) dX2_init_25 rfl ?_
  refine r_newa (t2) C hh (((f_set_ne hne.symm).trans h2)) 0 rfl rfl (fun _ z9 => by cases z9) ac_int (4, .inl (fun _ => 0)) (fun _ => rfl) (by decide) (by decide) (by omega) (by omega) dX2_init_26 (fun H1 hz9 hh => ?_)
  generalize H.size = a2 at hh ⊢
  refine r_putF C hh (t := t) ((f_add_ne hne).trans ht4) rfl hinX2 tyX2 tyX2_ok nmX2 1 (by decide) fl_X2_24 rfl hnm.1 rfl (tyX2_ok 1 (by decide)) rfl rfl (Nat.le_of_ble_eq_true rfl) dX2_init_28 (fun H locs hh => ?_)
  rw [f_set_add _ hne, f_set_set] at hh
  exact r_vret C E hh dX2_init_31 (by omega) (by omega) ⟨rfl, a2, rfl⟩

theorem lN0 : (0 : Int64) = lN (cM 0) := rfl
theorem nI00 : (0 : Int32) = nI 0 := rfl
def npR (R : fR) (s : Nat) : fR := rs (rs (rs (rs R 8 (u1 (R 8) s 1)) 17 (u1 (R 17) s 0)) 18 (u1 (R 18) s 0)) 19 (fun t j => if t = s then 0 else R 19 t j)
def npA (ad : Nat → Nat → Nat) (s a1 a2 : Nat) : Nat → Nat → Nat := adS (adS ad 16 s a1) 17 s a2
theorem fw_ad (Γ : fG) (ad : Nat → Nat → Nat) (P : fR) {k m a : Nat} (hk : k ≠ 0) : fw Γ (adS ad k m a) P = fw Γ ad P := by
  have h : ∀ j, adS ad k m a 0 j = ad 0 j := fun j => by simp [adS, Ne.symm hk]
  funext t
  unfold fw
  split <;> simp [h]
theorem np_world (Γ : fG) (ad : Nat → Nat → Nat) (F : Nat → fO) (R : fR) (M : Nat → fO) {s a1 a2 : Nat} (h8 : R 8 s 0 = 0) :
    f_set (f_add (f_add (wj F (xw Γ ad R) M) (.inr (.inl (16, s))) (a1, .inr (3, [.ref a2, .int 0, .int 0]))) (.inr (.inl (17, s))) (a2, .inl (Γ.2 2, 16, .inr (.inl (fun _ => 0))))) (.inr (.inl (4, 0))) (.inl (Γ.2 5, 128, .inr (.inr (.inr (.inr (va_up (fun i => if R 8 i 0 = 0 then none else some (ad 16 i)) s (some a1))))))) = wj F (xw Γ (npA ad s a1 a2) (npR R s)) M := by
  funext t
  match t with
  | .inl z => simp [f_set, f_add, wj]
  | .inr (.inr z) => simp [f_set, f_add, wj]
  | .inr (.inl (i, j)) =>
    by_cases h4 : (i, j) = (4, 0)
    · cases h4
      simp only [f_set, f_add, wj, xw]
      simp only [if_true, reduceCtorEq, if_false, Option.map, Sum.inr.injEq, Sum.inl.injEq, Prod.mk.injEq, Nat.reduceEqDiff, false_and, npA, adS]
      congr 5
      refine congrArg (fun f9 => (Sum.inr (Sum.inr (Sum.inr (Sum.inr f9))))) ?_
      funext x
      by_cases hx : x = s
      · subst hx; simp [va_up, npR, rs, u1, adS]
      · simp [va_up, npR, rs, u1, adS, hx]
    · by_cases h6 : (i, j) = (16, s)
      · cases h6
        simp [f_set, f_add, wj, xw, npA, adS, npR, rs, u1, nI00]
      · by_cases h7 : (i, j) = (17, s)
        · cases h7
          simp [f_set, f_add, wj, xw, npA, adS, npR, rs, u1, lN0]
        · have e1 : f_set (f_add (f_add (wj F (xw Γ ad R) M) (.inr (.inl (16, s))) (a1, .inr (3, [.ref a2, .int 0, .int 0]))) (.inr (.inl (17, s))) (a2, .inl (Γ.2 2, 16, .inr (.inl (fun _ => 0))))) (.inr (.inl (4, 0))) (.inl (Γ.2 5, 128, .inr (.inr (.inr (.inr (va_up (fun i => if R 8 i 0 = 0 then none else some (ad 16 i)) s (some a1))))))) (.inr (.inl (i, j))) = xw Γ ad R (i, j) := by
            rw [f_set_ne (fun z => h4 (by injection (Sum.inr.inj z))), f_add_ne (fun z => h7 (by injection (Sum.inr.inj z))), f_add_ne (fun z => h6 (by injection (Sum.inr.inj z)))]
            rfl
          rw [e1]
          show xw Γ ad R (i, j) = xw Γ (npA ad s a1 a2) (npR R s) (i, j)
          unfold xw
          split <;> first | rfl | simp_all [npA, adS, npR, rs, u1]
theorem fw_np (Γ : fG) (ad : Nat → Nat → Nat) (P : fR) (s a1 a2 : Nat) : fw Γ (npA ad s a1 a2) P = fw Γ ad P := by
  unfold npA; rw [fw_ad _ _ _ (by decide), fw_ad _ _ _ (by decide)]
theorem npA_id (ad : Nat → Nat → Nat) (s : Nat) : npA ad s (ad 16 s) (ad 17 s) = ad := by
  funext i j
  unfold npA adS
  by_cases h1 : i = 17
  · subst h1
    by_cases h2 : j = s
    · subst h2; simp
    · simp [h2]
  · by_cases h3 : i = 16
    · subst h3
      by_cases h2 : j = s
      · subst h2; simp
      · simp [h2]
    · simp [h1, h3]
def mpP (P R : fR) (s i c : Nat) : fR := if R 8 (slot s i c) 0 = 0 then npR (lkF P R s i c) (slot s i c) else lkF P R s i c
def mpN (P R : fR) (s i c : Nat) : Bool := decide (lkN P R s i c = 0) || gd (lkF P R s i c) (slot s i c)
def mpR (P R : fR) (s i c : Nat) : fR := if mpN P R s i c = true then lkF P R s i c else rs (egR (mpP P R s i c) (slot s i c) (lkN P R s i c)) 4 (k0 (R 4 0 0 + 1))
theorem mpN_t {P R : fR} {s i c : Nat} (h8 : ¬ R 8 (slot s i c) 0 = 0) (h : lkN P R s i c = 0 ∨ gdp (lkF P R s i c) (slot s i c) = true) : mpN P R s i c = true := by
  unfold mpN gd
  rw [if_neg (show ¬ lkF P R s i c 8 (slot s i c) 0 = 0 from h8)]
  rcases h with h | h
  · simp [h]
  · simp [h]
theorem fsX3 : ∀ j, j < 3 → defaultValue (tyX3 j) = vp_V [.null, .int 0, .int 0] j
  | 0, _ => rfl
  | 1, _ => rfl
  | 2, _ => rfl
  | n + 3, h => absurd h (by omega)
theorem fsX2 : ∀ j, j < 5 → defaultValue (tyX2 j) = vp_V [.int 0, .null, .int 0, .int 0, .int 0] j
  | 0, _ => rfl
  | 1, _ => rfl
  | 2, _ => rfl
  | 3, _ => rfl
  | 4, _ => rfl
  | n + 5, h => absurd h (by omega)
set_option maxHeartbeats 4000000 in
set_option maxRecDepth 100000 in
theorem c_X4_makePlateIfNeeded {l : Launch} (hl : l.stackTraces = false) (Γ : fG) (B0 : Nat) (ad : Nat → Nat → Nat) (P R : fR) (M : Nat → fO) (s i c : Nat) (hs : s < 16) (hi : i < 2) (hc : c < 4) (hP : FI P) (hI : XI R) (h4 : R 4 0 0 ≤ 900000) : f_Met l yX4_makePlateIfNeeded cX4_makePlateIfNeeded 5 none 3 2 19 70 Γ B0 [.ref (ad 1 0), .int (nI (s)), .int (nI (i)), .int (nI (c))] (wj (fw Γ ad P) (xw Γ ad R) M) (f_rV (fun w9 => ∃ a1 a2, w9 = wj (fw Γ (npA ad (slot s i c) a1 a2) P) (xw Γ (npA ad (slot s i c) a1 a2) (mpR P R s i c)) M)) f_no := by
  refine f_of hl (by decide) rfl (Nat.le_of_ble_eq_true rfl) (fun X9 C E hh hnm => ?_)
  generalize (f_s X9).heap = H, ([] : List Loc) = locs at hh ⊢
  have hrc := FI_rc hP
  have hn9 := lkn_le P R s i c (P 2 0 0 * P 3 0 0)
  have hX := XI_lkF hP hI s i c
  have i9 := hI.2.2.2.2.2.2.2.2.2.1 (slot s i c)
  refine r_aload_n C dX4_makePlateIfNeeded_0 rfl ?_
  refine r_iload_n C dX4_makePlateIfNeeded_1 rfl ?_
  refine r_iload_n C dX4_makePlateIfNeeded_2 rfl ?_
  refine r_iload_n C dX4_makePlateIfNeeded_3 rfl ?_
  refine r_callV C E hh (c_X4_lookUp E.2.1 Γ B0 ad P R M s i c hs hi hc hP hI) lk_X4_271 (tr := .inr (.inl (0, 0))) rfl rfl rfl rfl (Nat.le_of_ble_eq_true rfl) dX4_makePlateIfNeeded_4 ⟨by decide, by decide⟩ ⟨by omega, by omega⟩ (fun _ _ z9 => False.elim z9) (kk_to (fun H locs hs9 hh => ?_))
  have e3 : lkF P R s i c 3 0 0 = lkN P R s i c := rfl
  refine r_iload_n C dX4_makePlateIfNeeded_7 rfl ?_
  refine r_iload_n C dX4_makePlateIfNeeded_8 rfl ?_
  refine r_iload_n C dX4_makePlateIfNeeded_9 rfl ?_
  refine r_callS C E hh (c_X4_slotOf E.2.1 Γ B0 _ s i c) lk_X4_274 rfl rfl (Nat.le_of_ble_eq_true rfl) dX4_makePlateIfNeeded_10 ⟨by decide, by decide⟩ ⟨by omega, by omega⟩ (fun _ _ z9 => False.elim z9) (kk_is (fun H locs hs9 hh => ?_))
  rw [show (s * 2 + i) * 4 + c = slot s i c from rfl]
  have hsl : slot s i c < 128 := by unfold slot; omega
  by_cases h8 : R 8 (slot s i c) 0 = 0
  · refine r_istore C dX4_makePlateIfNeeded_13 rfl rfl ?_
    refine r_aload_n C dX4_makePlateIfNeeded_15 rfl ?_
    refine g_X4_297 C hh dX4_makePlateIfNeeded_16 ?_
    rw [e3]
    refine r_if_eqN (tgt := 36) C dX4_makePlateIfNeeded_19 (by decide) (by unfold lkN; omega) (fun h19 => ?_) (fun h19 => ?_)
    · exact r_vret C E hh dX4_makePlateIfNeeded_36 (by omega) (by omega) ⟨rfl, ad 16 (slot s i c), ad 17 (slot s i c), by rw [npA_id]; unfold mpR; rw [if_pos (by simp [mpN, h19])]⟩
    · refine r_aload_n C dX4_makePlateIfNeeded_22 rfl ?_
      refine r_aload_n C dX4_makePlateIfNeeded_23 rfl ?_
      refine g_X4_39 C hh dX4_makePlateIfNeeded_24 ?_
      refine r_iload C dX4_makePlateIfNeeded_27 rfl ?_
      refine al_rack_null C hh hsl h8 dX4_makePlateIfNeeded_29 ?_
      refine r_callV C E hh (c_X4_good_null E.2.1 Γ B0 ad (lkF P R s i c) _ M) lk_X4_277 (tr := .inr (.inl (0, 0))) rfl rfl rfl rfl (Nat.le_of_ble_eq_true rfl) dX4_makePlateIfNeeded_30 ⟨by decide, by decide⟩ ⟨by omega, by omega⟩ (fun _ _ z9 => False.elim z9) (kk_is (fun H locs hs9 hh => ?_))
      refine r_if_eqB (tgt := 37) C dX4_makePlateIfNeeded_33 (by decide) (fun h33 => ?_) (fun h33 => ?_)
      · refine r_aload_n C dX4_makePlateIfNeeded_37 rfl ?_
        refine g_X4_39 C hh dX4_makePlateIfNeeded_38 ?_
        refine r_iload C dX4_makePlateIfNeeded_41 rfl ?_
        refine al_rack_null C hh hsl h8 dX4_makePlateIfNeeded_43 ?_
        refine r_ifnonnull_null C dX4_makePlateIfNeeded_44 ?_
        refine r_aload_n C dX4_makePlateIfNeeded_47 rfl ?_
        refine g_X4_39 C hh dX4_makePlateIfNeeded_48 ?_
        refine r_iload C dX4_makePlateIfNeeded_51 rfl ?_
        refine r_new (.inr (.inl (16, slot s i c))) C hh (show xw Γ ad (lkF P R s i c) (16, slot s i c) = none by simp [xw, show lkF P R s i c 8 (slot s i c) 0 = 0 from h8]) (ci := 3) rfl hinX3 tyX3 tyX3_ok kl_X4_37 is_X3 in_X3 [.null, .int 0, .int 0] (fun j9 hj9 => fsX3 j9 hj9) (by omega) (by omega) dX4_makePlateIfNeeded_53 (fun H1 hz9 hh => ?_)
        generalize H.size = a1 at hh ⊢
        refine r_dup C dX4_makePlateIfNeeded_56 rfl ?_
        refine r_callI C E hh (c_X3_init E.2.1 Γ B0 _ (.inr (.inl (16, slot s i c))) (.inr (.inl (17, slot s i c))) a1 f_add_self ((f_add_ne (by simp)).trans (show xw Γ ad (lkF P R s i c) (17, slot s i c) = none by simp [xw, show lkF P R s i c 8 (slot s i c) 0 = 0 from h8])) (by simp)) lk_X4_300 rfl rfl (Nat.le_of_ble_eq_true rfl) dX4_makePlateIfNeeded_57 ⟨by decide, by decide⟩ ⟨by omega, by omega⟩ (kk_rV (fun w9 H locs hs9 hp9 hh => ?_))
        obtain ⟨a2, rfl⟩ := hp9
        rw [f_set_addS] at hh
        refine r_aast C hh (t := .inr (.inl (4, 0))) (ti := 5) (tv := .inr (.inl (16, slot s i c))) (r := (RX3, TX3, 3)) ((f_add_ne (by simp)).trans ((f_add_ne (by simp)).trans rfl)) rfl ((f_add_ne (by simp)).trans f_add_self) rfl (by decide) hsl dX4_makePlateIfNeeded_60 (fun H locs hh => ?_)
        rw [show (fun i_1 => if lkF P R s i c 8 i_1 0 = 0 then none else some (ad 16 i_1)) = (fun i_1 => if lkF P R s i c 8 i_1 0 = 0 then none else some (ad 16 i_1)) from rfl, np_world Γ ad _ (lkF P R s i c) M (show lkF P R s i c 8 (slot s i c) 0 = 0 from h8), ← fw_np Γ ad P (slot s i c) a1 a2] at hh
        have hq9 : (npR (lkF P R s i c) (slot s i c)) 8 (slot s i c) 0 ≠ 0 := by simp [npR, rs, u1]
        rw [show ad 1 0 = npA ad (slot s i c) a1 a2 1 0 from rfl]
        refine r_aload_n C dX4_makePlateIfNeeded_61 rfl ?_
        refine g_X4_39 C hh dX4_makePlateIfNeeded_62 ?_
        refine r_iload C dX4_makePlateIfNeeded_65 rfl ?_
        refine al_rack C hh hsl hq9 dX4_makePlateIfNeeded_67 ?_
        refine r_aload_n C dX4_makePlateIfNeeded_68 rfl ?_
        refine g_X4_43 C hh dX4_makePlateIfNeeded_69 ?_
        refine r_aload_n C dX4_makePlateIfNeeded_72 rfl ?_
        refine g_X4_297 C hh dX4_makePlateIfNeeded_73 ?_
        refine r_callV C E hh (c_X3_engrave E.2.1 Γ B0 (npA ad (slot s i c) a1 a2) (npR (lkF P R s i c) (slot s i c)) _ M (slot s i c) (lkN P R s i c) hq9 (by unfold lkN; omega)) lk_X4_301 (tr := .inr (.inl (16, slot s i c))) (xw_plate (Γ := Γ) (ad := (npA ad (slot s i c) a1 a2)) hq9) rfl rfl rfl (Nat.le_of_ble_eq_true rfl) dX4_makePlateIfNeeded_76 ⟨by decide, by decide⟩ ⟨by omega, by omega⟩ (fun _ _ z9 => False.elim z9) (kk_to (fun H locs hs9 hh => ?_))
        refine r_aload_n C dX4_makePlateIfNeeded_79 rfl ?_
        refine r_dup C dX4_makePlateIfNeeded_80 rfl ?_
        refine g_X4_265 C hh dX4_makePlateIfNeeded_81 ?_
        refine r_iconst C (nI 1) dX4_makePlateIfNeeded_84 rfl ?_
        refine r_iaddN C dX4_makePlateIfNeeded_85 ?_
        refine p_X4_265 C hh dX4_makePlateIfNeeded_86 (fun H locs hh => ?_)
        exact r_vret C E hh dX4_makePlateIfNeeded_89 (by omega) (by omega) ⟨rfl, a1, a2, by unfold mpR; rw [if_neg (by simp [mpN, h19, gd, show lkF P R s i c 8 (slot s i c) 0 = 0 from h8])]; unfold mpP; rw [if_pos h8]; rfl⟩
      · exact nomatch h33
  refine r_istore C dX4_makePlateIfNeeded_13 rfl rfl ?_
  refine r_aload_n C dX4_makePlateIfNeeded_15 rfl ?_
  refine g_X4_297 C hh dX4_makePlateIfNeeded_16 ?_
  rw [e3]
  refine r_if_eqN (tgt := 36) C dX4_makePlateIfNeeded_19 (by decide) (by unfold lkN; omega) (fun h19 => ?_) (fun h19 => ?_)
  · exact r_vret C E hh dX4_makePlateIfNeeded_36 (by omega) (by omega) ⟨rfl, ad 16 (slot s i c), ad 17 (slot s i c), by rw [npA_id]; unfold mpR; rw [if_pos (mpN_t h8 (by first | exact Or.inl h19 | exact Or.inr h33))]⟩
  · refine r_aload_n C dX4_makePlateIfNeeded_22 rfl ?_
    refine r_aload_n C dX4_makePlateIfNeeded_23 rfl ?_
    refine g_X4_39 C hh dX4_makePlateIfNeeded_24 ?_
    refine r_iload C dX4_makePlateIfNeeded_27 rfl ?_
    refine al_rack C hh hsl h8 dX4_makePlateIfNeeded_29 ?_
    refine r_callV C E hh (c_X4_good E.2.1 Γ B0 ad (lkF P R s i c) _ M (slot s i c) (show lkF P R s i c 8 (slot s i c) 0 ≠ 0 from h8) hX) lk_X4_277 (tr := .inr (.inl (0, 0))) rfl rfl rfl rfl (Nat.le_of_ble_eq_true rfl) dX4_makePlateIfNeeded_30 ⟨by decide, by decide⟩ ⟨by omega, by omega⟩ (fun _ _ z9 => False.elim z9) (kk_is (fun H locs hs9 hh => ?_))
    refine r_if_eqB (tgt := 37) C dX4_makePlateIfNeeded_33 (by decide) (fun h33 => ?_) (fun h33 => ?_)
    · refine r_aload_n C dX4_makePlateIfNeeded_37 rfl ?_
      refine g_X4_39 C hh dX4_makePlateIfNeeded_38 ?_
      refine r_iload C dX4_makePlateIfNeeded_41 rfl ?_
      refine al_rack C hh hsl h8 dX4_makePlateIfNeeded_43 ?_
      refine r_ifnonnull (tgt := 61) C dX4_makePlateIfNeeded_44 (by decide) ?_
      refine r_aload_n C dX4_makePlateIfNeeded_61 rfl ?_
      refine g_X4_39 C hh dX4_makePlateIfNeeded_62 ?_
      refine r_iload C dX4_makePlateIfNeeded_65 rfl ?_
      refine al_rack C hh hsl h8 dX4_makePlateIfNeeded_67 ?_
      refine r_aload_n C dX4_makePlateIfNeeded_68 rfl ?_
      refine g_X4_43 C hh dX4_makePlateIfNeeded_69 ?_
      refine r_aload_n C dX4_makePlateIfNeeded_72 rfl ?_
      refine g_X4_297 C hh dX4_makePlateIfNeeded_73 ?_
      refine r_callV C E hh (c_X3_engrave E.2.1 Γ B0 ad (lkF P R s i c) _ M (slot s i c) (lkN P R s i c) (show lkF P R s i c 8 (slot s i c) 0 ≠ 0 from h8) (by unfold lkN; omega)) lk_X4_301 (tr := .inr (.inl (16, slot s i c))) (xw_plate (Γ := Γ) (ad := ad) (show lkF P R s i c 8 (slot s i c) 0 ≠ 0 from h8)) rfl rfl rfl (Nat.le_of_ble_eq_true rfl) dX4_makePlateIfNeeded_76 ⟨by decide, by decide⟩ ⟨by omega, by omega⟩ (fun _ _ z9 => False.elim z9) (kk_to (fun H locs hs9 hh => ?_))
      refine r_aload_n C dX4_makePlateIfNeeded_79 rfl ?_
      refine r_dup C dX4_makePlateIfNeeded_80 rfl ?_
      refine g_X4_265 C hh dX4_makePlateIfNeeded_81 ?_
      refine r_iconst C (nI 1) dX4_makePlateIfNeeded_84 rfl ?_
      refine r_iaddN C dX4_makePlateIfNeeded_85 ?_
      refine p_X4_265 C hh dX4_makePlateIfNeeded_86 (fun H locs hh => ?_)
      exact r_vret C E hh dX4_makePlateIfNeeded_89 (by omega) (by omega) ⟨rfl, ad 16 (slot s i c), ad 17 (slot s i c), by rw [npA_id]; unfold mpR; rw [if_neg (by simp [mpN, h19, gd, show ¬ lkF P R s i c 8 (slot s i c) 0 = 0 from h8, h33])]; unfold mpP; rw [if_neg h8]; rfl⟩
    · exact r_vret C E hh dX4_makePlateIfNeeded_36 (by omega) (by omega) ⟨rfl, ad 16 (slot s i c), ad 17 (slot s i c), by rw [npA_id]; unfold mpR; rw [if_pos (mpN_t h8 (by first | exact Or.inl h19 | exact Or.inr h33))]⟩

