/-! ===== the desk's constructor ===== -/
def qN : va_E → fO := fun _ => none
def xi (Γ : fG) (ad : Nat → Nat → Nat) (s j : Nat) : Nat × Nat → fO := fun t =>
  if t = (0, 0) then some (ad 1 0, .inr (4, [if 1 ≤ s then .ref (ad 2 0) else .null, .int 0, .int 0, if 2 ≤ s then .ref (ad 0 0) else .null, if 3 ≤ s then .ref (ad 3 0) else .null, .int 0, if 4 ≤ s then .ref (ad 4 0) else .null, if 5 ≤ s then .ref (ad 5 0) else .null, if 6 ≤ s then .ref (ad 6 0) else .null, .int 0, .int 0, .int 0]))
  else if t = (1, 0) then (if 1 ≤ s then some (ad 2 0, .inl (Γ.2 3, 64, .inr (.inr (.inr (.inr (fun _ => none)))))) else none)
  else if t = (2, 0) then (if 3 ≤ s then some (ad 3 0, .inl (Γ.2 4, 8, .inr (.inr (.inr (.inr (fun i => if i < j then some (ad 10 i) else none)))))) else none)
  else if t = (3, 0) then (if 4 ≤ s then some (ad 4 0, .inl (Γ.2 1, 16, .inl (fun _ => 0))) else none)
  else if t = (4, 0) then (if 5 ≤ s then some (ad 5 0, .inl (Γ.2 5, 128, .inr (.inr (.inr (.inr (fun _ => none)))))) else none)
  else if t = (5, 0) then (if 6 ≤ s then some (ad 6 0, .inl (Γ.2 2, 16, .inr (.inl (fun _ => 0)))) else none)
  else if t.1 = 10 ∧ t.2 < j then some (ad 10 t.2, .inr (1, [.int 0, .int 0, .int 0])) else none
theorem xi_1 (Γ : fG) (ad : Nat → Nat → Nat) (a : Nat) : ∀ t : Nat × Nat, t ≠ (0, 0) → t ≠ (1, 0) → xi Γ (adS ad 2 0 a) 1 0 t = xi Γ ad 0 0 t := by
  intro t h0 h1
  simp [xi, adS, h0, h1]
theorem xi_2 (Γ : fG) (ad : Nat → Nat → Nat) (a : Nat) : ∀ t : Nat × Nat, t ≠ (0, 0) → xi Γ (adS ad 0 0 a) 2 0 t = xi Γ ad 1 0 t := by
  intro t h0
  simp [xi, adS, h0]
theorem xi_3 (Γ : fG) (ad : Nat → Nat → Nat) (a : Nat) : ∀ t : Nat × Nat, t ≠ (0, 0) → t ≠ (2, 0) → xi Γ (adS ad 3 0 a) 3 0 t = xi Γ ad 2 0 t := by
  intro t h0 h1
  simp [xi, adS, h0, h1]
theorem xi_4 (Γ : fG) (ad : Nat → Nat → Nat) (a : Nat) : ∀ t : Nat × Nat, t ≠ (0, 0) → t ≠ (3, 0) → xi Γ (adS ad 4 0 a) 4 8 t = xi Γ ad 3 8 t := by
  intro t h0 h1
  simp [xi, adS, h0, h1]
theorem xi_5 (Γ : fG) (ad : Nat → Nat → Nat) (a : Nat) : ∀ t : Nat × Nat, t ≠ (0, 0) → t ≠ (4, 0) → xi Γ (adS ad 5 0 a) 5 8 t = xi Γ ad 4 8 t := by
  intro t h0 h1
  simp [xi, adS, h0, h1]
theorem xi_6 (Γ : fG) (ad : Nat → Nat → Nat) (a : Nat) : ∀ t : Nat × Nat, t ≠ (0, 0) → t ≠ (5, 0) → xi Γ (adS ad 6 0 a) 6 8 t = xi Γ ad 5 8 t := by
  intro t h0 h1
  simp [xi, adS, h0, h1]
theorem xi_f (Γ : fG) (ad : Nat → Nat → Nat) (a j : Nat) : ∀ t : Nat × Nat, t ≠ (2, 0) → t ≠ (10, j) → xi Γ (adS ad 10 j a) 3 (j + 1) t = xi Γ ad 3 j t := by
  intro t h0 h1
  obtain ⟨t1, t2⟩ := t
  unfold xi
  by_cases h10 : t1 = 10
  · subst h10
    have h2 : t2 ≠ j := fun z => h1 (by rw [z])
    have e : (t2 < j + 1) = (t2 < j) := propext (by omega)
    simp [adS, h2, e]
  · simp [adS, h10, h0]
theorem xi_xw (Γ : fG) (ad : Nat → Nat → Nat) : ∀ t, t ≠ (2, 0) → xw Γ ad zP t = xi Γ ad 6 8 t := by
  intro t h20
  symm
  unfold xw
  split
  · rfl
  · rfl
  · exact absurd rfl h20
  · rfl
  · rfl
  · show xi Γ ad 6 8 (5, 0) = (some (ad 6 0, .inl (Γ.2 2, 16, .inr (.inl (fun _ => lN (cM 0))))) : fO)
    rw [← lN0]
    rfl
  · rename_i f
    unfold xi
    by_cases h : f < 8
    · simp [h]; exact ⟨rfl, nI00, nI00⟩
    · simp [h]
  · rename_i q
    simp [xi, zP]
  · rename_i q
    simp [xi, zP]
  · rename_i q
    simp [xi, zP]
  · rename_i q
    simp [xi, zP]
  · rename_i h0 h1 h2 h3 h4 h5 h10 h14 h15 h16 h17
    obtain ⟨t1, t2⟩ := t
    unfold xi
    rw [if_neg (fun z => h0 z), if_neg (fun z => h1 z), if_neg (fun z => h2 z), if_neg (fun z => h3 z), if_neg (fun z => h4 z), if_neg (fun z => h5 z), if_neg (fun z => h10 t2 (by rw [← z.1]))]
theorem xi_0 (Γ : fG) {ad : Nat → Nat → Nat} (s j : Nat) {c : Nat} (h : ad 1 0 = c) : xi Γ ad s j (0, 0) = some (c, .inr (4, [if 1 ≤ s then .ref (ad 2 0) else .null, .int 0, .int 0, if 2 ≤ s then .ref (ad 0 0) else .null, if 3 ≤ s then .ref (ad 3 0) else .null, .int 0, if 4 ≤ s then .ref (ad 4 0) else .null, if 5 ≤ s then .ref (ad 5 0) else .null, if 6 ≤ s then .ref (ad 6 0) else .null, .int 0, .int 0, .int 0])) := by subst h; rfl
theorem xi_z (Γ : fG) (ad : Nat → Nat → Nat) : xi Γ ad 3 0 (2, 0) = some (ad 3 0, .inl (Γ.2 4, 8, .inr (.inr (.inr (.inr (fun _ => none)))))) := by simp [xi]
theorem xi_up (ad : Nat → Nat → Nat) (j a : Nat) : (fun i => if i < j + 1 then some (adS ad 10 j a 10 i) else none) = va_up (fun i => if i < j then some (ad 10 i) else none) j (some a) := by
  funext i
  unfold adS va_up
  by_cases h : i = j
  · subst h; simp
  · have e : (i < j + 1) = (i < j) := propext (by omega)
    simp [h, e]
theorem xi_t (Γ : fG) (ad : Nat → Nat → Nat) (j a : Nat) : xi Γ (adS ad 10 j a) 3 (j + 1) (2, 0) = some (ad 3 0, .inl (Γ.2 4, 8, .inr (.inr (.inr (.inr (va_up (fun i => if i < j then some (ad 10 i) else none) j (some a))))))) := by
  rw [← xi_up]
  rfl
theorem xi_n (Γ : fG) (ad : Nat → Nat → Nat) (j a : Nat) : xi Γ (adS ad 10 j a) 3 (j + 1) (10, j) = some (a, .inr (1, [.int 0, .int 0, .int 0])) := by simp [xi, adS]
theorem xw_ext (Γ : fG) {ad ad' : Nat → Nat → Nat} (R : fR) (h0 : ad 0 0 = ad' 0 0) (h : ∀ i j, i ≠ 0 → ad i j = ad' i j) : xw Γ ad R = xw Γ ad' R := by
  have e14 : ad 14 = ad' 14 := by funext j; exact h 14 j (by decide)
  funext t
  unfold xw
  split <;> simp only [h0, e14, h 1 0 (by decide), h 2 0 (by decide), h 3 0 (by decide), h 4 0 (by decide), h 5 0 (by decide), h 6 0 (by decide), h 10 _ (by decide), h 14 _ (by decide), h 15 _ (by decide), h 16 _ (by decide), h 17 _ (by decide)]
theorem fsX0 : ∀ j, j < 10 → defaultValue (tyX0 j) = vp_V [.null, .null, .null, .null, .null, .null, .int 0, .int 0, .int 0, .int 0] j
  | 0, _ => rfl
  | 1, _ => rfl
  | 2, _ => rfl
  | 3, _ => rfl
  | 4, _ => rfl
  | 5, _ => rfl
  | 6, _ => rfl
  | 7, _ => rfl
  | 8, _ => rfl
  | 9, _ => rfl
  | n + 10, h => absurd h (by omega)
theorem fsX1 : ∀ j, j < 3 → defaultValue (tyX1 j) = vp_V [.int 0, .int 0, .int 0] j
  | 0, _ => rfl
  | 1, _ => rfl
  | 2, _ => rfl
  | n + 3, h => absurd h (by omega)
theorem f_HS_ext {Γ : fG} {B0 : Nat} {w : fV} {X9 : fX} {H : Heap} {locs : List Loc} {t : fT} {a n : Nat} {c : ClassId} {f g : Nat → Option Nat} (hh : f_HS Γ B0 w X9 H locs) (ht : w t = some (a, .inl (c, n, .inr (.inr (.inr (.inr f)))))) (hfg : ∀ i, i < n → f i = g i) : f_HS Γ B0 (f_set w t (.inl (c, n, .inr (.inr (.inr (.inr g)))))) X9 H locs := by
  have h1 : H[a]? = some (vp_cell c (n, .inr (.inr (.inr (.inr f))))) := hh.1.1 t _ ht
  have e : vp_cell c (n, .inr (.inr (.inr (.inr f)))) = vp_cell c (n, .inr (.inr (.inr (.inr g)))) := by
    show arrV c n (fun j => va_rf (f j)) = arrV c n (fun j => va_rf (g j))
    unfold arrV
    rw [show (fun j : Fin n => va_rf (f j.val)) = (fun j : Fin n => va_rf (g j.val)) by funext j; rw [hfg j.1 j.2]]
  rw [e] at h1
  exact ⟨hh.1.set ht h1 (fun _ _ => rfl), hh.2⟩
theorem xi_end {Γ : fG} {B0 : Nat} {F : Nat → fO} {M : Nat → fO} {ad : Nat → Nat → Nat} {X9 : fX} {H : Heap} {locs : List Loc} (hh : f_HS Γ B0 (wj F (xi Γ ad 6 8) M) X9 H locs) : f_HS Γ B0 (wj F (xw Γ ad zP) M) X9 H locs := by
  have h := f_HS_ext (g := fun i => some (ad 10 i)) (t := .inr (.inl (2, 0))) (a := ad 3 0) (n := 8) (c := Γ.2 4) (f := fun i => if i < 8 then some (ad 10 i) else none) hh rfl (fun i hi => if_pos hi)
  exact (congrArg (fun w9 => f_HS Γ B0 w9 X9 H locs) (wj_x rfl rfl (xi_xw Γ ad))).mp h
theorem wj_fi0 (Γ : fG) (X : Nat × Nat → fO) (M : Nat → fO) (a : Nat) : f_add (wj (fun _ => none) X M) (.inl 0) (a, .inr (0, [.null, .null, .null, .null, .null, .null, .int 0, .int 0, .int 0, .int 0])) = wj (fi Γ (fun _ => a) 0) X M := by
  refine f_add_eq rfl (fun t' ht => ?_)
  match t' with
  | .inr (.inl z) => rfl
  | .inr (.inr z) => rfl
  | .inl z =>
    have hz : z ≠ 0 := fun q => ht (by rw [q])
    show fi Γ (fun _ => a) 0 z = none
    unfold fi
    rw [if_neg hz, if_neg (by omega)]
set_option maxHeartbeats 4000000 in
set_option maxRecDepth 100000 in
theorem c_X4_init {l : Launch} (hl : l.stackTraces = false) (Γ : fG) (B0 : Nat) (ad : Nat → Nat → Nat) (M : Nat → fO) : f_Met l yX4_init cX4_init 2 none 5 20 382 147 Γ B0 [.ref (ad 1 0)] (wj (fun _ => none) (xi Γ ad 0 0) M) (f_rV (fun w9 => ∃ ad' : Nat → Nat → Nat, ad' 1 0 = ad 1 0 ∧ w9 = wj (fw Γ ad' (fbZ zP 1 0)) (xw Γ ad' zP) M)) f_no := by
  refine f_of hl (by decide) rfl (Nat.le_of_ble_eq_true rfl) (fun X9 C E hh hnm => ?_)
  generalize (f_s X9).heap = H, ([] : List Loc) = locs at hh ⊢
  refine r_aload_n C dX4_init_0 rfl ?_
  refine r_objInit C oi_X4_1 (by decide) (by decide) (Nat.le_of_ble_eq_true rfl) dX4_init_1 ?_
  refine r_aload_n C dX4_init_4 rfl ?_
  refine r_bipush C (nI 64) dX4_init_5 rfl ?_
  refine r_newq (.inr (.inl (1, 0))) C hh (rfl) 3 rfl kl_X4_9 (C.2.2.2.2.2.1.2.2.2.2.2.2.2.1) (by decide) (by omega) (by omega) dX4_init_7 (fun H1 hz9 hh => ?_)
  generalize H.size = z1 at hh ⊢
  refine r_putF C hh (t := .inr (.inl (0, 0))) ((f_add_ne (by decide)).trans (xi_0 Γ 0 0 rfl)) rfl hinX4 tyX4 tyX4_ok nmX4 0 (by decide) fl_X4_11 rfl hnm.1 rfl (tyX4_ok 0 (by decide)) rfl rfl (Nat.le_of_ble_eq_true rfl) dX4_init_10 (fun H locs hh => ?_)
  replace hh := (congrArg (fun w9 => f_HS Γ B0 w9 X9 H locs) (x_step (X' := xi Γ (adS ad 2 0 z1) 1 0) (by decide) rfl rfl (rfl) (xi_1 Γ ad z1))).mp hh
  obtain ⟨ad1, ha1⟩ : ∃ z, z = adS ad 2 0 z1 := ⟨_, rfl⟩
  rw [← ha1] at hh
  have hsad1 : ad1 1 0 = ad 1 0 := by rw [ha1]; exact rfl
  refine r_aload_n C dX4_init_13 rfl ?_
  refine r_new (.inl 0) C hh (rfl) (ci := 0) rfl hinX0 tyX0 tyX0_ok kl_X4_15 is_X0 in_X0 [.null, .null, .null, .null, .null, .null, .int 0, .int 0, .int 0, .int 0] (fun j9 hj9 => fsX0 j9 hj9) (by omega) (by omega) dX4_init_14 (fun H1 hz9 hh => ?_)
  generalize H.size = zF at hh ⊢
  rw [wj_fi0] at hh
  refine r_dup C dX4_init_17 rfl ?_
  refine r_callI C E hh (c_X0_init E.2.1 Γ B0 (fun _ => zF) _ _) lk_X4_17 rfl rfl (Nat.le_of_ble_eq_true rfl) dX4_init_18 ⟨by decide, by decide⟩ ⟨by omega, by omega⟩ (kk_rV (fun w9 H locs hs9 hp9 hh => ?_))
  obtain ⟨b, hb0, rfl⟩ := hp9
  rw [show zF = b 0 from hb0.symm]
  refine r_putF C hh (v := .ref (b 0)) (t := .inr (.inl (0, 0))) (show xi Γ ad1 1 0 (0, 0) = _ from xi_0 Γ 1 0 hsad1) rfl hinX4 tyX4 tyX4_ok nmX4 3 (by decide) fl_X4_18 rfl hnm.1 rfl (tyX4_ok 3 (by decide)) rfl rfl (Nat.le_of_ble_eq_true rfl) dX4_init_21 (fun H locs hh => ?_)
  replace hh := (congrArg (fun w9 => f_HS Γ B0 w9 X9 H locs) (wj_x (X' := xi Γ (adS ad1 0 0 (b 0)) 2 0) rfl rfl (xi_2 Γ ad1 (b 0)))).mp hh
  obtain ⟨ad2, ha2⟩ : ∃ z, z = adS ad1 0 0 (b 0) := ⟨_, rfl⟩
  rw [← ha2] at hh
  have hsad2 : ad2 1 0 = ad 1 0 := by rw [ha2]; exact hsad1
  have hbad2 : ad2 0 0 = b 0 := by rw [ha2]; rfl
  refine r_aload_n C dX4_init_24 rfl ?_
  refine r_getf C hh (t := .inr (.inl (0, 0))) (show xi Γ ad2 2 0 (0, 0) = _ from xi_0 Γ 2 0 hsad2) rfl hinX4 3 (by decide) fl_X4_18 rfl dX4_init_25 (show f_W X9 H locs _ _ _ _ (.ref (ad2 0 0) :: _) from ?_)
  rw [hbad2]
  refine r_iconst C (nI 1) dX4_init_28 rfl ?_
  refine r_iconst C (nI 0) dX4_init_29 rfl ?_
  refine r_callV C E hh (c_X0_foldBy E.2.1 Γ B0 (fun _ j => b j) zP _ _ 1 0 (by decide) (by decide) (by decide) (fun _ => Nat.zero_lt_succ _) (fun _ => Nat.zero_lt_succ _) (fun _ => Nat.zero_lt_succ _)) lk_X4_22 (tr := .inl 0) rfl rfl rfl rfl (Nat.le_of_ble_eq_true rfl) dX4_init_30 ⟨by decide, by decide⟩ ⟨by omega, by omega⟩ (fun _ _ z9 => False.elim z9) (kk_to (fun H locs hs9 hh => ?_))
  refine r_aload_n C dX4_init_33 rfl ?_
  refine r_bipush C (nI 8) dX4_init_34 rfl ?_
  refine r_newq (.inr (.inl (2, 0))) C hh (rfl) 4 rfl kl_X4_26 (C.2.2.2.2.2.1.2.2.2.2.2.2.2.2.1) (by decide) (by omega) (by omega) dX4_init_36 (fun H1 hz9 hh => ?_)
  generalize H.size = z3 at hh ⊢
  refine r_putF C hh (t := .inr (.inl (0, 0))) ((f_add_ne (by decide)).trans (xi_0 Γ 2 0 hsad2)) rfl hinX4 tyX4 tyX4_ok nmX4 4 (by decide) fl_X4_28 rfl hnm.1 rfl (tyX4_ok 4 (by decide)) rfl rfl (Nat.le_of_ble_eq_true rfl) dX4_init_39 (fun H locs hh => ?_)
  replace hh := (congrArg (fun w9 => f_HS Γ B0 w9 X9 H locs) (x_step (X' := xi Γ (adS ad2 3 0 z3) 3 0) (by decide) rfl rfl (xi_z Γ _) (xi_3 Γ ad2 z3))).mp hh
  obtain ⟨ad3, ha3⟩ : ∃ z, z = adS ad2 3 0 z3 := ⟨_, rfl⟩
  rw [← ha3] at hh
  have hsad3 : ad3 1 0 = ad 1 0 := by rw [ha3]; exact hsad2
  have hbad3 : ad3 0 0 = b 0 := by rw [ha3]; exact hbad2
  refine r_iconst C (nI 0) dX4_init_42 rfl ?_
  refine r_istore_n C dX4_init_43 rfl rfl ?_
  have lp44 : ∀ (d9 : Nat) (j : Nat) (aj : Nat → Nat → Nat) (H : Heap) (locs : List Loc), 8 - j < d9 → j ≤ 8 → aj 1 0 = ad 1 0 → aj 0 0 = b 0 → f_HS Γ B0 (wj (fw Γ (fun _ j => b j) (fbZ zP 1 0)) (xi Γ aj 3 j) M) X9 H locs → f_W X9 H locs (9 + j) (198 + 3 * j) 44 [some (.ref (ad 1 0)), some (.int (nI (j)))] [] := by
    intro d9
    induction d9 with
    | zero => intro j aj H locs hd9 hl hsaj hbaj hh; exact absurd hd9 (Nat.not_lt_zero _)
    | succ d9 ih44 =>
      intro j aj H locs hd9 hl hsaj hbaj hh
      refine r_iload_n C dX4_init_44 rfl ?_
      refine r_bipush C (nI 8) dX4_init_45 rfl ?_
      refine r_icmp_geN (tgt := 69) C dX4_init_47 (by decide) (by omega) (by omega) (fun h47 => ?_) (fun h47 => ?_)
      · obtain rfl : j = 8 := by omega
        refine r_aload_n C dX4_init_69 rfl ?_
        refine r_bipush C (nI 16) dX4_init_70 rfl ?_
        refine r_newa (.inr (.inl (3, 0))) C hh (rfl) 1 rfl rfl (fun _ z9 => by cases z9) ac_boolean (16, .inl (fun _ => 0)) (fun _ => rfl) (by decide) (by decide) (by omega) (by omega) dX4_init_72 (fun H1 hz9 hh => ?_)
        generalize H.size = z4 at hh ⊢
        refine r_putF C hh (t := .inr (.inl (0, 0))) ((f_add_ne (by decide)).trans (xi_0 Γ 3 8 hsaj)) rfl hinX4 tyX4 tyX4_ok nmX4 6 (by decide) fl_X4_33 rfl hnm.1 rfl (tyX4_ok 6 (by decide)) rfl rfl (Nat.le_of_ble_eq_true rfl) dX4_init_74 (fun H locs hh => ?_)
        replace hh := (congrArg (fun w9 => f_HS Γ B0 w9 X9 H locs) (x_step (X' := xi Γ (adS aj 4 0 z4) 4 8) (by decide) rfl rfl (rfl) (xi_4 Γ aj z4))).mp hh
        obtain ⟨ad4, ha4⟩ : ∃ z, z = adS aj 4 0 z4 := ⟨_, rfl⟩
        rw [← ha4] at hh
        have hsad4 : ad4 1 0 = ad 1 0 := by rw [ha4]; exact hsaj
        have hbad4 : ad4 0 0 = b 0 := by rw [ha4]; exact hbaj
        refine r_aload_n C dX4_init_77 rfl ?_
        refine r_sipush C (nI 128) dX4_init_78 rfl ?_
        refine r_newq (.inr (.inl (4, 0))) C hh (rfl) 5 rfl kl_X4_37 (C.2.2.2.2.2.1.2.2.2.2.2.2.2.2.2.1) (by decide) (by omega) (by omega) dX4_init_81 (fun H1 hz9 hh => ?_)
        generalize H.size = z5 at hh ⊢
        refine r_putF C hh (t := .inr (.inl (0, 0))) ((f_add_ne (by decide)).trans (xi_0 Γ 4 8 hsad4)) rfl hinX4 tyX4 tyX4_ok nmX4 7 (by decide) fl_X4_39 rfl hnm.1 rfl (tyX4_ok 7 (by decide)) rfl rfl (Nat.le_of_ble_eq_true rfl) dX4_init_84 (fun H locs hh => ?_)
        replace hh := (congrArg (fun w9 => f_HS Γ B0 w9 X9 H locs) (x_step (X' := xi Γ (adS ad4 5 0 z5) 5 8) (by decide) rfl rfl (rfl) (xi_5 Γ ad4 z5))).mp hh
        obtain ⟨ad5, ha5⟩ : ∃ z, z = adS ad4 5 0 z5 := ⟨_, rfl⟩
        rw [← ha5] at hh
        have hsad5 : ad5 1 0 = ad 1 0 := by rw [ha5]; exact hsad4
        have hbad5 : ad5 0 0 = b 0 := by rw [ha5]; exact hbad4
        refine r_aload_n C dX4_init_87 rfl ?_
        refine r_bipush C (nI 16) dX4_init_88 rfl ?_
        refine r_newa (.inr (.inl (5, 0))) C hh (rfl) 2 rfl rfl (fun _ z9 => by cases z9) ac_long (16, .inr (.inl (fun _ => 0))) (fun _ => rfl) (by decide) (by decide) (by omega) (by omega) dX4_init_90 (fun H1 hz9 hh => ?_)
        generalize H.size = z6 at hh ⊢
        refine r_putF C hh (t := .inr (.inl (0, 0))) ((f_add_ne (by decide)).trans (xi_0 Γ 5 8 hsad5)) rfl hinX4 tyX4 tyX4_ok nmX4 8 (by decide) fl_X4_43 rfl hnm.1 rfl (tyX4_ok 8 (by decide)) rfl rfl (Nat.le_of_ble_eq_true rfl) dX4_init_92 (fun H locs hh => ?_)
        replace hh := (congrArg (fun w9 => f_HS Γ B0 w9 X9 H locs) (x_step (X' := xi Γ (adS ad5 6 0 z6) 6 8) (by decide) rfl rfl (rfl) (xi_6 Γ ad5 z6))).mp hh
        obtain ⟨ad6, ha6⟩ : ∃ z, z = adS ad5 6 0 z6 := ⟨_, rfl⟩
        rw [← ha6] at hh
        have hsad6 : ad6 1 0 = ad 1 0 := by rw [ha6]; exact hsad5
        have hbad6 : ad6 0 0 = b 0 := by rw [ha6]; exact hbad5
        replace hh := xi_end hh
        rw [fw_ext Γ (ad' := fun i k => if i = 0 then b k else ad6 i k) (fbZ zP 1 0) (fun k => (if_pos rfl).symm), xw_ext Γ (ad := ad6) (ad' := fun i k => if i = 0 then b k else ad6 i k) zP (hbad6.trans (if_pos rfl).symm) (fun i k hi => (if_neg hi).symm)] at hh
        exact r_vret C E hh dX4_init_95 (by omega) (by omega) ⟨rfl, (fun i k => if i = 0 then b k else ad6 i k), (if_neg (by decide)).trans hsad6, rfl⟩
      · refine r_aload_n C dX4_init_50 rfl ?_
        refine r_getf C hh (t := .inr (.inl (0, 0))) (show xi Γ aj 3 j (0, 0) = _ from xi_0 Γ 3 j hsaj) rfl hinX4 4 (by decide) fl_X4_28 rfl dX4_init_51 (show f_W X9 H locs _ _ _ _ (.ref (aj 3 0) :: _) from ?_)
        refine r_iload_n C dX4_init_54 rfl ?_
        refine r_new (.inr (.inl (10, j))) C hh (show xi Γ aj 3 j (10, j) = none by simp [xi]) (ci := 1) rfl hinX1 tyX1 tyX1_ok kl_X4_26 is_X1 in_X1 [.int 0, .int 0, .int 0] (fun j9 hj9 => fsX1 j9 hj9) (by omega) (by omega) dX4_init_55 (fun H1 hz9 hh => ?_)
        generalize H.size = zf at hh ⊢
        refine r_dup C dX4_init_58 rfl ?_
        refine r_callIN C E hh (c_X1_init E.2.1 Γ B0 _ zf) lk_X4_32 rfl rfl (Nat.le_of_ble_eq_true rfl) dX4_init_59 ⟨by decide, by decide⟩ ⟨by omega, by omega⟩ (kk_to (fun H locs hs9 hh => ?_))
        refine r_aast C hh (t := .inr (.inl (2, 0))) (ti := 4) (tv := .inr (.inl (10, j))) (r := (RX1, TX1, 3)) ((f_add_ne (by simp)).trans (show xi Γ aj 3 j (2, 0) = _ from rfl)) rfl f_add_self rfl (by decide) h47 dX4_init_62 (fun H locs hh => ?_)
        replace hh := (congrArg (fun w9 => f_HS Γ B0 w9 X9 H locs) (x_step (t0 := (2, 0)) (X' := xi Γ (adS aj 10 j zf) 3 (j + 1)) (by simp) rfl (xi_t Γ aj j zf) (xi_n Γ aj j zf) (xi_f Γ aj zf j))).mp hh
        refine r_iincN C dX4_init_63 rfl rfl ?_
        refine r_goto (tgt := 44) C dX4_init_66 (by decide) ?_
        exact ih44 (j + 1) (adS aj 10 j zf) _ _ (by omega) (by omega) hsaj hbaj hh
  exact lp44 9 0 ad3 _ _ (by omega) (by omega) hsad3 hbad3 hh

