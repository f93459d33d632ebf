/-! ===== the constructors ===== -/
def upb (b : Nat → Nat) (k a : Nat) : Nat → Nat := fun j => if j = k then a else b j
def fa (Γ : fG) : Nat → va_E
  | 1 => .inl (Γ.2 0, 4, .inl (fun _ => 0))
  | 2 => .inl (Γ.2 1, 16, .inl (fun _ => 0))
  | 3 => .inl (Γ.2 0, 32, .inl (fun _ => 0))
  | 4 => .inl (Γ.2 0, 32, .inl (fun _ => 0))
  | 5 => .inl (Γ.2 0, 16, .inl (fun _ => 0))
  | _ => .inl (Γ.2 0, 16, .inl (fun _ => 0))
def rf (b : Nat → Nat) (k j : Nat) : Value := if j ≤ k then .ref (b j) else .null
def fi (Γ : fG) (b : Nat → Nat) (k : Nat) : Nat → fO := fun t => if t = 0 then some (b 0, .inr (0, [rf b k 1, rf b k 2, rf b k 3, rf b k 4, rf b k 5, rf b k 6, .int 0, .int 0, .int 0, .int 0])) else if t ≤ k then some (b t, fa Γ t) else none
theorem fi_0 (Γ : fG) {b : Nat → Nat} {c : Nat} (k : Nat) (h : b 0 = c) : fi Γ b k 0 = some (c, .inr (0, [rf b k 1, rf b k 2, rf b k 3, rf b k 4, rf b k 5, rf b k 6, .int 0, .int 0, .int 0, .int 0])) := by subst h; rfl
theorem fi_ne (Γ : fG) (b : Nat → Nat) (k a : Nat) : ∀ t, t ≠ 0 → t ≠ k + 1 → fi Γ (upb b (k + 1) a) (k + 1) t = fi Γ b k t := by
  intro t h0 h1
  unfold fi
  rw [if_neg h0, if_neg h0, show upb b (k + 1) a t = b t from if_neg h1]
  by_cases h : t ≤ k
  · rw [if_pos h, if_pos (by omega)]
  · rw [if_neg h, if_neg (by omega)]
theorem f_step {F F' : Nat → fO} {X : Nat × Nat → fO} {M : Nat → fO} {k a : Nat} {q : Nat × va_E} {e e0 : va_E} (hk : k ≠ 0) (h0 : F 0 = some (a, e0)) (h1 : F' 0 = some (a, e)) (h2 : F' k = some q) (h3 : ∀ t, t ≠ 0 → t ≠ k → F' t = F t) : f_set (f_add (wj F X M) (.inl k) q) (.inl 0) e = wj F' X M := by
  have n1 : (Sum.inl 0 : fT) ≠ Sum.inl k := fun z => hk (Sum.inl.inj z).symm
  refine f_set_eq (a := a) (e0 := e0) ((f_add_ne n1).trans h0) h1 (fun t' ht => ?_)
  match t' with
  | .inr (.inl z) => rfl
  | .inr (.inr z) => rfl
  | .inl z =>
    by_cases hz : z = k
    · subst hz; rw [f_add_self]; exact h2
    · rw [f_add_ne (fun q => hz (Sum.inl.inj q))]
      exact h3 z (fun q => ht (by rw [q])) hz
theorem x_step {F : Nat → fO} {X X' : Nat × Nat → fO} {M : Nat → fO} {t0 k : Nat × Nat} {a : Nat} {q : Nat × va_E} {e e0 : va_E} (hk : t0 ≠ k) (h0 : X t0 = some (a, e0)) (h1 : X' t0 = some (a, e)) (h2 : X' k = some q) (h3 : ∀ t, t ≠ t0 → t ≠ k → X' t = X t) : f_set (f_add (wj F X M) (.inr (.inl k)) q) (.inr (.inl t0)) e = wj F X' M := by
  have n1 : (Sum.inr (Sum.inl t0) : fT) ≠ Sum.inr (Sum.inl k) := fun z => hk (Sum.inl.inj (Sum.inr.inj z))
  refine f_set_eq (a := a) (e0 := e0) ((f_add_ne n1).trans h0) h1 (fun t' ht => ?_)
  match t' with
  | .inl z => rfl
  | .inr (.inr z) => rfl
  | .inr (.inl z) =>
    by_cases hz : z = k
    · subst hz; rw [f_add_self]; exact h2
    · rw [f_add_ne (fun q => hz (Sum.inl.inj (Sum.inr.inj q)))]
      exact h3 z (fun q => ht (by rw [q])) hz
def zP : fR := fun _ _ _ => 0
theorem fi_fw (Γ : fG) (ad : Nat → Nat → Nat) (b : Nat → Nat) (h : ∀ j, ad 0 j = b j) : fi Γ b 6 = fw Γ ad zP := by
  have e : b = ad 0 := by funext j; exact (h j).symm
  subst e
  funext t
  by_cases h7 : t ≤ 6
  · have h8 : t = 0 ∨ t = 1 ∨ t = 2 ∨ t = 3 ∨ t = 4 ∨ t = 5 ∨ t = 6 := by omega
    rcases h8 with rfl | rfl | rfl | rfl | rfl | rfl | rfl <;> rfl
  · rw [show fi Γ (ad 0) 6 t = none by unfold fi; rw [if_neg (by omega), if_neg h7]]
    unfold fw
    split <;> first | rfl | (exfalso; omega)
theorem fw_ext (Γ : fG) {ad ad' : Nat → Nat → Nat} (P : fR) (h : ∀ j, ad 0 j = ad' 0 j) : fw Γ ad P = fw Γ ad' P := by
  funext t
  unfold fw
  split <;> simp only [h]
set_option maxHeartbeats 4000000 in
set_option maxRecDepth 100000 in
theorem c_X0_init {l : Launch} (hl : l.stackTraces = false) (Γ : fG) (B0 : Nat) (b0 : Nat → Nat) (X : Nat × Nat → fO) (M : Nat → fO) : f_Met l yX0_init cX0_init 1 none 1 6 116 20 Γ B0 [.ref (b0 0)] (wj (fi Γ b0 0) X M) (f_rV (fun w9 => ∃ b : Nat → Nat, b 0 = b0 0 ∧ w9 = wj (fw Γ (fun _ j => b j) zP) X M)) f_no := by
  refine f_of hl (by decide) rfl (Nat.le_of_ble_eq_true rfl) (fun X9 C E hh hnm => ?_)
  generalize (f_s X9).heap = H, ([] : List Loc) = locs at hh ⊢
  refine r_aload_n C dX0_init_0 rfl ?_
  refine r_objInit C oi_X0_3 (by decide) (by decide) (Nat.le_of_ble_eq_true rfl) dX0_init_1 ?_
  refine r_aload_n C dX0_init_4 rfl ?_
  refine r_iconst C (nI 4) dX0_init_5 rfl ?_
  refine r_newa (.inl 1) C hh (rfl) 0 rfl rfl (fun _ z9 => by cases z9) ac_int (4, .inl (fun _ => 0)) (fun _ => rfl) (by decide) (by decide) (by omega) (by omega) dX0_init_6 (fun H1 hz9 hh => ?_)
  generalize H.size = a1 at hh ⊢
  refine r_putF C hh (t := .inl 0) ((f_add_ne (by decide)).trans (fi_0 Γ 0 rfl)) rfl hinX0 tyX0 tyX0_ok nmX0 0 (by decide) fl_X0_9 rfl hnm.1 rfl (tyX0_ok 0 (by decide)) rfl rfl (Nat.le_of_ble_eq_true rfl) dX0_init_8 (fun H locs hh => ?_)
  replace hh := (congrArg (fun w9 => f_HS Γ B0 w9 X9 H locs) (f_step (F' := fi Γ (upb b0 1 a1) 1) (by decide) rfl rfl rfl (fi_ne Γ b0 0 a1))).mp hh
  obtain ⟨b1, hb1⟩ : ∃ z, z = upb b0 1 a1 := ⟨_, rfl⟩
  rw [← hb1] at hh
  have hz1 : b1 0 = b0 0 := by rw [hb1]; exact rfl
  refine r_aload_n C dX0_init_11 rfl ?_
  refine r_bipush C (nI 16) dX0_init_12 rfl ?_
  refine r_newa (.inl 2) C hh (rfl) 1 rfl rfl (fun _ z9 => by cases z9) ac_boolean (16, .inl (fun _ => 0)) (fun _ => rfl) (by decide) (by decide) (by omega) (by omega) dX0_init_14 (fun H1 hz9 hh => ?_)
  generalize H.size = a2 at hh ⊢
  refine r_putF C hh (t := .inl 0) ((f_add_ne (by decide)).trans (fi_0 Γ 1 hz1)) rfl hinX0 tyX0 tyX0_ok nmX0 1 (by decide) fl_X0_15 rfl hnm.1 rfl (tyX0_ok 1 (by decide)) rfl rfl (Nat.le_of_ble_eq_true rfl) dX0_init_16 (fun H locs hh => ?_)
  replace hh := (congrArg (fun w9 => f_HS Γ B0 w9 X9 H locs) (f_step (F' := fi Γ (upb b1 2 a2) 2) (by decide) rfl rfl rfl (fi_ne Γ b1 1 a2))).mp hh
  obtain ⟨b2, hb2⟩ : ∃ z, z = upb b1 2 a2 := ⟨_, rfl⟩
  rw [← hb2] at hh
  have hz2 : b2 0 = b0 0 := by rw [hb2]; exact hz1
  refine r_aload_n C dX0_init_19 rfl ?_
  refine r_bipush C (nI 32) dX0_init_20 rfl ?_
  refine r_newa (.inl 3) C hh (rfl) 0 rfl rfl (fun _ z9 => by cases z9) ac_int (32, .inl (fun _ => 0)) (fun _ => rfl) (by decide) (by decide) (by omega) (by omega) dX0_init_22 (fun H1 hz9 hh => ?_)
  generalize H.size = a3 at hh ⊢
  refine r_putF C hh (t := .inl 0) ((f_add_ne (by decide)).trans (fi_0 Γ 2 hz2)) rfl hinX0 tyX0 tyX0_ok nmX0 2 (by decide) fl_X0_19 rfl hnm.1 rfl (tyX0_ok 2 (by decide)) rfl rfl (Nat.le_of_ble_eq_true rfl) dX0_init_24 (fun H locs hh => ?_)
  replace hh := (congrArg (fun w9 => f_HS Γ B0 w9 X9 H locs) (f_step (F' := fi Γ (upb b2 3 a3) 3) (by decide) rfl rfl rfl (fi_ne Γ b2 2 a3))).mp hh
  obtain ⟨b3, hb3⟩ : ∃ z, z = upb b2 3 a3 := ⟨_, rfl⟩
  rw [← hb3] at hh
  have hz3 : b3 0 = b0 0 := by rw [hb3]; exact hz2
  refine r_aload_n C dX0_init_27 rfl ?_
  refine r_bipush C (nI 32) dX0_init_28 rfl ?_
  refine r_newa (.inl 4) C hh (rfl) 0 rfl rfl (fun _ z9 => by cases z9) ac_int (32, .inl (fun _ => 0)) (fun _ => rfl) (by decide) (by decide) (by omega) (by omega) dX0_init_30 (fun H1 hz9 hh => ?_)
  generalize H.size = a4 at hh ⊢
  refine r_putF C hh (t := .inl 0) ((f_add_ne (by decide)).trans (fi_0 Γ 3 hz3)) rfl hinX0 tyX0 tyX0_ok nmX0 3 (by decide) fl_X0_22 rfl hnm.1 rfl (tyX0_ok 3 (by decide)) rfl rfl (Nat.le_of_ble_eq_true rfl) dX0_init_32 (fun H locs hh => ?_)
  replace hh := (congrArg (fun w9 => f_HS Γ B0 w9 X9 H locs) (f_step (F' := fi Γ (upb b3 4 a4) 4) (by decide) rfl rfl rfl (fi_ne Γ b3 3 a4))).mp hh
  obtain ⟨b4, hb4⟩ : ∃ z, z = upb b3 4 a4 := ⟨_, rfl⟩
  rw [← hb4] at hh
  have hz4 : b4 0 = b0 0 := by rw [hb4]; exact hz3
  refine r_aload_n C dX0_init_35 rfl ?_
  refine r_bipush C (nI 16) dX0_init_36 rfl ?_
  refine r_newa (.inl 5) C hh (rfl) 0 rfl rfl (fun _ z9 => by cases z9) ac_int (16, .inl (fun _ => 0)) (fun _ => rfl) (by decide) (by decide) (by omega) (by omega) dX0_init_38 (fun H1 hz9 hh => ?_)
  generalize H.size = a5 at hh ⊢
  refine r_putF C hh (t := .inl 0) ((f_add_ne (by decide)).trans (fi_0 Γ 4 hz4)) rfl hinX0 tyX0 tyX0_ok nmX0 4 (by decide) fl_X0_25 rfl hnm.1 rfl (tyX0_ok 4 (by decide)) rfl rfl (Nat.le_of_ble_eq_true rfl) dX0_init_40 (fun H locs hh => ?_)
  replace hh := (congrArg (fun w9 => f_HS Γ B0 w9 X9 H locs) (f_step (F' := fi Γ (upb b4 5 a5) 5) (by decide) rfl rfl rfl (fi_ne Γ b4 4 a5))).mp hh
  obtain ⟨b5, hb5⟩ : ∃ z, z = upb b4 5 a5 := ⟨_, rfl⟩
  rw [← hb5] at hh
  have hz5 : b5 0 = b0 0 := by rw [hb5]; exact hz4
  refine r_aload_n C dX0_init_43 rfl ?_
  refine r_bipush C (nI 16) dX0_init_44 rfl ?_
  refine r_newa (.inl 6) C hh (rfl) 0 rfl rfl (fun _ z9 => by cases z9) ac_int (16, .inl (fun _ => 0)) (fun _ => rfl) (by decide) (by decide) (by omega) (by omega) dX0_init_46 (fun H1 hz9 hh => ?_)
  generalize H.size = a6 at hh ⊢
  refine r_putF C hh (t := .inl 0) ((f_add_ne (by decide)).trans (fi_0 Γ 5 hz5)) rfl hinX0 tyX0 tyX0_ok nmX0 5 (by decide) fl_X0_28 rfl hnm.1 rfl (tyX0_ok 5 (by decide)) rfl rfl (Nat.le_of_ble_eq_true rfl) dX0_init_48 (fun H locs hh => ?_)
  replace hh := (congrArg (fun w9 => f_HS Γ B0 w9 X9 H locs) (f_step (F' := fi Γ (upb b5 6 a6) 6) (by decide) rfl rfl rfl (fi_ne Γ b5 5 a6))).mp hh
  obtain ⟨b6, hb6⟩ : ∃ z, z = upb b5 6 a6 := ⟨_, rfl⟩
  rw [← hb6] at hh
  have hz6 : b6 0 = b0 0 := by rw [hb6]; exact hz5
  exact r_vret C E hh dX0_init_51 (by omega) (by omega) ⟨rfl, b6, hz6, by rw [fi_fw Γ (fun _ j => b6 j) b6 (fun _ => rfl)]⟩

set_option maxHeartbeats 4000000 in
set_option maxRecDepth 100000 in
theorem c_X1_init {l : Launch} (hl : l.stackTraces = false) (Γ : fG) (B0 : Nat) (w : fV) (a : Nat) : f_Met l yX1_init cX1_init 1 none 1 0 0 20 Γ B0 [.ref a] (w) (f_to w) f_no := by
  refine f_of hl (by decide) rfl (Nat.le_of_ble_eq_true rfl) (fun X9 C E hh hnm => ?_)
  generalize (f_s X9).heap = H, ([] : List Loc) = locs at hh ⊢
  refine r_aload_n C dX1_init_0 rfl ?_
  refine r_objInit C oi_X1_1 (by decide) (by decide) (Nat.le_of_ble_eq_true rfl) dX1_init_1 ?_
  exact r_vret C E hh dX1_init_4 (by omega) (by omega) ⟨rfl, rfl⟩

