/-! ===== what prints stands on ===== -/
theorem iM_lt0 {v : Nat} (h : v ≤ 100000) : iM v < 0 ↔ v = 0 := by
  unfold iM
  by_cases z : v = 0
  · rw [if_pos z]; exact ⟨fun _ => z, fun _ => by decide⟩
  · rw [if_neg z]; exact ⟨fun q => absurd q (nI_pos (by omega)), fun q => absurd q z⟩
theorem iM_ge0 {v : Nat} (h : v ≤ 100000) : 0 ≤ iM v ↔ v ≠ 0 := by
  unfold iM
  by_cases z : v = 0
  · rw [if_pos z]; exact ⟨fun q => absurd q (by decide), fun q => absurd z q⟩
  · rw [if_neg z]; exact ⟨fun _ => z, fun _ => nI_pos' (by omega)⟩
theorem iM_1000 {v : Nat} (h : v ≤ 100000) : iM v = nI 1000 ↔ v = 1001 := by
  unfold iM
  by_cases z : v = 0
  · rw [if_pos z]; exact ⟨fun q => absurd q (by decide), fun q => by omega⟩
  · rw [if_neg z, nI_eq (by omega) (by decide)]; omega
theorem iM_add {v m : Nat} (h : v ≠ 0) : iM v + nI m = nI (v - 1 + m) := by
  rw [iM_pos (by omega)]
  exact nI_add (v - 1) m
theorem iM_0 : iM 0 = -1 := rfl
theorem iM_1 : iM 1 = nI 0 := rfl
section DR5
variable {X9 : fX} {Γ : fG} {B0 : Nat} {ad : Nat → Nat → Nat} {F : Nat → fO} {X : Nat × Nat → fO} {P R M : fR} {H : Heap} {locs : List Loc} {n : Nat}
/-- the row of wears that is forgotten -/
theorem hs_drop5 (hh : f_HS Γ B0 (wj F X (mw Γ ad M)) X9 H locs) : f_HS Γ B0 (wj F X (mw Γ ad (rs M 6 (k0 0)))) X9 H locs := by
  have key : ∀ (t : fT) (q : Nat × va_E), wj F X (mw Γ ad (rs M 6 (k0 0))) t = some q → wj F X (mw Γ ad M) t = some q := by
    intro t q hq
    match t, hq with
    | .inl _, hq => exact hq
    | .inr (.inl _), hq => exact hq
    | .inr (.inr 0), hq => cases hq
    | .inr (.inr 1), hq => exact hq
    | .inr (.inr 2), hq => exact hq
    | .inr (.inr 3), hq => exact hq
    | .inr (.inr 4), hq => exact hq
    | .inr (.inr 5), hq =>
      have h5 : (if rs M 6 (k0 0) 6 0 0 = 0 then none else some (rs M 6 (k0 0) 6 0 0 - 1, (.inl (Γ.2 0, 8, .inl (fun i => iM (rs M 6 (k0 0) 5 i 0))) : va_E))) = some q := hq
      have h6 : rs M 6 (k0 0) 6 0 0 = 0 := rfl
      rw [if_pos h6] at h5; cases h5
    | .inr (.inr (t + 6)), hq => cases hq
  obtain ⟨⟨a, b, c⟩, d⟩ := hh
  exact ⟨⟨fun t q hq => a t q (key t q hq), fun t t' q q' h1 h2 e => b t t' q q' (key t q h1) (key t' q' h2) e, fun t q hq => c t q (key t q hq)⟩, d⟩
/-- a new row of wears -/
theorem alloc5 (h : RZ n P R M) (hw0 : M 6 0 0 = 0) {a : Nat} (hh : f_HS Γ B0 (f_add (wj F X (mw Γ ad M)) (.inr (.inr 5)) (a, .inl (Γ.2 0, 8, .inl (fun _ => 0)))) X9 H locs) : ∃ M2 : fR, RZ n P R M2 ∧ M2 6 0 0 ≠ 0 ∧ M2 6 0 0 - 1 = a ∧ f_HS Γ B0 (wj F X (mw Γ ad M2)) X9 H locs := by
  refine ⟨rs (rs M 5 (fun _ _ => 1)) 6 (k0 (a + 1)), h, Nat.succ_ne_zero a, Nat.add_sub_cancel a 1, ?_⟩
  have e : f_add (wj F X (mw Γ ad M)) (.inr (.inr 5)) (a, .inl (Γ.2 0, 8, .inl (fun _ => 0))) = wj F X (mw Γ ad (rs (rs M 5 (fun _ _ => 1)) 6 (k0 (a + 1)))) := by
    funext t
    match t with
    | .inl _ => rfl
    | .inr (.inl _) => rfl
    | .inr (.inr 0) => rfl
    | .inr (.inr 1) => rfl
    | .inr (.inr 2) => rfl
    | .inr (.inr 3) => rfl
    | .inr (.inr 4) => rfl
    | .inr (.inr 5) => rfl
    | .inr (.inr (t + 6)) => rfl
  rw [← e]; exact hh
end DR5
def wkM (M P R : fR) (s k : Nat) : fR := rs M 5 (fun i j => if i < k then wrx P R s i else M 5 i j)
theorem wkM_s (M P R : fR) (s k i : Nat) : u1 (wkM M P R s k 5) k (wrx P R s k) i 0 = wkM M P R s (k + 1) 5 i 0 := by
  show u1 (fun i j => if i < k then wrx P R s i else M 5 i j) k (wrx P R s k) i 0 = if i < k + 1 then wrx P R s i else M 5 i 0
  unfold u1
  by_cases z : i = k
  · subst z; rw [if_pos rfl, if_pos (Nat.lt_succ_self i)]
  · rw [if_neg z]
    show (if i < k then wrx P R s i else M 5 i 0) = _
    by_cases w : i < k
    · rw [if_pos w, if_pos (by omega)]
    · rw [if_neg w, if_neg (by omega)]
def caB (P R : fR) (s m : Nat) : Nat → Bool
  | 0 => true
  | k + 1 => caB P R s m k && lsO P R s (k / 4) (k % 4) m
theorem caB_ok (P R : fR) (s m : Nat) : ∀ k, caB P R s m k = true ↔ ∀ x, x < k → lsO P R s (x / 4) (x % 4) m = true
  | 0 => ⟨fun _ x hx => absurd hx (Nat.not_lt_zero x), fun _ => rfl⟩
  | k + 1 => by
    show (caB P R s m k && lsO P R s (k / 4) (k % 4) m) = true ↔ _
    rw [Bool.and_eq_true, caB_ok P R s m k]
    constructor
    · rintro ⟨a, b⟩ x hx
      by_cases z : x = k
      · rw [z]; exact b
      · exact a x (by omega)
    · intro a
      exact ⟨fun x hx => a x (by omega), a k (by omega)⟩
theorem cntB_f {b : Nat → Bool} : ∀ k, (∀ y, y < k → b y = false) → cntB b k = 0
  | 0, _ => rfl
  | k + 1, h => by
    show cntB b k + (if b k = true then 1 else 0) = 0
    rw [cntB_f k (fun y hy => h y (by omega)), h k (by omega)]; rfl
theorem pk_and1 (a k : Nat) : (a / 2 ^ k &&& 1 = 1 ↔ tb a k = true) ∧ (a / 2 ^ k &&& 1 = 0 ↔ tb a k = false) := by
  rw [tb_2, Nat.and_one_is_mod]
  constructor
  · rw [decide_eq_true_iff]
  · rw [decide_eq_false_iff_not]; omega
theorem L_wear_k {l : Launch} (hl : l.stackTraces = false) (Γ : fG) (B0 : Nat) (ad : Nat → Nat → Nat) {P R : fR} (M : fR) (hF : FI P) {Rk : fR} (hj : jk Rk R) (hX : XI Rk) {s x : Nat} (hs : s < shc P R) (hx : x < 8) : f_MetW l yL_wear cL_wear 5 (some .int) [(0, 7, 8, 16), (0, 7, 13, 19)] 8 3 18 135 Γ B0 [.ref (ad 1 0), .int (nI s), .int (nI (x / 4)), .int (nI (x % 4))] (wj (fw Γ ad P) (xw Γ ad (Rk)) (mw Γ ad M)) (f_rI (fun r9 w9 => r9 = iM (wrx P R s x) ∧ ∃ R' : fR, (jk R' R ∧ XI R') ∧ w9 = wj (fw Γ ad P) (xw Γ ad (R')) (mw Γ ad M))) :=
  (n_wear hl Γ B0 ad P Rk (mw Γ ad M) _ _ _ hF hX (by
    have e : ∀ R, shc P R = (R 0 0 0 + pgs P - 1) / pgs P := fun _ => rfl
    have es : shc P Rk = shc P R := by rw [e, e, hj 0 (by decide) (by decide)]
    have h16 := FI_sh hF hX.1
    rw [es] at h16 ⊢
    exact ⟨rg_N hs (by omega), rg_N (by omega) (by decide), rg_N (by omega) (by decide)⟩)).mono (fun v w' hp => by
    obtain ⟨r, rfl, e1, rfl⟩ := hp
    have e : ∀ R, shc P R = (R 0 0 0 + pgs P - 1) / pgs P := fun _ => rfl
    have es : shc P Rk = shc P R := by rw [e, e, hj 0 (by decide) (by decide)]
    have h16 := FI_sh hF hX.1
    rw [es] at h16
    refine ⟨r, rfl, ?_, lkF P Rk s (x / 4) (x % 4), ⟨jk_lkF hj s _ _, XI_lkF hF hX s _ _⟩, ?_⟩
    · rw [e1, xN_nI (by omega), xN_nI (by omega), xN_nI (by omega), ← wrx_jk P hj, iM_wrx hx]
    · rw [xN_nI (by omega), xN_nI (by omega), xN_nI (by omega)])
theorem L_mk_k {l : Launch} (hl : l.stackTraces = false) (Γ : fG) (B0 : Nat) (ad : Nat → Nat → Nat) {P R : fR} (M : fR) (hF : FI P) (hX : XI R) (h4 : R 4 0 0 ≤ 880000) (h17 : ∀ t, t < 128 → R 8 t 0 ≠ 0 → 1 ≤ R 17 t 0) {s : Nat} (hs : s < shc P R) (ha : afo P R s = true) : f_MetW l yL_makePlates cL_makePlates 3 (some .int) [(0, 5, 6, 16), (0, 5, 10, 22)] 8 18 164 154 Γ B0 [.ref (ad 1 0), .int (nI s)] (wj (fw Γ ad P) (xw Γ ad (R)) (mw Γ ad M)) (f_rI (fun r9 w9 => r9 = nI (cntB (mdB P R s) 8) ∧ ∃ ad' : Nat → Nat → Nat, ad' 1 0 = ad 1 0 ∧ (∀ j, ad' 30 j = ad 30 j) ∧ w9 = wj (fw Γ ad' P) (xw Γ ad' (mks P R s 8)) (mw Γ ad' M))) :=
  (n_makePlates hl Γ B0 ad P R (mw Γ ad M) _ hF hX (by omega) (by
    have h16 := FI_sh hF hX.1
    rw [xN_nI (by omega)]
    exact ⟨rg_N hs (by omega), ha⟩)).mono (fun v w' hp => by
    obtain ⟨r, rfl, e1, f, g, rfl⟩ := hp
    have h16 := FI_sh hF hX.1
    refine ⟨r, rfl, ?_, adP ad f g, rfl, fun _ => rfl, ?_⟩
    · rw [e1, xN_nI (by omega), (mks_at hF hX h4 h17 (by omega) 8 (Nat.le_refl _)).2.2.1, Nat.add_sub_cancel_left]
    · rw [xN_nI (by omega), mw_eq Γ (ad := ad) (ad' := adP ad f g) (M := M) (M' := M) (fun _ => rfl) (fun _ => rfl) (fun _ => rfl) (fun _ => rfl) (fun _ => rfl) (fun _ => rfl) rfl])
theorem L_print_k {l : Launch} (hl : l.stackTraces = false) (Γ : fG) (B0 : Nat) (ad : Nat → Nat → Nat) {P R : fR} (M : fR) (hF : FI P) (hX : XI R) (h5 : R 5 0 0 ≤ 900000) {s m : Nat} (hs : s < shc P R) (h1 : 1 ≤ m) (hm : m ≤ 500) (hok : okP P R s m) : f_MetW l yL_print cL_print 4 (some .int) [(0, 6, 7, 16), (0, 6, 11, 19), (0, 6, 15, 22)] 8 11 66 154 Γ B0 [.ref (ad 1 0), .int (nI s), .int (nI m)] (wj (fw Γ ad P) (xw Γ ad (R)) (mw Γ ad M)) (f_rI (fun r9 w9 => r9 = nI (R 5 0 0 + m) ∧ ∃ R9 : fR, (jp P (rs R9 5 (R 5)) R s m 8 ∧ R9 5 0 0 = R 5 0 0 + m ∧ XI R9) ∧ w9 = wj (fw Γ ad P) (xw Γ ad (R9)) (mw Γ ad M))) :=
  (n_print hl Γ B0 ad P R (mw Γ ad M) _ _ hF hX h5 (by
    have h16 := FI_sh hF hX.1
    rw [xN_nI (by omega), xN_nI (by omega)]
    exact ⟨⟨rg_N hs (by omega), (nI_leI (by decide) (by omega)).mpr h1, nI_lt (by omega) (by decide)⟩, hok⟩)).mono (fun v w' hp => by
    obtain ⟨r, rfl, e1, R9, hq, rfl⟩ := hp
    have h16 := FI_sh hF hX.1
    rw [xN_nI (by omega), xN_nI (by omega)] at hq
    exact ⟨r, rfl, by rw [e1, xN_nI (by omega)], R9, hq, rfl⟩)
