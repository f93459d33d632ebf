/-! ===== an act: the law's answer is true, and the relation holds again ===== -/
def ACT (Γ : fG) (ad : Nat → Nat → Nat) (n : Nat) (w9 : fV) : Prop := ∃ (ad' : Nat → Nat → Nat) (P' R' M' : fR), RZ (n + 1) P' R' M' ∧ ad' 1 0 = ad 1 0 ∧ (∀ j, ad' 30 j = ad 30 j) ∧ w9 = wj (fw Γ ad' P') (xw Γ ad' R') (mw Γ ad' M')
theorem f_Met.mono {l : Launch} {y : MethodName} {cc : ByteArray} {nL : Nat} {ret : Option FieldType} {fr mc ms lo : Nat} {Γ : fG} {B0 : Nat} {args : List Value} {w : fV} {post post' : Option Value → fV → Prop} {px : String → fV → Prop} (h : f_Met l y cc nL ret fr mc ms lo Γ B0 args w post px) (hp : ∀ v w', post v w' → post' v w') : f_Met l y cc nL ret fr mc ms lo Γ B0 args w post' px := by
  refine MetFree.mono h (fun _ _ z => z) (fun _ _ _ _ _ z => z) (fun a s o t _ hq => ?_)
  rcases hq with ⟨⟨⟨v, w', e1, e2, e3⟩, hF⟩, hL⟩ | ⟨q, e, hx⟩
  · exact Or.inl ⟨⟨⟨v, w', e1, hp v w' e2, e3⟩, hF⟩, hL⟩
  · exact Or.inr ⟨q, e, hx⟩
theorem c_low {l : Launch} (hl : l.stackTraces = false) (Γ : fG) (B0 : Nat) (w : fV) (v : Int32) (k : Nat) (hk : 0 < k) (hk2 : k < 2 ^ 31) : f_Met l yL_low cL_low 2 (some .int) 0 0 0 0 Γ B0 [.int v, .int (nI k)] w (f_rI (fun r9 w9 => (∃ j, j < k ∧ r9 = nI j) ∧ w9 = w)) f_no :=
  (c_L_low hl Γ B0 w v k hk hk2).mono (fun v9 w' hp => by
    obtain ⟨rfl, rfl⟩ := hp
    exact ⟨_, rfl, ⟨_, lw_lt v hk, rfl⟩, rfl⟩)
theorem hs_mw {X9 : fX} {Γ : fG} {B0 : Nat} {ad : Nat → Nat → Nat} {F : Nat → fO} {X : Nat × Nat → fO} {M M' : fR} {H : Heap} {locs : List Loc} (hh : f_HS Γ B0 (wj F X (mw Γ ad M)) X9 H locs) (h1 : ∀ i, M 1 i 0 = M' 1 i 0) (h2 : ∀ i, M 2 i 0 = M' 2 i 0) (h3 : ∀ i, M 3 i 0 = M' 3 i 0) (h4 : ∀ i, M 4 i 0 = M' 4 i 0) (h5 : ∀ i, M 5 i 0 = M' 5 i 0) (h6 : M 6 0 0 = M' 6 0 0) : f_HS Γ B0 (wj F X (mw Γ ad M')) X9 H locs := by
  rw [← mw_eq Γ (fun _ => rfl) h1 h2 h3 h4 h5 h6]; exact hh
theorem W_is2 {l : Launch} {y : MethodName} {cc : ByteArray} {nL : Nat} {ret : Option FieldType} {hs : List (Nat × Nat × Nat × Nat)} {fr mc ms lo : Nat} {Γ : fG} {B0 : Nat} {args : List Value} {w w2 w3 : fV} {a b : Int32} (h : f_MetW l y cc nL ret hs fr mc ms lo Γ B0 args w (f_rI (fun r9 w9 => r9 = a ∧ w9 = w2))) (e : a = b) (e2 : w2 = w3) : f_MetW l y cc nL ret hs fr mc ms lo Γ B0 args w (f_is b w3) := by
  rw [← e2]; exact W_is h e
theorem tk1_v (f : Nat → Nat → Nat) {p a : Nat} (h : p ≤ a) (i : Nat) : u1 (tk1 f p a) a (tk1 f p a (a + 1) 0) i 0 = tk1 f p (a + 1) i 0 := by
  rw [show tk1 f p a (a + 1) 0 = f (a + 1) 0 from if_neg (by omega), tk1_s f h]
theorem mvK_0 (f : Nat → Nat → Nat) (p : Nat) : mvK f p p = f := by
  unfold mvK; rw [if_pos (Nat.le_refl p), tk1_0]
theorem rep_n1 (M : fR) (f o k i : Nat) (h : tb (M 1 k 0) f = false) : repM M f o k 1 i 0 = repM M f o (k + 1) 1 i 0 := by
  rw [repM_1, repM_1]
  by_cases z : i = k
  · subst z; rw [if_neg (fun w => by rw [h] at w; exact absurd w.2 (by decide)), if_neg (fun w => by rw [h] at w; exact absurd w.2 (by decide))]
  · by_cases w : i < k ∧ tb (M 1 i 0) f = true
    · rw [if_pos w, if_pos ⟨by omega, w.2⟩]
    · rw [if_neg w, if_neg (fun u => w ⟨by omega, u.2⟩)]
theorem rep_n2 (M : fR) (f o k i : Nat) (h : tb (M 1 k 0) f = false) : repM M f o k 2 i 0 = repM M f o (k + 1) 2 i 0 := by
  rw [repM_2, repM_2]
  by_cases z : i = k
  · subst z; rw [if_neg (fun w => by rw [h] at w; exact absurd w.2 (by decide)), if_neg (fun w => by rw [h] at w; exact absurd w.2 (by decide))]
  · by_cases w : i < k ∧ tb (M 1 i 0) f = true
    · rw [if_pos w, if_pos ⟨by omega, w.2⟩]
    · rw [if_neg w, if_neg (fun u => w ⟨by omega, u.2⟩)]
theorem rep_n3 (M : fR) (f k : Nat) (h : tb (M 1 k 0) f = false) : repC M f (k + 1) = repC M f k := by
  show repC M f k + (if tb (M 1 k 0) f = true then 1 else 0) = _
  rw [h]; rfl
theorem rep_y1 (M : fR) (f o k i : Nat) (h : tb (M 1 k 0) f = true) : u1 (repM M f o k 1) k (rvL (M 1 k 0) f o) i 0 = repM M f o (k + 1) 1 i 0 := by
  unfold u1
  by_cases z : i = k
  · subst z; rw [if_pos rfl, repM_1, if_pos ⟨Nat.lt_succ_self i, h⟩]
  · rw [if_neg z, repM_1, repM_1]
    by_cases w : i < k ∧ tb (M 1 i 0) f = true
    · rw [if_pos w, if_pos ⟨by omega, w.2⟩]
    · rw [if_neg w, if_neg (fun u => w ⟨by omega, u.2⟩)]
theorem rep_y2 (M : fR) (f o k i : Nat) (h : tb (M 1 k 0) f = true) : u1 (repM M f o k 2) k 0 i 0 = repM M f o (k + 1) 2 i 0 := by
  unfold u1
  by_cases z : i = k
  · subst z; rw [if_pos rfl, repM_2, if_pos ⟨Nat.lt_succ_self i, h⟩]
  · rw [if_neg z, repM_2, repM_2]
    by_cases w : i < k ∧ tb (M 1 i 0) f = true
    · rw [if_pos w, if_pos ⟨by omega, w.2⟩]
    · rw [if_neg w, if_neg (fun u => w ⟨by omega, u.2⟩)]
theorem rep_y3 (M : fR) (f k : Nat) (h : tb (M 1 k 0) f = true) : repC M f (k + 1) = repC M f k + 1 := by
  show repC M f k + (if tb (M 1 k 0) f = true then 1 else 0) = _
  rw [h]; rfl
def remK (M : fR) (p k : Nat) : fR := rs (rs (rs M 4 (u1 (M 4) 0 (M 4 0 0 - 1))) 1 (tk1 (M 1) p k)) 2 (tk1 (M 2) p k)
def movK (M : fR) (p k : Nat) : fR := rs (rs M 1 (mvK (M 1) p k)) 2 (mvK (M 2) p k)
def insK (M : fR) (k : Nat) : fR := rs (rs M 1 (sr2 (M 1) k (M 4 0 0))) 2 (sr2 (M 2) k (M 4 0 0))
theorem nI_pred1 {k : Nat} (h : 0 < k) : nI k + (-1) = nI (k - 1) := by
  have e : nI k = nI (k - 1) + 1 := by rw [← nI_succ, Nat.sub_add_cancel h]
  rw [e, Int32.add_assoc, show (1 : Int32) + -1 = 0 from rfl, Int32.add_zero]
theorem or_pow {a b : Nat} (ha : a < 8) (hb : b < 8) : 2 ^ a ||| 2 ^ b < 256 := by
  have h : ∀ a, a < 8 → ∀ b, b < 8 → 2 ^ a ||| 2 ^ b < 256 := by decide
  exact h a ha b hb
theorem sr2_v (f : Nat → Nat → Nat) {a m : Nat} (h0 : 0 < a) (hm : a ≤ m) (i : Nat) : u1 (sr2 f a m) a (sr2 f a m (a - 1) 0) i 0 = sr2 f (a - 1) m i 0 := by
  rw [sr2_n f (show a - 1 ≤ a by omega), sr2_s f h0 hm rfl]
theorem L_remove_k {l : Launch} (hl : l.stackTraces = false) (Γ : fG) (B0 : Nat) (ad : Nat → Nat → Nat) {P R : fR} (M : fR) (hI : XI R) {p : Nat} (hp : p < R 0 0 0) : f_MetW l yL_remove cL_remove 3 (some .int) [(0, 5, 6, 16)] 8 1 6 132 Γ B0 [.ref (ad 1 0), .int (nI p)] (wj (fw Γ ad (P)) (xw Γ ad (R)) (mw Γ ad M)) (f_is (nI (R 0 0 0 - 1)) (wj (fw Γ ad (P)) (xw Γ ad (rmR R p)) (mw Γ ad M))) :=
  W_is2 (n_remove hl Γ B0 ad R (fw Γ ad P) (mw Γ ad M) _ hI (rg_N hp (by have := hI.1; omega))) (by rfl) (by have h64 := hI.1; rw [xN_nI (by omega)])
theorem L_move_k {l : Launch} (hl : l.stackTraces = false) (Γ : fG) (B0 : Nat) (ad : Nat → Nat → Nat) {P R : fR} (M : fR) (hI : XI R) {p o : Nat} (hp : p < R 0 0 0) (ho : o < R 0 0 0) : f_MetW l yL_move cL_move 4 (some .int) [(0, 7, 8, 16)] 8 2 12 135 Γ B0 [.ref (ad 1 0), .int (nI p), .int (nI o)] (wj (fw Γ ad (P)) (xw Γ ad (R)) (mw Γ ad M)) (f_is (0) (wj (fw Γ ad (P)) (xw Γ ad (mvR R p o)) (mw Γ ad M))) :=
  W_is2 (n_move hl Γ B0 ad R (fw Γ ad P) (mw Γ ad M) _ _ hI ⟨rg_N hp (by have := hI.1; omega), rg_N ho (by have := hI.1; omega)⟩) (by rfl) (by have h64 := hI.1; rw [xN_nI (by omega), xN_nI (by omega)])
theorem L_edit_k {l : Launch} (hl : l.stackTraces = false) (Γ : fG) (B0 : Nat) (ad : Nat → Nat → Nat) {P R : fR} (M : fR) (hI : XI R) {p y z : Nat} (hp : p < R 0 0 0) (hy : y < 256) (hz : z < 16) : f_MetW l yL_edit cL_edit 5 (some .int) [(0, 7, 8, 16), (0, 7, 13, 19)] 8 2 12 134 Γ B0 [.ref (ad 1 0), .int (nI p), .int (nI y), .int (nI z)] (wj (fw Γ ad (P)) (xw Γ ad (R)) (mw Γ ad M)) (f_is (nI (R 15 (pg R p) 0 + 1)) (wj (fw Γ ad (P)) (xw Γ ad (rwr R (pg R p) y z)) (mw Γ ad M))) :=
  W_is2 (n_edit hl Γ B0 ad R (fw Γ ad P) (mw Γ ad M) _ _ _ hI ⟨rg_N hp (by have := hI.1; omega), rg_N hy (by decide), rg_N hz (by decide)⟩) (by have h64 := hI.1; rw [xN_nI (by omega)]; rfl) (by have h64 := hI.1; rw [xN_nI (by omega), xN_nI (by omega), xN_nI (by omega)]; rfl)
theorem L_replace_k {l : Launch} (hl : l.stackTraces = false) (Γ : fG) (B0 : Nat) (ad : Nat → Nat → Nat) {P R : fR} (M : fR) (hI : XI R) (h15 : ∀ q, R 15 q 0 ≤ 900) {f o : Nat} (hf : f < 8) (ho : o < 8) (hfo : f ≠ o) : f_MetW l yL_replace cL_replace 4 (some .int) [(0, 6, 7, 19)] 8 3 18 135 Γ B0 [.ref (ad 1 0), .int (nI f), .int (nI o)] (wj (fw Γ ad (P)) (xw Γ ad (R)) (mw Γ ad M)) (f_is (nI (rpc R f o (R 0 0 0))) (wj (fw Γ ad (P)) (xw Γ ad (rpl R f o (R 0 0 0))) (mw Γ ad M))) :=
  W_is2 (n_replace hl Γ B0 ad R (fw Γ ad P) (mw Γ ad M) _ _ hI h15 ⟨⟨rg_N hf (by decide), rg_N ho (by decide)⟩, fun e => hfo ((nI_eq (by omega) (by omega)).mp e)⟩) (by rw [xN_nI (by omega), xN_nI (by omega)]) (by rw [xN_nI (by omega), xN_nI (by omega)])
theorem L_insert_k {l : Launch} (hl : l.stackTraces = false) (Γ : fG) (B0 : Nat) (ad : Nat → Nat → Nat) {P R : fR} (M : fR) (hI : XI R) {j y z : Nat} (hj : j ≤ R 0 0 0) (hy : y < 256) (hz : z < 16) (h24 : R 0 0 0 < 24) (h100 : R 1 0 0 < 100) : f_MetW l yL_insert cL_insert 5 (some .int) [(0, 7, 8, 16), (0, 7, 13, 19), (0, 7, 18, 22)] 8 4 24 135 Γ B0 [.ref (ad 1 0), .int (nI j), .int (nI y), .int (nI z)] (wj (fw Γ ad (P)) (xw Γ ad (R)) (mw Γ ad M)) (f_rI (fun r9 w9 => r9 = nI (R 0 0 0 + 1) ∧ ∃ ad' : Nat → Nat → Nat, ad' 1 0 = ad 1 0 ∧ (∀ j, ad' 30 j = ad 30 j) ∧ w9 = wj (fw Γ ad' P) (xw Γ ad' (insR R j y z)) (mw Γ ad' M))) :=
  (n_insert hl Γ B0 ad R (fw Γ ad P) (mw Γ ad M) _ _ _ hI ⟨⟨rg_N (by omega) (by omega), rg_N hy (by decide), rg_N hz (by decide)⟩, by omega, h100⟩).mono (fun v w' hp => by
    obtain ⟨r, rfl, e, a1, a2, rfl⟩ := hp
    refine ⟨r, rfl, e, pgA ad (R 20 0 0) a1 a2, rfl, fun _ => rfl, ?_⟩
    rw [xN_nI (by omega), xN_nI (by omega), xN_nI (by omega), fw_ext Γ (ad := ad) (ad' := pgA ad (R 20 0 0) a1 a2) P (fun _ => rfl), mw_eq Γ (ad := ad) (ad' := pgA ad (R 20 0 0) a1 a2) (M := M) (M' := M) (fun _ => rfl) (fun _ => rfl) (fun _ => rfl) (fun _ => rfl) (fun _ => rfl) (fun _ => rfl) rfl])
