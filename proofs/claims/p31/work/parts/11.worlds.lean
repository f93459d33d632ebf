/-! ===== the worlds: a state is a table of whole numbers; the cells are read off it ===== -/
abbrev fR : Type := Nat → Nat → Nat → Nat
def rs (R : fR) (c : Nat) (f : Nat → Nat → Nat) : fR := fun c' => if c' = c then f else R c'
def u1 (f : Nat → Nat → Nat) (i v : Nat) : Nat → Nat → Nat := fun i' j' => if i' = i then v else f i' j'
def u2 (f : Nat → Nat → Nat) (i j v : Nat) : Nat → Nat → Nat := fun i' j' => if i' = i ∧ j' = j then v else f i' j'
def k0 (v : Nat) : Nat → Nat → Nat := fun _ _ => v
theorem rs_same (R : fR) (c : Nat) (f : Nat → Nat → Nat) : rs R c f c = f := by simp [rs]
theorem rs_ne (R : fR) {c d : Nat} (f : Nat → Nat → Nat) (h : d ≠ c) : rs R c f d = R d := by simp [rs, h]
/-- a truth value kept as a number -/
def zB (x : Nat) : Bool := x != 0
def oR (f : Nat → Nat) (x : Nat) : Option Nat := if x = 0 then none else some (f (x - 1))
/-- how the class writes a mark: edition, page, place -/
def cM (c : Nat) : Nat := 512 * (100 * (c / 65536) + c / 512 % 128) + c % 512
def iM (v : Nat) : Int32 := if v = 0 then -1 else nI (v - 1)
abbrev fO : Type := Option (Nat × va_E)
def fw (Γ : fG) (ad : Nat → Nat → Nat) (P : fR) : Nat → fO := fun t => match t with
  | 0 => some (ad 0 0, .inr (0, [.ref (ad 0 1), .ref (ad 0 2), .ref (ad 0 3), .ref (ad 0 4), .ref (ad 0 5), .ref (ad 0 6), .int (nI (P 0 0 0)), .int (nI (P 1 0 0)), .int (nI (P 2 0 0)), .int (nI (P 3 0 0))]))
  | 1 => some (ad 0 1, .inl (Γ.2 0, 4, .inl (fun i => nI (P 4 i 0))))
  | 2 => some (ad 0 2, .inl (Γ.2 1, 16, .inl (fun i => bI (zB (P 5 i 0)))))
  | 3 => some (ad 0 3, .inl (Γ.2 0, 32, .inl (fun i => nI (P 6 i 0))))
  | 4 => some (ad 0 4, .inl (Γ.2 0, 32, .inl (fun i => nI (P 7 i 0))))
  | 5 => some (ad 0 5, .inl (Γ.2 0, 16, .inl (fun i => nI (P 8 i 0))))
  | 6 => some (ad 0 6, .inl (Γ.2 0, 16, .inl (fun i => nI (P 9 i 0))))
  | _ => none
def xw (Γ : fG) (ad : Nat → Nat → Nat) (R : fR) : Nat × Nat → fO := fun t => match t with
  | (0, 0) => some (ad 1 0, .inr (4, [.ref (ad 2 0), .int (nI (R 0 0 0)), .int (nI (R 1 0 0)), .ref (ad 0 0), .ref (ad 3 0), .int (nI (R 2 0 0)), .ref (ad 4 0), .ref (ad 5 0), .ref (ad 6 0), .int (nI (R 3 0 0)), .int (nI (R 4 0 0)), .int (nI (R 5 0 0))]))
  | (1, 0) => some (ad 2 0, .inl (Γ.2 3, 64, .inr (.inr (.inr (.inr (fun i => oR (ad 14) (R 6 i 0)))))))
  | (2, 0) => some (ad 3 0, .inl (Γ.2 4, 8, .inr (.inr (.inr (.inr (fun i => some (ad 10 i)))))))
  | (3, 0) => some (ad 4 0, .inl (Γ.2 1, 16, .inl (fun i => bI (zB (R 7 i 0)))))
  | (4, 0) => some (ad 5 0, .inl (Γ.2 5, 128, .inr (.inr (.inr (.inr (fun i => if R 8 i 0 = 0 then none else some (ad 16 i)))))))
  | (5, 0) => some (ad 6 0, .inl (Γ.2 2, 16, .inr (.inl (fun j => lN (cM (R 9 j 0))))))
  | (10, f) => if f < 8 then some (ad 10 f, .inr (1, [.int (bI (zB (R 10 f 0))), .int (nI (R 11 f 0)), .int (nI (R 12 f 0))])) else none
  | (14, q) => if q < R 20 0 0 then some (ad 14 q, .inr (2, [.int (nI q), .ref (ad 15 q), .int (nI (R 13 q 0)), .int (nI (R 14 q 0)), .int (nI (R 15 q 0))])) else none
  | (15, q) => if q < R 20 0 0 then some (ad 15 q, .inl (Γ.2 0, 4, .inl (fun j => nI (R 16 q j)))) else none
  | (16, q) => if R 8 q 0 = 0 then none else some (ad 16 q, .inr (3, [.ref (ad 17 q), .int (nI (R 17 q 0)), .int (nI (R 18 q 0))]))
  | (17, q) => if R 8 q 0 = 0 then none else some (ad 17 q, .inl (Γ.2 2, 16, .inr (.inl (fun j => lN (cM (R 19 q j))))))
  | _ => none
def mw (Γ : fG) (ad : Nat → Nat → Nat) (M : fR) : Nat → fO := fun t => match t with
  | 1 => some (ad 30 1, .inl (Γ.2 0, 24, .inl (fun i => nI (M 1 i 0))))
  | 2 => some (ad 30 2, .inl (Γ.2 0, 24, .inl (fun i => nI (M 2 i 0))))
  | 3 => some (ad 30 3, .inl (Γ.2 0, 16, .inl (fun i => nI (M 3 i 0))))
  | 4 => some (ad 30 4, .inl (Γ.2 0, 6, .inl (fun i => nI (M 4 i 0))))
  | 5 => if M 6 0 0 = 0 then none else some (M 6 0 0 - 1, .inl (Γ.2 0, 8, .inl (fun i => iM (M 5 i 0))))
  | _ => none
def wj (F : Nat → fO) (X : Nat × Nat → fO) (M : Nat → fO) : fV := fun t => match t with
  | .inl t => F t
  | .inr (.inl t) => X t
  | .inr (.inr t) => M t
theorem upd_nI (f : Nat → Nat → Nat) (j v : Nat) : upd (fun i => nI (f i 0)) j (nI v) = fun i => nI (u1 f j v i 0) := by
  funext i; by_cases h : i = j <;> simp [upd, u1, h]
theorem upd_nI2 (f : Nat → Nat → Nat) (q j v : Nat) : upd (fun i => nI (f q i)) j (nI v) = fun i => nI (u2 f q j v q i) := by
  funext i; by_cases h : i = j <;> simp [upd, u2, h]
theorem upd_bI (f : Nat → Nat → Nat) (j : Nat) (b : Bool) : upd (fun i => bI (zB (f i 0))) j (bI b) = fun i => bI (zB (u1 f j b.toNat i 0)) := by
  funext i; by_cases h : i = j
  · subst h; cases b <;> simp [upd, u1, zB]
  · simp [upd, u1, h]
theorem upd_lN (f : Nat → Nat → Nat) (j v : Nat) : vp_updL (fun i => lN (cM (f i 0))) j (lN (cM v)) = fun i => lN (cM (u1 f j v i 0)) := by
  funext i; by_cases h : i = j <;> simp [vp_updL, u1, h]
theorem upd_lN2 (f : Nat → Nat → Nat) (q j v : Nat) : vp_updL (fun i => lN (cM (f q i))) j (lN (cM v)) = fun i => lN (cM (u2 f q j v q i)) := by
  funext i; by_cases h : i = j <;> simp [vp_updL, u2, h]
theorem upd_iM (f : Nat → Nat → Nat) (j v : Nat) : upd (fun i => iM (f i 0)) j (iM v) = fun i => iM (u1 f j v i 0) := by
  funext i; by_cases h : i = j <;> simp [upd, u1, h]
theorem wj_x {F : Nat → fO} {X X' : Nat × Nat → fO} {M : Nat → fO} {t : Nat × Nat} {a : Nat} {e0 e : va_E} (h0 : X t = some (a, e0)) (h1 : X' t = some (a, e)) (h2 : ∀ t', t' ≠ t → X' t' = X t') : f_set (wj F X M) (.inr (.inl t)) e = wj F X' M :=
  f_set_eq (w := wj F X M) (w' := wj F X' M) (t := .inr (.inl t)) h0 h1 (fun t' ht => by
    match t' with
    | .inl _ => rfl
    | .inr (.inr _) => rfl
    | .inr (.inl z) => exact h2 z (fun q => ht (by rw [q])))
theorem wj_f {F F' : Nat → fO} {X : Nat × Nat → fO} {M : Nat → fO} {t : Nat} {a : Nat} {e0 e : va_E} (h0 : F t = some (a, e0)) (h1 : F' t = some (a, e)) (h2 : ∀ t', t' ≠ t → F' t' = F t') : f_set (wj F X M) (.inl t) e = wj F' X M :=
  f_set_eq (w := wj F X M) (w' := wj F' X M) (t := .inl t) h0 h1 (fun t' ht => by
    match t' with
    | .inr (.inl _) => rfl
    | .inr (.inr _) => rfl
    | .inl z => exact h2 z (fun q => ht (by rw [q])))
theorem wj_m {F : Nat → fO} {X : Nat × Nat → fO} {M M' : Nat → fO} {t : Nat} {a : Nat} {e0 e : va_E} (h0 : M t = some (a, e0)) (h1 : M' t = some (a, e)) (h2 : ∀ t', t' ≠ t → M' t' = M t') : f_set (wj F X M) (.inr (.inr t)) e = wj F X M' :=
  f_set_eq (w := wj F X M) (w' := wj F X M') (t := .inr (.inr t)) h0 h1 (fun t' ht => by
    match t' with
    | .inr (.inl _) => rfl
    | .inl _ => rfl
    | .inr (.inr z) => exact h2 z (fun q => ht (by rw [q])))
theorem xw_font {Γ : fG} {ad : Nat → Nat → Nat} {R : fR} {f : Nat} (h : f < 8) : xw Γ ad R (10, f) = some (ad 10 f, .inr (1, [.int (bI (zB (R 10 f 0))), .int (nI (R 11 f 0)), .int (nI (R 12 f 0))])) := by simp [xw, h]
theorem xw_page {Γ : fG} {ad : Nat → Nat → Nat} {R : fR} {q : Nat} (h : q < R 20 0 0) : xw Γ ad R (14, q) = some (ad 14 q, .inr (2, [.int (nI q), .ref (ad 15 q), .int (nI (R 13 q 0)), .int (nI (R 14 q 0)), .int (nI (R 15 q 0))])) := by simp [xw, h]
theorem xw_proof {Γ : fG} {ad : Nat → Nat → Nat} {R : fR} {q : Nat} (h : q < R 20 0 0) : xw Γ ad R (15, q) = some (ad 15 q, .inl (Γ.2 0, 4, .inl (fun j => nI (R 16 q j)))) := by simp [xw, h]
theorem xw_plate {Γ : fG} {ad : Nat → Nat → Nat} {R : fR} {q : Nat} (h : R 8 q 0 ≠ 0) : xw Γ ad R (16, q) = some (ad 16 q, .inr (3, [.ref (ad 17 q), .int (nI (R 17 q 0)), .int (nI (R 18 q 0))])) := by simp [xw, h]
theorem xw_shown {Γ : fG} {ad : Nat → Nat → Nat} {R : fR} {q : Nat} (h : R 8 q 0 ≠ 0) : xw Γ ad R (17, q) = some (ad 17 q, .inl (Γ.2 2, 16, .inr (.inl (fun j => lN (cM (R 19 q j)))))) := by simp [xw, h]
section WDS
variable {X9 : fX} {Γ : fG} {B0 : Nat} {cc : ByteArray} {nL fr mc ms lo : Nat} {H : Heap} {locs : List Loc} {k n pc : Nat} {L : List (Option Value)} {rest : List Value} {ad : Nat → Nat → Nat} {P R M9 : fR} {F : Nat → fO} {X : Nat × Nat → fO} {M : Nat → fO}
theorem g_X4_11 (C : f_C X9 Γ B0 RX4 cc nL fr mc ms lo) (hh : f_HS Γ B0 (wj F (xw Γ ad R) M) X9 H locs) (hdg : decode cc pc = .ok (.getfield 11, 3)) (kk : f_W X9 H locs k n (pc + 3) L (.ref (ad 2 0) :: rest)) : f_W X9 H locs k n (pc) L (.ref (ad 1 0) :: rest) := r_getf C hh (t := .inr (.inl (0, 0))) rfl rfl hinX4 0 (by decide) fl_X4_11 rfl hdg kk
theorem g_X4_18 (C : f_C X9 Γ B0 RX4 cc nL fr mc ms lo) (hh : f_HS Γ B0 (wj F (xw Γ ad R) M) X9 H locs) (hdg : decode cc pc = .ok (.getfield 18, 3)) (kk : f_W X9 H locs k n (pc + 3) L (.ref (ad 0 0) :: rest)) : f_W X9 H locs k n (pc) L (.ref (ad 1 0) :: rest) := r_getf C hh (t := .inr (.inl (0, 0))) rfl rfl hinX4 3 (by decide) fl_X4_18 rfl hdg kk
theorem g_X4_28 (C : f_C X9 Γ B0 RX4 cc nL fr mc ms lo) (hh : f_HS Γ B0 (wj F (xw Γ ad R) M) X9 H locs) (hdg : decode cc pc = .ok (.getfield 28, 3)) (kk : f_W X9 H locs k n (pc + 3) L (.ref (ad 3 0) :: rest)) : f_W X9 H locs k n (pc) L (.ref (ad 1 0) :: rest) := r_getf C hh (t := .inr (.inl (0, 0))) rfl rfl hinX4 4 (by decide) fl_X4_28 rfl hdg kk
theorem g_X4_33 (C : f_C X9 Γ B0 RX4 cc nL fr mc ms lo) (hh : f_HS Γ B0 (wj F (xw Γ ad R) M) X9 H locs) (hdg : decode cc pc = .ok (.getfield 33, 3)) (kk : f_W X9 H locs k n (pc + 3) L (.ref (ad 4 0) :: rest)) : f_W X9 H locs k n (pc) L (.ref (ad 1 0) :: rest) := r_getf C hh (t := .inr (.inl (0, 0))) rfl rfl hinX4 6 (by decide) fl_X4_33 rfl hdg kk
theorem g_X4_39 (C : f_C X9 Γ B0 RX4 cc nL fr mc ms lo) (hh : f_HS Γ B0 (wj F (xw Γ ad R) M) X9 H locs) (hdg : decode cc pc = .ok (.getfield 39, 3)) (kk : f_W X9 H locs k n (pc + 3) L (.ref (ad 5 0) :: rest)) : f_W X9 H locs k n (pc) L (.ref (ad 1 0) :: rest) := r_getf C hh (t := .inr (.inl (0, 0))) rfl rfl hinX4 7 (by decide) fl_X4_39 rfl hdg kk
theorem g_X4_43 (C : f_C X9 Γ B0 RX4 cc nL fr mc ms lo) (hh : f_HS Γ B0 (wj F (xw Γ ad R) M) X9 H locs) (hdg : decode cc pc = .ok (.getfield 43, 3)) (kk : f_W X9 H locs k n (pc + 3) L (.ref (ad 6 0) :: rest)) : f_W X9 H locs k n (pc) L (.ref (ad 1 0) :: rest) := r_getf C hh (t := .inr (.inl (0, 0))) rfl rfl hinX4 8 (by decide) fl_X4_43 rfl hdg kk
theorem g_X4_47 (C : f_C X9 Γ B0 RX4 cc nL fr mc ms lo) (hh : f_HS Γ B0 (wj F (xw Γ ad R) M) X9 H locs) (hdg : decode cc pc = .ok (.getfield 47, 3)) (kk : f_W X9 H locs k n (pc + 3) L (.int (nI (R 0 0 0)) :: rest)) : f_W X9 H locs k n (pc) L (.ref (ad 1 0) :: rest) := r_getf C hh (t := .inr (.inl (0, 0))) rfl rfl hinX4 1 (by decide) fl_X4_47 rfl hdg kk
set_option maxRecDepth 10000 in
theorem p_X4_47 (C : f_C X9 Γ B0 RX4 cc nL fr mc ms lo) (hh : f_HS Γ B0 (wj F (xw Γ ad R) M) X9 H locs) {v : Nat} (hdg : decode cc pc = .ok (.putfield 47, 3)) (kk : ∀ (H : Heap) (locs : List Loc), f_HS Γ B0 (wj F (xw Γ ad (rs R 0 (k0 v))) M) X9 H locs → f_W X9 H locs k n (pc + 3) L (rest)) : f_W X9 H locs k n (pc) L (.int (nI v) :: .ref (ad 1 0) :: rest) := by
  refine r_putf C hh (t := .inr (.inl (0, 0))) rfl rfl hinX4 tyX4 tyX4_ok nmX4 1 (by decide) fl_X4_47 rfl (tyX4_ok 1 (by decide)) rfl rfl (Nat.le_of_ble_eq_true rfl) hdg (fun H locs hh => kk H locs ?_)
  refine (congrArg (fun w9 => f_HS Γ B0 w9 X9 H locs) (wj_x rfl rfl (fun t9 h9 => by
      unfold xw
      split <;> first | rfl | exact absurd rfl h9))).mp hh
theorem g_X4_61 (C : f_C X9 Γ B0 RX4 cc nL fr mc ms lo) (hh : f_HS Γ B0 (wj F (xw Γ ad R) M) X9 H locs) (hdg : decode cc pc = .ok (.getfield 61, 3)) (kk : f_W X9 H locs k n (pc + 3) L (.int (nI (R 1 0 0)) :: rest)) : f_W X9 H locs k n (pc) L (.ref (ad 1 0) :: rest) := r_getf C hh (t := .inr (.inl (0, 0))) rfl rfl hinX4 2 (by decide) fl_X4_61 rfl hdg kk
set_option maxRecDepth 10000 in
theorem p_X4_61 (C : f_C X9 Γ B0 RX4 cc nL fr mc ms lo) (hh : f_HS Γ B0 (wj F (xw Γ ad R) M) X9 H locs) {v : Nat} (hdg : decode cc pc = .ok (.putfield 61, 3)) (kk : ∀ (H : Heap) (locs : List Loc), f_HS Γ B0 (wj F (xw Γ ad (rs R 1 (k0 v))) M) X9 H locs → f_W X9 H locs k n (pc + 3) L (rest)) : f_W X9 H locs k n (pc) L (.int (nI v) :: .ref (ad 1 0) :: rest) := by
  refine r_putf C hh (t := .inr (.inl (0, 0))) rfl rfl hinX4 tyX4 tyX4_ok nmX4 2 (by decide) fl_X4_61 rfl (tyX4_ok 2 (by decide)) rfl rfl (Nat.le_of_ble_eq_true rfl) hdg (fun H locs hh => kk H locs ?_)
  refine (congrArg (fun w9 => f_HS Γ B0 w9 X9 H locs) (wj_x rfl rfl (fun t9 h9 => by
      unfold xw
      split <;> first | rfl | exact absurd rfl h9))).mp hh
theorem g_X4_82 (C : f_C X9 Γ B0 RX4 cc nL fr mc ms lo) (hh : f_HS Γ B0 (wj F (xw Γ ad R) M) X9 H locs) {q : Nat} (hq : q < R 20 0 0) (hdg : decode cc pc = .ok (.getfield 82, 3)) (kk : f_W X9 H locs k n (pc + 3) L (.int (nI (R 15 q 0)) :: rest)) : f_W X9 H locs k n (pc) L (.ref (ad 14 q) :: rest) := r_getf C hh (t := .inr (.inl (14, q))) (xw_page (Γ := Γ) (ad := ad) (R := R) hq) rfl hinX2 4 (by decide) fl_X4_82 rfl hdg kk
theorem g_X4_97 (C : f_C X9 Γ B0 RX4 cc nL fr mc ms lo) (hh : f_HS Γ B0 (wj F (xw Γ ad R) M) X9 H locs) {q : Nat} (hq : q < R 20 0 0) (hdg : decode cc pc = .ok (.getfield 97, 3)) (kk : f_W X9 H locs k n (pc + 3) L (.int (nI (R 13 q 0)) :: rest)) : f_W X9 H locs k n (pc) L (.ref (ad 14 q) :: rest) := r_getf C hh (t := .inr (.inl (14, q))) (xw_page (Γ := Γ) (ad := ad) (R := R) hq) rfl hinX2 2 (by decide) fl_X4_97 rfl hdg kk
theorem g_X4_100 (C : f_C X9 Γ B0 RX4 cc nL fr mc ms lo) (hh : f_HS Γ B0 (wj F (xw Γ ad R) M) X9 H locs) {q : Nat} (hq : q < R 20 0 0) (hdg : decode cc pc = .ok (.getfield 100, 3)) (kk : f_W X9 H locs k n (pc + 3) L (.int (nI (R 14 q 0)) :: rest)) : f_W X9 H locs k n (pc) L (.ref (ad 14 q) :: rest) := r_getf C hh (t := .inr (.inl (14, q))) (xw_page (Γ := Γ) (ad := ad) (R := R) hq) rfl hinX2 3 (by decide) fl_X4_100 rfl hdg kk
theorem g_X4_117 (C : f_C X9 Γ B0 RX4 cc nL fr mc ms lo) (hh : f_HS Γ B0 (wj (fw Γ ad P) X M) X9 H locs) (hdg : decode cc pc = .ok (.getfield 117, 3)) (kk : f_W X9 H locs k n (pc + 3) L (.int (nI (P 2 0 0)) :: rest)) : f_W X9 H locs k n (pc) L (.ref (ad 0 0) :: rest) := r_getf C hh (t := .inl 0) rfl rfl hinX0 8 (by decide) fl_X4_117 rfl hdg kk
theorem g_X4_120 (C : f_C X9 Γ B0 RX4 cc nL fr mc ms lo) (hh : f_HS Γ B0 (wj (fw Γ ad P) X M) X9 H locs) (hdg : decode cc pc = .ok (.getfield 120, 3)) (kk : f_W X9 H locs k n (pc + 3) L (.int (nI (P 3 0 0)) :: rest)) : f_W X9 H locs k n (pc) L (.ref (ad 0 0) :: rest) := r_getf C hh (t := .inl 0) rfl rfl hinX0 9 (by decide) fl_X4_120 rfl hdg kk
theorem g_X4_127 (C : f_C X9 Γ B0 RX4 cc nL fr mc ms lo) (hh : f_HS Γ B0 (wj (fw Γ ad P) X M) X9 H locs) (hdg : decode cc pc = .ok (.getfield 127, 3)) (kk : f_W X9 H locs k n (pc + 3) L (.ref (ad 0 3) :: rest)) : f_W X9 H locs k n (pc) L (.ref (ad 0 0) :: rest) := r_getf C hh (t := .inl 0) rfl rfl hinX0 2 (by decide) fl_X4_127 rfl hdg kk
theorem g_X4_152 (C : f_C X9 Γ B0 RX4 cc nL fr mc ms lo) (hh : f_HS Γ B0 (wj (fw Γ ad P) X M) X9 H locs) (hdg : decode cc pc = .ok (.getfield 152, 3)) (kk : f_W X9 H locs k n (pc + 3) L (.ref (ad 0 2) :: rest)) : f_W X9 H locs k n (pc) L (.ref (ad 0 0) :: rest) := r_getf C hh (t := .inl 0) rfl rfl hinX0 1 (by decide) fl_X4_152 rfl hdg kk
theorem g_X4_161 (C : f_C X9 Γ B0 RX4 cc nL fr mc ms lo) (hh : f_HS Γ B0 (wj (fw Γ ad P) X M) X9 H locs) (hdg : decode cc pc = .ok (.getfield 161, 3)) (kk : f_W X9 H locs k n (pc + 3) L (.ref (ad 0 4) :: rest)) : f_W X9 H locs k n (pc) L (.ref (ad 0 0) :: rest) := r_getf C hh (t := .inl 0) rfl rfl hinX0 3 (by decide) fl_X4_161 rfl hdg kk
theorem g_X4_198 (C : f_C X9 Γ B0 RX4 cc nL fr mc ms lo) (hh : f_HS Γ B0 (wj F (xw Γ ad R) M) X9 H locs) {q : Nat} (hq : q < 8) (hdg : decode cc pc = .ok (.getfield 198, 3)) (kk : f_W X9 H locs k n (pc + 3) L (.int (bI (zB (R 10 q 0))) :: rest)) : f_W X9 H locs k n (pc) L (.ref (ad 10 q) :: rest) := r_getf C hh (t := .inr (.inl (10, q))) (xw_font (Γ := Γ) (ad := ad) (R := R) hq) rfl hinX1 0 (by decide) fl_X4_198 rfl hdg kk
set_option maxRecDepth 10000 in
theorem p_X4_198 (C : f_C X9 Γ B0 RX4 cc nL fr mc ms lo) (hh : f_HS Γ B0 (wj F (xw Γ ad R) M) X9 H locs) {q : Nat} (hq : q < 8) {v : Bool} (hdg : decode cc pc = .ok (.putfield 198, 3)) (kk : ∀ (H : Heap) (locs : List Loc), f_HS Γ B0 (wj F (xw Γ ad (rs R 10 (u1 (R 10) q v.toNat))) M) X9 H locs → f_W X9 H locs k n (pc + 3) L (rest)) : f_W X9 H locs k n (pc) L (.int (bI v) :: .ref (ad 10 q) :: rest) := by
  refine r_putf C hh (t := .inr (.inl (10, q))) (xw_font (Γ := Γ) (ad := ad) (R := R) hq) rfl hinX1 tyX1 tyX1_ok nmX1 0 (by decide) fl_X4_198 rfl (tyX1_ok 0 (by decide)) (bI_nar v) (by cases v <;> rfl) (Nat.le_of_ble_eq_true rfl) hdg (fun H locs hh => kk H locs ?_)
  refine (congrArg (fun w9 => f_HS Γ B0 w9 X9 H locs) (wj_x (xw_font (Γ := Γ) (ad := ad) (R := R) hq) (by cases v <;> simp [xw, rs, u1, hq, zB]) (fun t9 h9 => by
      obtain ⟨i9, j9⟩ := t9
      have h8 : ¬ (i9 = 10 ∧ j9 = q) := fun z => h9 (by rw [z.1, z.2])
      unfold xw
      split <;> first | rfl | simp_all [rs, u1, u2]))).mp hh
theorem g_X4_209 (C : f_C X9 Γ B0 RX4 cc nL fr mc ms lo) (hh : f_HS Γ B0 (wj F (xw Γ ad R) M) X9 H locs) (hdg : decode cc pc = .ok (.getfield 209, 3)) (kk : f_W X9 H locs k n (pc + 3) L (.int (nI (R 2 0 0)) :: rest)) : f_W X9 H locs k n (pc) L (.ref (ad 1 0) :: rest) := r_getf C hh (t := .inr (.inl (0, 0))) rfl rfl hinX4 5 (by decide) fl_X4_209 rfl hdg kk
set_option maxRecDepth 10000 in
theorem p_X4_209 (C : f_C X9 Γ B0 RX4 cc nL fr mc ms lo) (hh : f_HS Γ B0 (wj F (xw Γ ad R) M) X9 H locs) {v : Nat} (hdg : decode cc pc = .ok (.putfield 209, 3)) (kk : ∀ (H : Heap) (locs : List Loc), f_HS Γ B0 (wj F (xw Γ ad (rs R 2 (k0 v))) M) X9 H locs → f_W X9 H locs k n (pc + 3) L (rest)) : f_W X9 H locs k n (pc) L (.int (nI v) :: .ref (ad 1 0) :: rest) := by
  refine r_putf C hh (t := .inr (.inl (0, 0))) rfl rfl hinX4 tyX4 tyX4_ok nmX4 5 (by decide) fl_X4_209 rfl (tyX4_ok 5 (by decide)) rfl rfl (Nat.le_of_ble_eq_true rfl) hdg (fun H locs hh => kk H locs ?_)
  refine (congrArg (fun w9 => f_HS Γ B0 w9 X9 H locs) (wj_x rfl rfl (fun t9 h9 => by
      unfold xw
      split <;> first | rfl | exact absurd rfl h9))).mp hh
theorem g_X4_237 (C : f_C X9 Γ B0 RX4 cc nL fr mc ms lo) (hh : f_HS Γ B0 (wj F (xw Γ ad R) M) X9 H locs) {q : Nat} (hq : q < R 20 0 0) (hdg : decode cc pc = .ok (.getfield 237, 3)) (kk : f_W X9 H locs k n (pc + 3) L (.ref (ad 15 q) :: rest)) : f_W X9 H locs k n (pc) L (.ref (ad 14 q) :: rest) := r_getf C hh (t := .inr (.inl (14, q))) (xw_page (Γ := Γ) (ad := ad) (R := R) hq) rfl hinX2 1 (by decide) fl_X4_237 rfl hdg kk
theorem g_X4_265 (C : f_C X9 Γ B0 RX4 cc nL fr mc ms lo) (hh : f_HS Γ B0 (wj F (xw Γ ad R) M) X9 H locs) (hdg : decode cc pc = .ok (.getfield 265, 3)) (kk : f_W X9 H locs k n (pc + 3) L (.int (nI (R 4 0 0)) :: rest)) : f_W X9 H locs k n (pc) L (.ref (ad 1 0) :: rest) := r_getf C hh (t := .inr (.inl (0, 0))) rfl rfl hinX4 10 (by decide) fl_X4_265 rfl hdg kk
set_option maxRecDepth 10000 in
theorem p_X4_265 (C : f_C X9 Γ B0 RX4 cc nL fr mc ms lo) (hh : f_HS Γ B0 (wj F (xw Γ ad R) M) X9 H locs) {v : Nat} (hdg : decode cc pc = .ok (.putfield 265, 3)) (kk : ∀ (H : Heap) (locs : List Loc), f_HS Γ B0 (wj F (xw Γ ad (rs R 4 (k0 v))) M) X9 H locs → f_W X9 H locs k n (pc + 3) L (rest)) : f_W X9 H locs k n (pc) L (.int (nI v) :: .ref (ad 1 0) :: rest) := by
  refine r_putf C hh (t := .inr (.inl (0, 0))) rfl rfl hinX4 tyX4 tyX4_ok nmX4 10 (by decide) fl_X4_265 rfl (tyX4_ok 10 (by decide)) rfl rfl (Nat.le_of_ble_eq_true rfl) hdg (fun H locs hh => kk H locs ?_)
  refine (congrArg (fun w9 => f_HS Γ B0 w9 X9 H locs) (wj_x rfl rfl (fun t9 h9 => by
      unfold xw
      split <;> first | rfl | exact absurd rfl h9))).mp hh
theorem g_X4_281 (C : f_C X9 Γ B0 RX4 cc nL fr mc ms lo) (hh : f_HS Γ B0 (wj F (xw Γ ad R) M) X9 H locs) {q : Nat} (hq : R 8 q 0 ≠ 0) (hdg : decode cc pc = .ok (.getfield 281, 3)) (kk : f_W X9 H locs k n (pc + 3) L (.int (nI (R 18 q 0)) :: rest)) : f_W X9 H locs k n (pc) L (.ref (ad 16 q) :: rest) := r_getf C hh (t := .inr (.inl (16, q))) (xw_plate (Γ := Γ) (ad := ad) (R := R) hq) rfl hinX3 2 (by decide) fl_X4_281 rfl hdg kk
set_option maxRecDepth 10000 in
theorem p_X4_281 (C : f_C X9 Γ B0 RX4 cc nL fr mc ms lo) (hh : f_HS Γ B0 (wj F (xw Γ ad R) M) X9 H locs) {q : Nat} (hq : R 8 q 0 ≠ 0) {v : Nat} (hdg : decode cc pc = .ok (.putfield 281, 3)) (kk : ∀ (H : Heap) (locs : List Loc), f_HS Γ B0 (wj F (xw Γ ad (rs R 18 (u1 (R 18) q v))) M) X9 H locs → f_W X9 H locs k n (pc + 3) L (rest)) : f_W X9 H locs k n (pc) L (.int (nI v) :: .ref (ad 16 q) :: rest) := by
  refine r_putf C hh (t := .inr (.inl (16, q))) (xw_plate (Γ := Γ) (ad := ad) (R := R) hq) rfl hinX3 tyX3 tyX3_ok nmX3 2 (by decide) fl_X4_281 rfl (tyX3_ok 2 (by decide)) rfl rfl (Nat.le_of_ble_eq_true rfl) hdg (fun H locs hh => kk H locs ?_)
  refine (congrArg (fun w9 => f_HS Γ B0 w9 X9 H locs) (wj_x (xw_plate (Γ := Γ) (ad := ad) (R := R) hq) (by simp [xw, rs, u1, hq]) (fun t9 h9 => by
      obtain ⟨i9, j9⟩ := t9
      have h8 : ¬ (i9 = 16 ∧ j9 = q) := fun z => h9 (by rw [z.1, z.2])
      unfold xw
      split <;> first | rfl | simp_all [rs, u1, u2]))).mp hh
theorem g_X4_292 (C : f_C X9 Γ B0 RX4 cc nL fr mc ms lo) (hh : f_HS Γ B0 (wj F (xw Γ ad R) M) X9 H locs) (hdg : decode cc pc = .ok (.getfield 292, 3)) (kk : f_W X9 H locs k n (pc + 3) L (.int (nI (R 5 0 0)) :: rest)) : f_W X9 H locs k n (pc) L (.ref (ad 1 0) :: rest) := r_getf C hh (t := .inr (.inl (0, 0))) rfl rfl hinX4 11 (by decide) fl_X4_292 rfl hdg kk
set_option maxRecDepth 10000 in
theorem p_X4_292 (C : f_C X9 Γ B0 RX4 cc nL fr mc ms lo) (hh : f_HS Γ B0 (wj F (xw Γ ad R) M) X9 H locs) {v : Nat} (hdg : decode cc pc = .ok (.putfield 292, 3)) (kk : ∀ (H : Heap) (locs : List Loc), f_HS Γ B0 (wj F (xw Γ ad (rs R 5 (k0 v))) M) X9 H locs → f_W X9 H locs k n (pc + 3) L (rest)) : f_W X9 H locs k n (pc) L (.int (nI v) :: .ref (ad 1 0) :: rest) := by
  refine r_putf C hh (t := .inr (.inl (0, 0))) rfl rfl hinX4 tyX4 tyX4_ok nmX4 11 (by decide) fl_X4_292 rfl (tyX4_ok 11 (by decide)) rfl rfl (Nat.le_of_ble_eq_true rfl) hdg (fun H locs hh => kk H locs ?_)
  refine (congrArg (fun w9 => f_HS Γ B0 w9 X9 H locs) (wj_x rfl rfl (fun t9 h9 => by
      unfold xw
      split <;> first | rfl | exact absurd rfl h9))).mp hh
theorem g_X4_297 (C : f_C X9 Γ B0 RX4 cc nL fr mc ms lo) (hh : f_HS Γ B0 (wj F (xw Γ ad R) M) X9 H locs) (hdg : decode cc pc = .ok (.getfield 297, 3)) (kk : f_W X9 H locs k n (pc + 3) L (.int (nI (R 3 0 0)) :: rest)) : f_W X9 H locs k n (pc) L (.ref (ad 1 0) :: rest) := r_getf C hh (t := .inr (.inl (0, 0))) rfl rfl hinX4 9 (by decide) fl_X4_297 rfl hdg kk
set_option maxRecDepth 10000 in
theorem p_X4_297 (C : f_C X9 Γ B0 RX4 cc nL fr mc ms lo) (hh : f_HS Γ B0 (wj F (xw Γ ad R) M) X9 H locs) {v : Nat} (hdg : decode cc pc = .ok (.putfield 297, 3)) (kk : ∀ (H : Heap) (locs : List Loc), f_HS Γ B0 (wj F (xw Γ ad (rs R 3 (k0 v))) M) X9 H locs → f_W X9 H locs k n (pc + 3) L (rest)) : f_W X9 H locs k n (pc) L (.int (nI v) :: .ref (ad 1 0) :: rest) := by
  refine r_putf C hh (t := .inr (.inl (0, 0))) rfl rfl hinX4 tyX4 tyX4_ok nmX4 9 (by decide) fl_X4_297 rfl (tyX4_ok 9 (by decide)) rfl rfl (Nat.le_of_ble_eq_true rfl) hdg (fun H locs hh => kk H locs ?_)
  refine (congrArg (fun w9 => f_HS Γ B0 w9 X9 H locs) (wj_x rfl rfl (fun t9 h9 => by
      unfold xw
      split <;> first | rfl | exact absurd rfl h9))).mp hh
theorem g_X4_319 (C : f_C X9 Γ B0 RX4 cc nL fr mc ms lo) (hh : f_HS Γ B0 (wj F (xw Γ ad R) M) X9 H locs) {q : Nat} (hq : q < R 20 0 0) (hdg : decode cc pc = .ok (.getfield 319, 3)) (kk : f_W X9 H locs k n (pc + 3) L (.int (nI q) :: rest)) : f_W X9 H locs k n (pc) L (.ref (ad 14 q) :: rest) := r_getf C hh (t := .inr (.inl (14, q))) (xw_page (Γ := Γ) (ad := ad) (R := R) hq) rfl hinX2 0 (by decide) fl_X4_319 rfl hdg kk
theorem g_X0_9 (C : f_C X9 Γ B0 RX0 cc nL fr mc ms lo) (hh : f_HS Γ B0 (wj (fw Γ ad P) X M) X9 H locs) (hdg : decode cc pc = .ok (.getfield 9, 3)) (kk : f_W X9 H locs k n (pc + 3) L (.ref (ad 0 1) :: rest)) : f_W X9 H locs k n (pc) L (.ref (ad 0 0) :: rest) := r_getf C hh (t := .inl 0) rfl rfl hinX0 0 (by decide) fl_X0_9 rfl hdg kk
theorem g_X0_15 (C : f_C X9 Γ B0 RX0 cc nL fr mc ms lo) (hh : f_HS Γ B0 (wj (fw Γ ad P) X M) X9 H locs) (hdg : decode cc pc = .ok (.getfield 15, 3)) (kk : f_W X9 H locs k n (pc + 3) L (.ref (ad 0 2) :: rest)) : f_W X9 H locs k n (pc) L (.ref (ad 0 0) :: rest) := r_getf C hh (t := .inl 0) rfl rfl hinX0 1 (by decide) fl_X0_15 rfl hdg kk
theorem g_X0_19 (C : f_C X9 Γ B0 RX0 cc nL fr mc ms lo) (hh : f_HS Γ B0 (wj (fw Γ ad P) X M) X9 H locs) (hdg : decode cc pc = .ok (.getfield 19, 3)) (kk : f_W X9 H locs k n (pc + 3) L (.ref (ad 0 3) :: rest)) : f_W X9 H locs k n (pc) L (.ref (ad 0 0) :: rest) := r_getf C hh (t := .inl 0) rfl rfl hinX0 2 (by decide) fl_X0_19 rfl hdg kk
theorem g_X0_22 (C : f_C X9 Γ B0 RX0 cc nL fr mc ms lo) (hh : f_HS Γ B0 (wj (fw Γ ad P) X M) X9 H locs) (hdg : decode cc pc = .ok (.getfield 22, 3)) (kk : f_W X9 H locs k n (pc + 3) L (.ref (ad 0 4) :: rest)) : f_W X9 H locs k n (pc) L (.ref (ad 0 0) :: rest) := r_getf C hh (t := .inl 0) rfl rfl hinX0 3 (by decide) fl_X0_22 rfl hdg kk
theorem g_X0_25 (C : f_C X9 Γ B0 RX0 cc nL fr mc ms lo) (hh : f_HS Γ B0 (wj (fw Γ ad P) X M) X9 H locs) (hdg : decode cc pc = .ok (.getfield 25, 3)) (kk : f_W X9 H locs k n (pc + 3) L (.ref (ad 0 5) :: rest)) : f_W X9 H locs k n (pc) L (.ref (ad 0 0) :: rest) := r_getf C hh (t := .inl 0) rfl rfl hinX0 4 (by decide) fl_X0_25 rfl hdg kk
theorem g_X0_28 (C : f_C X9 Γ B0 RX0 cc nL fr mc ms lo) (hh : f_HS Γ B0 (wj (fw Γ ad P) X M) X9 H locs) (hdg : decode cc pc = .ok (.getfield 28, 3)) (kk : f_W X9 H locs k n (pc + 3) L (.ref (ad 0 6) :: rest)) : f_W X9 H locs k n (pc) L (.ref (ad 0 0) :: rest) := r_getf C hh (t := .inl 0) rfl rfl hinX0 5 (by decide) fl_X0_28 rfl hdg kk
theorem g_X0_31 (C : f_C X9 Γ B0 RX0 cc nL fr mc ms lo) (hh : f_HS Γ B0 (wj (fw Γ ad P) X M) X9 H locs) (hdg : decode cc pc = .ok (.getfield 31, 3)) (kk : f_W X9 H locs k n (pc + 3) L (.int (nI (P 0 0 0)) :: rest)) : f_W X9 H locs k n (pc) L (.ref (ad 0 0) :: rest) := r_getf C hh (t := .inl 0) rfl rfl hinX0 6 (by decide) fl_X0_31 rfl hdg kk
set_option maxRecDepth 10000 in
theorem p_X0_31 (C : f_C X9 Γ B0 RX0 cc nL fr mc ms lo) (hh : f_HS Γ B0 (wj (fw Γ ad P) X M) X9 H locs) {v : Nat} (hdg : decode cc pc = .ok (.putfield 31, 3)) (kk : ∀ (H : Heap) (locs : List Loc), f_HS Γ B0 (wj (fw Γ ad (rs P 0 (k0 v))) X M) X9 H locs → f_W X9 H locs k n (pc + 3) L (rest)) : f_W X9 H locs k n (pc) L (.int (nI v) :: .ref (ad 0 0) :: rest) := by
  refine r_putf C hh (t := .inl 0) rfl rfl hinX0 tyX0 tyX0_ok nmX0 6 (by decide) fl_X0_31 rfl (tyX0_ok 6 (by decide)) rfl rfl (Nat.le_of_ble_eq_true rfl) hdg (fun H locs hh => kk H locs ?_)
  refine (congrArg (fun w9 => f_HS Γ B0 w9 X9 H locs) (wj_f rfl rfl (fun t9 h9 => by
      unfold fw
      split <;> first | rfl | exact absurd rfl h9))).mp hh
theorem g_X0_35 (C : f_C X9 Γ B0 RX0 cc nL fr mc ms lo) (hh : f_HS Γ B0 (wj (fw Γ ad P) X M) X9 H locs) (hdg : decode cc pc = .ok (.getfield 35, 3)) (kk : f_W X9 H locs k n (pc + 3) L (.int (nI (P 1 0 0)) :: rest)) : f_W X9 H locs k n (pc) L (.ref (ad 0 0) :: rest) := r_getf C hh (t := .inl 0) rfl rfl hinX0 7 (by decide) fl_X0_35 rfl hdg kk
set_option maxRecDepth 10000 in
theorem p_X0_35 (C : f_C X9 Γ B0 RX0 cc nL fr mc ms lo) (hh : f_HS Γ B0 (wj (fw Γ ad P) X M) X9 H locs) {v : Nat} (hdg : decode cc pc = .ok (.putfield 35, 3)) (kk : ∀ (H : Heap) (locs : List Loc), f_HS Γ B0 (wj (fw Γ ad (rs P 1 (k0 v))) X M) X9 H locs → f_W X9 H locs k n (pc + 3) L (rest)) : f_W X9 H locs k n (pc) L (.int (nI v) :: .ref (ad 0 0) :: rest) := by
  refine r_putf C hh (t := .inl 0) rfl rfl hinX0 tyX0 tyX0_ok nmX0 7 (by decide) fl_X0_35 rfl (tyX0_ok 7 (by decide)) rfl rfl (Nat.le_of_ble_eq_true rfl) hdg (fun H locs hh => kk H locs ?_)
  refine (congrArg (fun w9 => f_HS Γ B0 w9 X9 H locs) (wj_f rfl rfl (fun t9 h9 => by
      unfold fw
      split <;> first | rfl | exact absurd rfl h9))).mp hh
theorem g_X0_38 (C : f_C X9 Γ B0 RX0 cc nL fr mc ms lo) (hh : f_HS Γ B0 (wj (fw Γ ad P) X M) X9 H locs) (hdg : decode cc pc = .ok (.getfield 38, 3)) (kk : f_W X9 H locs k n (pc + 3) L (.int (nI (P 2 0 0)) :: rest)) : f_W X9 H locs k n (pc) L (.ref (ad 0 0) :: rest) := r_getf C hh (t := .inl 0) rfl rfl hinX0 8 (by decide) fl_X0_38 rfl hdg kk
set_option maxRecDepth 10000 in
theorem p_X0_38 (C : f_C X9 Γ B0 RX0 cc nL fr mc ms lo) (hh : f_HS Γ B0 (wj (fw Γ ad P) X M) X9 H locs) {v : Nat} (hdg : decode cc pc = .ok (.putfield 38, 3)) (kk : ∀ (H : Heap) (locs : List Loc), f_HS Γ B0 (wj (fw Γ ad (rs P 2 (k0 v))) X M) X9 H locs → f_W X9 H locs k n (pc + 3) L (rest)) : f_W X9 H locs k n (pc) L (.int (nI v) :: .ref (ad 0 0) :: rest) := by
  refine r_putf C hh (t := .inl 0) rfl rfl hinX0 tyX0 tyX0_ok nmX0 8 (by decide) fl_X0_38 rfl (tyX0_ok 8 (by decide)) rfl rfl (Nat.le_of_ble_eq_true rfl) hdg (fun H locs hh => kk H locs ?_)
  refine (congrArg (fun w9 => f_HS Γ B0 w9 X9 H locs) (wj_f rfl rfl (fun t9 h9 => by
      unfold fw
      split <;> first | rfl | exact absurd rfl h9))).mp hh
theorem g_X0_41 (C : f_C X9 Γ B0 RX0 cc nL fr mc ms lo) (hh : f_HS Γ B0 (wj (fw Γ ad P) X M) X9 H locs) (hdg : decode cc pc = .ok (.getfield 41, 3)) (kk : f_W X9 H locs k n (pc + 3) L (.int (nI (P 3 0 0)) :: rest)) : f_W X9 H locs k n (pc) L (.ref (ad 0 0) :: rest) := r_getf C hh (t := .inl 0) rfl rfl hinX0 9 (by decide) fl_X0_41 rfl hdg kk
set_option maxRecDepth 10000 in
theorem p_X0_41 (C : f_C X9 Γ B0 RX0 cc nL fr mc ms lo) (hh : f_HS Γ B0 (wj (fw Γ ad P) X M) X9 H locs) {v : Nat} (hdg : decode cc pc = .ok (.putfield 41, 3)) (kk : ∀ (H : Heap) (locs : List Loc), f_HS Γ B0 (wj (fw Γ ad (rs P 3 (k0 v))) X M) X9 H locs → f_W X9 H locs k n (pc + 3) L (rest)) : f_W X9 H locs k n (pc) L (.int (nI v) :: .ref (ad 0 0) :: rest) := by
  refine r_putf C hh (t := .inl 0) rfl rfl hinX0 tyX0 tyX0_ok nmX0 9 (by decide) fl_X0_41 rfl (tyX0_ok 9 (by decide)) rfl rfl (Nat.le_of_ble_eq_true rfl) hdg (fun H locs hh => kk H locs ?_)
  refine (congrArg (fun w9 => f_HS Γ B0 w9 X9 H locs) (wj_f rfl rfl (fun t9 h9 => by
      unfold fw
      split <;> first | rfl | exact absurd rfl h9))).mp hh
theorem g_X1_7 (C : f_C X9 Γ B0 RX1 cc nL fr mc ms lo) (hh : f_HS Γ B0 (wj F (xw Γ ad R) M) X9 H locs) {q : Nat} (hq : q < 8) (hdg : decode cc pc = .ok (.getfield 7, 3)) (kk : f_W X9 H locs k n (pc + 3) L (.int (bI (zB (R 10 q 0))) :: rest)) : f_W X9 H locs k n (pc) L (.ref (ad 10 q) :: rest) := r_getf C hh (t := .inr (.inl (10, q))) (xw_font (Γ := Γ) (ad := ad) (R := R) hq) rfl hinX1 0 (by decide) fl_X1_7 rfl hdg kk
set_option maxRecDepth 10000 in
theorem p_X1_7 (C : f_C X9 Γ B0 RX1 cc nL fr mc ms lo) (hh : f_HS Γ B0 (wj F (xw Γ ad R) M) X9 H locs) {q : Nat} (hq : q < 8) {v : Bool} (hdg : decode cc pc = .ok (.putfield 7, 3)) (kk : ∀ (H : Heap) (locs : List Loc), f_HS Γ B0 (wj F (xw Γ ad (rs R 10 (u1 (R 10) q v.toNat))) M) X9 H locs → f_W X9 H locs k n (pc + 3) L (rest)) : f_W X9 H locs k n (pc) L (.int (bI v) :: .ref (ad 10 q) :: rest) := by
  refine r_putf C hh (t := .inr (.inl (10, q))) (xw_font (Γ := Γ) (ad := ad) (R := R) hq) rfl hinX1 tyX1 tyX1_ok nmX1 0 (by decide) fl_X1_7 rfl (tyX1_ok 0 (by decide)) (bI_nar v) (by cases v <;> rfl) (Nat.le_of_ble_eq_true rfl) hdg (fun H locs hh => kk H locs ?_)
  refine (congrArg (fun w9 => f_HS Γ B0 w9 X9 H locs) (wj_x (xw_font (Γ := Γ) (ad := ad) (R := R) hq) (by cases v <;> simp [xw, rs, u1, hq, zB]) (fun t9 h9 => by
      obtain ⟨i9, j9⟩ := t9
      have h8 : ¬ (i9 = 10 ∧ j9 = q) := fun z => h9 (by rw [z.1, z.2])
      unfold xw
      split <;> first | rfl | simp_all [rs, u1, u2]))).mp hh
theorem g_X1_13 (C : f_C X9 Γ B0 RX1 cc nL fr mc ms lo) (hh : f_HS Γ B0 (wj F (xw Γ ad R) M) X9 H locs) {q : Nat} (hq : q < 8) (hdg : decode cc pc = .ok (.getfield 13, 3)) (kk : f_W X9 H locs k n (pc + 3) L (.int (nI (R 11 q 0)) :: rest)) : f_W X9 H locs k n (pc) L (.ref (ad 10 q) :: rest) := r_getf C hh (t := .inr (.inl (10, q))) (xw_font (Γ := Γ) (ad := ad) (R := R) hq) rfl hinX1 1 (by decide) fl_X1_13 rfl hdg kk
set_option maxRecDepth 10000 in
theorem p_X1_13 (C : f_C X9 Γ B0 RX1 cc nL fr mc ms lo) (hh : f_HS Γ B0 (wj F (xw Γ ad R) M) X9 H locs) {q : Nat} (hq : q < 8) {v : Nat} (hdg : decode cc pc = .ok (.putfield 13, 3)) (kk : ∀ (H : Heap) (locs : List Loc), f_HS Γ B0 (wj F (xw Γ ad (rs R 11 (u1 (R 11) q v))) M) X9 H locs → f_W X9 H locs k n (pc + 3) L (rest)) : f_W X9 H locs k n (pc) L (.int (nI v) :: .ref (ad 10 q) :: rest) := by
  refine r_putf C hh (t := .inr (.inl (10, q))) (xw_font (Γ := Γ) (ad := ad) (R := R) hq) rfl hinX1 tyX1 tyX1_ok nmX1 1 (by decide) fl_X1_13 rfl (tyX1_ok 1 (by decide)) rfl rfl (Nat.le_of_ble_eq_true rfl) hdg (fun H locs hh => kk H locs ?_)
  refine (congrArg (fun w9 => f_HS Γ B0 w9 X9 H locs) (wj_x (xw_font (Γ := Γ) (ad := ad) (R := R) hq) (by simp [xw, rs, u1, hq]) (fun t9 h9 => by
      obtain ⟨i9, j9⟩ := t9
      have h8 : ¬ (i9 = 10 ∧ j9 = q) := fun z => h9 (by rw [z.1, z.2])
      unfold xw
      split <;> first | rfl | simp_all [rs, u1, u2]))).mp hh
theorem g_X1_17 (C : f_C X9 Γ B0 RX1 cc nL fr mc ms lo) (hh : f_HS Γ B0 (wj F (xw Γ ad R) M) X9 H locs) {q : Nat} (hq : q < 8) (hdg : decode cc pc = .ok (.getfield 17, 3)) (kk : f_W X9 H locs k n (pc + 3) L (.int (nI (R 12 q 0)) :: rest)) : f_W X9 H locs k n (pc) L (.ref (ad 10 q) :: rest) := r_getf C hh (t := .inr (.inl (10, q))) (xw_font (Γ := Γ) (ad := ad) (R := R) hq) rfl hinX1 2 (by decide) fl_X1_17 rfl hdg kk
set_option maxRecDepth 10000 in
theorem p_X1_17 (C : f_C X9 Γ B0 RX1 cc nL fr mc ms lo) (hh : f_HS Γ B0 (wj F (xw Γ ad R) M) X9 H locs) {q : Nat} (hq : q < 8) {v : Nat} (hdg : decode cc pc = .ok (.putfield 17, 3)) (kk : ∀ (H : Heap) (locs : List Loc), f_HS Γ B0 (wj F (xw Γ ad (rs R 12 (u1 (R 12) q v))) M) X9 H locs → f_W X9 H locs k n (pc + 3) L (rest)) : f_W X9 H locs k n (pc) L (.int (nI v) :: .ref (ad 10 q) :: rest) := by
  refine r_putf C hh (t := .inr (.inl (10, q))) (xw_font (Γ := Γ) (ad := ad) (R := R) hq) rfl hinX1 tyX1 tyX1_ok nmX1 2 (by decide) fl_X1_17 rfl (tyX1_ok 2 (by decide)) rfl rfl (Nat.le_of_ble_eq_true rfl) hdg (fun H locs hh => kk H locs ?_)
  refine (congrArg (fun w9 => f_HS Γ B0 w9 X9 H locs) (wj_x (xw_font (Γ := Γ) (ad := ad) (R := R) hq) (by simp [xw, rs, u1, hq]) (fun t9 h9 => by
      obtain ⟨i9, j9⟩ := t9
      have h8 : ¬ (i9 = 10 ∧ j9 = q) := fun z => h9 (by rw [z.1, z.2])
      unfold xw
      split <;> first | rfl | simp_all [rs, u1, u2]))).mp hh
theorem g_X2_15 (C : f_C X9 Γ B0 RX2 cc nL fr mc ms lo) (hh : f_HS Γ B0 (wj F (xw Γ ad R) M) X9 H locs) {q : Nat} (hq : q < R 20 0 0) (hdg : decode cc pc = .ok (.getfield 15, 3)) (kk : f_W X9 H locs k n (pc + 3) L (.int (nI (R 13 q 0)) :: rest)) : f_W X9 H locs k n (pc) L (.ref (ad 14 q) :: rest) := r_getf C hh (t := .inr (.inl (14, q))) (xw_page (Γ := Γ) (ad := ad) (R := R) hq) rfl hinX2 2 (by decide) fl_X2_15 rfl hdg kk
set_option maxRecDepth 10000 in
theorem p_X2_15 (C : f_C X9 Γ B0 RX2 cc nL fr mc ms lo) (hh : f_HS Γ B0 (wj F (xw Γ ad R) M) X9 H locs) {q : Nat} (hq : q < R 20 0 0) {v : Nat} (hdg : decode cc pc = .ok (.putfield 15, 3)) (kk : ∀ (H : Heap) (locs : List Loc), f_HS Γ B0 (wj F (xw Γ ad (rs R 13 (u1 (R 13) q v))) M) X9 H locs → f_W X9 H locs k n (pc + 3) L (rest)) : f_W X9 H locs k n (pc) L (.int (nI v) :: .ref (ad 14 q) :: rest) := by
  refine r_putf C hh (t := .inr (.inl (14, q))) (xw_page (Γ := Γ) (ad := ad) (R := R) hq) rfl hinX2 tyX2 tyX2_ok nmX2 2 (by decide) fl_X2_15 rfl (tyX2_ok 2 (by decide)) rfl rfl (Nat.le_of_ble_eq_true rfl) hdg (fun H locs hh => kk H locs ?_)
  refine (congrArg (fun w9 => f_HS Γ B0 w9 X9 H locs) (wj_x (xw_page (Γ := Γ) (ad := ad) (R := R) hq) (by simp [xw, rs, u1, hq]) (fun t9 h9 => by
      obtain ⟨i9, j9⟩ := t9
      have h8 : ¬ (i9 = 14 ∧ j9 = q) := fun z => h9 (by rw [z.1, z.2])
      unfold xw
      split <;> first | rfl | simp_all [rs, u1, u2]))).mp hh
theorem g_X2_18 (C : f_C X9 Γ B0 RX2 cc nL fr mc ms lo) (hh : f_HS Γ B0 (wj F (xw Γ ad R) M) X9 H locs) {q : Nat} (hq : q < R 20 0 0) (hdg : decode cc pc = .ok (.getfield 18, 3)) (kk : f_W X9 H locs k n (pc + 3) L (.int (nI (R 14 q 0)) :: rest)) : f_W X9 H locs k n (pc) L (.ref (ad 14 q) :: rest) := r_getf C hh (t := .inr (.inl (14, q))) (xw_page (Γ := Γ) (ad := ad) (R := R) hq) rfl hinX2 3 (by decide) fl_X2_18 rfl hdg kk
set_option maxRecDepth 10000 in
theorem p_X2_18 (C : f_C X9 Γ B0 RX2 cc nL fr mc ms lo) (hh : f_HS Γ B0 (wj F (xw Γ ad R) M) X9 H locs) {q : Nat} (hq : q < R 20 0 0) {v : Nat} (hdg : decode cc pc = .ok (.putfield 18, 3)) (kk : ∀ (H : Heap) (locs : List Loc), f_HS Γ B0 (wj F (xw Γ ad (rs R 14 (u1 (R 14) q v))) M) X9 H locs → f_W X9 H locs k n (pc + 3) L (rest)) : f_W X9 H locs k n (pc) L (.int (nI v) :: .ref (ad 14 q) :: rest) := by
  refine r_putf C hh (t := .inr (.inl (14, q))) (xw_page (Γ := Γ) (ad := ad) (R := R) hq) rfl hinX2 tyX2 tyX2_ok nmX2 3 (by decide) fl_X2_18 rfl (tyX2_ok 3 (by decide)) rfl rfl (Nat.le_of_ble_eq_true rfl) hdg (fun H locs hh => kk H locs ?_)
  refine (congrArg (fun w9 => f_HS Γ B0 w9 X9 H locs) (wj_x (xw_page (Γ := Γ) (ad := ad) (R := R) hq) (by simp [xw, rs, u1, hq]) (fun t9 h9 => by
      obtain ⟨i9, j9⟩ := t9
      have h8 : ¬ (i9 = 14 ∧ j9 = q) := fun z => h9 (by rw [z.1, z.2])
      unfold xw
      split <;> first | rfl | simp_all [rs, u1, u2]))).mp hh
theorem g_X2_21 (C : f_C X9 Γ B0 RX2 cc nL fr mc ms lo) (hh : f_HS Γ B0 (wj F (xw Γ ad R) M) X9 H locs) {q : Nat} (hq : q < R 20 0 0) (hdg : decode cc pc = .ok (.getfield 21, 3)) (kk : f_W X9 H locs k n (pc + 3) L (.int (nI (R 15 q 0)) :: rest)) : f_W X9 H locs k n (pc) L (.ref (ad 14 q) :: rest) := r_getf C hh (t := .inr (.inl (14, q))) (xw_page (Γ := Γ) (ad := ad) (R := R) hq) rfl hinX2 4 (by decide) fl_X2_21 rfl hdg kk
set_option maxRecDepth 10000 in
theorem p_X2_21 (C : f_C X9 Γ B0 RX2 cc nL fr mc ms lo) (hh : f_HS Γ B0 (wj F (xw Γ ad R) M) X9 H locs) {q : Nat} (hq : q < R 20 0 0) {v : Nat} (hdg : decode cc pc = .ok (.putfield 21, 3)) (kk : ∀ (H : Heap) (locs : List Loc), f_HS Γ B0 (wj F (xw Γ ad (rs R 15 (u1 (R 15) q v))) M) X9 H locs → f_W X9 H locs k n (pc + 3) L (rest)) : f_W X9 H locs k n (pc) L (.int (nI v) :: .ref (ad 14 q) :: rest) := by
  refine r_putf C hh (t := .inr (.inl (14, q))) (xw_page (Γ := Γ) (ad := ad) (R := R) hq) rfl hinX2 tyX2 tyX2_ok nmX2 4 (by decide) fl_X2_21 rfl (tyX2_ok 4 (by decide)) rfl rfl (Nat.le_of_ble_eq_true rfl) hdg (fun H locs hh => kk H locs ?_)
  refine (congrArg (fun w9 => f_HS Γ B0 w9 X9 H locs) (wj_x (xw_page (Γ := Γ) (ad := ad) (R := R) hq) (by simp [xw, rs, u1, hq]) (fun t9 h9 => by
      obtain ⟨i9, j9⟩ := t9
      have h8 : ¬ (i9 = 14 ∧ j9 = q) := fun z => h9 (by rw [z.1, z.2])
      unfold xw
      split <;> first | rfl | simp_all [rs, u1, u2]))).mp hh
theorem g_X2_24 (C : f_C X9 Γ B0 RX2 cc nL fr mc ms lo) (hh : f_HS Γ B0 (wj F (xw Γ ad R) M) X9 H locs) {q : Nat} (hq : q < R 20 0 0) (hdg : decode cc pc = .ok (.getfield 24, 3)) (kk : f_W X9 H locs k n (pc + 3) L (.ref (ad 15 q) :: rest)) : f_W X9 H locs k n (pc) L (.ref (ad 14 q) :: rest) := r_getf C hh (t := .inr (.inl (14, q))) (xw_page (Γ := Γ) (ad := ad) (R := R) hq) rfl hinX2 1 (by decide) fl_X2_24 rfl hdg kk
theorem g_X3_9 (C : f_C X9 Γ B0 RX3 cc nL fr mc ms lo) (hh : f_HS Γ B0 (wj F (xw Γ ad R) M) X9 H locs) {q : Nat} (hq : R 8 q 0 ≠ 0) (hdg : decode cc pc = .ok (.getfield 9, 3)) (kk : f_W X9 H locs k n (pc + 3) L (.ref (ad 17 q) :: rest)) : f_W X9 H locs k n (pc) L (.ref (ad 16 q) :: rest) := r_getf C hh (t := .inr (.inl (16, q))) (xw_plate (Γ := Γ) (ad := ad) (R := R) hq) rfl hinX3 0 (by decide) fl_X3_9 rfl hdg kk
theorem g_X3_21 (C : f_C X9 Γ B0 RX3 cc nL fr mc ms lo) (hh : f_HS Γ B0 (wj F (xw Γ ad R) M) X9 H locs) {q : Nat} (hq : R 8 q 0 ≠ 0) (hdg : decode cc pc = .ok (.getfield 21, 3)) (kk : f_W X9 H locs k n (pc + 3) L (.int (nI (R 17 q 0)) :: rest)) : f_W X9 H locs k n (pc) L (.ref (ad 16 q) :: rest) := r_getf C hh (t := .inr (.inl (16, q))) (xw_plate (Γ := Γ) (ad := ad) (R := R) hq) rfl hinX3 1 (by decide) fl_X3_21 rfl hdg kk
set_option maxRecDepth 10000 in
theorem p_X3_21 (C : f_C X9 Γ B0 RX3 cc nL fr mc ms lo) (hh : f_HS Γ B0 (wj F (xw Γ ad R) M) X9 H locs) {q : Nat} (hq : R 8 q 0 ≠ 0) {v : Nat} (hdg : decode cc pc = .ok (.putfield 21, 3)) (kk : ∀ (H : Heap) (locs : List Loc), f_HS Γ B0 (wj F (xw Γ ad (rs R 17 (u1 (R 17) q v))) M) X9 H locs → f_W X9 H locs k n (pc + 3) L (rest)) : f_W X9 H locs k n (pc) L (.int (nI v) :: .ref (ad 16 q) :: rest) := by
  refine r_putf C hh (t := .inr (.inl (16, q))) (xw_plate (Γ := Γ) (ad := ad) (R := R) hq) rfl hinX3 tyX3 tyX3_ok nmX3 1 (by decide) fl_X3_21 rfl (tyX3_ok 1 (by decide)) rfl rfl (Nat.le_of_ble_eq_true rfl) hdg (fun H locs hh => kk H locs ?_)
  refine (congrArg (fun w9 => f_HS Γ B0 w9 X9 H locs) (wj_x (xw_plate (Γ := Γ) (ad := ad) (R := R) hq) (by simp [xw, rs, u1, hq]) (fun t9 h9 => by
      obtain ⟨i9, j9⟩ := t9
      have h8 : ¬ (i9 = 16 ∧ j9 = q) := fun z => h9 (by rw [z.1, z.2])
      unfold xw
      split <;> first | rfl | simp_all [rs, u1, u2]))).mp hh
set_option maxRecDepth 10000 in
theorem p_X3_25 (C : f_C X9 Γ B0 RX3 cc nL fr mc ms lo) (hh : f_HS Γ B0 (wj F (xw Γ ad R) M) X9 H locs) {q : Nat} (hq : R 8 q 0 ≠ 0) {v : Nat} (hdg : decode cc pc = .ok (.putfield 25, 3)) (kk : ∀ (H : Heap) (locs : List Loc), f_HS Γ B0 (wj F (xw Γ ad (rs R 18 (u1 (R 18) q v))) M) X9 H locs → f_W X9 H locs k n (pc + 3) L (rest)) : f_W X9 H locs k n (pc) L (.int (nI v) :: .ref (ad 16 q) :: rest) := by
  refine r_putf C hh (t := .inr (.inl (16, q))) (xw_plate (Γ := Γ) (ad := ad) (R := R) hq) rfl hinX3 tyX3 tyX3_ok nmX3 2 (by decide) fl_X3_25 rfl (tyX3_ok 2 (by decide)) rfl rfl (Nat.le_of_ble_eq_true rfl) hdg (fun H locs hh => kk H locs ?_)
  refine (congrArg (fun w9 => f_HS Γ B0 w9 X9 H locs) (wj_x (xw_plate (Γ := Γ) (ad := ad) (R := R) hq) (by simp [xw, rs, u1, hq]) (fun t9 h9 => by
      obtain ⟨i9, j9⟩ := t9
      have h8 : ¬ (i9 = 16 ∧ j9 = q) := fun z => h9 (by rw [z.1, z.2])
      unfold xw
      split <;> first | rfl | simp_all [rs, u1, u2]))).mp hh
theorem al_kinds {own : String} (C : f_C X9 Γ B0 own cc nL fr mc ms lo) (hh : f_HS Γ B0 (wj (fw Γ ad P) X M) X9 H locs) {j : Nat} (hj : j < 4) (hdg : decode cc pc = .ok (.iaload, 1)) (kk : f_W X9 H locs k n (pc + 1) L (.int (nI (P 4 j 0)) :: rest)) : f_W X9 H locs k n (pc) L (.int (nI j) :: .ref (ad 0 1) :: rest) := r_iald C hh (t := .inl 1) rfl (by decide) hj hdg kk
set_option maxRecDepth 10000 in
theorem as_kinds {own : String} (C : f_C X9 Γ B0 own cc nL fr mc ms lo) (hh : f_HS Γ B0 (wj (fw Γ ad P) X M) X9 H locs) {j : Nat} {v : Nat} (hj : j < 4) (hdg : decode cc pc = .ok (.iastore, 1)) (kk : ∀ (H : Heap) (locs : List Loc), f_HS Γ B0 (wj (fw Γ ad (rs P 4 (u1 (P 4) j v))) X M) X9 H locs → f_W X9 H locs k n (pc + 1) L (rest)) : f_W X9 H locs k n (pc) L (.int (nI v) :: .int (nI j) :: .ref (ad 0 1) :: rest) := by
  refine r_iast C hh (t := .inl 1) rfl (by decide) hj hdg (fun H locs hh => kk H locs ?_)
  rw [upd_nI] at hh
  refine (congrArg (fun w9 => f_HS Γ B0 w9 X9 H locs) (wj_f rfl rfl (fun t9 h9 => by
      unfold fw
      split <;> first | rfl | exact absurd rfl h9))).mp hh
theorem al_turned {own : String} (C : f_C X9 Γ B0 own cc nL fr mc ms lo) (hh : f_HS Γ B0 (wj (fw Γ ad P) X M) X9 H locs) {j : Nat} (hj : j < 16) (hdg : decode cc pc = .ok (.baload, 1)) (kk : f_W X9 H locs k n (pc + 1) L (.int (bI (zB (P 5 j 0))) :: rest)) : f_W X9 H locs k n (pc) L (.int (nI j) :: .ref (ad 0 2) :: rest) := r_zald C hh (t := .inl 2) rfl (by decide) hj hdg kk
set_option maxRecDepth 10000 in
theorem as_turned {own : String} (C : f_C X9 Γ B0 own cc nL fr mc ms lo) (hh : f_HS Γ B0 (wj (fw Γ ad P) X M) X9 H locs) {j : Nat} {v : Bool} (hj : j < 16) (hdg : decode cc pc = .ok (.bastore, 1)) (kk : ∀ (H : Heap) (locs : List Loc), f_HS Γ B0 (wj (fw Γ ad (rs P 5 (u1 (P 5) j v.toNat))) X M) X9 H locs → f_W X9 H locs k n (pc + 1) L (rest)) : f_W X9 H locs k n (pc) L (.int (bI v) :: .int (nI j) :: .ref (ad 0 2) :: rest) := by
  refine r_zast C hh (t := .inl 2) rfl (by decide) hj hdg (fun H locs hh => kk H locs ?_)
  rw [upd_bI] at hh
  refine (congrArg (fun w9 => f_HS Γ B0 w9 X9 H locs) (wj_f rfl rfl (fun t9 h9 => by
      unfold fw
      split <;> first | rfl | exact absurd rfl h9))).mp hh
theorem al_offF {own : String} (C : f_C X9 Γ B0 own cc nL fr mc ms lo) (hh : f_HS Γ B0 (wj (fw Γ ad P) X M) X9 H locs) {j : Nat} (hj : j < 32) (hdg : decode cc pc = .ok (.iaload, 1)) (kk : f_W X9 H locs k n (pc + 1) L (.int (nI (P 6 j 0)) :: rest)) : f_W X9 H locs k n (pc) L (.int (nI j) :: .ref (ad 0 3) :: rest) := r_iald C hh (t := .inl 3) rfl (by decide) hj hdg kk
set_option maxRecDepth 10000 in
theorem as_offF {own : String} (C : f_C X9 Γ B0 own cc nL fr mc ms lo) (hh : f_HS Γ B0 (wj (fw Γ ad P) X M) X9 H locs) {j : Nat} {v : Nat} (hj : j < 32) (hdg : decode cc pc = .ok (.iastore, 1)) (kk : ∀ (H : Heap) (locs : List Loc), f_HS Γ B0 (wj (fw Γ ad (rs P 6 (u1 (P 6) j v))) X M) X9 H locs → f_W X9 H locs k n (pc + 1) L (rest)) : f_W X9 H locs k n (pc) L (.int (nI v) :: .int (nI j) :: .ref (ad 0 3) :: rest) := by
  refine r_iast C hh (t := .inl 3) rfl (by decide) hj hdg (fun H locs hh => kk H locs ?_)
  rw [upd_nI] at hh
  refine (congrArg (fun w9 => f_HS Γ B0 w9 X9 H locs) (wj_f rfl rfl (fun t9 h9 => by
      unfold fw
      split <;> first | rfl | exact absurd rfl h9))).mp hh
theorem al_faceO {own : String} (C : f_C X9 Γ B0 own cc nL fr mc ms lo) (hh : f_HS Γ B0 (wj (fw Γ ad P) X M) X9 H locs) {j : Nat} (hj : j < 32) (hdg : decode cc pc = .ok (.iaload, 1)) (kk : f_W X9 H locs k n (pc + 1) L (.int (nI (P 7 j 0)) :: rest)) : f_W X9 H locs k n (pc) L (.int (nI j) :: .ref (ad 0 4) :: rest) := r_iald C hh (t := .inl 4) rfl (by decide) hj hdg kk
set_option maxRecDepth 10000 in
theorem as_faceO {own : String} (C : f_C X9 Γ B0 own cc nL fr mc ms lo) (hh : f_HS Γ B0 (wj (fw Γ ad P) X M) X9 H locs) {j : Nat} {v : Nat} (hj : j < 32) (hdg : decode cc pc = .ok (.iastore, 1)) (kk : ∀ (H : Heap) (locs : List Loc), f_HS Γ B0 (wj (fw Γ ad (rs P 7 (u1 (P 7) j v))) X M) X9 H locs → f_W X9 H locs k n (pc + 1) L (rest)) : f_W X9 H locs k n (pc) L (.int (nI v) :: .int (nI j) :: .ref (ad 0 4) :: rest) := by
  refine r_iast C hh (t := .inl 4) rfl (by decide) hj hdg (fun H locs hh => kk H locs ?_)
  rw [upd_nI] at hh
  refine (congrArg (fun w9 => f_HS Γ B0 w9 X9 H locs) (wj_f rfl rfl (fun t9 h9 => by
      unfold fw
      split <;> first | rfl | exact absurd rfl h9))).mp hh
theorem al_piled {own : String} (C : f_C X9 Γ B0 own cc nL fr mc ms lo) (hh : f_HS Γ B0 (wj (fw Γ ad P) X M) X9 H locs) {j : Nat} (hj : j < 16) (hdg : decode cc pc = .ok (.iaload, 1)) (kk : f_W X9 H locs k n (pc + 1) L (.int (nI (P 8 j 0)) :: rest)) : f_W X9 H locs k n (pc) L (.int (nI j) :: .ref (ad 0 5) :: rest) := r_iald C hh (t := .inl 5) rfl (by decide) hj hdg kk
set_option maxRecDepth 10000 in
theorem as_piled {own : String} (C : f_C X9 Γ B0 own cc nL fr mc ms lo) (hh : f_HS Γ B0 (wj (fw Γ ad P) X M) X9 H locs) {j : Nat} {v : Nat} (hj : j < 16) (hdg : decode cc pc = .ok (.iastore, 1)) (kk : ∀ (H : Heap) (locs : List Loc), f_HS Γ B0 (wj (fw Γ ad (rs P 8 (u1 (P 8) j v))) X M) X9 H locs → f_W X9 H locs k n (pc + 1) L (rest)) : f_W X9 H locs k n (pc) L (.int (nI v) :: .int (nI j) :: .ref (ad 0 5) :: rest) := by
  refine r_iast C hh (t := .inl 5) rfl (by decide) hj hdg (fun H locs hh => kk H locs ?_)
  rw [upd_nI] at hh
  refine (congrArg (fun w9 => f_HS Γ B0 w9 X9 H locs) (wj_f rfl rfl (fun t9 h9 => by
      unfold fw
      split <;> first | rfl | exact absurd rfl h9))).mp hh
theorem al_folded {own : String} (C : f_C X9 Γ B0 own cc nL fr mc ms lo) (hh : f_HS Γ B0 (wj (fw Γ ad P) X M) X9 H locs) {j : Nat} (hj : j < 16) (hdg : decode cc pc = .ok (.iaload, 1)) (kk : f_W X9 H locs k n (pc + 1) L (.int (nI (P 9 j 0)) :: rest)) : f_W X9 H locs k n (pc) L (.int (nI j) :: .ref (ad 0 6) :: rest) := r_iald C hh (t := .inl 6) rfl (by decide) hj hdg kk
set_option maxRecDepth 10000 in
theorem as_folded {own : String} (C : f_C X9 Γ B0 own cc nL fr mc ms lo) (hh : f_HS Γ B0 (wj (fw Γ ad P) X M) X9 H locs) {j : Nat} {v : Nat} (hj : j < 16) (hdg : decode cc pc = .ok (.iastore, 1)) (kk : ∀ (H : Heap) (locs : List Loc), f_HS Γ B0 (wj (fw Γ ad (rs P 9 (u1 (P 9) j v))) X M) X9 H locs → f_W X9 H locs k n (pc + 1) L (rest)) : f_W X9 H locs k n (pc) L (.int (nI v) :: .int (nI j) :: .ref (ad 0 6) :: rest) := by
  refine r_iast C hh (t := .inl 6) rfl (by decide) hj hdg (fun H locs hh => kk H locs ?_)
  rw [upd_nI] at hh
  refine (congrArg (fun w9 => f_HS Γ B0 w9 X9 H locs) (wj_f rfl rfl (fun t9 h9 => by
      unfold fw
      split <;> first | rfl | exact absurd rfl h9))).mp hh
theorem al_ready {own : String} (C : f_C X9 Γ B0 own cc nL fr mc ms lo) (hh : f_HS Γ B0 (wj F (xw Γ ad R) M) X9 H locs) {j : Nat} (hj : j < 16) (hdg : decode cc pc = .ok (.baload, 1)) (kk : f_W X9 H locs k n (pc + 1) L (.int (bI (zB (R 7 j 0))) :: rest)) : f_W X9 H locs k n (pc) L (.int (nI j) :: .ref (ad 4 0) :: rest) := r_zald C hh (t := .inr (.inl (3, 0))) rfl (by decide) hj hdg kk
set_option maxRecDepth 10000 in
theorem as_ready {own : String} (C : f_C X9 Γ B0 own cc nL fr mc ms lo) (hh : f_HS Γ B0 (wj F (xw Γ ad R) M) X9 H locs) {j : Nat} {v : Bool} (hj : j < 16) (hdg : decode cc pc = .ok (.bastore, 1)) (kk : ∀ (H : Heap) (locs : List Loc), f_HS Γ B0 (wj F (xw Γ ad (rs R 7 (u1 (R 7) j v.toNat))) M) X9 H locs → f_W X9 H locs k n (pc + 1) L (rest)) : f_W X9 H locs k n (pc) L (.int (bI v) :: .int (nI j) :: .ref (ad 4 0) :: rest) := by
  refine r_zast C hh (t := .inr (.inl (3, 0))) rfl (by decide) hj hdg (fun H locs hh => kk H locs ?_)
  rw [upd_bI] at hh
  refine (congrArg (fun w9 => f_HS Γ B0 w9 X9 H locs) (wj_x rfl rfl (fun t9 h9 => by
      unfold xw
      split <;> first | rfl | exact absurd rfl h9))).mp hh
theorem al_marks {own : String} (C : f_C X9 Γ B0 own cc nL fr mc ms lo) (hh : f_HS Γ B0 (wj F (xw Γ ad R) M) X9 H locs) {j : Nat} (hj : j < 16) (hdg : decode cc pc = .ok (.laload, 1)) (kk : f_W X9 H locs k n (pc + 1) L (.long (lN (cM (R 9 j 0))) :: rest)) : f_W X9 H locs k n (pc) L (.int (nI j) :: .ref (ad 6 0) :: rest) := r_lald C hh (t := .inr (.inl (5, 0))) rfl (by decide) hj hdg kk
set_option maxRecDepth 10000 in
theorem as_marks {own : String} (C : f_C X9 Γ B0 own cc nL fr mc ms lo) (hh : f_HS Γ B0 (wj F (xw Γ ad R) M) X9 H locs) {j : Nat} {v : Nat} (hj : j < 16) (hdg : decode cc pc = .ok (.lastore, 1)) (kk : ∀ (H : Heap) (locs : List Loc), f_HS Γ B0 (wj F (xw Γ ad (rs R 9 (u1 (R 9) j v))) M) X9 H locs → f_W X9 H locs k n (pc + 1) L (rest)) : f_W X9 H locs k n (pc) L (.long (lN (cM v)) :: .int (nI j) :: .ref (ad 6 0) :: rest) := by
  refine r_last C hh (t := .inr (.inl (5, 0))) rfl (by decide) hj hdg (fun H locs hh => kk H locs ?_)
  rw [upd_lN] at hh
  refine (congrArg (fun w9 => f_HS Γ B0 w9 X9 H locs) (wj_x rfl rfl (fun t9 h9 => by
      unfold xw
      split <;> first | rfl | exact absurd rfl h9))).mp hh
theorem al_proofs {own : String} (C : f_C X9 Γ B0 own cc nL fr mc ms lo) (hh : f_HS Γ B0 (wj F (xw Γ ad R) M) X9 H locs) {q : Nat} (hq : q < R 20 0 0) {j : Nat} (hj : j < 4) (hdg : decode cc pc = .ok (.iaload, 1)) (kk : f_W X9 H locs k n (pc + 1) L (.int (nI (R 16 q j)) :: rest)) : f_W X9 H locs k n (pc) L (.int (nI j) :: .ref (ad 15 q) :: rest) := r_iald C hh (t := .inr (.inl (15, q))) (xw_proof (Γ := Γ) (ad := ad) (R := R) hq) (by decide) hj hdg kk
set_option maxRecDepth 10000 in
theorem as_proofs {own : String} (C : f_C X9 Γ B0 own cc nL fr mc ms lo) (hh : f_HS Γ B0 (wj F (xw Γ ad R) M) X9 H locs) {q : Nat} (hq : q < R 20 0 0) {j : Nat} {v : Nat} (hj : j < 4) (hdg : decode cc pc = .ok (.iastore, 1)) (kk : ∀ (H : Heap) (locs : List Loc), f_HS Γ B0 (wj F (xw Γ ad (rs R 16 (u2 (R 16) q j v))) M) X9 H locs → f_W X9 H locs k n (pc + 1) L (rest)) : f_W X9 H locs k n (pc) L (.int (nI v) :: .int (nI j) :: .ref (ad 15 q) :: rest) := by
  refine r_iast C hh (t := .inr (.inl (15, q))) (xw_proof (Γ := Γ) (ad := ad) (R := R) hq) (by decide) hj hdg (fun H locs hh => kk H locs ?_)
  rw [upd_nI2] at hh
  refine (congrArg (fun w9 => f_HS Γ B0 w9 X9 H locs) (wj_x (xw_proof (Γ := Γ) (ad := ad) (R := R) hq) (by simp [xw, rs, hq]) (fun t9 h9 => by
      obtain ⟨i9, j9⟩ := t9
      have h8 : ¬ (i9 = 15 ∧ j9 = q) := fun z => h9 (by rw [z.1, z.2])
      unfold xw
      split <;> first | rfl | simp_all [rs, u1, u2]))).mp hh
theorem al_shown {own : String} (C : f_C X9 Γ B0 own cc nL fr mc ms lo) (hh : f_HS Γ B0 (wj F (xw Γ ad R) M) X9 H locs) {q : Nat} (hq : R 8 q 0 ≠ 0) {j : Nat} (hj : j < 16) (hdg : decode cc pc = .ok (.laload, 1)) (kk : f_W X9 H locs k n (pc + 1) L (.long (lN (cM (R 19 q j))) :: rest)) : f_W X9 H locs k n (pc) L (.int (nI j) :: .ref (ad 17 q) :: rest) := r_lald C hh (t := .inr (.inl (17, q))) (xw_shown (Γ := Γ) (ad := ad) (R := R) hq) (by decide) hj hdg kk
set_option maxRecDepth 10000 in
theorem as_shown {own : String} (C : f_C X9 Γ B0 own cc nL fr mc ms lo) (hh : f_HS Γ B0 (wj F (xw Γ ad R) M) X9 H locs) {q : Nat} (hq : R 8 q 0 ≠ 0) {j : Nat} {v : Nat} (hj : j < 16) (hdg : decode cc pc = .ok (.lastore, 1)) (kk : ∀ (H : Heap) (locs : List Loc), f_HS Γ B0 (wj F (xw Γ ad (rs R 19 (u2 (R 19) q j v))) M) X9 H locs → f_W X9 H locs k n (pc + 1) L (rest)) : f_W X9 H locs k n (pc) L (.long (lN (cM v)) :: .int (nI j) :: .ref (ad 17 q) :: rest) := by
  refine r_last C hh (t := .inr (.inl (17, q))) (xw_shown (Γ := Γ) (ad := ad) (R := R) hq) (by decide) hj hdg (fun H locs hh => kk H locs ?_)
  rw [upd_lN2] at hh
  refine (congrArg (fun w9 => f_HS Γ B0 w9 X9 H locs) (wj_x (xw_shown (Γ := Γ) (ad := ad) (R := R) hq) (by simp [xw, rs, hq]) (fun t9 h9 => by
      obtain ⟨i9, j9⟩ := t9
      have h8 : ¬ (i9 = 17 ∧ j9 = q) := fun z => h9 (by rw [z.1, z.2])
      unfold xw
      split <;> first | rfl | simp_all [rs, u1, u2]))).mp hh
theorem al_m_p {own : String} (C : f_C X9 Γ B0 own cc nL fr mc ms lo) (hh : f_HS Γ B0 (wj F X (mw Γ ad M9)) X9 H locs) {j : Nat} (hj : j < 24) (hdg : decode cc pc = .ok (.iaload, 1)) (kk : f_W X9 H locs k n (pc + 1) L (.int (nI (M9 1 j 0)) :: rest)) : f_W X9 H locs k n (pc) L (.int (nI j) :: .ref (ad 30 1) :: rest) := r_iald C hh (t := .inr (.inr 1)) rfl (by decide) hj hdg kk
set_option maxRecDepth 10000 in
theorem as_m_p {own : String} (C : f_C X9 Γ B0 own cc nL fr mc ms lo) (hh : f_HS Γ B0 (wj F X (mw Γ ad M9)) X9 H locs) {j : Nat} {v : Nat} (hj : j < 24) (hdg : decode cc pc = .ok (.iastore, 1)) (kk : ∀ (H : Heap) (locs : List Loc), f_HS Γ B0 (wj F X (mw Γ ad (rs M9 1 (u1 (M9 1) j v)))) X9 H locs → f_W X9 H locs k n (pc + 1) L (rest)) : f_W X9 H locs k n (pc) L (.int (nI v) :: .int (nI j) :: .ref (ad 30 1) :: rest) := by
  refine r_iast C hh (t := .inr (.inr 1)) rfl (by decide) hj hdg (fun H locs hh => kk H locs ?_)
  rw [upd_nI] at hh
  refine (congrArg (fun w9 => f_HS Γ B0 w9 X9 H locs) (wj_m rfl rfl (fun t9 h9 => by
      unfold mw
      split <;> first | rfl | exact absurd rfl h9))).mp hh
theorem al_m_q {own : String} (C : f_C X9 Γ B0 own cc nL fr mc ms lo) (hh : f_HS Γ B0 (wj F X (mw Γ ad M9)) X9 H locs) {j : Nat} (hj : j < 24) (hdg : decode cc pc = .ok (.iaload, 1)) (kk : f_W X9 H locs k n (pc + 1) L (.int (nI (M9 2 j 0)) :: rest)) : f_W X9 H locs k n (pc) L (.int (nI j) :: .ref (ad 30 2) :: rest) := r_iald C hh (t := .inr (.inr 2)) rfl (by decide) hj hdg kk
set_option maxRecDepth 10000 in
theorem as_m_q {own : String} (C : f_C X9 Γ B0 own cc nL fr mc ms lo) (hh : f_HS Γ B0 (wj F X (mw Γ ad M9)) X9 H locs) {j : Nat} {v : Nat} (hj : j < 24) (hdg : decode cc pc = .ok (.iastore, 1)) (kk : ∀ (H : Heap) (locs : List Loc), f_HS Γ B0 (wj F X (mw Γ ad (rs M9 2 (u1 (M9 2) j v)))) X9 H locs → f_W X9 H locs k n (pc + 1) L (rest)) : f_W X9 H locs k n (pc) L (.int (nI v) :: .int (nI j) :: .ref (ad 30 2) :: rest) := by
  refine r_iast C hh (t := .inr (.inr 2)) rfl (by decide) hj hdg (fun H locs hh => kk H locs ?_)
  rw [upd_nI] at hh
  refine (congrArg (fun w9 => f_HS Γ B0 w9 X9 H locs) (wj_m rfl rfl (fun t9 h9 => by
      unfold mw
      split <;> first | rfl | exact absurd rfl h9))).mp hh
theorem al_m_r {own : String} (C : f_C X9 Γ B0 own cc nL fr mc ms lo) (hh : f_HS Γ B0 (wj F X (mw Γ ad M9)) X9 H locs) {j : Nat} (hj : j < 16) (hdg : decode cc pc = .ok (.iaload, 1)) (kk : f_W X9 H locs k n (pc + 1) L (.int (nI (M9 3 j 0)) :: rest)) : f_W X9 H locs k n (pc) L (.int (nI j) :: .ref (ad 30 3) :: rest) := r_iald C hh (t := .inr (.inr 3)) rfl (by decide) hj hdg kk
set_option maxRecDepth 10000 in
theorem as_m_r {own : String} (C : f_C X9 Γ B0 own cc nL fr mc ms lo) (hh : f_HS Γ B0 (wj F X (mw Γ ad M9)) X9 H locs) {j : Nat} {v : Nat} (hj : j < 16) (hdg : decode cc pc = .ok (.iastore, 1)) (kk : ∀ (H : Heap) (locs : List Loc), f_HS Γ B0 (wj F X (mw Γ ad (rs M9 3 (u1 (M9 3) j v)))) X9 H locs → f_W X9 H locs k n (pc + 1) L (rest)) : f_W X9 H locs k n (pc) L (.int (nI v) :: .int (nI j) :: .ref (ad 30 3) :: rest) := by
  refine r_iast C hh (t := .inr (.inr 3)) rfl (by decide) hj hdg (fun H locs hh => kk H locs ?_)
  rw [upd_nI] at hh
  refine (congrArg (fun w9 => f_HS Γ B0 w9 X9 H locs) (wj_m rfl rfl (fun t9 h9 => by
      unfold mw
      split <;> first | rfl | exact absurd rfl h9))).mp hh
theorem al_m_g {own : String} (C : f_C X9 Γ B0 own cc nL fr mc ms lo) (hh : f_HS Γ B0 (wj F X (mw Γ ad M9)) X9 H locs) {j : Nat} (hj : j < 6) (hdg : decode cc pc = .ok (.iaload, 1)) (kk : f_W X9 H locs k n (pc + 1) L (.int (nI (M9 4 j 0)) :: rest)) : f_W X9 H locs k n (pc) L (.int (nI j) :: .ref (ad 30 4) :: rest) := r_iald C hh (t := .inr (.inr 4)) rfl (by decide) hj hdg kk
set_option maxRecDepth 10000 in
theorem as_m_g {own : String} (C : f_C X9 Γ B0 own cc nL fr mc ms lo) (hh : f_HS Γ B0 (wj F X (mw Γ ad M9)) X9 H locs) {j : Nat} {v : Nat} (hj : j < 6) (hdg : decode cc pc = .ok (.iastore, 1)) (kk : ∀ (H : Heap) (locs : List Loc), f_HS Γ B0 (wj F X (mw Γ ad (rs M9 4 (u1 (M9 4) j v)))) X9 H locs → f_W X9 H locs k n (pc + 1) L (rest)) : f_W X9 H locs k n (pc) L (.int (nI v) :: .int (nI j) :: .ref (ad 30 4) :: rest) := by
  refine r_iast C hh (t := .inr (.inr 4)) rfl (by decide) hj hdg (fun H locs hh => kk H locs ?_)
  rw [upd_nI] at hh
  refine (congrArg (fun w9 => f_HS Γ B0 w9 X9 H locs) (wj_m rfl rfl (fun t9 h9 => by
      unfold mw
      split <;> first | rfl | exact absurd rfl h9))).mp hh
theorem mw_worn {Γ : fG} {ad : Nat → Nat → Nat} {M : fR} (h : M 6 0 0 ≠ 0) : mw Γ ad M 5 = some (M 6 0 0 - 1, .inl (Γ.2 0, 8, .inl (fun i => iM (M 5 i 0)))) := by simp [mw, h]
theorem al_worn {own : String} (C : f_C X9 Γ B0 own cc nL fr mc ms lo) (hh : f_HS Γ B0 (wj F X (mw Γ ad M9)) X9 H locs) (hw : M9 6 0 0 ≠ 0) {j : Nat} (hj : j < 8) (hdg : decode cc pc = .ok (.iaload, 1)) (kk : f_W X9 H locs k n (pc + 1) L (.int (iM (M9 5 j 0)) :: rest)) : f_W X9 H locs k n (pc) L (.int (nI j) :: .ref (M9 6 0 0 - 1) :: rest) := r_iald C hh (t := .inr (.inr 5)) (mw_worn (Γ := Γ) (ad := ad) (M := M9) hw) (by decide) hj hdg kk
set_option maxRecDepth 10000 in
theorem as_worn {own : String} (C : f_C X9 Γ B0 own cc nL fr mc ms lo) (hh : f_HS Γ B0 (wj F X (mw Γ ad M9)) X9 H locs) (hw : M9 6 0 0 ≠ 0) {j : Nat} {v : Nat} (hj : j < 8) (hdg : decode cc pc = .ok (.iastore, 1)) (kk : ∀ (H : Heap) (locs : List Loc), f_HS Γ B0 (wj F X (mw Γ ad (rs M9 5 (u1 (M9 5) j v)))) X9 H locs → f_W X9 H locs k n (pc + 1) L (rest)) : f_W X9 H locs k n (pc) L (.int (iM v) :: .int (nI j) :: .ref (M9 6 0 0 - 1) :: rest) := by
  refine r_iast C hh (t := .inr (.inr 5)) (mw_worn (Γ := Γ) (ad := ad) (M := M9) hw) (by decide) hj hdg (fun H locs hh => kk H locs ?_)
  rw [upd_iM] at hh
  refine (congrArg (fun w9 => f_HS Γ B0 w9 X9 H locs) (wj_m (mw_worn (Γ := Γ) (ad := ad) (M := M9) hw) (mw_worn (Γ := Γ) (ad := ad) (M := rs M9 5 (u1 (M9 5) j v)) hw) (fun t9 h9 => by
      unfold mw
      split <;> first | rfl | exact absurd rfl h9))).mp hh
theorem al_order {own : String} (C : f_C X9 Γ B0 own cc nL fr mc ms lo) (hh : f_HS Γ B0 (wj F (xw Γ ad R) M) X9 H locs) {j q : Nat} (hj : j < 64) (hv : R 6 j 0 = q + 1) (hdg : decode cc pc = .ok (.aaload, 1)) (kk : f_W X9 H locs k n (pc + 1) L (.ref (ad 14 q) :: rest)) : f_W X9 H locs k n (pc) L (.int (nI j) :: .ref (ad 2 0) :: rest) := r_aald C hh (t := .inr (.inl (1, 0))) (ti := 3) rfl rfl (by decide) hj hdg (by simp only [oR, hv]; exact kk)
theorem al_fontRow {own : String} (C : f_C X9 Γ B0 own cc nL fr mc ms lo) (hh : f_HS Γ B0 (wj F (xw Γ ad R) M) X9 H locs) {j : Nat} (hj : j < 8) (hdg : decode cc pc = .ok (.aaload, 1)) (kk : f_W X9 H locs k n (pc + 1) L (.ref (ad 10 j) :: rest)) : f_W X9 H locs k n (pc) L (.int (nI j) :: .ref (ad 3 0) :: rest) := r_aald C hh (t := .inr (.inl (2, 0))) (ti := 4) rfl rfl (by decide) hj hdg kk
theorem al_rack {own : String} (C : f_C X9 Γ B0 own cc nL fr mc ms lo) (hh : f_HS Γ B0 (wj F (xw Γ ad R) M) X9 H locs) {j : Nat} (hj : j < 128) (hv : R 8 j 0 ≠ 0) (hdg : decode cc pc = .ok (.aaload, 1)) (kk : f_W X9 H locs k n (pc + 1) L (.ref (ad 16 j) :: rest)) : f_W X9 H locs k n (pc) L (.int (nI j) :: .ref (ad 5 0) :: rest) := r_aald C hh (t := .inr (.inl (4, 0))) (ti := 5) rfl rfl (by decide) hj hdg (by simp only [hv, if_false]; exact kk)
theorem al_rack_null {own : String} (C : f_C X9 Γ B0 own cc nL fr mc ms lo) (hh : f_HS Γ B0 (wj F (xw Γ ad R) M) X9 H locs) {j : Nat} (hj : j < 128) (hv : R 8 j 0 = 0) (hdg : decode cc pc = .ok (.aaload, 1)) (kk : f_W X9 H locs k n (pc + 1) L (.null :: rest)) : f_W X9 H locs k n (pc) L (.int (nI j) :: .ref (ad 5 0) :: rest) := r_aald C hh (t := .inr (.inl (4, 0))) (ti := 5) rfl rfl (by decide) hj hdg (by simp only [hv, if_true]; exact kk)
theorem as_order {own : String} (C : f_C X9 Γ B0 own cc nL fr mc ms lo) (hh : f_HS Γ B0 (wj F (xw Γ ad R) M) X9 H locs) {j q : Nat} (hq : q < R 20 0 0) (hj : j < 64) (hdg : decode cc pc = .ok (.aastore, 1)) (kk : ∀ (H : Heap) (locs : List Loc), f_HS Γ B0 (wj F (xw Γ ad (rs R 6 (u1 (R 6) j (q + 1)))) M) X9 H locs → f_W X9 H locs k n (pc + 1) L (rest)) : f_W X9 H locs k n (pc) L (.ref (ad 14 q) :: .int (nI j) :: .ref (ad 2 0) :: rest) := by
  refine r_aast C hh (t := .inr (.inl (1, 0))) (ti := 3) (tv := .inr (.inl (14, q))) (r := (RX2, TX2, 5)) rfl rfl (xw_page (Γ := Γ) (ad := ad) (R := R) hq) rfl (by decide) hj hdg (fun H locs hh => kk H locs ?_)
  have e9 : va_up (fun i => oR (ad 14) (R 6 i 0)) j (some (ad 14 q)) = fun i => oR (ad 14) (u1 (R 6) j (q + 1) i 0) := by
    funext i; by_cases h : i = j <;> simp [va_up, u1, oR, h]
  rw [e9] at hh
  refine (congrArg (fun w9 => f_HS Γ B0 w9 X9 H locs) (wj_x rfl rfl (fun t9 h9 => by
      unfold xw
      split <;> first | rfl | exact absurd rfl h9))).mp hh
theorem as_order_null {own : String} (C : f_C X9 Γ B0 own cc nL fr mc ms lo) (hh : f_HS Γ B0 (wj F (xw Γ ad R) M) X9 H locs) {j : Nat} (hj : j < 64) (hdg : decode cc pc = .ok (.aastore, 1)) (kk : ∀ (H : Heap) (locs : List Loc), f_HS Γ B0 (wj F (xw Γ ad (rs R 6 (u1 (R 6) j 0))) M) X9 H locs → f_W X9 H locs k n (pc + 1) L (rest)) : f_W X9 H locs k n (pc) L (.null :: .int (nI j) :: .ref (ad 2 0) :: rest) := by
  refine r_aastN C hh (t := .inr (.inl (1, 0))) (ti := 3) rfl rfl (by decide) hj hdg (fun H locs hh => kk H locs ?_)
  have e9 : va_up (fun i => oR (ad 14) (R 6 i 0)) j none = fun i => oR (ad 14) (u1 (R 6) j 0 i 0) := by
    funext i; by_cases h : i = j <;> simp [va_up, u1, oR, h]
  rw [e9] at hh
  refine (congrArg (fun w9 => f_HS Γ B0 w9 X9 H locs) (wj_x rfl rfl (fun t9 h9 => by
      unfold xw
      split <;> first | rfl | exact absurd rfl h9))).mp hh
end WDS
