/-! ===== the class, its small methods ===== -/
section FWF
variable {ret : Option FieldType} {X : fX} {Γ : fG} {B0 : Nat} {own : String} {cc : ByteArray} {nL fr mc ms lo : Nat} {H : Heap} {locs : List Loc} {k n pc : Nat} {L : List (Option Value)} {st rest : List Value} {w : fV} {post : Option Value → fV → Prop} {px : String → fV → Prop}
variable {index : Nat} {y : MethodName} {bytes : ByteArray} {maxL np fr9 mc9 ms9 lo9 b ci N : Nat} {ret9 : Option FieldType} {post9 : Option Value → fV → Prop} {px9 : String → fV → Prop} {As : List Value} {fs : List Value} {T : u_T} {tr : fT} {host : String}
theorem r_throwW (C : f_C X Γ B0 "ProofSheet" cc nL fr mc ms lo) (E : f_E X Γ B0 ret mc ms post px) (hh : f_HS Γ B0 w X H locs) {cls text : String} {ik is ic : Nat} (hT : f_Thr cls ik ic) (hs : (is, text) ∈ f_strs)
    (d0 : decode cc pc = .ok (.new ik, 3)) (d3 : decode cc (pc + 3) = .ok (.dup, 1)) (d4 : decode cc (pc + 4) = .ok (.ldc_w is, 3)) (d6 : decode cc (pc + 7) = .ok (.invokespecial ic, 3)) (d9 : decode cc (pc + 10) = .ok (.athrow, 1))
    (hfr : 5 < fr) (hlo : 90 ≤ lo) (hcat : (rest.map fun v => v.category).sum ≤ 8) (hk : k + 1 ≤ mc) (hn : n + 6 ≤ ms) (hp : px cls w) : f_W X H locs k n pc L rest := by
  intro ls hl9
  have hts := C.2.2.2.2.1
  obtain ⟨-, -, ⟨z1, z2⟩, hstr, hnw⟩ := C.2.2.2.2.2.1
  obtain ⟨t1, t2, t3, t4, t5⟩ := hT
  obtain ⟨sa, hsa⟩ := hstr _ hs
  rw [E.2.2.2]
  refine vx_throwSW (names := ["java/lang/RuntimeException", "java/lang/Exception"]) (A := f_A B0) C.1 C.2.1 E.2.1 C.2.2.2.1 t3 (by decide +kernel) (hts _ t1) (hts _ t2) hsa (fun z hz => ?_) t5 z1 z2 hh.2 hl9.1 d0 d3 d4 d6 d9 (fun x hx9 => (E.2.2.1 x hx9).elim) (by rw [f_size C]; exact hfr) (by rw [f_size C]; show _ ≤ lo; simp only [List.length_cons, List.length_nil]; omega) (by rw [f_size C]; exact hk) (by rw [f_size C]; exact hn) C.2.2.2.2.2.2.1 (fun t ha hs1 hk1 => ⟨w, hp, hh.1.kept hk1, ?_⟩) hh.2.2.2 hk hn
  · rcases t4 z hz with h | h
    · exact hts _ h
    · rcases List.mem_append.mp h with h | h
      · obtain ⟨q, hq, rfl⟩ := List.mem_map.mp h
        exact va_Nw.use rfl (hnw.2.1 q hq)
      · obtain ⟨q, hq, rfl⟩ := List.mem_map.mp h
        exact va_Nw.use rfl (hnw.2.2.1 q hq)
  · exact ⟨Nat.le_trans hh.2.1 hs1, fun q h1 h2 => (hk1 q (Nat.lt_of_lt_of_le h1 hh.2.1)).trans (hh.2.2.1 q h1 h2)⟩
end FWF
theorem rb {b r : Bool} {w : fV} (h : b = r) : f_is (bI b) w (some (.int (bI r))) w := by subst h; exact ⟨rfl, rfl⟩
theorem ri {a r : Nat} {w : fV} (h : a = r) : f_is (nI a) w (some (.int (nI r))) w := by subst h; exact ⟨rfl, rfl⟩
theorem pow5 {f : Nat} (h : f < 5) : 2 ≤ 2 ^ (f + 1) ∧ 2 ^ (f + 1) ≤ 32 := by
  match f, h with
  | 0, _ => exact ⟨by decide, by decide⟩
  | 1, _ => exact ⟨by decide, by decide⟩
  | 2, _ => exact ⟨by decide, by decide⟩
  | 3, _ => exact ⟨by decide, by decide⟩
  | 4, _ => exact ⟨by decide, by decide⟩
  | n + 5, h => omega
def rg (x : Int32) (n : Nat) : Prop := 0 ≤ x ∧ x < nI n
def xN (x : Int32) : Nat := x.toNatClampNeg
theorem xN_nI {j : Nat} (h : j < 2 ^ 31) : xN (nI j) = j := nI_clamp h
theorem rg_of {x : Int32} {n : Nat} (h : rg x n) (hn : n < 2 ^ 31) : ∃ j : Nat, j < n ∧ x = nI j := by
  obtain ⟨j, hj, rfl⟩ := nI_of (x := x) (fun z => Int32.not_lt.mpr h.1 z)
  exact ⟨j, (nI_ltI hj hn).mp h.2, rfl⟩
theorem rg_N {j n : Nat} (h : j < n) (hn : n < 2 ^ 31) : rg (nI j) n := ⟨nI_pos' (by omega), nI_lt h hn⟩
theorem rg_le {x : Int32} {n : Nat} (hn : n + 1 < 2 ^ 31) : x < nI (n + 1) ↔ x ≤ nI n := by
  rw [Int32.lt_iff_toInt_lt, Int32.le_iff_toInt_le, nI_toInt hn, nI_toInt (by omega)]
  omega
def tb (a f : Nat) : Bool := a / 2 ^ f &&& 1 != 0
set_option maxHeartbeats 4000000 in
set_option maxRecDepth 100000 in
theorem c_X2_usesFont {l : Launch} (hl : l.stackTraces = false) (Γ : fG) (B0 : Nat) (ad : Nat → Nat → Nat) (R : fR) (F : Nat → fO) (M : Nat → fO) (q f : Nat) (hq : q < R 20 0 0) (hf : f < 8) (hb : R 13 q 0 < 256) : f_Met l yX2_usesFont cX2_usesFont 2 (some .boolean) 0 0 0 0 Γ B0 [.ref (ad 14 q), .int (nI f)] (wj F (xw Γ ad R) M) (f_is (bI (tb (R 13 q 0) f)) (wj F (xw Γ ad R) M)) f_no := by
  refine f_of hl (by decide) rfl (Nat.le_of_ble_eq_true rfl) (fun X9 C E hh hnm => ?_)
  generalize (f_s X9).heap = H, ([] : List Loc) = locs at hh ⊢
  refine r_aload_n C dX2_usesFont_0 rfl ?_
  refine g_X2_15 C hh (by omega) dX2_usesFont_1 ?_
  refine r_iload_n C dX2_usesFont_4 rfl ?_
  refine r_ishrN C dX2_usesFont_5 (by omega) (by omega) ?_
  refine r_iconst C (nI 1) dX2_usesFont_6 rfl ?_
  refine r_iandN C dX2_usesFont_7 ?_
  refine r_if_eqN (tgt := 15) C dX2_usesFont_8 (by decide) (Nat.lt_of_le_of_lt Nat.and_le_right (by decide)) (fun h8 => ?_) (fun h8 => ?_)
  · refine r_iconst C (bI false) dX2_usesFont_15 rfl ?_
    exact r_zret C E hh dX2_usesFont_16 (by omega) (by omega) (rb (by simp_all [tb]))
  · refine r_iconst C (bI true) dX2_usesFont_11 rfl ?_
    refine r_goto (tgt := 16) C dX2_usesFont_12 (by decide) ?_
    exact r_zret C E hh dX2_usesFont_16 (by omega) (by omega) (rb (by simp_all [tb]))

set_option maxHeartbeats 4000000 in
set_option maxRecDepth 100000 in
theorem c_X2_usesColor {l : Launch} (hl : l.stackTraces = false) (Γ : fG) (B0 : Nat) (ad : Nat → Nat → Nat) (R : fR) (F : Nat → fO) (M : Nat → fO) (q f : Nat) (hq : q < R 20 0 0) (hf : f < 4) (hb : R 14 q 0 < 16) : f_Met l yX2_usesColor cX2_usesColor 2 (some .boolean) 0 0 0 0 Γ B0 [.ref (ad 14 q), .int (nI f)] (wj F (xw Γ ad R) M) (f_is (bI (tb (R 14 q 0) f)) (wj F (xw Γ ad R) M)) f_no := by
  refine f_of hl (by decide) rfl (Nat.le_of_ble_eq_true rfl) (fun X9 C E hh hnm => ?_)
  generalize (f_s X9).heap = H, ([] : List Loc) = locs at hh ⊢
  refine r_aload_n C dX2_usesColor_0 rfl ?_
  refine g_X2_18 C hh (by omega) dX2_usesColor_1 ?_
  refine r_iload_n C dX2_usesColor_4 rfl ?_
  refine r_ishrN C dX2_usesColor_5 (by omega) (by omega) ?_
  refine r_iconst C (nI 1) dX2_usesColor_6 rfl ?_
  refine r_iandN C dX2_usesColor_7 ?_
  refine r_if_eqN (tgt := 15) C dX2_usesColor_8 (by decide) (Nat.lt_of_le_of_lt Nat.and_le_right (by decide)) (fun h8 => ?_) (fun h8 => ?_)
  · refine r_iconst C (bI false) dX2_usesColor_15 rfl ?_
    exact r_zret C E hh dX2_usesColor_16 (by omega) (by omega) (rb (by simp_all [tb]))
  · refine r_iconst C (bI true) dX2_usesColor_11 rfl ?_
    refine r_goto (tgt := 16) C dX2_usesColor_12 (by decide) ?_
    exact r_zret C E hh dX2_usesColor_16 (by omega) (by omega) (rb (by simp_all [tb]))

def fal (R : fR) (f d : Nat) : Bool := zB (R 10 f 0) && (decide (R 11 f 0 ≤ d) && decide (d ≤ R 12 f 0))
set_option maxHeartbeats 4000000 in
set_option maxRecDepth 100000 in
theorem c_X1_allows {l : Launch} (hl : l.stackTraces = false) (Γ : fG) (B0 : Nat) (ad : Nat → Nat → Nat) (R : fR) (F : Nat → fO) (M : Nat → fO) (q d : Nat) (hq : q < 8) (hd : d < 2 ^ 31) (h1 : R 11 q 0 < 2 ^ 31) (h2 : R 12 q 0 < 2 ^ 31) : f_Met l yX1_allows cX1_allows 2 (some .boolean) 0 0 0 0 Γ B0 [.ref (ad 10 q), .int (nI d)] (wj F (xw Γ ad R) M) (f_is (bI (fal R q d)) (wj F (xw Γ ad R) M)) f_no := by
  refine f_of hl (by decide) rfl (Nat.le_of_ble_eq_true rfl) (fun X9 C E hh hnm => ?_)
  generalize (f_s X9).heap = H, ([] : List Loc) = locs at hh ⊢
  refine r_aload_n C dX1_allows_0 rfl ?_
  refine g_X1_7 C hh (by omega) dX1_allows_1 ?_
  refine r_if_eqB (tgt := 27) C dX1_allows_4 (by decide) (fun h4 => ?_) (fun h4 => ?_)
  · refine r_iconst C (bI false) dX1_allows_27 rfl ?_
    exact r_zret C E hh dX1_allows_28 (by omega) (by omega) (rb (by simp_all [fal] <;> omega))
  · refine r_aload_n C dX1_allows_7 rfl ?_
    refine g_X1_13 C hh (by omega) dX1_allows_8 ?_
    refine r_iload_n C dX1_allows_11 rfl ?_
    refine r_icmp_gtN (tgt := 27) C dX1_allows_12 (by decide) (by omega) (by omega) (fun h12 => ?_) (fun h12 => ?_)
    · refine r_iconst C (bI false) dX1_allows_27 rfl ?_
      exact r_zret C E hh dX1_allows_28 (by omega) (by omega) (rb (by simp_all [fal] <;> omega))
    · refine r_iload_n C dX1_allows_15 rfl ?_
      refine r_aload_n C dX1_allows_16 rfl ?_
      refine g_X1_17 C hh (by omega) dX1_allows_17 ?_
      refine r_icmp_gtN (tgt := 27) C dX1_allows_20 (by decide) (by omega) (by omega) (fun h20 => ?_) (fun h20 => ?_)
      · refine r_iconst C (bI false) dX1_allows_27 rfl ?_
        exact r_zret C E hh dX1_allows_28 (by omega) (by omega) (rb (by simp_all [fal] <;> omega))
      · refine r_iconst C (bI true) dX1_allows_23 rfl ?_
        refine r_goto (tgt := 28) C dX1_allows_24 (by decide) ?_
        exact r_zret C E hh dX1_allows_28 (by omega) (by omega) (rb (by simp_all [fal] <;> omega))

set_option maxHeartbeats 4000000 in
set_option maxRecDepth 100000 in
theorem c_X0_pagesOfSheet {l : Launch} (hl : l.stackTraces = false) (Γ : fG) (B0 : Nat) (ad : Nat → Nat → Nat) (P : fR) (X : Nat × Nat → fO) (M : Nat → fO) (h : P 0 0 0 < 5) : f_Met l yX0_pagesOfSheet cX0_pagesOfSheet 1 (some .int) 0 0 0 0 Γ B0 [.ref (ad 0 0)] (wj (fw Γ ad P) X M) (f_is (nI (2 ^ (P 0 0 0 + 1))) (wj (fw Γ ad P) X M)) f_no := by
  refine f_of hl (by decide) rfl (Nat.le_of_ble_eq_true rfl) (fun X9 C E hh hnm => ?_)
  generalize (f_s X9).heap = H, ([] : List Loc) = locs at hh ⊢
  have hp5 := pow5 h
  refine r_iconst C (nI 1) dX0_pagesOfSheet_0 rfl ?_
  refine r_aload_n C dX0_pagesOfSheet_1 rfl ?_
  refine g_X0_31 C hh dX0_pagesOfSheet_2 ?_
  refine r_iconst C (nI 1) dX0_pagesOfSheet_5 rfl ?_
  refine r_iaddN C dX0_pagesOfSheet_6 ?_
  refine r_ishlN C dX0_pagesOfSheet_7 (by omega) (by rw [Nat.one_mul]; omega) ?_
  exact r_iret C E hh dX0_pagesOfSheet_8 (by omega) (by omega) (ri (by rw [Nat.one_mul]))

set_option maxHeartbeats 4000000 in
set_option maxRecDepth 100000 in
theorem c_X0_shiftOfSheet {l : Launch} (hl : l.stackTraces = false) (Γ : fG) (B0 : Nat) (ad : Nat → Nat → Nat) (P : fR) (X : Nat × Nat → fO) (M : Nat → fO) : f_Met l yX0_shiftOfSheet cX0_shiftOfSheet 1 (some .int) 0 0 0 0 Γ B0 [.ref (ad 0 0)] (wj (fw Γ ad P) X M) (f_is (nI (P 0 0 0 + 1)) (wj (fw Γ ad P) X M)) f_no := by
  refine f_of hl (by decide) rfl (Nat.le_of_ble_eq_true rfl) (fun X9 C E hh hnm => ?_)
  generalize (f_s X9).heap = H, ([] : List Loc) = locs at hh ⊢
  refine r_aload_n C dX0_shiftOfSheet_0 rfl ?_
  refine g_X0_31 C hh dX0_shiftOfSheet_1 ?_
  refine r_iconst C (nI 1) dX0_shiftOfSheet_4 rfl ?_
  refine r_iaddN C dX0_shiftOfSheet_5 ?_
  exact r_iret C E hh dX0_shiftOfSheet_6 (by omega) (by omega) ⟨rfl, rfl⟩

set_option maxHeartbeats 4000000 in
set_option maxRecDepth 100000 in
theorem c_X0_isSideways {l : Launch} (hl : l.stackTraces = false) (Γ : fG) (B0 : Nat) (w : fV) (x : Nat) (hx : x < 4) : f_Met l yX0_isSideways cX0_isSideways 1 (some .boolean) 0 0 0 0 Γ B0 [.int (nI x)] (w) (f_is (bI (decide (x < 2))) w) f_no := by
  refine f_of hl (by decide) rfl (Nat.le_of_ble_eq_true rfl) (fun X9 C E hh hnm => ?_)
  generalize (f_s X9).heap = H, ([] : List Loc) = locs at hh ⊢
  refine r_iload_n C dX0_isSideways_0 rfl ?_
  refine r_if_eqN (tgt := 9) C dX0_isSideways_1 (by decide) (by omega) (fun h1 => ?_) (fun h1 => ?_)
  · refine r_iconst C (bI true) dX0_isSideways_9 rfl ?_
    refine r_goto (tgt := 14) C dX0_isSideways_10 (by decide) ?_
    exact r_zret C E hh dX0_isSideways_14 (by omega) (by omega) (rb (by simp_all <;> omega))
  · refine r_iload_n C dX0_isSideways_4 rfl ?_
    refine r_iconst C (nI 1) dX0_isSideways_5 rfl ?_
    refine r_icmp_neN (tgt := 13) C dX0_isSideways_6 (by decide) (by omega) (by omega) (fun h6 => ?_) (fun h6 => ?_)
    · refine r_iconst C (bI false) dX0_isSideways_13 rfl ?_
      exact r_zret C E hh dX0_isSideways_14 (by omega) (by omega) (rb (by simp_all <;> omega))
    · refine r_iconst C (bI true) dX0_isSideways_9 rfl ?_
      refine r_goto (tgt := 14) C dX0_isSideways_10 (by decide) ?_
      exact r_zret C E hh dX0_isSideways_14 (by omega) (by omega) (rb (by simp_all <;> omega))

set_option maxHeartbeats 4000000 in
set_option maxRecDepth 100000 in
theorem c_X4_faceOf {l : Launch} (hl : l.stackTraces = false) (Γ : fG) (B0 : Nat) (w : fV) (leaf side : Nat) : f_Met l yX4_faceOf cX4_faceOf 2 (some .int) 0 0 0 0 Γ B0 [.int (nI leaf), .int (nI side)] (w) (f_is (nI (leaf * 2 + side)) w) f_no := by
  refine f_of hl (by decide) rfl (Nat.le_of_ble_eq_true rfl) (fun X9 C E hh hnm => ?_)
  generalize (f_s X9).heap = H, ([] : List Loc) = locs at hh ⊢
  refine r_iload_n C dX4_faceOf_0 rfl ?_
  refine r_iconst C (nI 2) dX4_faceOf_1 rfl ?_
  refine r_imulN C dX4_faceOf_2 ?_
  refine r_iload_n C dX4_faceOf_3 rfl ?_
  refine r_iaddN C dX4_faceOf_4 ?_
  exact r_iret C E hh dX4_faceOf_5 (by omega) (by omega) ⟨rfl, rfl⟩

set_option maxHeartbeats 4000000 in
set_option maxRecDepth 100000 in
theorem c_X4_leafUnder {l : Launch} (hl : l.stackTraces = false) (Γ : fG) (B0 : Nat) (w : fV) (face : Nat) (hf : face < 32) : f_Met l yX4_leafUnder cX4_leafUnder 1 (some .int) 0 0 0 0 Γ B0 [.int (nI face)] (w) (f_is (nI (face / 2)) w) f_no := by
  refine f_of hl (by decide) rfl (Nat.le_of_ble_eq_true rfl) (fun X9 C E hh hnm => ?_)
  generalize (f_s X9).heap = H, ([] : List Loc) = locs at hh ⊢
  refine r_iload_n C dX4_leafUnder_0 rfl ?_
  refine r_iconst C (nI 1) dX4_leafUnder_1 rfl ?_
  refine r_ishrN C dX4_leafUnder_2 (by omega) (by omega) ?_
  exact r_iret C E hh dX4_leafUnder_3 (by omega) (by omega) ⟨rfl, rfl⟩

set_option maxHeartbeats 4000000 in
set_option maxRecDepth 100000 in
theorem c_X4_sideOf {l : Launch} (hl : l.stackTraces = false) (Γ : fG) (B0 : Nat) (w : fV) (face : Nat) : f_Met l yX4_sideOf cX4_sideOf 1 (some .int) 0 0 0 0 Γ B0 [.int (nI face)] (w) (f_is (nI (face % 2)) w) f_no := by
  refine f_of hl (by decide) rfl (Nat.le_of_ble_eq_true rfl) (fun X9 C E hh hnm => ?_)
  generalize (f_s X9).heap = H, ([] : List Loc) = locs at hh ⊢
  refine r_iload_n C dX4_sideOf_0 rfl ?_
  refine r_iconst C (nI 1) dX4_sideOf_1 rfl ?_
  refine r_iandN C dX4_sideOf_2 ?_
  exact r_iret C E hh dX4_sideOf_3 (by omega) (by omega) (ri (by rw [Nat.and_one_is_mod]))

set_option maxHeartbeats 4000000 in
set_option maxRecDepth 100000 in
theorem c_X4_slotOf {l : Launch} (hl : l.stackTraces = false) (Γ : fG) (B0 : Nat) (w : fV) (s i c : Nat) : f_Met l yX4_slotOf cX4_slotOf 3 (some .int) 0 0 0 0 Γ B0 [.int (nI s), .int (nI i), .int (nI c)] (w) (f_is (nI ((s * 2 + i) * 4 + c)) w) f_no := by
  refine f_of hl (by decide) rfl (Nat.le_of_ble_eq_true rfl) (fun X9 C E hh hnm => ?_)
  generalize (f_s X9).heap = H, ([] : List Loc) = locs at hh ⊢
  refine r_iload_n C dX4_slotOf_0 rfl ?_
  refine r_iconst C (nI 2) dX4_slotOf_1 rfl ?_
  refine r_imulN C dX4_slotOf_2 ?_
  refine r_iload_n C dX4_slotOf_3 rfl ?_
  refine r_iaddN C dX4_slotOf_4 ?_
  refine r_iconst C (nI 4) dX4_slotOf_5 rfl ?_
  refine r_imulN C dX4_slotOf_6 ?_
  refine r_iload_n C dX4_slotOf_7 rfl ?_
  refine r_iaddN C dX4_slotOf_8 ?_
  exact r_iret C E hh dX4_slotOf_9 (by omega) (by omega) ⟨rfl, rfl⟩

def shc (P R : fR) : Nat := (R 0 0 0 + 2 ^ (P 0 0 0 + 1) - 1) / 2 ^ (P 0 0 0 + 1)
set_option maxHeartbeats 4000000 in
set_option maxRecDepth 100000 in
theorem c_X4_sheetCount {l : Launch} (hl : l.stackTraces = false) (Γ : fG) (B0 : Nat) (ad : Nat → Nat → Nat) (P R : fR) (M : Nat → fO) (h : P 0 0 0 < 5) (hn : R 0 0 0 ≤ 64) : f_Met l yX4_sheetCount cX4_sheetCount 1 (some .int) 1 0 0 20 Γ B0 [.ref (ad 1 0)] (wj (fw Γ ad P) (xw Γ ad R) M) (f_is (nI (shc P R)) (wj (fw Γ ad P) (xw Γ ad R) M)) f_no := by
  refine f_of hl (by decide) rfl (Nat.le_of_ble_eq_true rfl) (fun X9 C E hh hnm => ?_)
  generalize (f_s X9).heap = H, ([] : List Loc) = locs at hh ⊢
  have hp5 := pow5 h
  refine r_aload_n C dX4_sheetCount_0 rfl ?_
  refine g_X4_47 C hh dX4_sheetCount_1 ?_
  refine r_aload_n C dX4_sheetCount_4 rfl ?_
  refine g_X4_18 C hh dX4_sheetCount_5 ?_
  refine r_callV C E hh (c_X0_pagesOfSheet E.2.1 Γ B0 ad P _ M h) lk_X4_155 (tr := .inl 0) rfl rfl rfl rfl (Nat.le_of_ble_eq_true rfl) dX4_sheetCount_8 ⟨by decide, by decide⟩ ⟨by omega, by omega⟩ (fun _ _ z9 => False.elim z9) (kk_is (fun H locs hs9 hh => ?_))
  refine r_iaddN C dX4_sheetCount_11 ?_
  refine r_iconst C (nI 1) dX4_sheetCount_12 rfl ?_
  refine r_isubN C dX4_sheetCount_13 (by omega) ?_
  refine r_aload_n C dX4_sheetCount_14 rfl ?_
  refine g_X4_18 C hh dX4_sheetCount_15 ?_
  refine r_callV C E hh (c_X0_shiftOfSheet E.2.1 Γ B0 ad P _ M) lk_X4_158 (tr := .inl 0) rfl rfl rfl rfl (Nat.le_of_ble_eq_true rfl) dX4_sheetCount_18 ⟨by decide, by decide⟩ ⟨by omega, by omega⟩ (fun _ _ z9 => False.elim z9) (kk_is (fun H locs hs9 hh => ?_))
  refine r_ishrN C dX4_sheetCount_21 (by omega) (by omega) ?_
  exact r_iret C E hh dX4_sheetCount_22 (by omega) (by omega) ⟨rfl, rfl⟩

set_option maxHeartbeats 4000000 in
set_option maxRecDepth 100000 in
theorem c_X4_pages {l : Launch} (hl : l.stackTraces = false) (Γ : fG) (B0 : Nat) (ad : Nat → Nat → Nat) (R : fR) (F : Nat → fO) (M : Nat → fO) : f_Met l yX4_pages cX4_pages 1 (some .int) 0 0 0 0 Γ B0 [.ref (ad 1 0)] (wj F (xw Γ ad R) M) (f_is (nI (R 0 0 0)) (wj F (xw Γ ad R) M)) f_no := by
  refine f_of hl (by decide) rfl (Nat.le_of_ble_eq_true rfl) (fun X9 C E hh hnm => ?_)
  generalize (f_s X9).heap = H, ([] : List Loc) = locs at hh ⊢
  refine r_aload_n C dX4_pages_0 rfl ?_
  refine g_X4_47 C hh dX4_pages_1 ?_
  exact r_iret C E hh dX4_pages_4 (by omega) (by omega) ⟨rfl, rfl⟩

set_option maxHeartbeats 4000000 in
set_option maxRecDepth 100000 in
theorem c_X4_today {l : Launch} (hl : l.stackTraces = false) (Γ : fG) (B0 : Nat) (ad : Nat → Nat → Nat) (R : fR) (F : Nat → fO) (M : Nat → fO) : f_Met l yX4_today cX4_today 1 (some .int) 0 0 0 0 Γ B0 [.ref (ad 1 0)] (wj F (xw Γ ad R) M) (f_is (nI (R 2 0 0)) (wj F (xw Γ ad R) M)) f_no := by
  refine f_of hl (by decide) rfl (Nat.le_of_ble_eq_true rfl) (fun X9 C E hh hnm => ?_)
  generalize (f_s X9).heap = H, ([] : List Loc) = locs at hh ⊢
  refine r_aload_n C dX4_today_0 rfl ?_
  refine g_X4_209 C hh dX4_today_1 ?_
  exact r_iret C E hh dX4_today_4 (by omega) (by omega) ⟨rfl, rfl⟩

set_option maxHeartbeats 4000000 in
set_option maxRecDepth 100000 in
theorem c_X4_plates {l : Launch} (hl : l.stackTraces = false) (Γ : fG) (B0 : Nat) (ad : Nat → Nat → Nat) (R : fR) (F : Nat → fO) (M : Nat → fO) : f_Met l yX4_plates cX4_plates 1 (some .int) 0 0 0 0 Γ B0 [.ref (ad 1 0)] (wj F (xw Γ ad R) M) (f_is (nI (R 4 0 0)) (wj F (xw Γ ad R) M)) f_no := by
  refine f_of hl (by decide) rfl (Nat.le_of_ble_eq_true rfl) (fun X9 C E hh hnm => ?_)
  generalize (f_s X9).heap = H, ([] : List Loc) = locs at hh ⊢
  refine r_aload_n C dX4_plates_0 rfl ?_
  refine g_X4_265 C hh dX4_plates_1 ?_
  exact r_iret C E hh dX4_plates_4 (by omega) (by omega) ⟨rfl, rfl⟩

set_option maxHeartbeats 4000000 in
set_option maxRecDepth 100000 in
theorem c_X4_sheets {l : Launch} (hl : l.stackTraces = false) (Γ : fG) (B0 : Nat) (ad : Nat → Nat → Nat) (P R : fR) (M : Nat → fO) (h : P 0 0 0 < 5) (hn : R 0 0 0 ≤ 64) : f_Met l yX4_sheets cX4_sheets 1 (some .int) 2 0 0 40 Γ B0 [.ref (ad 1 0)] (wj (fw Γ ad P) (xw Γ ad R) M) (f_is (nI (shc P R)) (wj (fw Γ ad P) (xw Γ ad R) M)) f_no := by
  refine f_of hl (by decide) rfl (Nat.le_of_ble_eq_true rfl) (fun X9 C E hh hnm => ?_)
  generalize (f_s X9).heap = H, ([] : List Loc) = locs at hh ⊢
  refine r_aload_n C dX4_sheets_0 rfl ?_
  refine r_callV C E hh (c_X4_sheetCount E.2.1 Γ B0 ad P R M h hn) lk_X4_113 (tr := .inr (.inl (0, 0))) rfl rfl rfl rfl (Nat.le_of_ble_eq_true rfl) dX4_sheets_1 ⟨by decide, by decide⟩ ⟨by omega, by omega⟩ (fun _ _ z9 => False.elim z9) (kk_is (fun H locs hs9 hh => ?_))
  exact r_iret C E hh dX4_sheets_4 (by omega) (by omega) ⟨rfl, rfl⟩

set_option maxHeartbeats 4000000 in
set_option maxRecDepth 100000 in
theorem c_X4_rows {l : Launch} (hl : l.stackTraces = false) (Γ : fG) (B0 : Nat) (ad : Nat → Nat → Nat) (P R : fR) (M : Nat → fO) : f_Met l yX4_rows cX4_rows 1 (some .int) 0 0 0 0 Γ B0 [.ref (ad 1 0)] (wj (fw Γ ad P) (xw Γ ad R) M) (f_is (nI (P 2 0 0)) (wj (fw Γ ad P) (xw Γ ad R) M)) f_no := by
  refine f_of hl (by decide) rfl (Nat.le_of_ble_eq_true rfl) (fun X9 C E hh hnm => ?_)
  generalize (f_s X9).heap = H, ([] : List Loc) = locs at hh ⊢
  refine r_aload_n C dX4_rows_0 rfl ?_
  refine g_X4_18 C hh dX4_rows_1 ?_
  refine g_X4_117 C hh dX4_rows_4 ?_
  exact r_iret C E hh dX4_rows_7 (by omega) (by omega) ⟨rfl, rfl⟩

set_option maxHeartbeats 4000000 in
set_option maxRecDepth 100000 in
theorem c_X4_columns {l : Launch} (hl : l.stackTraces = false) (Γ : fG) (B0 : Nat) (ad : Nat → Nat → Nat) (P R : fR) (M : Nat → fO) : f_Met l yX4_columns cX4_columns 1 (some .int) 0 0 0 0 Γ B0 [.ref (ad 1 0)] (wj (fw Γ ad P) (xw Γ ad R) M) (f_is (nI (P 3 0 0)) (wj (fw Γ ad P) (xw Γ ad R) M)) f_no := by
  refine f_of hl (by decide) rfl (Nat.le_of_ble_eq_true rfl) (fun X9 C E hh hnm => ?_)
  generalize (f_s X9).heap = H, ([] : List Loc) = locs at hh ⊢
  refine r_aload_n C dX4_columns_0 rfl ?_
  refine g_X4_18 C hh dX4_columns_1 ?_
  refine g_X4_120 C hh dX4_columns_4 ?_
  exact r_iret C E hh dX4_columns_7 (by omega) (by omega) ⟨rfl, rfl⟩

set_option maxHeartbeats 4000000 in
set_option maxRecDepth 100000 in
theorem c_X4_checkPlace {l : Launch} (hl : l.stackTraces = false) (Γ : fG) (B0 : Nat) (ad : Nat → Nat → Nat) (R : fR) (F : Nat → fO) (M : Nat → fO) (x : Int32) : f_Met l yX4_checkPlace cX4_checkPlace 2 none 6 1 6 90 Γ B0 [.ref (ad 1 0), .int x] (wj F (xw Γ ad R) M) (f_rV (fun w9 => rg x (R 0 0 0) ∧ w9 = wj F (xw Γ ad R) M)) (fun E9 w9 => (E9 = "java/lang/IndexOutOfBoundsException" ∧ ¬ rg x (R 0 0 0)) ∧ w9 = wj F (xw Γ ad R) M) := by
  refine f_of hl (by decide) rfl (Nat.le_of_ble_eq_true rfl) (fun X9 C E hh hnm => ?_)
  generalize (f_s X9).heap = H, ([] : List Loc) = locs at hh ⊢
  refine r_iload_n C dX4_checkPlace_0 rfl ?_
  refine r_if_lt (tgt := 12) C dX4_checkPlace_1 (by decide) (fun h1 => ?_) (fun h1 => ?_)
  · exact r_throw C E hh th_IX (is := 103) (text := "no such page") (by decide) dX4_checkPlace_12 dX4_checkPlace_15 dX4_checkPlace_16 dX4_checkPlace_18 dX4_checkPlace_21 (by decide) (by decide) (Nat.le_of_ble_eq_true rfl) (by omega) (by omega) ⟨⟨rfl, by first | exact fun z => h9 z.2 | exact fun z => Int32.not_lt.mpr z.1 h1⟩, rfl⟩
  · refine r_iload_n C dX4_checkPlace_4 rfl ?_
    refine r_aload_n C dX4_checkPlace_5 rfl ?_
    refine g_X4_47 C hh dX4_checkPlace_6 ?_
    refine r_icmp_lt (tgt := 22) C dX4_checkPlace_9 (by decide) (fun h9 => ?_) (fun h9 => ?_)
    · exact r_vret C E hh dX4_checkPlace_22 (by omega) (by omega) ⟨rfl, ⟨Int32.not_lt.mp h1, h9⟩, rfl⟩
    · exact r_throw C E hh th_IX (is := 103) (text := "no such page") (by decide) dX4_checkPlace_12 dX4_checkPlace_15 dX4_checkPlace_16 dX4_checkPlace_18 dX4_checkPlace_21 (by decide) (by decide) (Nat.le_of_ble_eq_true rfl) (by omega) (by omega) ⟨⟨rfl, by first | exact fun z => h9 z.2 | exact fun z => Int32.not_lt.mpr z.1 h1⟩, rfl⟩

set_option maxHeartbeats 4000000 in
set_option maxRecDepth 100000 in
theorem c_X4_checkFont {l : Launch} (hl : l.stackTraces = false) (Γ : fG) (B0 : Nat) (w : fV) (x : Int32) : f_Met l yX4_checkFont cX4_checkFont 1 none 6 1 6 90 Γ B0 [.int x] (w) (f_rV (fun w9 => rg x 8 ∧ w9 = w)) (fun E9 w9 => (E9 = "java/lang/IllegalArgumentException" ∧ ¬ rg x 8) ∧ w9 = w) := by
  refine f_of hl (by decide) rfl (Nat.le_of_ble_eq_true rfl) (fun X9 C E hh hnm => ?_)
  generalize (f_s X9).heap = H, ([] : List Loc) = locs at hh ⊢
  refine r_iload_n C dX4_checkFont_0 rfl ?_
  refine r_if_lt (tgt := 10) C dX4_checkFont_1 (by decide) (fun h1 => ?_) (fun h1 => ?_)
  · exact r_throw C E hh th_IA (is := 221) (text := "font is out of range") (by decide) dX4_checkFont_10 dX4_checkFont_13 dX4_checkFont_14 dX4_checkFont_16 dX4_checkFont_19 (by decide) (by decide) (Nat.le_of_ble_eq_true rfl) (by omega) (by omega) ⟨⟨rfl, by first | exact fun z => h7 z.2 | exact fun z => Int32.not_lt.mpr z.1 h1⟩, rfl⟩
  · refine r_iload_n C dX4_checkFont_4 rfl ?_
    refine r_bipush C (nI 8) dX4_checkFont_5 rfl ?_
    refine r_icmp_lt (tgt := 20) C dX4_checkFont_7 (by decide) (fun h7 => ?_) (fun h7 => ?_)
    · exact r_vret C E hh dX4_checkFont_20 (by omega) (by omega) ⟨rfl, ⟨Int32.not_lt.mp h1, h7⟩, rfl⟩
    · exact r_throw C E hh th_IA (is := 221) (text := "font is out of range") (by decide) dX4_checkFont_10 dX4_checkFont_13 dX4_checkFont_14 dX4_checkFont_16 dX4_checkFont_19 (by decide) (by decide) (Nat.le_of_ble_eq_true rfl) (by omega) (by omega) ⟨⟨rfl, by first | exact fun z => h7 z.2 | exact fun z => Int32.not_lt.mpr z.1 h1⟩, rfl⟩

set_option maxHeartbeats 4000000 in
set_option maxRecDepth 100000 in
theorem c_X4_checkColor {l : Launch} (hl : l.stackTraces = false) (Γ : fG) (B0 : Nat) (w : fV) (x : Int32) : f_Met l yX4_checkColor cX4_checkColor 1 none 6 1 6 90 Γ B0 [.int x] (w) (f_rV (fun w9 => rg x 4 ∧ w9 = w)) (fun E9 w9 => (E9 = "java/lang/IllegalArgumentException" ∧ ¬ rg x 4) ∧ w9 = w) := by
  refine f_of hl (by decide) rfl (Nat.le_of_ble_eq_true rfl) (fun X9 C E hh hnm => ?_)
  generalize (f_s X9).heap = H, ([] : List Loc) = locs at hh ⊢
  refine r_iload_n C dX4_checkColor_0 rfl ?_
  refine r_if_lt (tgt := 9) C dX4_checkColor_1 (by decide) (fun h1 => ?_) (fun h1 => ?_)
  · exact r_throwW C E hh th_IA (is := 260) (text := "color is out of range") (by decide) dX4_checkColor_9 dX4_checkColor_12 dX4_checkColor_13 dX4_checkColor_16 dX4_checkColor_19 (by decide) (by decide) (Nat.le_of_ble_eq_true rfl) (by omega) (by omega) ⟨⟨rfl, by first | exact fun z => h6 z.2 | exact fun z => Int32.not_lt.mpr z.1 h1⟩, rfl⟩
  · refine r_iload_n C dX4_checkColor_4 rfl ?_
    refine r_iconst C (nI 4) dX4_checkColor_5 rfl ?_
    refine r_icmp_lt (tgt := 20) C dX4_checkColor_6 (by decide) (fun h6 => ?_) (fun h6 => ?_)
    · exact r_vret C E hh dX4_checkColor_20 (by omega) (by omega) ⟨rfl, ⟨Int32.not_lt.mp h1, h6⟩, rfl⟩
    · exact r_throwW C E hh th_IA (is := 260) (text := "color is out of range") (by decide) dX4_checkColor_9 dX4_checkColor_12 dX4_checkColor_13 dX4_checkColor_16 dX4_checkColor_19 (by decide) (by decide) (Nat.le_of_ble_eq_true rfl) (by omega) (by omega) ⟨⟨rfl, by first | exact fun z => h6 z.2 | exact fun z => Int32.not_lt.mpr z.1 h1⟩, rfl⟩

set_option maxHeartbeats 4000000 in
set_option maxRecDepth 100000 in
theorem c_X4_checkSide {l : Launch} (hl : l.stackTraces = false) (Γ : fG) (B0 : Nat) (w : fV) (x : Int32) : f_Met l yX4_checkSide cX4_checkSide 1 none 6 1 6 90 Γ B0 [.int x] (w) (f_rV (fun w9 => rg x 2 ∧ w9 = w)) (fun E9 w9 => (E9 = "java/lang/IllegalArgumentException" ∧ ¬ rg x 2) ∧ w9 = w) := by
  refine f_of hl (by decide) rfl (Nat.le_of_ble_eq_true rfl) (fun X9 C E hh hnm => ?_)
  generalize (f_s X9).heap = H, ([] : List Loc) = locs at hh ⊢
  refine r_iload_n C dX4_checkSide_0 rfl ?_
  refine r_if_lt (tgt := 9) C dX4_checkSide_1 (by decide) (fun h1 => ?_) (fun h1 => ?_)
  · exact r_throw C E hh th_IA (is := 176) (text := "side is out of range") (by decide) dX4_checkSide_9 dX4_checkSide_12 dX4_checkSide_13 dX4_checkSide_15 dX4_checkSide_18 (by decide) (by decide) (Nat.le_of_ble_eq_true rfl) (by omega) (by omega) ⟨⟨rfl, by first | exact fun z => h6 z.2 | exact fun z => Int32.not_lt.mpr z.1 h1⟩, rfl⟩
  · refine r_iload_n C dX4_checkSide_4 rfl ?_
    refine r_iconst C (nI 2) dX4_checkSide_5 rfl ?_
    refine r_icmp_lt (tgt := 19) C dX4_checkSide_6 (by decide) (fun h6 => ?_) (fun h6 => ?_)
    · exact r_vret C E hh dX4_checkSide_19 (by omega) (by omega) ⟨rfl, ⟨Int32.not_lt.mp h1, h6⟩, rfl⟩
    · exact r_throw C E hh th_IA (is := 176) (text := "side is out of range") (by decide) dX4_checkSide_9 dX4_checkSide_12 dX4_checkSide_13 dX4_checkSide_15 dX4_checkSide_18 (by decide) (by decide) (Nat.le_of_ble_eq_true rfl) (by omega) (by omega) ⟨⟨rfl, by first | exact fun z => h6 z.2 | exact fun z => Int32.not_lt.mpr z.1 h1⟩, rfl⟩

set_option maxHeartbeats 4000000 in
set_option maxRecDepth 100000 in
theorem c_X4_checkFontsAndColors {l : Launch} (hl : l.stackTraces = false) (Γ : fG) (B0 : Nat) (w : fV) (x y : Int32) : f_Met l yX4_checkFontsAndColors cX4_checkFontsAndColors 2 none 6 1 6 90 Γ B0 [.int x, .int y] (w) (f_rV (fun w9 => (rg x 256 ∧ rg y 16) ∧ w9 = w)) (fun E9 w9 => (E9 = "java/lang/IllegalArgumentException" ∧ ¬ (rg x 256 ∧ rg y 16)) ∧ w9 = w) := by
  refine f_of hl (by decide) rfl (Nat.le_of_ble_eq_true rfl) (fun X9 C E hh hnm => ?_)
  generalize (f_s X9).heap = H, ([] : List Loc) = locs at hh ⊢
  refine r_iload_n C dX4_checkFontsAndColors_0 rfl ?_
  refine r_if_lt (tgt := 11) C dX4_checkFontsAndColors_1 (by decide) (fun h1 => ?_) (fun h1 => ?_)
  · exact r_throw C E hh th_IA (is := 105) (text := "fonts is out of range") (by decide) dX4_checkFontsAndColors_11 dX4_checkFontsAndColors_14 dX4_checkFontsAndColors_15 dX4_checkFontsAndColors_17 dX4_checkFontsAndColors_20 (by decide) (by decide) (Nat.le_of_ble_eq_true rfl) (by omega) (by omega) ⟨⟨rfl, by first | exact fun z => h8 ((rg_le (by decide)).mp z.1.2) | exact fun z => Int32.not_lt.mpr z.1.1 h1⟩, rfl⟩
  · refine r_iload_n C dX4_checkFontsAndColors_4 rfl ?_
    refine r_sipush C (nI 255) dX4_checkFontsAndColors_5 rfl ?_
    refine r_icmp_le (tgt := 21) C dX4_checkFontsAndColors_8 (by decide) (fun h8 => ?_) (fun h8 => ?_)
    · refine r_iload_n C dX4_checkFontsAndColors_21 rfl ?_
      refine r_if_lt (tgt := 31) C dX4_checkFontsAndColors_22 (by decide) (fun h22 => ?_) (fun h22 => ?_)
      · exact r_throw C E hh th_IA (is := 107) (text := "colors is out of range") (by decide) dX4_checkFontsAndColors_31 dX4_checkFontsAndColors_34 dX4_checkFontsAndColors_35 dX4_checkFontsAndColors_37 dX4_checkFontsAndColors_40 (by decide) (by decide) (Nat.le_of_ble_eq_true rfl) (by omega) (by omega) ⟨⟨rfl, by first | exact fun z => h28 ((rg_le (by decide)).mp z.2.2) | exact fun z => Int32.not_lt.mpr z.2.1 h22⟩, rfl⟩
      · refine r_iload_n C dX4_checkFontsAndColors_25 rfl ?_
        refine r_bipush C (nI 15) dX4_checkFontsAndColors_26 rfl ?_
        refine r_icmp_le (tgt := 41) C dX4_checkFontsAndColors_28 (by decide) (fun h28 => ?_) (fun h28 => ?_)
        · exact r_vret C E hh dX4_checkFontsAndColors_41 (by omega) (by omega) ⟨rfl, ⟨⟨Int32.not_lt.mp h1, (rg_le (by decide)).mpr h8⟩, ⟨Int32.not_lt.mp h22, (rg_le (by decide)).mpr h28⟩⟩, rfl⟩
        · exact r_throw C E hh th_IA (is := 107) (text := "colors is out of range") (by decide) dX4_checkFontsAndColors_31 dX4_checkFontsAndColors_34 dX4_checkFontsAndColors_35 dX4_checkFontsAndColors_37 dX4_checkFontsAndColors_40 (by decide) (by decide) (Nat.le_of_ble_eq_true rfl) (by omega) (by omega) ⟨⟨rfl, by first | exact fun z => h28 ((rg_le (by decide)).mp z.2.2) | exact fun z => Int32.not_lt.mpr z.2.1 h22⟩, rfl⟩
    · exact r_throw C E hh th_IA (is := 105) (text := "fonts is out of range") (by decide) dX4_checkFontsAndColors_11 dX4_checkFontsAndColors_14 dX4_checkFontsAndColors_15 dX4_checkFontsAndColors_17 dX4_checkFontsAndColors_20 (by decide) (by decide) (Nat.le_of_ble_eq_true rfl) (by omega) (by omega) ⟨⟨rfl, by first | exact fun z => h8 ((rg_le (by decide)).mp z.1.2) | exact fun z => Int32.not_lt.mpr z.1.1 h1⟩, rfl⟩

