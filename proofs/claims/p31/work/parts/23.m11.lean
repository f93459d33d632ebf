/-! ===== folding: the piles ===== -/
theorem cy_lk : Cond.methodLink "ProofSheet$Folding" 65 arraycopyName ∈ f_GW := f_in 133 (by decide +kernel) (by decide +kernel)
theorem cy_st : Cond.static arraycopyName ∈ f_GW := f_in 134 (by decide +kernel) (by decide +kernel)
theorem cy_nt : Cond.native arraycopyName ∈ f_GW := f_in 135 (by decide +kernel) (by decide +kernel)
theorem cy_in : Cond.initialized "java/lang/System" ∈ f_GW := f_in 31 (by decide +kernel) (by decide +kernel)
/-- System.arraycopy of ints, from place 0 to place 0 (after va_copyi of the kit, over worlds by tags) -/
theorem r_copy {X9 : fX} {Γ : fG} {B0 : Nat} {cc : ByteArray} {nL fr mc ms lo : Nat} {H : Heap} {locs : List Loc} {k n pc : Nat} {L : List (Option Value)} {rest : List Value} {w : fV} (C : f_C X9 Γ B0 "ProofSheet$Folding" cc nL fr mc ms lo) (hh : f_HS Γ B0 w X9 H locs) {t0 t1 : fT} {a0 a n0 n1 m : Nat} {f g : Nat → Int32} (ha0 : w t0 = some (a0, .inl (Γ.2 0, n0, .inl f))) (ha1 : w t1 = some (a, .inl (Γ.2 0, n1, .inl g))) (h4 : m ≤ n0) (h5 : m ≤ n1) (hm : m < 2 ^ 31)
    (hfr : 1 ≤ fr) (hlo : 8 + (nativeFrameWords "java/lang/System" "arraycopy" 5 + 11) ≤ lo) (hcat : (rest.map fun v => v.category).sum ≤ 8) (hdg : decode cc pc = .ok (.invokestatic 65, 3))
    (kk : ∀ (H : Heap) (locs : List Loc), f_HS Γ B0 (f_set w t1 (.inl (Γ.2 0, n1, .inl (va_cpy f g 0 0 m)))) X9 H locs → f_W X9 H locs k n (pc + 3) L rest) : f_W X9 H locs k n pc L (.int (nI m) :: .int (nI 0) :: .ref a :: .int (nI 0) :: .ref a0 :: rest) := by
  intro ls hl9
  have hts := C.2.2.2.2.1
  have hR := f_size C
  have hK := C.2.2.2.2.2.1.1
  have hmc : (nI m).toNatClampNeg = m := nI_clamp hm
  have h0c : (nI 0).toNatClampNeg = 0 := nI_clamp (by decide)
  have nn : ∀ z : Int32, ¬ z < 0 → z.toInt = (z.toNatClampNeg : Int) := by
    intro z hz
    have hz0 : (0 : Int) ≤ z.toInt := by
      have := Int32.not_lt.mp hz
      simpa using Int32.le_iff_toInt_le.mp this
    show z.toInt = ((z.toInt.toNat : Nat) : Int)
    omega
  intro T hT X
  have hc0 : H[a0]? = some (vp_cell (Γ.2 0) (n0, .inl f)) := hh.1.1 t0 _ ha0
  have hc1 : H[a]? = some (vp_cell (Γ.2 0) (n1, .inl g)) := hh.1.1 t1 _ ha1
  obtain ⟨-, k0, hk0, cm0, hkk0⟩ := (hK.2 0 (Γ.2 0, .int) rfl).1 n0 (fun j => .int (f j))
  obtain ⟨-, k1, hk1, cm1, hkk1⟩ := (hK.2 0 (Γ.2 0, .int) rfl).1 n1 (fun j => .int (g j))
  obtain ⟨vm', X', step⟩ := X.arraycopy C.1 C.2.2.2.1 (hts _ cy_lk) (hts _ cy_nt) (hts _ cy_st) (hts _ cy_in) (src := a0) (dst := a) (cs := vp_cell (Γ.2 0) (n0, .inl f)) (cd := vp_cell (Γ.2 0) (n1, .inl g)) (srcPos := nI 0) (destPos := nI 0) (n := nI m) (by rw [hT]; exact hc0) (by rw [hT]; exact hc1)
    (fun _ h => by cases h) (fun _ h => by cases h) (fun h => by cases h) (fun h => by cases h) hk0 hk1 hkk0 hkk1 (by simp [refKind]) (nI_pos (by decide)) (nI_pos (by decide)) (nI_pos hm)
    (by rw [nn _ (nI_pos (by decide)), nn _ (nI_pos hm), hmc, h0c]; show ¬ _ > ((arrV _ n0 (fun j => .int (f j))).slots.size : Int); rw [arrV_size]; omega)
    (by rw [nn _ (nI_pos (by decide)), nn _ (nI_pos hm), hmc, h0c]; show ¬ _ > ((arrV _ n1 (fun j => .int (g j))).slots.size : Int); rw [arrV_size]; omega)
    (fun vm₁ _ i hi => by
      rw [hmc] at hi
      rw [h0c]
      have e : (vp_cell (Γ.2 0) (n0, .inl f)).slots.getD (0 + i) .null = .int (f (0 + i)) := by
        show (arrV _ n0 (fun j => .int (f j))).slots.getD _ _ = _
        rw [Array.getD_eq_getD_getElem?, arrV_read _ _ (by omega)]
        rfl
      refine ⟨?_, ?_⟩
      · rw [e]; rfl
      · rw [e]; exact trivial)
    (g := F0 (f_m X9) pc ls (.int (nI m) :: .int (nI 0) :: .ref a :: .int (nI 0) :: .ref a0 :: rest)) rfl hl9.1 (rest := rest) rfl (by rw [C.2.1]; exact hdg) (by rw [hR]; exact hfr) (by rw [hR]; show 2 * 0 + _ + _ ≤ lo; omega)
  have e1 : copied (vp_cell (Γ.2 0) (n0, .inl f)) (vp_cell (Γ.2 0) (n1, .inl g)) (nI 0) (nI 0) (nI m) = vp_cell (Γ.2 0) (n1, .inl (va_cpy f g (nI 0).toNatClampNeg (nI 0).toNatClampNeg (nI m).toNatClampNeg)) := va_copied (fun z => .int z) (Γ.2 0) (Γ.2 0) f g (by rw [hmc, h0c]; omega)
  rw [e1, hmc, h0c] at X' step
  have hl : a < H.size := (Array.getElem?_eq_some_iff.mp hc1).1
  have hheap : ((T.setVm vm').setCell a (vp_cell (Γ.2 0) (n1, .inl (va_cpy f g 0 0 m)))).heap = H.setIfInBounds a (vp_cell (Γ.2 0) (n1, .inl (va_cpy f g 0 0 m))) := by rw [← hT]; rfl
  have oq : ∀ q : Nat, q ≠ a → (H.setIfInBounds a (vp_cell (Γ.2 0) (n1, .inl (va_cpy f g 0 0 m))))[q]? = H[q]? := fun q hq => by simp [Array.getElem?_setIfInBounds, Ne.symm hq]
  have hBa : B0 ≤ a := hh.1.2.2 t1 _ ha1
  obtain ⟨t, a1, b1⟩ := kk _ _ ⟨hh.1.set ha1 (show (H.setIfInBounds a _)[a]? = some _ by simp [Array.getElem?_setIfInBounds, hl]) oq, ⟨by simp; exact hh.2.1, fun q g1 g2 => by
      rw [oq q (fun e => g2 (by rw [e]; exact hBa))]
      exact hh.2.2.1 q g1 g2, fun q hq => by
      rcases List.mem_append.mp hq with h | h
      · exact hh.2.2.2 q h
      · obtain ⟨z, -, hz⟩ := List.mem_map.mp h
        rw [← hz]
        exact hBa⟩⟩ ls hl9 _ hheap X'
  exact ⟨t, step t a1, b1⟩
def flp (x : Nat) : Nat := x / 2 * 2 + (1 - x % 2)
theorem flp_lt {x : Nat} (h : x < 32) : flp x < 32 := by unfold flp; omega
def lyf (fo pi : Nat → Nat → Nat) (lw sb ob h l : Nat) : Nat → Nat → Nat := fun j j' => if lw ≤ j ∧ j < lw + l then pi (sb + (j - lw)) 0 else if lw + h ≤ j ∧ j < lw + h + l then flp (pi (ob + h - 1 - (j - (lw + h))) 0) else fo j j'
theorem lyf_0 (P : fR) (lw sb ob h : Nat) : rs P 9 (lyf (P 9) (P 8) lw sb ob h 0) = P := by
  funext c i j
  by_cases hc : c = 9
  · subst hc
    have h1 : ¬ (lw ≤ i ∧ i < lw + 0) := by omega
    have h2 : ¬ (lw + h ≤ i ∧ i < lw + h + 0) := by omega
    rw [rs_same]; unfold lyf; rw [if_neg h1, if_neg h2]
  · rw [rs_ne _ _ hc]
theorem lyf_s (fo pi : Nat → Nat → Nat) {lw sb ob h l : Nat} (hl : l < h) : u1 (u1 (lyf fo pi lw sb ob h l) (lw + l) (pi (sb + l) 0)) (lw + h + l) (flp (pi (ob + h - 1 - l) 0)) = lyf fo pi lw sb ob h (l + 1) := by
  funext i j
  unfold u1 lyf
  by_cases h1 : i = lw + h + l
  · subst h1
    have a1 : ¬ (lw ≤ lw + h + l ∧ lw + h + l < lw + (l + 1)) := by omega
    have a2 : lw + h ≤ lw + h + l ∧ lw + h + l < lw + h + (l + 1) := by omega
    rw [if_pos rfl, if_neg a1, if_pos a2, show lw + h + l - (lw + h) = l by omega]
  · rw [if_neg h1]
    by_cases h2 : i = lw + l
    · subst h2
      have a1 : lw ≤ lw + l ∧ lw + l < lw + (l + 1) := by omega
      rw [if_pos rfl, if_pos a1, show lw + l - lw = l by omega]
    · rw [if_neg h2]
      have a1 : (lw ≤ i ∧ i < lw + (l + 1)) ↔ (lw ≤ i ∧ i < lw + l) := by omega
      have a2 : (lw + h ≤ i ∧ i < lw + h + (l + 1)) ↔ (lw + h ≤ i ∧ i < lw + h + l) := by omega
      by_cases b1 : lw ≤ i ∧ i < lw + l
      · rw [if_pos b1, if_pos (a1.mpr b1)]
      · rw [if_neg b1, if_neg (fun z => b1 (a1.mp z))]
        by_cases b2 : lw + h ≤ i ∧ i < lw + h + l
        · rw [if_pos b2, if_pos (a2.mpr b2)]
        · rw [if_neg b2, if_neg (fun z => b2 (a2.mp z))]
/-- turning leaves, level by level -/
def trf (tu : Nat → Nat → Nat) (pi : Nat → Nat) : Nat → (Nat → Nat → Nat)
  | 0 => tu
  | l + 1 => u1 (trf tu pi l) (pi l / 2) (!zB (trf tu pi l (pi l / 2) 0)).toNat
set_option maxHeartbeats 4000000 in
set_option maxRecDepth 100000 in
theorem c_X0_layOver {l : Launch} (hl : l.stackTraces = false) (Γ : fG) (B0 : Nat) (ad : Nat → Nat → Nat) (P : fR) (X : Nat × Nat → fO) (M : Nat → fO) (np ps po h : Nat) (h1 : 1 ≤ h) (hb1 : np * 2 * h + 2 * h ≤ 16) (hb2 : ps * h + h ≤ 16) (hb3 : po * h + h ≤ 16) (h8 : ∀ i, P 8 i 0 < 32) : f_Met l yX0_layOver cX0_layOver 8 none 1 0 0 21 Γ B0 [.ref (ad 0 0), .int (nI (np)), .int (nI (ps)), .int (nI (po)), .int (nI (h))] (wj (fw Γ ad P) X M) (f_to (wj (fw Γ ad (rs P 9 (lyf (P 9) (P 8) (np * 2 * h) (ps * h) (po * h) h h))) X M)) f_no := by
  refine f_of hl (by decide) rfl (Nat.le_of_ble_eq_true rfl) (fun X9 C E hh hnm => ?_)
  generalize (f_s X9).heap = H, ([] : List Loc) = locs at hh ⊢
  refine r_iload_n C dX0_layOver_0 rfl ?_
  refine r_iconst C (nI 2) dX0_layOver_1 rfl ?_
  refine r_imulN C dX0_layOver_2 ?_
  refine r_iload C dX0_layOver_3 rfl ?_
  refine r_imulN C dX0_layOver_5 ?_
  refine r_istore C dX0_layOver_6 rfl rfl ?_
  refine r_iconst C (nI 0) dX0_layOver_8 rfl ?_
  refine r_istore C dX0_layOver_9 rfl rfl ?_
  have lp11 : ∀ (d9 : Nat) (l : Nat) (H : Heap) (locs : List Loc), h - l < d9 → l ≤ h → f_HS Γ B0 (wj (fw Γ ad (rs P 9 (lyf (P 9) (P 8) (np * 2 * h) (ps * h) (po * h) h l))) X M) X9 H locs → f_W X9 H locs 0 0 11 [some (.ref (ad 0 0)), some (.int (nI (np))), some (.int (nI (ps))), some (.int (nI (po))), some (.int (nI (h))), some (.int (nI (np * 2 * h))), some (.int (nI (l))), none] [] := by
    intro d9
    induction d9 with
    | zero => intro l H locs hd9 hl hh; exact absurd hd9 (Nat.not_lt_zero _)
    | succ d9 ih11 =>
      intro l H locs hd9 hl hh
      refine r_iload C dX0_layOver_11 rfl ?_
      refine r_iload C dX0_layOver_13 rfl ?_
      refine r_icmp_geN (tgt := 93) C dX0_layOver_15 (by decide) (by omega) (by omega) (fun h15 => ?_) (fun h15 => ?_)
      · obtain rfl : l = h := by omega
        exact r_vret C E hh dX0_layOver_93 (by omega) (by omega) ⟨rfl, rfl⟩
      · have h9 := h8 (po * h + h - 1 - l)
        refine r_aload_n C dX0_layOver_18 rfl ?_
        refine g_X0_28 C hh dX0_layOver_19 ?_
        refine r_iload C dX0_layOver_22 rfl ?_
        refine r_iload C dX0_layOver_24 rfl ?_
        refine r_iaddN C dX0_layOver_26 ?_
        refine r_aload_n C dX0_layOver_27 rfl ?_
        refine g_X0_25 C hh dX0_layOver_28 ?_
        refine r_iload_n C dX0_layOver_31 rfl ?_
        refine r_iload C dX0_layOver_32 rfl ?_
        refine r_imulN C dX0_layOver_34 ?_
        refine r_iload C dX0_layOver_35 rfl ?_
        refine r_iaddN C dX0_layOver_37 ?_
        refine al_piled C hh (by omega) dX0_layOver_38 ?_
        refine as_folded C hh (by omega) dX0_layOver_39 (fun H locs hh => ?_)
        refine r_aload_n C dX0_layOver_40 rfl ?_
        refine g_X0_25 C hh dX0_layOver_41 ?_
        refine r_iload_n C dX0_layOver_44 rfl ?_
        refine r_iload C dX0_layOver_45 rfl ?_
        refine r_imulN C dX0_layOver_47 ?_
        refine r_iload C dX0_layOver_48 rfl ?_
        refine r_iaddN C dX0_layOver_50 ?_
        refine r_iconst C (nI 1) dX0_layOver_51 rfl ?_
        refine r_isubN C dX0_layOver_52 (by omega) ?_
        refine r_iload C dX0_layOver_53 rfl ?_
        refine r_isubN C dX0_layOver_55 (by omega) ?_
        refine al_piled C hh (by omega) dX0_layOver_56 ?_
        refine r_istore C dX0_layOver_57 rfl rfl ?_
        refine r_aload_n C dX0_layOver_59 rfl ?_
        refine g_X0_28 C hh dX0_layOver_60 ?_
        refine r_iload C dX0_layOver_63 rfl ?_
        refine r_iload C dX0_layOver_65 rfl ?_
        refine r_iaddN C dX0_layOver_67 ?_
        refine r_iload C dX0_layOver_68 rfl ?_
        refine r_iaddN C dX0_layOver_70 ?_
        refine r_iload C dX0_layOver_71 rfl ?_
        refine r_callSN C E hh (c_X4_leafUnder E.2.1 Γ B0 _ _ h9) lk_X0_78 rfl rfl (Nat.le_of_ble_eq_true rfl) dX0_layOver_73 ⟨by decide, by decide⟩ ⟨by omega, by omega⟩ (kk_is (fun H locs hs9 hh => ?_))
        refine r_iconst C (nI 1) dX0_layOver_76 rfl ?_
        refine r_iload C dX0_layOver_77 rfl ?_
        refine r_callSN C E hh (c_X4_sideOf E.2.1 Γ B0 _ _) lk_X0_82 rfl rfl (Nat.le_of_ble_eq_true rfl) dX0_layOver_79 ⟨by decide, by decide⟩ ⟨by omega, by omega⟩ (kk_is (fun H locs hs9 hh => ?_))
        refine r_isubN C dX0_layOver_82 (by omega) ?_
        refine r_callSN C E hh (c_X4_faceOf E.2.1 Γ B0 _ _ _) lk_X0_54 rfl rfl (Nat.le_of_ble_eq_true rfl) dX0_layOver_83 ⟨by decide, by decide⟩ ⟨by omega, by omega⟩ (kk_is (fun H locs hs9 hh => ?_))
        refine as_folded C hh (by omega) dX0_layOver_86 (fun H locs hh => ?_)
        rw [rs_same, rs_rs, rs_same, rs_rs] at hh
        have hh : f_HS Γ B0 (wj (fw Γ ad (rs P 9 (u1 (u1 (lyf (P 9) (P 8) (np * 2 * h) (ps * h) (po * h) h l) (np * 2 * h + l) (P 8 (ps * h + l) 0)) (np * 2 * h + h + l) (flp (P 8 (po * h + h - 1 - l) 0))))) X M) X9 H locs := hh
        rw [lyf_s (P 9) (P 8) h15] at hh
        refine r_iincN C dX0_layOver_87 rfl rfl ?_
        refine r_goto (tgt := 11) C dX0_layOver_90 (by decide) ?_
        refine f_W.le ?_ (ih11 (l + 1) _ _ (by omega) (by omega) hh)
        exact (And.intro rfl (And.intro rfl (And.intro rfl (And.intro rfl (And.intro rfl (And.intro rfl (And.intro rfl trivial)))))))
  rw [← lyf_0 P (np * 2 * h) (ps * h) (po * h) h] at hh
  refine f_W.le ?_ (lp11 (h + 1) 0 _ _ (by omega) (by omega) hh)
  exact (And.intro rfl (And.intro rfl (And.intro rfl (And.intro rfl (And.intro rfl (And.intro rfl (And.intro rfl trivial)))))))

set_option maxHeartbeats 4000000 in
set_option maxRecDepth 100000 in
theorem c_X0_turnLeaves {l : Launch} (hl : l.stackTraces = false) (Γ : fG) (B0 : Nat) (ad : Nat → Nat → Nat) (P : fR) (X : Nat × Nat → fO) (M : Nat → fO) (p h : Nat) (hb : p * h + h ≤ 16) (h8 : ∀ i, P 8 i 0 < 32) : f_Met l yX0_turnLeaves cX0_turnLeaves 5 none 1 0 0 20 Γ B0 [.ref (ad 0 0), .int (nI (p)), .int (nI (h))] (wj (fw Γ ad P) X M) (f_to (wj (fw Γ ad (rs P 5 (trf (P 5) (fun l => P 8 (p * h + l) 0) h))) X M)) f_no := by
  refine f_of hl (by decide) rfl (Nat.le_of_ble_eq_true rfl) (fun X9 C E hh hnm => ?_)
  generalize (f_s X9).heap = H, ([] : List Loc) = locs at hh ⊢
  refine r_iconst C (nI 0) dX0_turnLeaves_0 rfl ?_
  refine r_istore_n C dX0_turnLeaves_1 rfl rfl ?_
  have lp2 : ∀ (d9 : Nat) (l : Nat) (H : Heap) (locs : List Loc), h - l < d9 → l ≤ h → f_HS Γ B0 (wj (fw Γ ad (rs P 5 (trf (P 5) (fun l => P 8 (p * h + l) 0) l))) X M) X9 H locs → f_W X9 H locs 0 0 2 [some (.ref (ad 0 0)), some (.int (nI (p))), some (.int (nI (h))), some (.int (nI (l))), none] [] := by
    intro d9
    induction d9 with
    | zero => intro l H locs hd9 hl hh; exact absurd hd9 (Nat.not_lt_zero _)
    | succ d9 ih2 =>
      intro l H locs hd9 hl hh
      refine r_iload_n C dX0_turnLeaves_2 rfl ?_
      refine r_iload_n C dX0_turnLeaves_3 rfl ?_
      refine r_icmp_geN (tgt := 50) C dX0_turnLeaves_4 (by decide) (by omega) (by omega) (fun h4 => ?_) (fun h4 => ?_)
      · obtain rfl : l = h := by omega
        exact r_vret C E hh dX0_turnLeaves_50 (by omega) (by omega) ⟨rfl, rfl⟩
      · have h9 := h8 (p * h + l)
        refine r_aload_n C dX0_turnLeaves_7 rfl ?_
        refine g_X0_25 C hh dX0_turnLeaves_8 ?_
        refine r_iload_n C dX0_turnLeaves_11 rfl ?_
        refine r_iload_n C dX0_turnLeaves_12 rfl ?_
        refine r_imulN C dX0_turnLeaves_13 ?_
        refine r_iload_n C dX0_turnLeaves_14 rfl ?_
        refine r_iaddN C dX0_turnLeaves_15 ?_
        refine al_piled C hh (by omega) dX0_turnLeaves_16 ?_
        refine r_callSN C E hh (c_X4_leafUnder E.2.1 Γ B0 _ _ h9) lk_X0_78 rfl rfl (Nat.le_of_ble_eq_true rfl) dX0_turnLeaves_17 ⟨by decide, by decide⟩ ⟨by omega, by omega⟩ (kk_is (fun H locs hs9 hh => ?_))
        refine r_istore C dX0_turnLeaves_20 rfl rfl ?_
        refine r_aload_n C dX0_turnLeaves_22 rfl ?_
        refine g_X0_15 C hh dX0_turnLeaves_23 ?_
        refine r_iload C dX0_turnLeaves_26 rfl ?_
        refine r_aload_n C dX0_turnLeaves_28 rfl ?_
        refine g_X0_15 C hh dX0_turnLeaves_29 ?_
        refine r_iload C dX0_turnLeaves_32 rfl ?_
        refine al_turned C hh (by omega) dX0_turnLeaves_34 ?_
        refine r_if_neB (tgt := 42) C dX0_turnLeaves_35 (by decide) (fun h35 => ?_) (fun h35 => ?_)
        · have hv : (!zB (trf (P 5) (fun l => P 8 (p * h + l) 0) l (P 8 (p * h + l) 0 / 2) 0)) = false := by rw [show zB (trf (P 5) (fun l => P 8 (p * h + l) 0) l (P 8 (p * h + l) 0 / 2) 0) = true from h35]; rfl
          refine r_iconst C (bI (!zB (trf (P 5) (fun l => P 8 (p * h + l) 0) l (P 8 (p * h + l) 0 / 2) 0))) dX0_turnLeaves_42 (by rw [hv]; rfl) ?_
          refine as_turned C hh (by omega) dX0_turnLeaves_43 (fun H locs hh => ?_)
          rw [rs_same, rs_rs] at hh
          have hh : f_HS Γ B0 (wj (fw Γ ad (rs P 5 (trf (P 5) (fun l => P 8 (p * h + l) 0) (l + 1)))) X M) X9 H locs := hh
          refine r_iincN C dX0_turnLeaves_44 rfl rfl ?_
          refine r_goto (tgt := 2) C dX0_turnLeaves_47 (by decide) ?_
          refine f_W.le ?_ (ih2 (l + 1) _ _ (by omega) (by omega) hh)
          exact (And.intro rfl (And.intro rfl (And.intro rfl (And.intro rfl trivial))))
        · have hv : (!zB (trf (P 5) (fun l => P 8 (p * h + l) 0) l (P 8 (p * h + l) 0 / 2) 0)) = true := by rw [show zB (trf (P 5) (fun l => P 8 (p * h + l) 0) l (P 8 (p * h + l) 0 / 2) 0) = false from h35]; rfl
          refine r_iconst C (bI (!zB (trf (P 5) (fun l => P 8 (p * h + l) 0) l (P 8 (p * h + l) 0 / 2) 0))) dX0_turnLeaves_38 (by rw [hv]; rfl) ?_
          refine r_goto (tgt := 43) C dX0_turnLeaves_39 (by decide) ?_
          refine as_turned C hh (by omega) dX0_turnLeaves_43 (fun H locs hh => ?_)
          rw [rs_same, rs_rs] at hh
          have hh : f_HS Γ B0 (wj (fw Γ ad (rs P 5 (trf (P 5) (fun l => P 8 (p * h + l) 0) (l + 1)))) X M) X9 H locs := hh
          refine r_iincN C dX0_turnLeaves_44 rfl rfl ?_
          refine r_goto (tgt := 2) C dX0_turnLeaves_47 (by decide) ?_
          refine f_W.le ?_ (ih2 (l + 1) _ _ (by omega) (by omega) hh)
          exact (And.intro rfl (And.intro rfl (And.intro rfl (And.intro rfl trivial))))
  rw [show P = rs P 5 (trf (P 5) (fun l => P 8 (p * h + l) 0) 0) by funext c; by_cases hc : c = 5 <;> simp [rs, hc, trf]] at hh
  refine f_W.le ?_ (lp2 (h + 1) 0 _ _ (by omega) (by omega) hh)
  exact (And.intro rfl (And.intro rfl (And.intro rfl (And.intro rfl trivial))))

def fsp (a b : Nat) (u : Bool) : Nat := if u = true then (if a < b then a else 2 * b - 1 - a) else (if a < b then b - 1 - a else a - b)
set_option maxHeartbeats 4000000 in
set_option maxRecDepth 100000 in
theorem c_X0_foldedSpot {l : Launch} (hl : l.stackTraces = false) (Γ : fG) (B0 : Nat) (w : fV) (a b : Nat) (u : Bool) (ha : a < 2 * b) (hb : b ≤ 16) : f_Met l yX0_foldedSpot cX0_foldedSpot 3 (some .int) 0 0 0 0 Γ B0 [.int (nI (a)), .int (nI (b)), .int (bI u)] (w) (f_is (nI (fsp a b u)) w) f_no := by
  refine f_of hl (by decide) rfl (Nat.le_of_ble_eq_true rfl) (fun X9 C E hh hnm => ?_)
  generalize (f_s X9).heap = H, ([] : List Loc) = locs at hh ⊢
  refine r_iload_n C dX0_foldedSpot_0 rfl ?_
  refine r_if_eqB (tgt := 21) C dX0_foldedSpot_1 (by decide) (fun h1 => ?_) (fun h1 => ?_)
  · refine r_iload_n C dX0_foldedSpot_21 rfl ?_
    refine r_iload_n C dX0_foldedSpot_22 rfl ?_
    refine r_icmp_geN (tgt := 34) C dX0_foldedSpot_23 (by decide) (by omega) (by omega) (fun h23 => ?_) (fun h23 => ?_)
    · refine r_iload_n C dX0_foldedSpot_34 rfl ?_
      refine r_iload_n C dX0_foldedSpot_35 rfl ?_
      refine r_isubN C dX0_foldedSpot_36 (by omega) ?_
      exact r_iret C E hh dX0_foldedSpot_37 (by omega) (by omega) (ri (by unfold fsp; subst h1; simp only [if_true, if_false, Bool.false_eq_true]; split <;> omega))
    · refine r_iload_n C dX0_foldedSpot_26 rfl ?_
      refine r_iconst C (nI 1) dX0_foldedSpot_27 rfl ?_
      refine r_isubN C dX0_foldedSpot_28 (by omega) ?_
      refine r_iload_n C dX0_foldedSpot_29 rfl ?_
      refine r_isubN C dX0_foldedSpot_30 (by omega) ?_
      refine r_goto (tgt := 37) C dX0_foldedSpot_31 (by decide) ?_
      exact r_iret C E hh dX0_foldedSpot_37 (by omega) (by omega) (ri (by unfold fsp; subst h1; simp only [if_true, if_false, Bool.false_eq_true]; split <;> omega))
  · refine r_iload_n C dX0_foldedSpot_4 rfl ?_
    refine r_iload_n C dX0_foldedSpot_5 rfl ?_
    refine r_icmp_geN (tgt := 13) C dX0_foldedSpot_6 (by decide) (by omega) (by omega) (fun h6 => ?_) (fun h6 => ?_)
    · refine r_iconst C (nI 2) dX0_foldedSpot_13 rfl ?_
      refine r_iload_n C dX0_foldedSpot_14 rfl ?_
      refine r_imulN C dX0_foldedSpot_15 ?_
      refine r_iconst C (nI 1) dX0_foldedSpot_16 rfl ?_
      refine r_isubN C dX0_foldedSpot_17 (by omega) ?_
      refine r_iload_n C dX0_foldedSpot_18 rfl ?_
      refine r_isubN C dX0_foldedSpot_19 (by omega) ?_
      exact r_iret C E hh dX0_foldedSpot_20 (by omega) (by omega) (ri (by unfold fsp; subst h1; simp only [if_true, if_false, Bool.false_eq_true]; split <;> omega))
    · refine r_iload_n C dX0_foldedSpot_9 rfl ?_
      refine r_goto (tgt := 20) C dX0_foldedSpot_10 (by decide) ?_
      exact r_iret C E hh dX0_foldedSpot_20 (by omega) (by omega) (ri (by unfold fsp; subst h1; simp only [if_true, if_false, Bool.false_eq_true]; split <;> omega))

