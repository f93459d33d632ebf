/-! ===== the law's helpers ===== -/
def lw (v : Int32) (k : Nat) : Nat := v.toBitVec.toNat % 2147483648 % k
theorem lw_lt (v : Int32) {k : Nat} (hk : 0 < k) : lw v k < k := Nat.mod_lt _ hk
theorem lw_nn (v : Int32) : v &&& 2147483647 = nI (v.toBitVec.toNat % 2147483648) := by
  apply Int32.toBitVec_inj.mp
  apply BitVec.eq_of_toNat_eq
  show (v.toBitVec &&& 2147483647#32).toNat = (BitVec.ofNat 32 _).toNat
  rw [BitVec.toNat_and]
  show v.toBitVec.toNat &&& (2 ^ 31 - 1) = _
  rw [Nat.and_two_pow_sub_one_eq_mod, BitVec.toNat_ofNat]
  omega
theorem mw_2 (Γ : fG) (ad : Nat → Nat → Nat) (M : fR) {f g : Nat → Nat → Nat} (h : ∀ i, f i 0 = g i 0) : mw Γ ad (rs M 2 f) = mw Γ ad (rs M 2 g) := by
  funext t
  have e : (fun i => nI (f i 0)) = fun i => nI (g i 0) := by
    funext i; rw [h]
  match t with
  | 2 => exact congrArg (fun z => (some (ad 30 2, .inl (Γ.2 0, 24, .inl z)) : fO)) e
  | 0 => rfl
  | 1 => rfl
  | 3 => rfl
  | 4 => rfl
  | 5 => rfl
  | t + 6 => rfl
theorem LI_2 {M : fR} (h : LI M) {g : Nat → Nat → Nat} (hg : ∀ i, g i 0 < 256) : LI (rs M 2 g) := by
  obtain ⟨a1, a2, a3⟩ := h
  exact ⟨a1, hg, a3⟩
theorem pow6 {x : Nat} (h : x ≤ 6) : 1 ≤ 2 ^ x ∧ 2 ^ x ≤ 64 := ⟨Nat.one_le_two_pow, Nat.pow_le_pow_right (by decide) h⟩
theorem pow8' {x : Nat} (h : x ≤ 8) : 1 ≤ 2 ^ x ∧ 2 ^ x ≤ 256 := ⟨Nat.one_le_two_pow, Nat.pow_le_pow_right (by decide) h⟩
theorem dpQ_lt {M : fR} (h : ∀ i, M 2 i 0 < 256) (cd i f : Nat) : ∀ j, dpQ M cd i f j 0 < 256 := by
  intro j; unfold dpQ; split
  · decide
  · exact h j
theorem mayL_2 (M : fR) (g : Nat → Nat → Nat) (f : Nat) : mayL (rs M 2 g) f = mayL M f := rfl
theorem dpQ_0 (M : fR) (cd : Nat) : dpQ M cd 0 0 = M 2 := by
  funext i j
  unfold dpQ
  rw [if_neg]
  rintro (⟨h, -⟩ | ⟨-, h⟩)
  · omega
  · cases h
theorem dpQ_n (M : fR) (cd i : Nat) : dpQ M cd (i + 1) 0 = dpQ M cd i 8 := by
  funext i' j
  unfold dpQ
  by_cases h : (i' < i ∧ dpO M cd i' 8 = true) ∨ (i' = i ∧ dpO M cd i 8 = true)
  · rw [if_pos h, if_pos]
    rcases h with ⟨a, b⟩ | ⟨a, b⟩
    · exact Or.inl ⟨by omega, b⟩
    · exact Or.inl ⟨by omega, a ▸ b⟩
  · rw [if_neg h, if_neg]
    rintro (⟨a, b⟩ | ⟨-, b⟩)
    · by_cases z : i' = i
      · exact h (Or.inr ⟨z, z ▸ b⟩)
      · exact h (Or.inl ⟨by omega, b⟩)
    · cases b
theorem dpQ_s (M : fR) (cd i f : Nat) (b : Bool) (h : (decide (M 1 i 0 / 2 ^ f &&& 1 = 1) && (decide (cd / 2 ^ f &&& 1 = 1) && !mayL M f)) = b) (k : Nat) : u1 (dpQ M cd i f) i (if b = true then 0 else dpQ M cd i f i 0) k 0 = dpQ M cd i (f + 1) k 0 := by
  have e : dpO M cd i (f + 1) = (dpO M cd i f || b) := by rw [← h]; rfl
  unfold u1
  by_cases z : k = i
  · subst z
    rw [if_pos rfl]
    unfold dpQ
    rw [e]
    cases b with
    | true => rw [if_pos rfl, if_pos (Or.inr ⟨rfl, by rw [Bool.or_true]⟩)]
    | false => rw [if_neg (by decide), Bool.or_false]
  · rw [if_neg z]
    unfold dpQ
    rw [e]
    by_cases h2 : k < i ∧ dpO M cd k 8 = true
    · rw [if_pos (Or.inl h2), if_pos (Or.inl h2)]
    · rw [if_neg (by rintro (a | a); exact h2 a; exact z a.1), if_neg (by rintro (a | a); exact h2 a; exact z a.1)]
set_option maxHeartbeats 4000000 in
set_option maxRecDepth 100000 in
theorem c_L_low {l : Launch} (hl : l.stackTraces = false) (Γ : fG) (B0 : Nat) (w : fV) (v : Int32) (k : Nat) (hk : 0 < k) (hk2 : k < 2 ^ 31) : f_Met l yL_low cL_low 2 (some .int) 0 0 0 0 Γ B0 [.int v, .int (nI (k))] (w) (f_is (nI (lw v k)) w) f_no := by
  refine f_of hl (by decide) rfl (Nat.le_of_ble_eq_true rfl) (fun X9 C E hh hnm => ?_)
  generalize (f_s X9).heap = H, ([] : List Loc) = locs at hh ⊢
  have hv : v.toBitVec.toNat % 2147483648 < 2 ^ 31 := Nat.mod_lt _ (by decide)
  refine r_iload_n C dL_low_0 rfl ?_
  refine r_ldc C ct_L_9 dL_low_1 ?_
  refine r_iand C dL_low_3 ?_
  rw [show (v &&& 2147483647 : Int32) = nI (v.toBitVec.toNat % 2147483648) from lw_nn v]
  refine r_iload_n C dL_low_4 rfl ?_
  refine r_iremN C dL_low_5 (by omega) (by omega) (by omega) ?_
  exact r_iret C E hh dL_low_6 (by omega) (by omega) ⟨rfl, rfl⟩

set_option maxHeartbeats 4000000 in
set_option maxRecDepth 100000 in
theorem c_L_sheets {l : Launch} (hl : l.stackTraces = false) (Γ : fG) (B0 : Nat) (ad : Nat → Nat → Nat) (M : fR) (F : Nat → fO) (X : Nat × Nat → fO) (hL : LI M) : f_Met l yL_sheets cL_sheets 1 (some .int) 0 0 0 0 Γ B0 [.ref (ad 30 4)] (wj F X (mw Γ ad M)) (f_is (nI (shL M)) (wj F X (mw Γ ad M))) f_no := by
  refine f_of hl (by decide) rfl (Nat.le_of_ble_eq_true rfl) (fun X9 C E hh hnm => ?_)
  generalize (f_s X9).heap = H, ([] : List Loc) = locs at hh ⊢
  obtain ⟨l1, l2, l3, l40, l41, l42, ⟨l43, l43h⟩, l44, l45⟩ := id hL
  refine r_aload_n C dL_sheets_0 rfl ?_
  refine r_iconst C (nI 0) dL_sheets_1 rfl ?_
  refine al_m_g C hh (by omega) dL_sheets_2 ?_
  refine r_iconst C (nI 2) dL_sheets_3 rfl ?_
  refine r_aload_n C dL_sheets_4 rfl ?_
  refine r_iconst C (nI 3) dL_sheets_5 rfl ?_
  refine al_m_g C hh (by omega) dL_sheets_6 ?_
  refine r_imulN C dL_sheets_7 ?_
  refine r_iaddN C dL_sheets_8 ?_
  refine r_iconst C (nI 1) dL_sheets_9 rfl ?_
  refine r_isubN C dL_sheets_10 (by omega) ?_
  refine r_iconst C (nI 2) dL_sheets_11 rfl ?_
  refine r_aload_n C dL_sheets_12 rfl ?_
  refine r_iconst C (nI 3) dL_sheets_13 rfl ?_
  refine al_m_g C hh (by omega) dL_sheets_14 ?_
  refine r_imulN C dL_sheets_15 ?_
  refine r_idivN C dL_sheets_16 (by omega) (by omega) (by omega) ?_
  exact r_iret C E hh dL_sheets_17 (by omega) (by omega) ⟨rfl, rfl⟩

set_option maxHeartbeats 4000000 in
set_option maxRecDepth 100000 in
theorem c_L_may {l : Launch} (hl : l.stackTraces = false) (Γ : fG) (B0 : Nat) (ad : Nat → Nat → Nat) (M : fR) (F : Nat → fO) (X : Nat × Nat → fO) (f : Nat) (hf : f < 8) (hL : LI M) : f_Met l yL_may cL_may 3 (some .boolean) 0 0 0 0 Γ B0 [.ref (ad 30 3), .ref (ad 30 4), .int (nI (f))] (wj F X (mw Γ ad M)) (f_is (bI (mayL M f)) (wj F X (mw Γ ad M))) f_no := by
  refine f_of hl (by decide) rfl (Nat.le_of_ble_eq_true rfl) (fun X9 C E hh hnm => ?_)
  generalize (f_s X9).heap = H, ([] : List Loc) = locs at hh ⊢
  obtain ⟨l1, l2, l3, l40, l41, l42, ⟨l43, l43h⟩, l44, l45⟩ := id hL
  have g1 := l3 f
  have g2 := l3 (8 + f)
  refine r_aload_n C dL_may_0 rfl ?_
  refine r_iload_n C dL_may_1 rfl ?_
  refine al_m_r C hh (by omega) dL_may_2 ?_
  refine r_if_leN (tgt := 33) C dL_may_3 (by decide) (by omega) (fun h3 => ?_) (fun h3 => ?_)
  · refine r_iconst C (bI false) dL_may_33 rfl ?_
    exact r_zret C E hh dL_may_34 (by omega) (by omega) (ri2 (congrArg bI (by unfold mayL; first | (rw [decide_eq_false (show ¬ 0 < M 3 f 0 by omega)]; rfl) | (rw [decide_eq_false (show ¬ M 3 f 0 - 1 ≤ M 4 2 0 by omega), Bool.false_and, Bool.and_false]) | (rw [decide_eq_false (show ¬ M 4 2 0 ≤ M 3 (8 + f) 0 by omega), Bool.and_false, Bool.and_false]) | (rw [decide_eq_true (show 0 < M 3 f 0 by omega), decide_eq_true (show M 3 f 0 - 1 ≤ M 4 2 0 by omega), decide_eq_true (show M 4 2 0 ≤ M 3 (8 + f) 0 by omega)]; rfl))))
  · refine r_aload_n C dL_may_6 rfl ?_
    refine r_iload_n C dL_may_7 rfl ?_
    refine al_m_r C hh (by omega) dL_may_8 ?_
    refine r_iconst C (nI 1) dL_may_9 rfl ?_
    refine r_isubN C dL_may_10 (by omega) ?_
    refine r_aload_n C dL_may_11 rfl ?_
    refine r_iconst C (nI 2) dL_may_12 rfl ?_
    refine al_m_g C hh (by omega) dL_may_13 ?_
    refine r_icmp_gtN (tgt := 33) C dL_may_14 (by decide) (by omega) (by omega) (fun h14 => ?_) (fun h14 => ?_)
    · refine r_iconst C (bI false) dL_may_33 rfl ?_
      exact r_zret C E hh dL_may_34 (by omega) (by omega) (ri2 (congrArg bI (by unfold mayL; first | (rw [decide_eq_false (show ¬ 0 < M 3 f 0 by omega)]; rfl) | (rw [decide_eq_false (show ¬ M 3 f 0 - 1 ≤ M 4 2 0 by omega), Bool.false_and, Bool.and_false]) | (rw [decide_eq_false (show ¬ M 4 2 0 ≤ M 3 (8 + f) 0 by omega), Bool.and_false, Bool.and_false]) | (rw [decide_eq_true (show 0 < M 3 f 0 by omega), decide_eq_true (show M 3 f 0 - 1 ≤ M 4 2 0 by omega), decide_eq_true (show M 4 2 0 ≤ M 3 (8 + f) 0 by omega)]; rfl))))
    · refine r_aload_n C dL_may_17 rfl ?_
      refine r_bipush C (nI 8) dL_may_18 rfl ?_
      refine r_iload_n C dL_may_20 rfl ?_
      refine r_iaddN C dL_may_21 ?_
      refine al_m_r C hh (by omega) dL_may_22 ?_
      refine r_aload_n C dL_may_23 rfl ?_
      refine r_iconst C (nI 2) dL_may_24 rfl ?_
      refine al_m_g C hh (by omega) dL_may_25 ?_
      refine r_icmp_ltN (tgt := 33) C dL_may_26 (by decide) (by omega) (by omega) (fun h26 => ?_) (fun h26 => ?_)
      · refine r_iconst C (bI false) dL_may_33 rfl ?_
        exact r_zret C E hh dL_may_34 (by omega) (by omega) (ri2 (congrArg bI (by unfold mayL; first | (rw [decide_eq_false (show ¬ 0 < M 3 f 0 by omega)]; rfl) | (rw [decide_eq_false (show ¬ M 3 f 0 - 1 ≤ M 4 2 0 by omega), Bool.false_and, Bool.and_false]) | (rw [decide_eq_false (show ¬ M 4 2 0 ≤ M 3 (8 + f) 0 by omega), Bool.and_false, Bool.and_false]) | (rw [decide_eq_true (show 0 < M 3 f 0 by omega), decide_eq_true (show M 3 f 0 - 1 ≤ M 4 2 0 by omega), decide_eq_true (show M 4 2 0 ≤ M 3 (8 + f) 0 by omega)]; rfl))))
      · refine r_iconst C (bI true) dL_may_29 rfl ?_
        refine r_goto (tgt := 34) C dL_may_30 (by decide) ?_
        exact r_zret C E hh dL_may_34 (by omega) (by omega) (ri2 (congrArg bI (by unfold mayL; first | (rw [decide_eq_false (show ¬ 0 < M 3 f 0 by omega)]; rfl) | (rw [decide_eq_false (show ¬ M 3 f 0 - 1 ≤ M 4 2 0 by omega), Bool.false_and, Bool.and_false]) | (rw [decide_eq_false (show ¬ M 4 2 0 ≤ M 3 (8 + f) 0 by omega), Bool.and_false, Bool.and_false]) | (rw [decide_eq_true (show 0 < M 3 f 0 by omega), decide_eq_true (show M 3 f 0 - 1 ≤ M 4 2 0 by omega), decide_eq_true (show M 4 2 0 ≤ M 3 (8 + f) 0 by omega)]; rfl))))

set_option maxHeartbeats 4000000 in
set_option maxRecDepth 100000 in
theorem c_L_finished {l : Launch} (hl : l.stackTraces = false) (Γ : fG) (B0 : Nat) (ad : Nat → Nat → Nat) (M : fR) (F : Nat → fO) (X : Nat × Nat → fO) (pl : Nat) (hp : pl < 24) (hL : LI M) : f_Met l yL_finished cL_finished 7 (some .boolean) 1 0 0 22 Γ B0 [.ref (ad 30 1), .ref (ad 30 2), .ref (ad 30 3), .ref (ad 30 4), .int (nI (pl))] (wj F X (mw Γ ad M)) (f_is (bI (fnL M pl 4)) (wj F X (mw Γ ad M))) f_no := by
  refine f_of hl (by decide) rfl (Nat.le_of_ble_eq_true rfl) (fun X9 C E hh hnm => ?_)
  generalize (f_s X9).heap = H, ([] : List Loc) = locs at hh ⊢
  obtain ⟨l1, l2, l3, l40, l41, l42, ⟨l43, l43h⟩, l44, l45⟩ := id hL
  have g1 := l1 pl
  have g2 := l2 pl
  refine r_iconst C (bI true) dL_finished_0 rfl ?_
  refine r_istore C dL_finished_1 rfl rfl ?_
  refine r_iconst C (nI 0) dL_finished_3 rfl ?_
  refine r_istore C dL_finished_4 rfl rfl ?_
  have lp6 : ∀ (d9 : Nat) (k : Nat) (H : Heap) (locs : List Loc), 8 - k < d9 → k ≤ 8 → f_HS Γ B0 (wj F X (mw Γ ad M)) X9 H locs → f_W X9 H locs 0 0 6 [some (.ref (ad 30 1)), some (.ref (ad 30 2)), some (.ref (ad 30 3)), some (.ref (ad 30 4)), some (.int (nI (pl))), some (.int (bI (afL M pl k))), some (.int (nI (k)))] [] := by
    intro d9
    induction d9 with
    | zero => intro k H locs hd9 hl9 hh; exact absurd hd9 (Nat.not_lt_zero _)
    | succ d9 ih6 =>
      intro k H locs hd9 hl9 hh
      refine r_iload C dL_finished_6 rfl ?_
      refine r_bipush C (nI 8) dL_finished_8 rfl ?_
      refine r_icmp_geN (tgt := 53) C dL_finished_10 (by decide) (by omega) (by omega) (fun h10 => ?_) (fun h10 => ?_)
      · obtain rfl : k = 8 := by omega
        refine r_iconst C (nI 0) dL_finished_53 rfl ?_
        refine r_istore C dL_finished_54 rfl rfl ?_
        have lp56 : ∀ (d9 : Nat) (c : Nat) (H : Heap) (locs : List Loc), 4 - c < d9 → c ≤ 4 → f_HS Γ B0 (wj F X (mw Γ ad M)) X9 H locs → f_W X9 H locs 0 0 56 [some (.ref (ad 30 1)), some (.ref (ad 30 2)), some (.ref (ad 30 3)), some (.ref (ad 30 4)), some (.int (nI (pl))), some (.int (bI (fnL M pl c))), some (.int (nI (c)))] [] := by
          intro d9
          induction d9 with
          | zero => intro c H locs hd9 hl9 hh; exact absurd hd9 (Nat.not_lt_zero _)
          | succ d9 ih56 =>
            intro c H locs hd9 hl9 hh
            refine r_iload C dL_finished_56 rfl ?_
            refine r_iconst C (nI 4) dL_finished_58 rfl ?_
            refine r_icmp_geN (tgt := 110) C dL_finished_59 (by decide) (by omega) (by omega) (fun h59 => ?_) (fun h59 => ?_)
            · obtain rfl : c = 4 := by omega
              refine r_iload C dL_finished_110 rfl ?_
              exact r_zret C E hh dL_finished_112 (by omega) (by omega) ⟨rfl, rfl⟩
            · refine r_iload C dL_finished_62 rfl ?_
              have jn102 : ∀ (b : Bool), fnL M pl (c + 1) = b → f_W X9 H locs 0 0 102 [some (.ref (ad 30 1)), some (.ref (ad 30 2)), some (.ref (ad 30 3)), some (.ref (ad 30 4)), some (.int (nI (pl))), none, some (.int (nI (c)))] [.int (bI b)] := by
                intro b hS
                subst hS
                refine r_istore C dL_finished_102 rfl rfl ?_
                refine r_iincN C dL_finished_104 rfl rfl ?_
                refine r_goto (tgt := 56) C dL_finished_107 (by decide) ?_
                exact ih56 (c + 1) _ _ (by omega) (by omega) hh
              refine r_if_eqB (tgt := 101) C dL_finished_64 (by decide) (fun h64 => ?_) (fun h64 => ?_)
              · refine r_iconst C (bI false) dL_finished_101 rfl ?_
                refine f_W.le ?_ (jn102 _ (by show (fnL M pl c && (decide (M 1 pl 0 / 2 ^ (8 + c) &&& 1 = 0) || decide (M 2 pl 0 / 2 ^ (2 * c) &&& 3 = 2))) = _; first | (rw [h64]; rfl) | (rw [h64, decide_eq_true h79]; rfl) | (rw [h64, decide_eq_false h79, decide_eq_false h94]; rfl) | (rw [h64, decide_eq_false h79, decide_eq_true h94]; rfl)))
                exact (And.intro rfl (And.intro rfl (And.intro rfl (And.intro rfl (And.intro rfl (And.intro rfl trivial))))))
              · refine r_aload_n C dL_finished_67 rfl ?_
                refine r_iload C dL_finished_68 rfl ?_
                refine al_m_p C hh (by omega) dL_finished_70 ?_
                refine r_bipush C (nI 8) dL_finished_71 rfl ?_
                refine r_iload C dL_finished_73 rfl ?_
                refine r_iaddN C dL_finished_75 ?_
                refine r_ishrN C dL_finished_76 (by omega) (by omega) ?_
                refine r_iconst C (nI 1) dL_finished_77 rfl ?_
                refine r_iandN C dL_finished_78 ?_
                refine r_if_eqN (tgt := 97) C dL_finished_79 (by decide) (Nat.lt_of_le_of_lt Nat.and_le_right (by decide)) (fun h79 => ?_) (fun h79 => ?_)
                · refine r_iconst C (bI true) dL_finished_97 rfl ?_
                  refine r_goto (tgt := 102) C dL_finished_98 (by decide) ?_
                  refine f_W.le ?_ (jn102 _ (by show (fnL M pl c && (decide (M 1 pl 0 / 2 ^ (8 + c) &&& 1 = 0) || decide (M 2 pl 0 / 2 ^ (2 * c) &&& 3 = 2))) = _; first | (rw [h64]; rfl) | (rw [h64, decide_eq_true h79]; rfl) | (rw [h64, decide_eq_false h79, decide_eq_false h94]; rfl) | (rw [h64, decide_eq_false h79, decide_eq_true h94]; rfl)))
                  exact (And.intro rfl (And.intro rfl (And.intro rfl (And.intro rfl (And.intro rfl (And.intro rfl trivial))))))
                · refine r_aload_n C dL_finished_82 rfl ?_
                  refine r_iload C dL_finished_83 rfl ?_
                  refine al_m_q C hh (by omega) dL_finished_85 ?_
                  refine r_iconst C (nI 2) dL_finished_86 rfl ?_
                  refine r_iload C dL_finished_87 rfl ?_
                  refine r_imulN C dL_finished_89 ?_
                  refine r_ishrN C dL_finished_90 (by omega) (by omega) ?_
                  refine r_iconst C (nI 3) dL_finished_91 rfl ?_
                  refine r_iandN C dL_finished_92 ?_
                  refine r_iconst C (nI 2) dL_finished_93 rfl ?_
                  refine r_icmp_neN (tgt := 101) C dL_finished_94 (by decide) (Nat.lt_of_le_of_lt Nat.and_le_right (by decide)) (by omega) (fun h94 => ?_) (fun h94 => ?_)
                  · refine r_iconst C (bI false) dL_finished_101 rfl ?_
                    refine f_W.le ?_ (jn102 _ (by show (fnL M pl c && (decide (M 1 pl 0 / 2 ^ (8 + c) &&& 1 = 0) || decide (M 2 pl 0 / 2 ^ (2 * c) &&& 3 = 2))) = _; first | (rw [h64]; rfl) | (rw [h64, decide_eq_true h79]; rfl) | (rw [h64, decide_eq_false h79, decide_eq_false h94]; rfl) | (rw [h64, decide_eq_false h79, decide_eq_true h94]; rfl)))
                    exact (And.intro rfl (And.intro rfl (And.intro rfl (And.intro rfl (And.intro rfl (And.intro rfl trivial))))))
                  · refine r_iconst C (bI true) dL_finished_97 rfl ?_
                    refine r_goto (tgt := 102) C dL_finished_98 (by decide) ?_
                    refine f_W.le ?_ (jn102 _ (by show (fnL M pl c && (decide (M 1 pl 0 / 2 ^ (8 + c) &&& 1 = 0) || decide (M 2 pl 0 / 2 ^ (2 * c) &&& 3 = 2))) = _; first | (rw [h64]; rfl) | (rw [h64, decide_eq_true h79]; rfl) | (rw [h64, decide_eq_false h79, decide_eq_false h94]; rfl) | (rw [h64, decide_eq_false h79, decide_eq_true h94]; rfl)))
                    exact (And.intro rfl (And.intro rfl (And.intro rfl (And.intro rfl (And.intro rfl (And.intro rfl trivial))))))
        exact lp56 5 0 _ _ (by omega) (by omega) hh
      · refine r_iload C dL_finished_13 rfl ?_
        have jn45 : ∀ (b : Bool), afL M pl (k + 1) = b → ∀ (H : Heap) (locs : List Loc), f_HS Γ B0 (wj F X (mw Γ ad M)) X9 H locs → f_W X9 H locs 0 0 45 [some (.ref (ad 30 1)), some (.ref (ad 30 2)), some (.ref (ad 30 3)), some (.ref (ad 30 4)), some (.int (nI (pl))), none, some (.int (nI (k)))] [.int (bI b)] := by
          intro b hS H locs hh
          subst hS
          refine r_istore C dL_finished_45 rfl rfl ?_
          refine r_iincN C dL_finished_47 rfl rfl ?_
          refine r_goto (tgt := 6) C dL_finished_50 (by decide) ?_
          exact ih6 (k + 1) _ _ (by omega) (by omega) hh
        refine r_if_eqB (tgt := 44) C dL_finished_15 (by decide) (fun h15 => ?_) (fun h15 => ?_)
        · refine r_iconst C (bI false) dL_finished_44 rfl ?_
          refine f_W.le ?_ (jn45 _ (by show (afL M pl k && (decide (M 1 pl 0 / 2 ^ k &&& 1 = 0) || mayL M k)) = _; first | (rw [h15]; rfl) | (rw [h15, decide_eq_true h27]; rfl) | (rw [h15, h37, decide_eq_false h27]; rfl)) _ _ hh)
          exact (And.intro rfl (And.intro rfl (And.intro rfl (And.intro rfl (And.intro rfl (And.intro rfl trivial))))))
        · refine r_aload_n C dL_finished_18 rfl ?_
          refine r_iload C dL_finished_19 rfl ?_
          refine al_m_p C hh (by omega) dL_finished_21 ?_
          refine r_iload C dL_finished_22 rfl ?_
          refine r_ishrN C dL_finished_24 (by omega) (by omega) ?_
          refine r_iconst C (nI 1) dL_finished_25 rfl ?_
          refine r_iandN C dL_finished_26 ?_
          refine r_if_eqN (tgt := 40) C dL_finished_27 (by decide) (Nat.lt_of_le_of_lt Nat.and_le_right (by decide)) (fun h27 => ?_) (fun h27 => ?_)
          · refine r_iconst C (bI true) dL_finished_40 rfl ?_
            refine r_goto (tgt := 45) C dL_finished_41 (by decide) ?_
            refine f_W.le ?_ (jn45 _ (by show (afL M pl k && (decide (M 1 pl 0 / 2 ^ k &&& 1 = 0) || mayL M k)) = _; first | (rw [h15]; rfl) | (rw [h15, decide_eq_true h27]; rfl) | (rw [h15, h37, decide_eq_false h27]; rfl)) _ _ hh)
            exact (And.intro rfl (And.intro rfl (And.intro rfl (And.intro rfl (And.intro rfl (And.intro rfl trivial))))))
          · refine r_aload_n C dL_finished_30 rfl ?_
            refine r_aload_n C dL_finished_31 rfl ?_
            refine r_iload C dL_finished_32 rfl ?_
            refine r_callS C E hh (c_L_may E.2.1 Γ B0 ad M F X k (by omega) hL) lk_L_94 rfl rfl (Nat.le_of_ble_eq_true rfl) dL_finished_34 ⟨by decide, by decide⟩ ⟨by omega, by omega⟩ (fun _ _ z9 => False.elim z9) (kk_is (fun H locs hs9 hh => ?_))
            refine r_if_eqB (tgt := 44) C dL_finished_37 (by decide) (fun h37 => ?_) (fun h37 => ?_)
            · refine r_iconst C (bI false) dL_finished_44 rfl ?_
              refine f_W.le ?_ (jn45 _ (by show (afL M pl k && (decide (M 1 pl 0 / 2 ^ k &&& 1 = 0) || mayL M k)) = _; first | (rw [h15]; rfl) | (rw [h15, decide_eq_true h27]; rfl) | (rw [h15, h37, decide_eq_false h27]; rfl)) _ _ hh)
              exact (And.intro rfl (And.intro rfl (And.intro rfl (And.intro rfl (And.intro rfl (And.intro rfl trivial))))))
            · refine r_iconst C (bI true) dL_finished_40 rfl ?_
              refine r_goto (tgt := 45) C dL_finished_41 (by decide) ?_
              refine f_W.le ?_ (jn45 _ (by show (afL M pl k && (decide (M 1 pl 0 / 2 ^ k &&& 1 = 0) || mayL M k)) = _; first | (rw [h15]; rfl) | (rw [h15, decide_eq_true h27]; rfl) | (rw [h15, h37, decide_eq_false h27]; rfl)) _ _ hh)
              exact (And.intro rfl (And.intro rfl (And.intro rfl (And.intro rfl (And.intro rfl (And.intro rfl trivial))))))
  exact lp6 9 0 _ _ (by omega) (by omega) hh

set_option maxHeartbeats 4000000 in
set_option maxRecDepth 100000 in
theorem c_L_ready {l : Launch} (hl : l.stackTraces = false) (Γ : fG) (B0 : Nat) (ad : Nat → Nat → Nat) (M : fR) (F : Nat → fO) (X : Nat × Nat → fO) (hL : LI M) : f_Met l yL_ready cL_ready 6 (some .int) 2 0 0 48 Γ B0 [.ref (ad 30 1), .ref (ad 30 2), .ref (ad 30 3), .ref (ad 30 4)] (wj F X (mw Γ ad M)) (f_is (nI (rdL M (M 4 0 0))) (wj F X (mw Γ ad M))) f_no := by
  refine f_of hl (by decide) rfl (Nat.le_of_ble_eq_true rfl) (fun X9 C E hh hnm => ?_)
  generalize (f_s X9).heap = H, ([] : List Loc) = locs at hh ⊢
  obtain ⟨l1, l2, l3, l40, l41, l42, ⟨l43, l43h⟩, l44, l45⟩ := id hL
  have h6 := shL_6 hL
  have hp6 := pow6 h6
  refine r_iconst C (nI 1) dL_ready_0 rfl ?_
  refine r_aload_n C dL_ready_1 rfl ?_
  refine r_callS C E hh (c_L_sheets E.2.1 Γ B0 ad M F X hL) lk_L_100 rfl rfl (Nat.le_of_ble_eq_true rfl) dL_ready_2 ⟨by decide, by decide⟩ ⟨by omega, by omega⟩ (fun _ _ z9 => False.elim z9) (kk_is (fun H locs hs9 hh => ?_))
  refine r_ishlN C dL_ready_5 (by omega) (by omega) ?_
  rw [Nat.one_mul]
  refine r_iconst C (nI 1) dL_ready_6 rfl ?_
  refine r_isubN C dL_ready_7 (by omega) ?_
  refine r_istore C dL_ready_8 rfl rfl ?_
  refine r_iconst C (nI 0) dL_ready_10 rfl ?_
  refine r_istore C dL_ready_11 rfl rfl ?_
  have lp13 : ∀ (d9 : Nat) (k : Nat) (H : Heap) (locs : List Loc), M 4 0 0 - k < d9 → k ≤ M 4 0 0 → f_HS Γ B0 (wj F X (mw Γ ad M)) X9 H locs → f_W X9 H locs 0 0 13 [some (.ref (ad 30 1)), some (.ref (ad 30 2)), some (.ref (ad 30 3)), some (.ref (ad 30 4)), some (.int (nI (rdL M k))), some (.int (nI (k)))] [] := by
    intro d9
    induction d9 with
    | zero => intro k H locs hd9 hl9 hh; exact absurd hd9 (Nat.not_lt_zero _)
    | succ d9 ih13 =>
      intro k H locs hd9 hl9 hh
      have hkw : k / (2 * M 4 3 0) ≤ 6 := by
        rw [Nat.div_le_iff_le_mul (by omega)]; omega
      have hp7 := pow6 hkw
      refine r_iload C dL_ready_13 rfl ?_
      refine r_aload_n C dL_ready_15 rfl ?_
      refine r_iconst C (nI 0) dL_ready_16 rfl ?_
      refine al_m_g C hh (by omega) dL_ready_17 ?_
      refine r_icmp_geN (tgt := 60) C dL_ready_18 (by decide) (by omega) (by omega) (fun h18 => ?_) (fun h18 => ?_)
      · obtain rfl : k = M 4 0 0 := by omega
        refine r_iload C dL_ready_60 rfl ?_
        exact r_iret C E hh dL_ready_62 (by omega) (by omega) ⟨rfl, rfl⟩
      · refine r_iload C dL_ready_21 rfl ?_
        refine r_aload_n C dL_ready_23 rfl ?_
        refine r_aload_n C dL_ready_24 rfl ?_
        refine r_aload_n C dL_ready_25 rfl ?_
        refine r_aload_n C dL_ready_26 rfl ?_
        refine r_iload C dL_ready_27 rfl ?_
        refine r_callS C E hh (c_L_finished E.2.1 Γ B0 ad M F X k (by omega) hL) lk_L_104 rfl rfl (Nat.le_of_ble_eq_true rfl) dL_ready_29 ⟨by decide, by decide⟩ ⟨by omega, by omega⟩ (fun _ _ z9 => False.elim z9) (kk_is (fun H locs hs9 hh => ?_))
        have jn51 : ∀ (v : Nat), (if fnL M k 4 = true then 4294967295 else 2 ^ (k / (2 * M 4 3 0)) ^^^ 4294967295) = v → f_W X9 H locs 0 0 51 [some (.ref (ad 30 1)), some (.ref (ad 30 2)), some (.ref (ad 30 3)), some (.ref (ad 30 4)), none, some (.int (nI (k)))] [.int (nI v), .int (nI (rdL M k))] := by
          intro v hS
          subst hS
          refine r_iandN C dL_ready_51 ?_
          refine r_istore C dL_ready_52 rfl rfl ?_
          refine r_iincN C dL_ready_54 rfl rfl ?_
          refine r_goto (tgt := 13) C dL_ready_57 (by decide) ?_
          exact ih13 (k + 1) _ _ (by omega) (by omega) hh
        refine r_if_eqB (tgt := 39) C dL_ready_32 (by decide) (fun h32 => ?_) (fun h32 => ?_)
        · refine r_iconst C (nI 1) dL_ready_39 rfl ?_
          refine r_iload C dL_ready_40 rfl ?_
          refine r_iconst C (nI 2) dL_ready_42 rfl ?_
          refine r_aload_n C dL_ready_43 rfl ?_
          refine r_iconst C (nI 3) dL_ready_44 rfl ?_
          refine al_m_g C hh (by omega) dL_ready_45 ?_
          refine r_imulN C dL_ready_46 ?_
          refine r_idivN C dL_ready_47 (by omega) (by omega) (by omega) ?_
          refine r_ishlN C dL_ready_48 (by omega) (by omega) ?_
          rw [Nat.one_mul]
          refine r_iconst C (nI 4294967295) dL_ready_49 rfl ?_
          refine r_ixorN C dL_ready_50 ?_
          refine f_W.le ?_ (jn51 _ (by first | rw [if_pos h32] | rw [if_neg (by rw [h32]; decide)]))
          exact (And.intro rfl (And.intro rfl (And.intro rfl (And.intro rfl (And.intro rfl trivial)))))
        · refine r_iconst C (nI 4294967295) dL_ready_35 rfl ?_
          refine r_goto (tgt := 51) C dL_ready_36 (by decide) ?_
          refine f_W.le ?_ (jn51 _ (by first | rw [if_pos h32] | rw [if_neg (by rw [h32]; decide)]))
          exact (And.intro rfl (And.intro rfl (And.intro rfl (And.intro rfl (And.intro rfl trivial)))))
  exact lp13 (M 4 0 0 + 1) 0 _ _ (by omega) (by omega) hh

set_option maxHeartbeats 4000000 in
set_option maxRecDepth 100000 in
theorem c_L_count {l : Launch} (hl : l.stackTraces = false) (Γ : fG) (B0 : Nat) (w : fV) (s : Nat) (hs : s < 64) : f_Met l yL_count cL_count 3 (some .int) 0 0 0 0 Γ B0 [.int (nI (s))] (w) (f_is (nI (cntS s 16)) w) f_no := by
  refine f_of hl (by decide) rfl (Nat.le_of_ble_eq_true rfl) (fun X9 C E hh hnm => ?_)
  generalize (f_s X9).heap = H, ([] : List Loc) = locs at hh ⊢
  refine r_iconst C (nI 0) dL_count_0 rfl ?_
  refine r_istore_n C dL_count_1 rfl rfl ?_
  refine r_iconst C (nI 0) dL_count_2 rfl ?_
  refine r_istore_n C dL_count_3 rfl rfl ?_
  have lp4 : ∀ (d9 : Nat) (k : Nat) (H : Heap) (locs : List Loc), 16 - k < d9 → k ≤ 16 → f_HS Γ B0 (w) X9 H locs → f_W X9 H locs 0 0 4 [some (.int (nI (s))), some (.int (nI (cntS s k))), some (.int (nI (k)))] [] := by
    intro d9
    induction d9 with
    | zero => intro k H locs hd9 hl9 hh; exact absurd hd9 (Nat.not_lt_zero _)
    | succ d9 ih4 =>
      intro k H locs hd9 hl9 hh
      refine r_iload_n C dL_count_4 rfl ?_
      refine r_bipush C (nI 16) dL_count_5 rfl ?_
      refine r_icmp_geN (tgt := 24) C dL_count_7 (by decide) (by omega) (by omega) (fun h7 => ?_) (fun h7 => ?_)
      · obtain rfl : k = 16 := by omega
        refine r_iload_n C dL_count_24 rfl ?_
        exact r_iret C E hh dL_count_25 (by omega) (by omega) ⟨rfl, rfl⟩
      · refine r_iload_n C dL_count_10 rfl ?_
        refine r_iload_n C dL_count_11 rfl ?_
        refine r_iload_n C dL_count_12 rfl ?_
        refine r_ishrN C dL_count_13 (by omega) (by omega) ?_
        refine r_iconst C (nI 1) dL_count_14 rfl ?_
        refine r_iandN C dL_count_15 ?_
        refine r_iaddN C dL_count_16 ?_
        refine r_istore_n C dL_count_17 rfl rfl ?_
        refine r_iincN C dL_count_18 rfl rfl ?_
        refine r_goto (tgt := 4) C dL_count_21 (by decide) ?_
        exact ih4 (k + 1) _ _ (by omega) (by omega) hh
  exact lp4 17 0 _ _ (by omega) (by omega) hh

set_option maxHeartbeats 4000000 in
set_option maxRecDepth 100000 in
theorem c_L_could {l : Launch} (hl : l.stackTraces = false) (Γ : fG) (B0 : Nat) (ad : Nat → Nat → Nat) (M : fR) (F : Nat → fO) (X : Nat × Nat → fO) (hL : LI M) : f_Met l yL_could cL_could 4 (some .int) 1 0 0 22 Γ B0 [.ref (ad 30 3), .ref (ad 30 4)] (wj F X (mw Γ ad M)) (f_is (nI (cdL M 8)) (wj F X (mw Γ ad M))) f_no := by
  refine f_of hl (by decide) rfl (Nat.le_of_ble_eq_true rfl) (fun X9 C E hh hnm => ?_)
  generalize (f_s X9).heap = H, ([] : List Loc) = locs at hh ⊢
  refine r_iconst C (nI 0) dL_could_0 rfl ?_
  refine r_istore_n C dL_could_1 rfl rfl ?_
  refine r_iconst C (nI 0) dL_could_2 rfl ?_
  refine r_istore_n C dL_could_3 rfl rfl ?_
  have lp4 : ∀ (d9 : Nat) (k : Nat) (H : Heap) (locs : List Loc), 8 - k < d9 → k ≤ 8 → f_HS Γ B0 (wj F X (mw Γ ad M)) X9 H locs → f_W X9 H locs 0 0 4 [some (.ref (ad 30 3)), some (.ref (ad 30 4)), some (.int (nI (cdL M k))), some (.int (nI (k)))] [] := by
    intro d9
    induction d9 with
    | zero => intro k H locs hd9 hl9 hh; exact absurd hd9 (Nat.not_lt_zero _)
    | succ d9 ih4 =>
      intro k H locs hd9 hl9 hh
      refine r_iload_n C dL_could_4 rfl ?_
      refine r_bipush C (nI 8) dL_could_5 rfl ?_
      refine r_icmp_geN (tgt := 35) C dL_could_7 (by decide) (by omega) (by omega) (fun h7 => ?_) (fun h7 => ?_)
      · obtain rfl : k = 8 := by omega
        refine r_iload_n C dL_could_35 rfl ?_
        exact r_iret C E hh dL_could_36 (by omega) (by omega) ⟨rfl, rfl⟩
      · refine r_iload_n C dL_could_10 rfl ?_
        refine r_aload_n C dL_could_11 rfl ?_
        refine r_aload_n C dL_could_12 rfl ?_
        refine r_iload_n C dL_could_13 rfl ?_
        refine r_callS C E hh (c_L_may E.2.1 Γ B0 ad M F X k (by omega) hL) lk_L_94 rfl rfl (Nat.le_of_ble_eq_true rfl) dL_could_14 ⟨by decide, by decide⟩ ⟨by omega, by omega⟩ (fun _ _ z9 => False.elim z9) (kk_is (fun H locs hs9 hh => ?_))
        have jn27 : ∀ (v : Nat), (if mayL M k = true then 2 ^ k else 0) = v → f_W X9 H locs 0 0 27 [some (.ref (ad 30 3)), some (.ref (ad 30 4)), none, some (.int (nI (k)))] [.int (nI v), .int (nI (cdL M k))] := by
          intro v hS
          subst hS
          refine r_iorN C dL_could_27 ?_
          refine r_istore_n C dL_could_28 rfl rfl ?_
          refine r_iincN C dL_could_29 rfl rfl ?_
          refine r_goto (tgt := 4) C dL_could_32 (by decide) ?_
          exact ih4 (k + 1) _ _ (by omega) (by omega) hh
        refine r_if_eqB (tgt := 26) C dL_could_17 (by decide) (fun h17 => ?_) (fun h17 => ?_)
        · refine r_iconst C (nI 0) dL_could_26 rfl ?_
          refine f_W.le ?_ (jn27 _ (by first | rw [if_pos h17] | rw [if_neg (by rw [h17]; decide)]))
          exact (And.intro rfl (And.intro rfl (And.intro rfl trivial)))
        · refine r_iconst C (nI 1) dL_could_20 rfl ?_
          refine r_iload_n C dL_could_21 rfl ?_
          refine r_ishlN C dL_could_22 (by omega) (by have := pow8' (x := k) (by omega); omega) ?_
          rw [Nat.one_mul]
          refine r_goto (tgt := 27) C dL_could_23 (by decide) ?_
          refine f_W.le ?_ (jn27 _ (by first | rw [if_pos h17] | rw [if_neg (by rw [h17]; decide)]))
          exact (And.intro rfl (And.intro rfl (And.intro rfl trivial)))
  exact lp4 9 0 _ _ (by omega) (by omega) hh

set_option maxHeartbeats 4000000 in
set_option maxRecDepth 100000 in
theorem c_L_drops {l : Launch} (hl : l.stackTraces = false) (Γ : fG) (B0 : Nat) (ad : Nat → Nat → Nat) (M : fR) (F : Nat → fO) (X : Nat × Nat → fO) (cd : Nat) (hcd : cd < 256) (hL : LI M) : f_Met l yL_drops cL_drops 7 none 1 0 0 22 Γ B0 [.ref (ad 30 1), .ref (ad 30 2), .ref (ad 30 3), .ref (ad 30 4), .int (nI (cd))] (wj F X (mw Γ ad M)) (f_to (wj F X (mw Γ ad (dpW M cd (M 4 0 0))))) f_no := by
  refine f_of hl (by decide) rfl (Nat.le_of_ble_eq_true rfl) (fun X9 C E hh hnm => ?_)
  generalize (f_s X9).heap = H, ([] : List Loc) = locs at hh ⊢
  obtain ⟨l1, l2, l3, l40, l41, l42, ⟨l43, l43h⟩, l44, l45⟩ := id hL
  refine r_iconst C (nI 0) dL_drops_0 rfl ?_
  refine r_istore C dL_drops_1 rfl rfl ?_
  have lp3 : ∀ (d9 : Nat) (i : Nat) (H : Heap) (locs : List Loc), M 4 0 0 - i < d9 → i ≤ M 4 0 0 → f_HS Γ B0 (wj F X (mw Γ ad (rs M 2 (dpQ M cd i 0)))) X9 H locs → f_W X9 H locs 0 0 3 [some (.ref (ad 30 1)), some (.ref (ad 30 2)), some (.ref (ad 30 3)), some (.ref (ad 30 4)), some (.int (nI (cd))), some (.int (nI (i))), none] [] := by
    intro d9
    induction d9 with
    | zero => intro i H locs hd9 hl9 hh; exact absurd hd9 (Nat.not_lt_zero _)
    | succ d9 ih3 =>
      intro i H locs hd9 hl9 hh
      have g1 := l1 i
      refine r_iload C dL_drops_3 rfl ?_
      refine r_aload_n C dL_drops_5 rfl ?_
      refine r_iconst C (nI 0) dL_drops_6 rfl ?_
      refine al_m_g C hh (by omega) dL_drops_7 ?_
      rw [rs_ne M _ (show 4 ≠ 2 by decide)]
      refine r_icmp_geN (tgt := 79) C dL_drops_8 (by decide) (by omega) (by omega) (fun h8 => ?_) (fun h8 => ?_)
      · obtain rfl : i = M 4 0 0 := by omega
        exact r_vret C E hh dL_drops_79 (by omega) (by omega) ⟨rfl, rfl⟩
      · refine r_iconst C (nI 0) dL_drops_11 rfl ?_
        refine r_istore C dL_drops_12 rfl rfl ?_
        have lp14 : ∀ (d9 : Nat) (f : Nat) (H : Heap) (locs : List Loc), 8 - f < d9 → f ≤ 8 → f_HS Γ B0 (wj F X (mw Γ ad (rs M 2 (dpQ M cd i f)))) X9 H locs → f_W X9 H locs 0 0 14 [some (.ref (ad 30 1)), some (.ref (ad 30 2)), some (.ref (ad 30 3)), some (.ref (ad 30 4)), some (.int (nI (cd))), some (.int (nI (i))), some (.int (nI (f)))] [] := by
          intro d9
          induction d9 with
          | zero => intro f H locs hd9 hf9 hh; exact absurd hd9 (Nat.not_lt_zero _)
          | succ d9 ih14 =>
            intro f H locs hd9 hf9 hh
            refine r_iload C dL_drops_14 rfl ?_
            refine r_bipush C (nI 8) dL_drops_16 rfl ?_
            refine r_icmp_geN (tgt := 73) C dL_drops_18 (by decide) (by omega) (by omega) (fun h18 => ?_) (fun h18 => ?_)
            · obtain rfl : f = 8 := by omega
              refine r_iincN C dL_drops_73 rfl rfl ?_
              refine r_goto (tgt := 3) C dL_drops_76 (by decide) ?_
              rw [← dpQ_n] at hh
              refine f_W.le ?_ (ih3 (i + 1) _ _ (by omega) (by omega) hh)
              exact (And.intro rfl (And.intro rfl (And.intro rfl (And.intro rfl (And.intro rfl (And.intro rfl trivial))))))
            · refine r_aload_n C dL_drops_21 rfl ?_
              refine r_iload C dL_drops_22 rfl ?_
              refine r_aload_n C dL_drops_24 rfl ?_
              refine r_iload C dL_drops_25 rfl ?_
              refine al_m_p C hh (by omega) dL_drops_27 ?_
              rw [rs_ne M _ (show 1 ≠ 2 by decide)]
              refine r_iload C dL_drops_28 rfl ?_
              refine r_ishrN C dL_drops_30 (by omega) (by omega) ?_
              refine r_iconst C (nI 1) dL_drops_31 rfl ?_
              refine r_iandN C dL_drops_32 ?_
              refine r_iconst C (nI 1) dL_drops_33 rfl ?_
              have jn66 : ∀ (b : Bool), (decide (M 1 i 0 / 2 ^ f &&& 1 = 1) && (decide (cd / 2 ^ f &&& 1 = 1) && !mayL M f)) = b → ∀ (H : Heap) (locs : List Loc), f_HS Γ B0 (wj F X (mw Γ ad (rs M 2 (dpQ M cd i f)))) X9 H locs → f_W X9 H locs 0 0 66 [some (.ref (ad 30 1)), some (.ref (ad 30 2)), some (.ref (ad 30 3)), some (.ref (ad 30 4)), some (.int (nI (cd))), some (.int (nI (i))), some (.int (nI (f)))] [.int (nI (if b = true then 0 else dpQ M cd i f i 0)), .int (nI i), .ref (ad 30 2)] := by
                intro b hS H locs hh
                refine as_m_q C hh (by omega) dL_drops_66 (fun H locs hh => ?_)
                rw [rs_same, rs_rs, mw_2 Γ ad M (dpQ_s M cd i f b hS)] at hh
                refine r_iincN C dL_drops_67 rfl rfl ?_
                refine r_goto (tgt := 14) C dL_drops_70 (by decide) ?_
                exact ih14 (f + 1) _ _ (by omega) (by omega) hh
              refine r_icmp_neN (tgt := 62) C dL_drops_34 (by decide) (Nat.lt_of_le_of_lt Nat.and_le_right (by decide)) (by omega) (fun h34 => ?_) (fun h34 => ?_)
              · refine r_aload_n C dL_drops_62 rfl ?_
                refine r_iload C dL_drops_63 rfl ?_
                refine al_m_q C hh (by omega) dL_drops_65 ?_
                first | exact jn66 true (by rw [decide_eq_true h34, decide_eq_true h45, h55]; rfl) _ _ hh | exact jn66 false (by first | (rw [decide_eq_false h34]; rfl) | (rw [decide_eq_true h34, decide_eq_false h45]; rfl) | (rw [decide_eq_true h34, decide_eq_true h45, h55]; rfl)) _ _ hh
              · refine r_iload C dL_drops_37 rfl ?_
                refine r_iload C dL_drops_39 rfl ?_
                refine r_ishrN C dL_drops_41 (by omega) (by omega) ?_
                refine r_iconst C (nI 1) dL_drops_42 rfl ?_
                refine r_iandN C dL_drops_43 ?_
                refine r_iconst C (nI 1) dL_drops_44 rfl ?_
                refine r_icmp_neN (tgt := 62) C dL_drops_45 (by decide) (Nat.lt_of_le_of_lt Nat.and_le_right (by decide)) (by omega) (fun h45 => ?_) (fun h45 => ?_)
                · refine r_aload_n C dL_drops_62 rfl ?_
                  refine r_iload C dL_drops_63 rfl ?_
                  refine al_m_q C hh (by omega) dL_drops_65 ?_
                  first | exact jn66 true (by rw [decide_eq_true h34, decide_eq_true h45, h55]; rfl) _ _ hh | exact jn66 false (by first | (rw [decide_eq_false h34]; rfl) | (rw [decide_eq_true h34, decide_eq_false h45]; rfl) | (rw [decide_eq_true h34, decide_eq_true h45, h55]; rfl)) _ _ hh
                · refine r_aload_n C dL_drops_48 rfl ?_
                  refine r_aload_n C dL_drops_49 rfl ?_
                  refine r_iload C dL_drops_50 rfl ?_
                  refine r_callS C E hh (c_L_may E.2.1 Γ B0 ad (rs M 2 (dpQ M cd i f)) F X f (by omega) (LI_2 hL (dpQ_lt l2 cd i f))) lk_L_94 rfl rfl (Nat.le_of_ble_eq_true rfl) dL_drops_52 ⟨by decide, by decide⟩ ⟨by omega, by omega⟩ (fun _ _ z9 => False.elim z9) (kk_is (fun H locs hs9 hh => ?_))
                  rw [mayL_2]
                  refine r_if_neB (tgt := 62) C dL_drops_55 (by decide) (fun h55 => ?_) (fun h55 => ?_)
                  · refine r_aload_n C dL_drops_62 rfl ?_
                    refine r_iload C dL_drops_63 rfl ?_
                    refine al_m_q C hh (by omega) dL_drops_65 ?_
                    first | exact jn66 true (by rw [decide_eq_true h34, decide_eq_true h45, h55]; rfl) _ _ hh | exact jn66 false (by first | (rw [decide_eq_false h34]; rfl) | (rw [decide_eq_true h34, decide_eq_false h45]; rfl) | (rw [decide_eq_true h34, decide_eq_true h45, h55]; rfl)) _ _ hh
                  · refine r_iconst C (nI 0) dL_drops_58 rfl ?_
                    refine r_goto (tgt := 66) C dL_drops_59 (by decide) ?_
                    first | exact jn66 true (by rw [decide_eq_true h34, decide_eq_true h45, h55]; rfl) _ _ hh | exact jn66 false (by first | (rw [decide_eq_false h34]; rfl) | (rw [decide_eq_true h34, decide_eq_false h45]; rfl) | (rw [decide_eq_true h34, decide_eq_true h45, h55]; rfl)) _ _ hh
        exact lp14 9 0 _ _ (by omega) (by omega) hh
  rw [show M = rs M 2 (dpQ M cd 0 0) by rw [dpQ_0, rs_id]] at hh
  refine f_W.le ?_ (lp3 (M 4 0 0 + 1) 0 _ _ (by omega) (by omega) hh)
  exact (And.intro rfl (And.intro rfl (And.intro rfl (And.intro rfl (And.intro rfl (And.intro rfl trivial))))))

