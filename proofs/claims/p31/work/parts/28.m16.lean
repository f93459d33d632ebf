/-! ===== folding: the offset by rule ===== -/
def uS (k : Nat) : Bool := decide (k = 0 ∨ k = 2)
def rnF (kd : Nat → Nat) (r0 r : Nat) : Nat → Nat
  | 0 => r
  | x + 1 => if kd x < 2 then rnF kd r0 r x else fsp (rnF kd r0 r x) (rlF kd r0 (x + 1)) (uS (kd x))
def cnF (kd : Nat → Nat) (c0 c : Nat) : Nat → Nat
  | 0 => c
  | x + 1 => if kd x < 2 then fsp (cnF kd c0 c x) (clF kd c0 (x + 1)) (uS (kd x)) else cnF kd c0 c x
def ovF (kd : Nat → Nat) (r0 c0 r c x : Nat) : Bool := if kd x < 2 then uS (kd x) == decide (clF kd c0 (x + 1) ≤ cnF kd c0 c x) else uS (kd x) == decide (rlF kd r0 (x + 1) ≤ rnF kd r0 r x)
def blF (kd : Nat → Nat) (r0 c0 r c : Nat) : Nat → Nat
  | 0 => 0
  | x + 1 => if ovF kd r0 c0 r c x = true then 2 * 2 ^ x - 1 - blF kd r0 c0 r c x else blF kd r0 c0 r c x
def upF (kd : Nat → Nat) (r0 c0 r c : Nat) : Nat → Nat
  | 0 => 0
  | x + 1 => if ovF kd r0 c0 r c x = true then 1 - upF kd r0 c0 r c x else upF kd r0 c0 r c x
def obr (kd : Nat → Nat) (r0 c0 f sd r c : Nat) : Nat := 2 * (2 ^ f - 1 - blF kd r0 c0 r c f) + (if sd = upF kd r0 c0 r c f then 0 else 1)
theorem fsp_lt {a b : Nat} {u : Bool} (h : a < 2 * b) : fsp a b u < b := by
  unfold fsp
  split <;> split <;> omega
/-- what the folds do to the rows and columns -/
def hv2 (kd : Nat → Nat) (r0 c0 f : Nat) : Prop := ∀ x, x < f → (kd x < 2 → clF kd c0 x = 2 * clF kd c0 (x + 1)) ∧ (¬ kd x < 2 → rlF kd r0 x = 2 * rlF kd r0 (x + 1))
theorem ob_lt {kd : Nat → Nat} {r0 c0 f r c : Nat} (h : hv2 kd r0 c0 f) (hr : r < r0) (hc : c < c0) (h16 : r0 ≤ 16 ∧ c0 ≤ 16) : ∀ x, x ≤ f → rnF kd r0 r x < rlF kd r0 x ∧ cnF kd c0 c x < clF kd c0 x ∧ blF kd r0 c0 r c x < 2 ^ x ∧ upF kd r0 c0 r c x < 2 ∧ rlF kd r0 x ≤ 16 ∧ clF kd c0 x ≤ 16
  | 0, _ => ⟨hr, hc, by show 0 < 1; decide, by show 0 < 2; decide, h16.1, h16.2⟩
  | x + 1, hx => by
    have h1 := ob_lt h hr hc h16 x (by omega)
    have h2 := h x (by omega)
    have hp : 2 ^ (x + 1) = 2 * 2 ^ x := by rw [Nat.pow_succ, Nat.mul_comm]
    have hb : blF kd r0 c0 r c (x + 1) < 2 ^ (x + 1) := by
      rw [hp]; unfold blF
      split <;> omega
    have hu : upF kd r0 c0 r c (x + 1) < 2 := by
      unfold upF
      split <;> omega
    by_cases hk : kd x < 2
    · have e1 : rnF kd r0 r (x + 1) = rnF kd r0 r x := if_pos hk
      have e2 : cnF kd c0 c (x + 1) = fsp (cnF kd c0 c x) (clF kd c0 (x + 1)) (uS (kd x)) := if_pos hk
      have e3 : rlF kd r0 (x + 1) = rlF kd r0 x := if_pos hk
      have e4 := h2.1 hk
      have e5 := fsp_lt (u := uS (kd x)) (show cnF kd c0 c x < 2 * clF kd c0 (x + 1) by omega)
      omega
    · have e1 : cnF kd c0 c (x + 1) = cnF kd c0 c x := if_neg hk
      have e2 : rnF kd r0 r (x + 1) = fsp (rnF kd r0 r x) (rlF kd r0 (x + 1)) (uS (kd x)) := if_neg hk
      have e3 : clF kd c0 (x + 1) = clF kd c0 x := if_neg hk
      have e4 := h2.2 hk
      have e5 := fsp_lt (u := uS (kd x)) (show rnF kd r0 r x < 2 * rlF kd r0 (x + 1) by omega)
      omega
set_option maxHeartbeats 4000000 in
set_option maxRecDepth 100000 in
theorem c_X0_offsetByRule {l : Launch} (hl : l.stackTraces = false) (Γ : fG) (B0 : Nat) (ad : Nat → Nat → Nat) (P : fR) (X : Nat × Nat → fO) (M : Nat → fO) (sd r c : Nat) (hf : P 0 0 0 < 5) (h4 : ∀ i, P 4 i 0 < 4) (h2v : hv2 (kdP P) (P 2 0 0) (P 3 0 0) (P 0 0 0)) (hsd : sd < 2) (hr : r < P 2 0 0) (hc : c < P 3 0 0) (h16 : P 2 0 0 ≤ 16 ∧ P 3 0 0 ≤ 16) : f_Met l yX0_offsetByRule cX0_offsetByRule 14 (some .int) 1 0 0 22 Γ B0 [.ref (ad 0 0), .int (nI (sd)), .int (nI (r)), .int (nI (c))] (wj (fw Γ ad P) X M) (f_is (nI (obr (kdP P) (P 2 0 0) (P 3 0 0) (P 0 0 0) sd r c)) (wj (fw Γ ad P) X M)) f_no := by
  refine f_of hl (by decide) rfl (Nat.le_of_ble_eq_true rfl) (fun X9 C E hh hnm => ?_)
  generalize (f_s X9).heap = H, ([] : List Loc) = locs at hh ⊢
  refine r_aload_n C dX0_offsetByRule_0 rfl ?_
  refine g_X0_38 C hh dX0_offsetByRule_1 ?_
  refine r_istore C dX0_offsetByRule_4 rfl rfl ?_
  refine r_aload_n C dX0_offsetByRule_6 rfl ?_
  refine g_X0_41 C hh dX0_offsetByRule_7 ?_
  refine r_istore C dX0_offsetByRule_10 rfl rfl ?_
  refine r_iload_n C dX0_offsetByRule_12 rfl ?_
  refine r_istore C dX0_offsetByRule_13 rfl rfl ?_
  refine r_iload_n C dX0_offsetByRule_15 rfl ?_
  refine r_istore C dX0_offsetByRule_16 rfl rfl ?_
  refine r_iconst C (nI 0) dX0_offsetByRule_18 rfl ?_
  refine r_istore C dX0_offsetByRule_19 rfl rfl ?_
  refine r_iconst C (nI 0) dX0_offsetByRule_21 rfl ?_
  refine r_istore C dX0_offsetByRule_22 rfl rfl ?_
  refine r_iconst C (nI 1) dX0_offsetByRule_24 rfl ?_
  refine r_istore C dX0_offsetByRule_25 rfl rfl ?_
  refine r_iconst C (nI 0) dX0_offsetByRule_27 rfl ?_
  refine r_istore C dX0_offsetByRule_28 rfl rfl ?_
  have lp30 : ∀ (d9 : Nat) (x : Nat) (H : Heap) (locs : List Loc), P 0 0 0 - x < d9 → x ≤ P 0 0 0 → f_HS Γ B0 (wj (fw Γ ad P) X M) X9 H locs → f_W X9 H locs 0 0 30 [some (.ref (ad 0 0)), some (.int (nI (sd))), some (.int (nI (r))), some (.int (nI (c))), some (.int (nI (rlF (kdP P) (P 2 0 0) x))), some (.int (nI (clF (kdP P) (P 3 0 0) x))), some (.int (nI (rnF (kdP P) (P 2 0 0) r x))), some (.int (nI (cnF (kdP P) (P 3 0 0) c x))), some (.int (nI (blF (kdP P) (P 2 0 0) (P 3 0 0) r c x))), some (.int (nI (upF (kdP P) (P 2 0 0) (P 3 0 0) r c x))), some (.int (nI (2 ^ x))), some (.int (nI (x))), none, none] [] := by
    intro d9
    induction d9 with
    | zero => intro x H locs hd9 hl hh; exact absurd hd9 (Nat.not_lt_zero _)
    | succ d9 ih30 =>
      intro x H locs hd9 hl hh
      have hob := ob_lt h2v hr hc h16 x hl
      have hp1 : 2 ^ x ≤ 16 := Nat.pow_le_pow_right (n := 2) (by decide) (by omega : x ≤ 4)
      refine r_iload C dX0_offsetByRule_30 rfl ?_
      refine r_aload_n C dX0_offsetByRule_32 rfl ?_
      refine g_X0_31 C hh dX0_offsetByRule_33 ?_
      refine r_icmp_geN (tgt := 199) C dX0_offsetByRule_36 (by decide) (by omega) (by omega) (fun h36 => ?_) (fun h36 => ?_)
      · obtain rfl : x = P 0 0 0 := by omega
        refine r_iload C dX0_offsetByRule_199 rfl ?_
        refine r_iconst C (nI 1) dX0_offsetByRule_201 rfl ?_
        refine r_isubN C dX0_offsetByRule_202 (by omega) ?_
        refine r_iload C dX0_offsetByRule_203 rfl ?_
        refine r_isubN C dX0_offsetByRule_205 (by omega) ?_
        refine r_istore C dX0_offsetByRule_206 rfl rfl ?_
        refine r_iconst C (nI 2) dX0_offsetByRule_208 rfl ?_
        refine r_iload C dX0_offsetByRule_209 rfl ?_
        refine r_imulN C dX0_offsetByRule_211 ?_
        refine r_iload_n C dX0_offsetByRule_212 rfl ?_
        refine r_iload C dX0_offsetByRule_213 rfl ?_
        refine r_icmp_neN (tgt := 222) C dX0_offsetByRule_215 (by decide) (by omega) (by omega) (fun h215 => ?_) (fun h215 => ?_)
        · refine r_iconst C (nI 1) dX0_offsetByRule_222 rfl ?_
          refine r_iaddN C dX0_offsetByRule_223 ?_
          exact r_iret C E hh dX0_offsetByRule_224 (by omega) (by omega) (ri (by unfold obr; first | (rw [if_pos (by omega)]; done) | (rw [if_neg (by omega)]; done)))
        · refine r_iconst C (nI 0) dX0_offsetByRule_218 rfl ?_
          refine r_goto (tgt := 223) C dX0_offsetByRule_219 (by decide) ?_
          refine r_iaddN C dX0_offsetByRule_223 ?_
          exact r_iret C E hh dX0_offsetByRule_224 (by omega) (by omega) (ri (by unfold obr; first | (rw [if_pos (by omega)]; done) | (rw [if_neg (by omega)]; done)))
      · have hk4 := h4 x
        have h22 := h2v x h36
        have hp2 : 2 ^ x ≤ 16 := Nat.pow_le_pow_right (n := 2) (by decide) (by omega : x ≤ 4)
        have jn65 : f_W X9 H locs 0 0 65 [some (.ref (ad 0 0)), some (.int (nI (sd))), some (.int (nI (r))), some (.int (nI (c))), some (.int (nI (rlF (kdP P) (P 2 0 0) x))), some (.int (nI (clF (kdP P) (P 3 0 0) x))), some (.int (nI (rnF (kdP P) (P 2 0 0) r x))), some (.int (nI (cnF (kdP P) (P 3 0 0) c x))), some (.int (nI (blF (kdP P) (P 2 0 0) (P 3 0 0) r c x))), some (.int (nI (upF (kdP P) (P 2 0 0) (P 3 0 0) r c x))), some (.int (nI (2 ^ x))), some (.int (nI (x))), none, none] [.int (bI (uS (P 4 x 0)))] := by
          refine r_istore C dX0_offsetByRule_65 rfl rfl ?_
          refine r_aload_n C dX0_offsetByRule_67 rfl ?_
          refine g_X0_9 C hh dX0_offsetByRule_68 ?_
          refine r_iload C dX0_offsetByRule_71 rfl ?_
          refine al_kinds C hh (by omega) dX0_offsetByRule_73 ?_
          refine r_callS C E hh (c_X0_isSideways E.2.1 Γ B0 _ _ hk4) lk_X0_44 rfl rfl (Nat.le_of_ble_eq_true rfl) dX0_offsetByRule_74 ⟨by decide, by decide⟩ ⟨by omega, by omega⟩ (fun _ _ z9 => False.elim z9) (kk_is (fun H locs hs9 hh => ?_))
          refine r_if_eqB (tgt := 124) C dX0_offsetByRule_77 (by decide) (fun h77 => ?_) (fun h77 => ?_)
          · have hk : ¬ P 4 x 0 < 2 := of_decide_eq_false h77
            have hh2 := h22.2 hk
            rw [show clF (kdP P) (P 3 0 0) x = clF (kdP P) (P 3 0 0) (x + 1) from (if_neg hk).symm]
            rw [show cnF (kdP P) (P 3 0 0) c x = cnF (kdP P) (P 3 0 0) c (x + 1) from (if_neg hk).symm]
            refine r_iload C dX0_offsetByRule_124 rfl ?_
            refine r_iconst C (nI 2) dX0_offsetByRule_126 rfl ?_
            refine r_idivN C dX0_offsetByRule_127 (by omega) (by omega) (by omega) ?_
            rw [show rlF (kdP P) (P 2 0 0) x / 2 = rlF (kdP P) (P 2 0 0) (x + 1) from (if_neg hk).symm]
            refine r_istore C dX0_offsetByRule_128 rfl rfl ?_
            have jn152 : f_W X9 H locs 0 0 152 [some (.ref (ad 0 0)), some (.int (nI (sd))), some (.int (nI (r))), some (.int (nI (c))), some (.int (nI (rlF (kdP P) (P 2 0 0) (x + 1)))), some (.int (nI (clF (kdP P) (P 3 0 0) (x + 1)))), some (.int (nI (rnF (kdP P) (P 2 0 0) r x))), some (.int (nI (cnF (kdP P) (P 3 0 0) c (x + 1)))), some (.int (nI (blF (kdP P) (P 2 0 0) (P 3 0 0) r c x))), some (.int (nI (upF (kdP P) (P 2 0 0) (P 3 0 0) r c x))), some (.int (nI (2 ^ x))), some (.int (nI (x))), some (.int (bI (uS (P 4 x 0)))), none] [.int (bI (ovF (kdP P) (P 2 0 0) (P 3 0 0) r c x))] := by
              refine r_istore C dX0_offsetByRule_152 rfl rfl ?_
              refine r_iload C dX0_offsetByRule_154 rfl ?_
              refine r_iload C dX0_offsetByRule_156 rfl ?_
              refine r_iload C dX0_offsetByRule_158 rfl ?_
              refine r_callS C E hh (c_X0_foldedSpot E.2.1 Γ B0 _ _ _ _ (by omega) (by omega)) lk_X0_85 rfl rfl (Nat.le_of_ble_eq_true rfl) dX0_offsetByRule_160 ⟨by decide, by decide⟩ ⟨by omega, by omega⟩ (fun _ _ z9 => False.elim z9) (kk_is (fun H locs hs9 hh => ?_))
              rw [show fsp (rnF (kdP P) (P 2 0 0) r x) (rlF (kdP P) (P 2 0 0) (x + 1)) (uS (P 4 x 0)) = rnF (kdP P) (P 2 0 0) r (x + 1) from (if_neg hk).symm]
              refine r_istore C dX0_offsetByRule_163 rfl rfl ?_
              refine r_iload C dX0_offsetByRule_165 rfl ?_
              refine r_if_eqB (tgt := 187) C dX0_offsetByRule_167 (by decide) (fun h167 => ?_) (fun h167 => ?_)
              · have hz : ¬ ovF (kdP P) (P 2 0 0) (P 3 0 0) r c x = true := by rw [h167]; decide
                rw [show blF (kdP P) (P 2 0 0) (P 3 0 0) r c x = blF (kdP P) (P 2 0 0) (P 3 0 0) r c (x + 1) from (if_neg hz).symm]
                rw [show upF (kdP P) (P 2 0 0) (P 3 0 0) r c x = upF (kdP P) (P 2 0 0) (P 3 0 0) r c (x + 1) from (if_neg hz).symm]
                refine r_iload C dX0_offsetByRule_187 rfl ?_
                refine r_iconst C (nI 2) dX0_offsetByRule_189 rfl ?_
                refine r_imulN C dX0_offsetByRule_190 ?_
                rw [show 2 ^ x * 2 = 2 ^ (x + 1) from rfl]
                refine r_istore C dX0_offsetByRule_191 rfl rfl ?_
                refine r_iincN C dX0_offsetByRule_193 rfl rfl ?_
                refine r_goto (tgt := 30) C dX0_offsetByRule_196 (by decide) ?_
                refine f_W.le ?_ (ih30 (x + 1) _ _ (by omega) (by omega) hh)
                exact (And.intro rfl (And.intro rfl (And.intro rfl (And.intro rfl (And.intro rfl (And.intro rfl (And.intro rfl (And.intro rfl (And.intro rfl (And.intro rfl (And.intro rfl (And.intro rfl trivial))))))))))))
              · refine r_iconst C (nI 2) dX0_offsetByRule_170 rfl ?_
                refine r_iload C dX0_offsetByRule_171 rfl ?_
                refine r_imulN C dX0_offsetByRule_173 ?_
                refine r_iconst C (nI 1) dX0_offsetByRule_174 rfl ?_
                refine r_isubN C dX0_offsetByRule_175 (by omega) ?_
                refine r_iload C dX0_offsetByRule_176 rfl ?_
                refine r_isubN C dX0_offsetByRule_178 (by omega) ?_
                rw [show 2 * 2 ^ x - 1 - blF (kdP P) (P 2 0 0) (P 3 0 0) r c x = blF (kdP P) (P 2 0 0) (P 3 0 0) r c (x + 1) from (if_pos h167).symm]
                refine r_istore C dX0_offsetByRule_179 rfl rfl ?_
                refine r_iconst C (nI 1) dX0_offsetByRule_181 rfl ?_
                refine r_iload C dX0_offsetByRule_182 rfl ?_
                refine r_isubN C dX0_offsetByRule_184 (by omega) ?_
                rw [show 1 - upF (kdP P) (P 2 0 0) (P 3 0 0) r c x = upF (kdP P) (P 2 0 0) (P 3 0 0) r c (x + 1) from (if_pos h167).symm]
                refine r_istore C dX0_offsetByRule_185 rfl rfl ?_
                refine r_iload C dX0_offsetByRule_187 rfl ?_
                refine r_iconst C (nI 2) dX0_offsetByRule_189 rfl ?_
                refine r_imulN C dX0_offsetByRule_190 ?_
                rw [show 2 ^ x * 2 = 2 ^ (x + 1) from rfl]
                refine r_istore C dX0_offsetByRule_191 rfl rfl ?_
                refine r_iincN C dX0_offsetByRule_193 rfl rfl ?_
                refine r_goto (tgt := 30) C dX0_offsetByRule_196 (by decide) ?_
                refine f_W.le ?_ (ih30 (x + 1) _ _ (by omega) (by omega) hh)
                exact (And.intro rfl (And.intro rfl (And.intro rfl (And.intro rfl (And.intro rfl (And.intro rfl (And.intro rfl (And.intro rfl (And.intro rfl (And.intro rfl (And.intro rfl (And.intro rfl trivial))))))))))))
            refine r_iload C dX0_offsetByRule_130 rfl ?_
            refine r_iload C dX0_offsetByRule_132 rfl ?_
            refine r_iload C dX0_offsetByRule_134 rfl ?_
            refine r_icmp_ltN (tgt := 143) C dX0_offsetByRule_136 (by decide) (by omega) (by omega) (fun h136 => ?_) (fun h136 => ?_)
            · have ho : ovF (kdP P) (P 2 0 0) (P 3 0 0) r c x = (uS (P 4 x 0) == false) := by
                rw [show ovF (kdP P) (P 2 0 0) (P 3 0 0) r c x = _ from if_neg hk]
                exact congrArg (fun z => uS (P 4 x 0) == z) (decide_eq_false (by omega))
              refine r_iconst C (bI false) dX0_offsetByRule_143 rfl ?_
              refine r_icmp_ne (tgt := 151) C dX0_offsetByRule_144 (by decide) (fun h144 => ?_) (fun h144 => ?_)
              · have hv : ovF (kdP P) (P 2 0 0) (P 3 0 0) r c x = false := by
                  rw [ho]
                  revert h144
                  cases uS (P 4 x 0) <;> decide
                refine r_iconst C (bI (ovF (kdP P) (P 2 0 0) (P 3 0 0) r c x)) dX0_offsetByRule_151 (by rw [hv]; rfl) ?_
                exact jn152
              · have hv : ovF (kdP P) (P 2 0 0) (P 3 0 0) r c x = true := by
                  rw [ho]
                  revert h144
                  cases uS (P 4 x 0) <;> decide
                refine r_iconst C (bI (ovF (kdP P) (P 2 0 0) (P 3 0 0) r c x)) dX0_offsetByRule_147 (by rw [hv]; rfl) ?_
                refine r_goto (tgt := 152) C dX0_offsetByRule_148 (by decide) ?_
                exact jn152
            · have ho : ovF (kdP P) (P 2 0 0) (P 3 0 0) r c x = (uS (P 4 x 0) == true) := by
                rw [show ovF (kdP P) (P 2 0 0) (P 3 0 0) r c x = _ from if_neg hk]
                exact congrArg (fun z => uS (P 4 x 0) == z) (decide_eq_true (by omega))
              refine r_iconst C (bI true) dX0_offsetByRule_139 rfl ?_
              refine r_goto (tgt := 144) C dX0_offsetByRule_140 (by decide) ?_
              refine r_icmp_ne (tgt := 151) C dX0_offsetByRule_144 (by decide) (fun h144 => ?_) (fun h144 => ?_)
              · have hv : ovF (kdP P) (P 2 0 0) (P 3 0 0) r c x = false := by
                  rw [ho]
                  revert h144
                  cases uS (P 4 x 0) <;> decide
                refine r_iconst C (bI (ovF (kdP P) (P 2 0 0) (P 3 0 0) r c x)) dX0_offsetByRule_151 (by rw [hv]; rfl) ?_
                exact jn152
              · have hv : ovF (kdP P) (P 2 0 0) (P 3 0 0) r c x = true := by
                  rw [ho]
                  revert h144
                  cases uS (P 4 x 0) <;> decide
                refine r_iconst C (bI (ovF (kdP P) (P 2 0 0) (P 3 0 0) r c x)) dX0_offsetByRule_147 (by rw [hv]; rfl) ?_
                refine r_goto (tgt := 152) C dX0_offsetByRule_148 (by decide) ?_
                exact jn152
          · have hk : P 4 x 0 < 2 := of_decide_eq_true h77
            have hh2 := h22.1 hk
            rw [show rlF (kdP P) (P 2 0 0) x = rlF (kdP P) (P 2 0 0) (x + 1) from (if_pos hk).symm]
            rw [show rnF (kdP P) (P 2 0 0) r x = rnF (kdP P) (P 2 0 0) r (x + 1) from (if_pos hk).symm]
            refine r_iload C dX0_offsetByRule_80 rfl ?_
            refine r_iconst C (nI 2) dX0_offsetByRule_82 rfl ?_
            refine r_idivN C dX0_offsetByRule_83 (by omega) (by omega) (by omega) ?_
            rw [show clF (kdP P) (P 3 0 0) x / 2 = clF (kdP P) (P 3 0 0) (x + 1) from (if_pos hk).symm]
            refine r_istore C dX0_offsetByRule_84 rfl rfl ?_
            have jn108 : f_W X9 H locs 0 0 108 [some (.ref (ad 0 0)), some (.int (nI (sd))), some (.int (nI (r))), some (.int (nI (c))), some (.int (nI (rlF (kdP P) (P 2 0 0) (x + 1)))), some (.int (nI (clF (kdP P) (P 3 0 0) (x + 1)))), some (.int (nI (rnF (kdP P) (P 2 0 0) r (x + 1)))), some (.int (nI (cnF (kdP P) (P 3 0 0) c x))), some (.int (nI (blF (kdP P) (P 2 0 0) (P 3 0 0) r c x))), some (.int (nI (upF (kdP P) (P 2 0 0) (P 3 0 0) r c x))), some (.int (nI (2 ^ x))), some (.int (nI (x))), some (.int (bI (uS (P 4 x 0)))), none] [.int (bI (ovF (kdP P) (P 2 0 0) (P 3 0 0) r c x))] := by
              refine r_istore C dX0_offsetByRule_108 rfl rfl ?_
              refine r_iload C dX0_offsetByRule_110 rfl ?_
              refine r_iload C dX0_offsetByRule_112 rfl ?_
              refine r_iload C dX0_offsetByRule_114 rfl ?_
              refine r_callS C E hh (c_X0_foldedSpot E.2.1 Γ B0 _ _ _ _ (by omega) (by omega)) lk_X0_85 rfl rfl (Nat.le_of_ble_eq_true rfl) dX0_offsetByRule_116 ⟨by decide, by decide⟩ ⟨by omega, by omega⟩ (fun _ _ z9 => False.elim z9) (kk_is (fun H locs hs9 hh => ?_))
              rw [show fsp (cnF (kdP P) (P 3 0 0) c x) (clF (kdP P) (P 3 0 0) (x + 1)) (uS (P 4 x 0)) = cnF (kdP P) (P 3 0 0) c (x + 1) from (if_pos hk).symm]
              refine r_istore C dX0_offsetByRule_119 rfl rfl ?_
              refine r_goto (tgt := 165) C dX0_offsetByRule_121 (by decide) ?_
              refine r_iload C dX0_offsetByRule_165 rfl ?_
              refine r_if_eqB (tgt := 187) C dX0_offsetByRule_167 (by decide) (fun h167 => ?_) (fun h167 => ?_)
              · have hz : ¬ ovF (kdP P) (P 2 0 0) (P 3 0 0) r c x = true := by rw [h167]; decide
                rw [show blF (kdP P) (P 2 0 0) (P 3 0 0) r c x = blF (kdP P) (P 2 0 0) (P 3 0 0) r c (x + 1) from (if_neg hz).symm]
                rw [show upF (kdP P) (P 2 0 0) (P 3 0 0) r c x = upF (kdP P) (P 2 0 0) (P 3 0 0) r c (x + 1) from (if_neg hz).symm]
                refine r_iload C dX0_offsetByRule_187 rfl ?_
                refine r_iconst C (nI 2) dX0_offsetByRule_189 rfl ?_
                refine r_imulN C dX0_offsetByRule_190 ?_
                rw [show 2 ^ x * 2 = 2 ^ (x + 1) from rfl]
                refine r_istore C dX0_offsetByRule_191 rfl rfl ?_
                refine r_iincN C dX0_offsetByRule_193 rfl rfl ?_
                refine r_goto (tgt := 30) C dX0_offsetByRule_196 (by decide) ?_
                refine f_W.le ?_ (ih30 (x + 1) _ _ (by omega) (by omega) hh)
                exact (And.intro rfl (And.intro rfl (And.intro rfl (And.intro rfl (And.intro rfl (And.intro rfl (And.intro rfl (And.intro rfl (And.intro rfl (And.intro rfl (And.intro rfl (And.intro rfl trivial))))))))))))
              · refine r_iconst C (nI 2) dX0_offsetByRule_170 rfl ?_
                refine r_iload C dX0_offsetByRule_171 rfl ?_
                refine r_imulN C dX0_offsetByRule_173 ?_
                refine r_iconst C (nI 1) dX0_offsetByRule_174 rfl ?_
                refine r_isubN C dX0_offsetByRule_175 (by omega) ?_
                refine r_iload C dX0_offsetByRule_176 rfl ?_
                refine r_isubN C dX0_offsetByRule_178 (by omega) ?_
                rw [show 2 * 2 ^ x - 1 - blF (kdP P) (P 2 0 0) (P 3 0 0) r c x = blF (kdP P) (P 2 0 0) (P 3 0 0) r c (x + 1) from (if_pos h167).symm]
                refine r_istore C dX0_offsetByRule_179 rfl rfl ?_
                refine r_iconst C (nI 1) dX0_offsetByRule_181 rfl ?_
                refine r_iload C dX0_offsetByRule_182 rfl ?_
                refine r_isubN C dX0_offsetByRule_184 (by omega) ?_
                rw [show 1 - upF (kdP P) (P 2 0 0) (P 3 0 0) r c x = upF (kdP P) (P 2 0 0) (P 3 0 0) r c (x + 1) from (if_pos h167).symm]
                refine r_istore C dX0_offsetByRule_185 rfl rfl ?_
                refine r_iload C dX0_offsetByRule_187 rfl ?_
                refine r_iconst C (nI 2) dX0_offsetByRule_189 rfl ?_
                refine r_imulN C dX0_offsetByRule_190 ?_
                rw [show 2 ^ x * 2 = 2 ^ (x + 1) from rfl]
                refine r_istore C dX0_offsetByRule_191 rfl rfl ?_
                refine r_iincN C dX0_offsetByRule_193 rfl rfl ?_
                refine r_goto (tgt := 30) C dX0_offsetByRule_196 (by decide) ?_
                refine f_W.le ?_ (ih30 (x + 1) _ _ (by omega) (by omega) hh)
                exact (And.intro rfl (And.intro rfl (And.intro rfl (And.intro rfl (And.intro rfl (And.intro rfl (And.intro rfl (And.intro rfl (And.intro rfl (And.intro rfl (And.intro rfl (And.intro rfl trivial))))))))))))
            refine r_iload C dX0_offsetByRule_86 rfl ?_
            refine r_iload C dX0_offsetByRule_88 rfl ?_
            refine r_iload C dX0_offsetByRule_90 rfl ?_
            refine r_icmp_ltN (tgt := 99) C dX0_offsetByRule_92 (by decide) (by omega) (by omega) (fun h92 => ?_) (fun h92 => ?_)
            · have ho : ovF (kdP P) (P 2 0 0) (P 3 0 0) r c x = (uS (P 4 x 0) == false) := by
                rw [show ovF (kdP P) (P 2 0 0) (P 3 0 0) r c x = _ from if_pos hk]
                exact congrArg (fun z => uS (P 4 x 0) == z) (decide_eq_false (by omega))
              refine r_iconst C (bI false) dX0_offsetByRule_99 rfl ?_
              refine r_icmp_ne (tgt := 107) C dX0_offsetByRule_100 (by decide) (fun h100 => ?_) (fun h100 => ?_)
              · have hv : ovF (kdP P) (P 2 0 0) (P 3 0 0) r c x = false := by
                  rw [ho]
                  revert h100
                  cases uS (P 4 x 0) <;> decide
                refine r_iconst C (bI (ovF (kdP P) (P 2 0 0) (P 3 0 0) r c x)) dX0_offsetByRule_107 (by rw [hv]; rfl) ?_
                exact jn108
              · have hv : ovF (kdP P) (P 2 0 0) (P 3 0 0) r c x = true := by
                  rw [ho]
                  revert h100
                  cases uS (P 4 x 0) <;> decide
                refine r_iconst C (bI (ovF (kdP P) (P 2 0 0) (P 3 0 0) r c x)) dX0_offsetByRule_103 (by rw [hv]; rfl) ?_
                refine r_goto (tgt := 108) C dX0_offsetByRule_104 (by decide) ?_
                exact jn108
            · have ho : ovF (kdP P) (P 2 0 0) (P 3 0 0) r c x = (uS (P 4 x 0) == true) := by
                rw [show ovF (kdP P) (P 2 0 0) (P 3 0 0) r c x = _ from if_pos hk]
                exact congrArg (fun z => uS (P 4 x 0) == z) (decide_eq_true (by omega))
              refine r_iconst C (bI true) dX0_offsetByRule_95 rfl ?_
              refine r_goto (tgt := 100) C dX0_offsetByRule_96 (by decide) ?_
              refine r_icmp_ne (tgt := 107) C dX0_offsetByRule_100 (by decide) (fun h100 => ?_) (fun h100 => ?_)
              · have hv : ovF (kdP P) (P 2 0 0) (P 3 0 0) r c x = false := by
                  rw [ho]
                  revert h100
                  cases uS (P 4 x 0) <;> decide
                refine r_iconst C (bI (ovF (kdP P) (P 2 0 0) (P 3 0 0) r c x)) dX0_offsetByRule_107 (by rw [hv]; rfl) ?_
                exact jn108
              · have hv : ovF (kdP P) (P 2 0 0) (P 3 0 0) r c x = true := by
                  rw [ho]
                  revert h100
                  cases uS (P 4 x 0) <;> decide
                refine r_iconst C (bI (ovF (kdP P) (P 2 0 0) (P 3 0 0) r c x)) dX0_offsetByRule_103 (by rw [hv]; rfl) ?_
                refine r_goto (tgt := 108) C dX0_offsetByRule_104 (by decide) ?_
                exact jn108
        refine r_aload_n C dX0_offsetByRule_39 rfl ?_
        refine g_X0_9 C hh dX0_offsetByRule_40 ?_
        refine r_iload C dX0_offsetByRule_43 rfl ?_
        refine al_kinds C hh (by omega) dX0_offsetByRule_45 ?_
        refine r_if_eqN (tgt := 60) C dX0_offsetByRule_46 (by decide) (by omega) (fun h46 => ?_) (fun h46 => ?_)
        · have hv : uS (P 4 x 0) = true := decide_eq_true (Or.inl h46)
          refine r_iconst C (bI (uS (P 4 x 0))) dX0_offsetByRule_60 (by rw [hv]; rfl) ?_
          refine r_goto (tgt := 65) C dX0_offsetByRule_61 (by decide) ?_
          exact jn65
        · refine r_aload_n C dX0_offsetByRule_49 rfl ?_
          refine g_X0_9 C hh dX0_offsetByRule_50 ?_
          refine r_iload C dX0_offsetByRule_53 rfl ?_
          refine al_kinds C hh (by omega) dX0_offsetByRule_55 ?_
          refine r_iconst C (nI 2) dX0_offsetByRule_56 rfl ?_
          refine r_icmp_neN (tgt := 64) C dX0_offsetByRule_57 (by decide) (by omega) (by omega) (fun h57 => ?_) (fun h57 => ?_)
          · have hv : uS (P 4 x 0) = false := decide_eq_false (by omega)
            refine r_iconst C (bI (uS (P 4 x 0))) dX0_offsetByRule_64 (by rw [hv]; rfl) ?_
            exact jn65
          · have hv : uS (P 4 x 0) = true := decide_eq_true (Or.inr (by omega))
            refine r_iconst C (bI (uS (P 4 x 0))) dX0_offsetByRule_60 (by rw [hv]; rfl) ?_
            refine r_goto (tgt := 65) C dX0_offsetByRule_61 (by decide) ?_
            exact jn65
  exact lp30 (P 0 0 0 + 1) 0 _ _ (by omega) (by omega) hh

