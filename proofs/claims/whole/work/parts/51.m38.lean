/-! ===== the model: follows ===== -/
def kdM (M : fR) : Nat → Nat := fun i => M 16 i 0
def tnF (kd : Nat → Nat) (r0 c0 r c : Nat) : Nat → Nat
  | 0 => 0
  | x + 1 => if (ovF kd r0 c0 r c x && !decide (kd x < 2)) = true then 1 - tnF kd r0 c0 r c x else tnF kd r0 c0 r c x
theorem tnF_lt (kd : Nat → Nat) (r0 c0 r c : Nat) : ∀ x, tnF kd r0 c0 r c x < 2
  | 0 => by show 0 < 2; decide
  | x + 1 => by have := tnF_lt kd r0 c0 r c x; unfold tnF; split <;> omega
theorem xor_1 {a : Nat} (h : a < 2) : a ^^^ 1 = 1 - a := by
  match a, h with
  | 0, _ => rfl
  | 1, _ => rfl
theorem xor_b {a : Nat} (h : a < 2) (b : Bool) : a ^^^ b.toNat = if b = true then 1 - a else a := by
  cases b
  · show a ^^^ 0 = a
    rw [Nat.xor_zero]
  · exact xor_1 h
theorem fo_nx {en tr : Bool} {hf av mi nx : Nat} (htr : tr = (en == decide (hf ≤ av))) (hmi : mi = if tr = true then 2 * hf - 1 - av else av) (hnx : nx = if en = true then mi else mi - hf) : nx = fsp av hf en := by
  unfold fsp
  by_cases q : av < hf
  · have e : decide (hf ≤ av) = false := decide_eq_false (by omega)
    rw [e] at htr
    rw [if_pos q, if_pos q, hnx]
    cases en
    · rw [show tr = true from htr, if_pos rfl] at hmi
      rw [if_neg (by decide), if_neg (by decide)]; omega
    · rw [show tr = false from htr, if_neg (by decide)] at hmi
      rw [if_pos rfl, if_pos rfl]; exact hmi
  · have e : decide (hf ≤ av) = true := decide_eq_true (by omega)
    rw [e] at htr
    rw [if_neg q, if_neg q, hnx]
    cases en
    · rw [show tr = false from htr, if_neg (by decide)] at hmi
      rw [if_neg (by decide), if_neg (by decide)]; omega
    · rw [show tr = true from htr, if_pos rfl] at hmi
      rw [if_pos rfl, if_pos rfl]; exact hmi
theorem fo_step {kd : Nat → Nat} {r0 c0 r c x : Nat} {ac en tr : Bool} {hf av mi nx c2 r2 w2 g2 b2 : Nat} (hac : ac = decide (kd x < 2)) (hhf : hf = if ac = true then clF kd c0 x / 2 else rlF kd r0 x / 2) (hav : av = if ac = true then cnF kd c0 c x else rnF kd r0 r x) (hen : en = uS (kd x)) (htr : tr = (en == decide (hf ≤ av))) (hmi : mi = if tr = true then 2 * hf - 1 - av else av) (hnx : nx = if en = true then mi else mi - hf)
    (hc2 : c2 = if ac = true then nx else cnF kd c0 c x) (hr2 : r2 = if ac = true then rnF kd r0 r x else nx) (hw2 : w2 = if ac = true then hf else clF kd c0 x) (hg2 : g2 = if ac = true then rlF kd r0 x else hf) (hb2 : b2 = if tr = true then 2 * 2 ^ x - 1 - blF kd r0 c0 r c x else blF kd r0 c0 r c x) :
    (c2 = cnF kd c0 c (x + 1) ∧ r2 = rnF kd r0 r (x + 1)) ∧ (w2 = clF kd c0 (x + 1) ∧ g2 = rlF kd r0 (x + 1)) ∧ b2 = blF kd r0 c0 r c (x + 1) ∧ tr = ovF kd r0 c0 r c x := by
  have e := fo_nx htr hmi hnx
  by_cases hk : kd x < 2
  · have z : ac = true := by rw [hac, decide_eq_true hk]
    rw [z, if_pos rfl] at hhf hav hc2 hr2 hw2 hg2
    have q1 : clF kd c0 (x + 1) = clF kd c0 x / 2 := if_pos hk
    have q2 : rlF kd r0 (x + 1) = rlF kd r0 x := if_pos hk
    have q3 : cnF kd c0 c (x + 1) = fsp (cnF kd c0 c x) (clF kd c0 (x + 1)) (uS (kd x)) := if_pos hk
    have q4 : rnF kd r0 r (x + 1) = rnF kd r0 r x := if_pos hk
    have q5 : ovF kd r0 c0 r c x = (uS (kd x) == decide (clF kd c0 (x + 1) ≤ cnF kd c0 c x)) := if_pos hk
    have q6 : tr = ovF kd r0 c0 r c x := by rw [q5, q1, htr, hhf, hav, hen]
    refine ⟨⟨by rw [hc2, e, q3, q1, hav, hhf, hen], by rw [hr2, q4]⟩, ⟨by rw [hw2, hhf, q1], by rw [hg2, q2]⟩, ?_, q6⟩
    rw [hb2, q6]; rfl
  · have z : ac = false := by rw [hac, decide_eq_false hk]
    rw [z, if_neg (by decide)] at hhf hav hc2 hr2 hw2 hg2
    have q1 : rlF kd r0 (x + 1) = rlF kd r0 x / 2 := if_neg hk
    have q2 : clF kd c0 (x + 1) = clF kd c0 x := if_neg hk
    have q3 : rnF kd r0 r (x + 1) = fsp (rnF kd r0 r x) (rlF kd r0 (x + 1)) (uS (kd x)) := if_neg hk
    have q4 : cnF kd c0 c (x + 1) = cnF kd c0 c x := if_neg hk
    have q5 : ovF kd r0 c0 r c x = (uS (kd x) == decide (rlF kd r0 (x + 1) ≤ rnF kd r0 r x)) := if_neg hk
    have q6 : tr = ovF kd r0 c0 r c x := by rw [q5, q1, htr, hhf, hav, hen]
    refine ⟨⟨by rw [hc2, q4], by rw [hr2, e, q3, q1, hav, hhf, hen]⟩, ⟨by rw [hw2, q2], by rw [hg2, hhf, q1]⟩, ?_, q6⟩
    rw [hb2, q6]; rfl
def flW (M : fR) (lf x : Nat) : fR := rs (rs M 18 (u1 (M 18) lf (upF (kdM M) (M 4 0 0) (M 5 0 0) (lf / M 5 0 0) (lf % M 5 0 0) x))) 19 (u1 (M 19) lf (tnF (kdM M) (M 4 0 0) (M 5 0 0) (lf / M 5 0 0) (lf % M 5 0 0) x))
def flM (M : fR) (lf : Nat) : fR := rs (flW M lf (M 3 0 0)) 17 (u1 (M 17) lf (M 4 0 0 * M 5 0 0 - 1 - blF (kdM M) (M 4 0 0) (M 5 0 0) (lf / M 5 0 0) (lf % M 5 0 0) (M 3 0 0)))
def flI (M : fR) : Prop := M 3 0 0 < 5 ∧ (∀ i, M 16 i 0 < 4) ∧ hv2 (kdM M) (M 4 0 0) (M 5 0 0) (M 3 0 0) ∧ (M 4 0 0 ≤ 16 ∧ M 5 0 0 ≤ 16) ∧ M 4 0 0 * M 5 0 0 = 2 ^ M 3 0 0
theorem u1_u1 (f : Nat → Nat → Nat) (i v w : Nat) : u1 (u1 f i v) i w = u1 f i w := by
  funext a b
  unfold u1
  by_cases h : a = i
  · rw [if_pos h, if_pos h]
  · rw [if_neg h, if_neg h, if_neg h]
theorem u1_s (f : Nat → Nat → Nat) (i v j : Nat) : u1 f i v i j = v := if_pos rfl
theorem flW_s (M : fR) (lf x t9 s9 : Nat) {tr ac : Bool} (h4 : tr = ovF (kdM M) (M 4 0 0) (M 5 0 0) (lf / M 5 0 0) (lf % M 5 0 0) x) (hac : ac = decide (kdM M x < 2)) (ht : t9 = tr.toNat) (hs : s9 = (tr && !ac).toNat) (hup : upF (kdM M) (M 4 0 0) (M 5 0 0) (lf / M 5 0 0) (lf % M 5 0 0) x < 2) :
    rs (rs (flW M lf x) 18 (u1 (flW M lf x 18) lf (upF (kdM M) (M 4 0 0) (M 5 0 0) (lf / M 5 0 0) (lf % M 5 0 0) x ^^^ t9))) 19 (u1 (flW M lf x 19) lf (tnF (kdM M) (M 4 0 0) (M 5 0 0) (lf / M 5 0 0) (lf % M 5 0 0) x ^^^ s9)) = flW M lf (x + 1) := by
  rw [ht, hs, xor_b hup, xor_b (tnF_lt _ _ _ _ _ _)]
  have e1 : flW M lf x 18 = u1 (M 18) lf (upF (kdM M) (M 4 0 0) (M 5 0 0) (lf / M 5 0 0) (lf % M 5 0 0) x) := rfl
  have e2 : flW M lf x 19 = u1 (M 19) lf (tnF (kdM M) (M 4 0 0) (M 5 0 0) (lf / M 5 0 0) (lf % M 5 0 0) x) := rfl
  rw [e1, e2, u1_u1, u1_u1]
  unfold flW
  rw [rs_com _ (show 19 ≠ 18 by decide), rs_rs, rs_rs, h4, hac]
  rfl
set_option maxHeartbeats 4000000 in
set_option maxRecDepth 100000 in
theorem c_X5_follows {l : Launch} (hl : l.stackTraces = false) (Γ : fG) (B0 : Nat) (ad : Nat → Nat → Nat) (M : fR) (F : Nat → fO) (X : Nat × Nat → fO) (lf : Nat) (hlf : lf < M 4 0 0 * M 5 0 0) (hI : flI M) : f_Met l yX5_follows cX5_follows 16 none 0 0 0 0 Γ B0 [.ref (ad 30 0), .int (nI (lf))] (wj F X (mw Γ ad M)) (f_to (wj F X (mw Γ ad (flM M lf)))) f_no := by
  refine f_of hl (by decide) rfl (Nat.le_of_ble_eq_true rfl) (fun X9 C E hh hnm => ?_)
  generalize (f_s X9).heap = H, ([] : List Loc) = locs at hh ⊢
  obtain ⟨h3, h16, h2v, hrc16, hrc⟩ := id hI
  have h0p : 0 < 2 ^ M 3 0 0 := Nat.pow_pos (by decide)
  have h5 := (mul_pos_of hrc h0p).2
  have hp2 : 2 ^ M 3 0 0 ≤ 16 := Nat.pow_le_pow_right (n := 2) (by decide) (by omega : M 3 0 0 ≤ 4)
  have hrow : lf / M 5 0 0 < M 4 0 0 := (Nat.div_lt_iff_lt_mul h5).mpr hlf
  have hcol : lf % M 5 0 0 < M 5 0 0 := Nat.mod_lt _ h5
  have hl16 : lf < 16 := by omega
  refine r_iload_n C dX5_follows_0 rfl ?_
  refine r_aload_n C dX5_follows_1 rfl ?_
  refine g_X5_83 C hh dX5_follows_2 ?_
  refine r_idivN C dX5_follows_5 (by omega) (by omega) (by omega) ?_
  refine r_istore_n C dX5_follows_6 rfl rfl ?_
  refine r_iload_n C dX5_follows_7 rfl ?_
  refine r_aload_n C dX5_follows_8 rfl ?_
  refine g_X5_83 C hh dX5_follows_9 ?_
  refine r_iremN C dX5_follows_12 (by omega) (by omega) (by omega) ?_
  refine r_istore_n C dX5_follows_13 rfl rfl ?_
  refine r_aload_n C dX5_follows_14 rfl ?_
  refine g_X5_80 C hh dX5_follows_15 ?_
  refine r_istore C dX5_follows_18 rfl rfl ?_
  refine r_aload_n C dX5_follows_20 rfl ?_
  refine g_X5_83 C hh dX5_follows_21 ?_
  refine r_istore C dX5_follows_24 rfl rfl ?_
  refine r_iconst C (nI 0) dX5_follows_26 rfl ?_
  refine r_istore C dX5_follows_27 rfl rfl ?_
  refine r_aload_n C dX5_follows_29 rfl ?_
  refine g_X5_37 C hh dX5_follows_30 ?_
  refine r_iload_n C dX5_follows_33 rfl ?_
  refine r_iconst C (nI 0) dX5_follows_34 rfl ?_
  refine as_m_over C hh (by omega) dX5_follows_35 (fun H locs hh => ?_)
  refine r_aload_n C dX5_follows_36 rfl ?_
  refine g_X5_40 C hh dX5_follows_37 ?_
  refine r_iload_n C dX5_follows_40 rfl ?_
  refine r_iconst C (nI 0) dX5_follows_41 rfl ?_
  refine as_m_turned C hh (by omega) dX5_follows_42 (fun H locs hh => ?_)
  refine r_iconst C (nI 0) dX5_follows_43 rfl ?_
  refine r_istore C dX5_follows_44 rfl rfl ?_
  have lp46 : ∀ (d9 : Nat) (x : Nat) (H : Heap) (locs : List Loc), M 3 0 0 - x < d9 → x ≤ M 3 0 0 → f_HS Γ B0 (wj F X (mw Γ ad (flW M lf x))) X9 H locs → f_W X9 H locs 0 0 46 [some (.ref (ad 30 0)), some (.int (nI (lf))), some (.int (nI (rnF (kdM M) (M 4 0 0) (lf / M 5 0 0) x))), some (.int (nI (cnF (kdM M) (M 5 0 0) (lf % M 5 0 0) x))), some (.int (nI (rlF (kdM M) (M 4 0 0) x))), some (.int (nI (clF (kdM M) (M 5 0 0) x))), some (.int (nI (blF (kdM M) (M 4 0 0) (M 5 0 0) (lf / M 5 0 0) (lf % M 5 0 0) x))), some (.int (nI (x))), none, none, none, none, none, none, none, none] [] := by
    intro d9
    induction d9 with
    | zero => intro x H locs hd9 hl hh; exact absurd hd9 (Nat.not_lt_zero _)
    | succ d9 ih46 =>
      intro x H locs hd9 hl hh
      have hob := ob_lt h2v hrow hcol hrc16 x hl
      have hp1 : 2 ^ x ≤ 16 := Nat.pow_le_pow_right (n := 2) (by decide) (by omega : x ≤ 4)
      have htn := tnF_lt (kdM M) (M 4 0 0) (M 5 0 0) (lf / M 5 0 0) (lf % M 5 0 0) x
      refine r_iload C dX5_follows_46 rfl ?_
      refine r_aload_n C dX5_follows_48 rfl ?_
      refine g_X5_77 C hh dX5_follows_49 ?_
      rw [show flW M lf x 3 0 0 = M 3 0 0 from rfl]
      refine r_icmp_geN (tgt := 341) C dX5_follows_52 (by decide) (by omega) (by omega) (fun h52 => ?_) (fun h52 => ?_)
      · obtain rfl : x = M 3 0 0 := by omega
        refine r_aload_n C dX5_follows_341 rfl ?_
        refine g_X5_34 C hh dX5_follows_342 ?_
        refine r_iload_n C dX5_follows_345 rfl ?_
        refine r_aload_n C dX5_follows_346 rfl ?_
        refine g_X5_80 C hh dX5_follows_347 ?_
        rw [show flW M lf (M 3 0 0) 4 0 0 = M 4 0 0 from rfl]
        refine r_aload_n C dX5_follows_350 rfl ?_
        refine g_X5_83 C hh dX5_follows_351 ?_
        rw [show flW M lf (M 3 0 0) 5 0 0 = M 5 0 0 from rfl]
        refine r_imulN C dX5_follows_354 ?_
        refine r_iconst C (nI 1) dX5_follows_355 rfl ?_
        refine r_isubN C dX5_follows_356 (by omega) ?_
        refine r_iload C dX5_follows_357 rfl ?_
        refine r_isubN C dX5_follows_359 (by omega) ?_
        refine as_m_ahead C hh (by omega) dX5_follows_360 (fun H locs hh => ?_)
        exact r_vret C E hh dX5_follows_361 (by omega) (by omega) ⟨rfl, rfl⟩
      · have hk4 := h16 x
        have h22 := h2v x h52
        refine r_iconst C (nI 1) dX5_follows_55 rfl ?_
        refine r_iload C dX5_follows_56 rfl ?_
        refine r_ishlN C dX5_follows_58 (by omega) (by rw [Nat.one_mul]; omega) ?_
        rw [Nat.one_mul]
        refine r_istore C dX5_follows_59 rfl rfl ?_
        refine r_aload_n C dX5_follows_61 rfl ?_
        refine g_X5_31 C hh dX5_follows_62 ?_
        refine r_iload C dX5_follows_65 rfl ?_
        refine al_m_kind C hh (by omega) dX5_follows_67 ?_
        rw [show flW M lf x 16 x 0 = M 16 x 0 from rfl]
        have jn87 : ∀ (ac : Bool), ac = decide (M 16 x 0 < 2) → f_W X9 H locs 0 0 87 [some (.ref (ad 30 0)), some (.int (nI (lf))), some (.int (nI (rnF (kdM M) (M 4 0 0) (lf / M 5 0 0) x))), some (.int (nI (cnF (kdM M) (M 5 0 0) (lf % M 5 0 0) x))), some (.int (nI (rlF (kdM M) (M 4 0 0) x))), some (.int (nI (clF (kdM M) (M 5 0 0) x))), some (.int (nI (blF (kdM M) (M 4 0 0) (M 5 0 0) (lf / M 5 0 0) (lf % M 5 0 0) x))), some (.int (nI (x))), some (.int (nI (2 ^ x))), none, none, none, none, none, none, none] [.int (bI ac)] := by
          intro ac hac
          refine r_istore C dX5_follows_87 rfl rfl ?_
          refine r_iload C dX5_follows_89 rfl ?_
          have jn105 : ∀ (hf : Nat), hf = (if ac = true then clF (kdM M) (M 5 0 0) x / 2 else rlF (kdM M) (M 4 0 0) x / 2) → f_W X9 H locs 0 0 105 [some (.ref (ad 30 0)), some (.int (nI (lf))), some (.int (nI (rnF (kdM M) (M 4 0 0) (lf / M 5 0 0) x))), some (.int (nI (cnF (kdM M) (M 5 0 0) (lf % M 5 0 0) x))), some (.int (nI (rlF (kdM M) (M 4 0 0) x))), some (.int (nI (clF (kdM M) (M 5 0 0) x))), some (.int (nI (blF (kdM M) (M 4 0 0) (M 5 0 0) (lf / M 5 0 0) (lf % M 5 0 0) x))), some (.int (nI (x))), some (.int (nI (2 ^ x))), some (.int (bI ac)), none, none, none, none, none, none] [.int (nI (hf))] := by
            intro hf hhf
            refine r_istore C dX5_follows_105 rfl rfl ?_
            refine r_iload C dX5_follows_107 rfl ?_
            have jn117 : ∀ (av : Nat), av = (if ac = true then cnF (kdM M) (M 5 0 0) (lf % M 5 0 0) x else rnF (kdM M) (M 4 0 0) (lf / M 5 0 0) x) → f_W X9 H locs 0 0 117 [some (.ref (ad 30 0)), some (.int (nI (lf))), some (.int (nI (rnF (kdM M) (M 4 0 0) (lf / M 5 0 0) x))), some (.int (nI (cnF (kdM M) (M 5 0 0) (lf % M 5 0 0) x))), some (.int (nI (rlF (kdM M) (M 4 0 0) x))), some (.int (nI (clF (kdM M) (M 5 0 0) x))), some (.int (nI (blF (kdM M) (M 4 0 0) (M 5 0 0) (lf / M 5 0 0) (lf % M 5 0 0) x))), some (.int (nI (x))), some (.int (nI (2 ^ x))), some (.int (bI ac)), some (.int (nI (hf))), none, none, none, none, none] [.int (nI (av))] := by
              intro av hav
              have hav2 : av < 2 * hf := by
                rw [hav, hhf]
                by_cases hk : M 16 x 0 < 2
                · rw [show ac = true by rw [hac, decide_eq_true hk], if_pos rfl, if_pos rfl]
                  have a1 := h22.1 hk
                  have a2 : clF (kdM M) (M 5 0 0) (x + 1) = clF (kdM M) (M 5 0 0) x / 2 := if_pos hk
                  omega
                · rw [show ac = false by rw [hac, decide_eq_false hk], if_neg (by decide), if_neg (by decide)]
                  have a1 := h22.2 hk
                  have a2 : rlF (kdM M) (M 4 0 0) (x + 1) = rlF (kdM M) (M 4 0 0) x / 2 := if_neg hk
                  omega
              have hf16 : hf ≤ 16 := by
                rw [hhf]; split <;> omega
              refine r_istore C dX5_follows_117 rfl rfl ?_
              refine r_aload_n C dX5_follows_119 rfl ?_
              refine g_X5_31 C hh dX5_follows_120 ?_
              refine r_iload C dX5_follows_123 rfl ?_
              refine al_m_kind C hh (by omega) dX5_follows_125 ?_
              rw [show flW M lf x 16 x 0 = M 16 x 0 from rfl]
              have jn145 : ∀ (en : Bool), en = uS (M 16 x 0) → f_W X9 H locs 0 0 145 [some (.ref (ad 30 0)), some (.int (nI (lf))), some (.int (nI (rnF (kdM M) (M 4 0 0) (lf / M 5 0 0) x))), some (.int (nI (cnF (kdM M) (M 5 0 0) (lf % M 5 0 0) x))), some (.int (nI (rlF (kdM M) (M 4 0 0) x))), some (.int (nI (clF (kdM M) (M 5 0 0) x))), some (.int (nI (blF (kdM M) (M 4 0 0) (M 5 0 0) (lf / M 5 0 0) (lf % M 5 0 0) x))), some (.int (nI (x))), some (.int (nI (2 ^ x))), some (.int (bI ac)), some (.int (nI (hf))), some (.int (nI (av))), none, none, none, none] [.int (bI en)] := by
                intro en hen
                refine r_istore C dX5_follows_145 rfl rfl ?_
                refine r_iload C dX5_follows_147 rfl ?_
                have jn179 : ∀ (tr : Bool), tr = (en == decide (hf ≤ av)) → f_W X9 H locs 0 0 179 [some (.ref (ad 30 0)), some (.int (nI (lf))), some (.int (nI (rnF (kdM M) (M 4 0 0) (lf / M 5 0 0) x))), some (.int (nI (cnF (kdM M) (M 5 0 0) (lf % M 5 0 0) x))), some (.int (nI (rlF (kdM M) (M 4 0 0) x))), some (.int (nI (clF (kdM M) (M 5 0 0) x))), some (.int (nI (blF (kdM M) (M 4 0 0) (M 5 0 0) (lf / M 5 0 0) (lf % M 5 0 0) x))), some (.int (nI (x))), some (.int (nI (2 ^ x))), some (.int (bI ac)), some (.int (nI (hf))), some (.int (nI (av))), some (.int (bI en)), none, none, none] [.int (bI tr)] := by
                  intro tr htr
                  refine r_istore C dX5_follows_179 rfl rfl ?_
                  refine r_iload C dX5_follows_181 rfl ?_
                  have jn200 : ∀ (mi : Nat), mi = (if tr = true then 2 * hf - 1 - av else av) → f_W X9 H locs 0 0 200 [some (.ref (ad 30 0)), some (.int (nI (lf))), some (.int (nI (rnF (kdM M) (M 4 0 0) (lf / M 5 0 0) x))), some (.int (nI (cnF (kdM M) (M 5 0 0) (lf % M 5 0 0) x))), some (.int (nI (rlF (kdM M) (M 4 0 0) x))), some (.int (nI (clF (kdM M) (M 5 0 0) x))), some (.int (nI (blF (kdM M) (M 4 0 0) (M 5 0 0) (lf / M 5 0 0) (lf % M 5 0 0) x))), some (.int (nI (x))), some (.int (nI (2 ^ x))), some (.int (bI ac)), some (.int (nI (hf))), some (.int (nI (av))), some (.int (bI en)), some (.int (bI tr)), none, none] [.int (nI (mi))] := by
                    intro mi hmi
                    have hmi2 : en = false → hf ≤ mi := by
                      intro hz
                      rw [hmi]
                      by_cases q : hf ≤ av
                      · rw [show tr = false by rw [htr, hz, decide_eq_true q]; rfl, if_neg (by decide)]; exact q
                      · rw [show tr = true by rw [htr, hz, decide_eq_false q]; rfl, if_pos rfl]; omega
                    have hmi16 : mi ≤ 64 := by
                      rw [hmi]; split <;> omega
                    refine r_istore C dX5_follows_200 rfl rfl ?_
                    refine r_iload C dX5_follows_202 rfl ?_
                    have jn217 : ∀ (nx : Nat), nx = (if en = true then mi else mi - hf) → f_W X9 H locs 0 0 217 [some (.ref (ad 30 0)), some (.int (nI (lf))), some (.int (nI (rnF (kdM M) (M 4 0 0) (lf / M 5 0 0) x))), some (.int (nI (cnF (kdM M) (M 5 0 0) (lf % M 5 0 0) x))), some (.int (nI (rlF (kdM M) (M 4 0 0) x))), some (.int (nI (clF (kdM M) (M 5 0 0) x))), some (.int (nI (blF (kdM M) (M 4 0 0) (M 5 0 0) (lf / M 5 0 0) (lf % M 5 0 0) x))), some (.int (nI (x))), some (.int (nI (2 ^ x))), some (.int (bI ac)), some (.int (nI (hf))), some (.int (nI (av))), some (.int (bI en)), some (.int (bI tr)), some (.int (nI (mi))), none] [.int (nI (nx))] := by
                      intro nx hnx
                      refine r_istore C dX5_follows_217 rfl rfl ?_
                      refine r_iload C dX5_follows_219 rfl ?_
                      have jn230 : ∀ (c2 : Nat), c2 = (if ac = true then nx else cnF (kdM M) (M 5 0 0) (lf % M 5 0 0) x) → f_W X9 H locs 0 0 230 [some (.ref (ad 30 0)), some (.int (nI (lf))), some (.int (nI (rnF (kdM M) (M 4 0 0) (lf / M 5 0 0) x))), some (.int (nI (cnF (kdM M) (M 5 0 0) (lf % M 5 0 0) x))), some (.int (nI (rlF (kdM M) (M 4 0 0) x))), some (.int (nI (clF (kdM M) (M 5 0 0) x))), some (.int (nI (blF (kdM M) (M 4 0 0) (M 5 0 0) (lf / M 5 0 0) (lf % M 5 0 0) x))), some (.int (nI (x))), some (.int (nI (2 ^ x))), some (.int (bI ac)), some (.int (nI (hf))), some (.int (nI (av))), some (.int (bI en)), some (.int (bI tr)), some (.int (nI (mi))), some (.int (nI (nx)))] [.int (nI (c2))] := by
                        intro c2 hc2
                        refine r_istore_n C dX5_follows_230 rfl rfl ?_
                        refine r_iload C dX5_follows_231 rfl ?_
                        have jn242 : ∀ (r2 : Nat), r2 = (if ac = true then rnF (kdM M) (M 4 0 0) (lf / M 5 0 0) x else nx) → f_W X9 H locs 0 0 242 [some (.ref (ad 30 0)), some (.int (nI (lf))), some (.int (nI (rnF (kdM M) (M 4 0 0) (lf / M 5 0 0) x))), some (.int (nI (c2))), some (.int (nI (rlF (kdM M) (M 4 0 0) x))), some (.int (nI (clF (kdM M) (M 5 0 0) x))), some (.int (nI (blF (kdM M) (M 4 0 0) (M 5 0 0) (lf / M 5 0 0) (lf % M 5 0 0) x))), some (.int (nI (x))), some (.int (nI (2 ^ x))), some (.int (bI ac)), some (.int (nI (hf))), some (.int (nI (av))), some (.int (bI en)), some (.int (bI tr)), some (.int (nI (mi))), some (.int (nI (nx)))] [.int (nI (r2))] := by
                          intro r2 hr2
                          refine r_istore_n C dX5_follows_242 rfl rfl ?_
                          refine r_iload C dX5_follows_243 rfl ?_
                          have jn255 : ∀ (w2 : Nat), w2 = (if ac = true then hf else clF (kdM M) (M 5 0 0) x) → f_W X9 H locs 0 0 255 [some (.ref (ad 30 0)), some (.int (nI (lf))), some (.int (nI (r2))), some (.int (nI (c2))), some (.int (nI (rlF (kdM M) (M 4 0 0) x))), some (.int (nI (clF (kdM M) (M 5 0 0) x))), some (.int (nI (blF (kdM M) (M 4 0 0) (M 5 0 0) (lf / M 5 0 0) (lf % M 5 0 0) x))), some (.int (nI (x))), some (.int (nI (2 ^ x))), some (.int (bI ac)), some (.int (nI (hf))), some (.int (nI (av))), some (.int (bI en)), some (.int (bI tr)), some (.int (nI (mi))), some (.int (nI (nx)))] [.int (nI (w2))] := by
                            intro w2 hw2
                            refine r_istore C dX5_follows_255 rfl rfl ?_
                            refine r_iload C dX5_follows_257 rfl ?_
                            have jn269 : ∀ (g2 : Nat), g2 = (if ac = true then rlF (kdM M) (M 4 0 0) x else hf) → f_W X9 H locs 0 0 269 [some (.ref (ad 30 0)), some (.int (nI (lf))), some (.int (nI (r2))), some (.int (nI (c2))), some (.int (nI (rlF (kdM M) (M 4 0 0) x))), some (.int (nI (w2))), some (.int (nI (blF (kdM M) (M 4 0 0) (M 5 0 0) (lf / M 5 0 0) (lf % M 5 0 0) x))), some (.int (nI (x))), some (.int (nI (2 ^ x))), some (.int (bI ac)), some (.int (nI (hf))), some (.int (nI (av))), some (.int (bI en)), some (.int (bI tr)), some (.int (nI (mi))), some (.int (nI (nx)))] [.int (nI (g2))] := by
                              intro g2 hg2
                              refine r_istore C dX5_follows_269 rfl rfl ?_
                              refine r_iload C dX5_follows_271 rfl ?_
                              have jn290 : ∀ (b2 : Nat), b2 = (if tr = true then 2 * 2 ^ x - 1 - blF (kdM M) (M 4 0 0) (M 5 0 0) (lf / M 5 0 0) (lf % M 5 0 0) x else blF (kdM M) (M 4 0 0) (M 5 0 0) (lf / M 5 0 0) (lf % M 5 0 0) x) → f_W X9 H locs 0 0 290 [some (.ref (ad 30 0)), some (.int (nI (lf))), some (.int (nI (r2))), some (.int (nI (c2))), some (.int (nI (g2))), some (.int (nI (w2))), some (.int (nI (blF (kdM M) (M 4 0 0) (M 5 0 0) (lf / M 5 0 0) (lf % M 5 0 0) x))), some (.int (nI (x))), some (.int (nI (2 ^ x))), some (.int (bI ac)), some (.int (nI (hf))), some (.int (nI (av))), some (.int (bI en)), some (.int (bI tr)), some (.int (nI (mi))), some (.int (nI (nx)))] [.int (nI (b2))] := by
                                intro b2 hb2
                                refine r_istore C dX5_follows_290 rfl rfl ?_
                                refine r_aload_n C dX5_follows_292 rfl ?_
                                refine g_X5_37 C hh dX5_follows_293 ?_
                                refine r_iload_n C dX5_follows_296 rfl ?_
                                refine r_dup2 C dX5_follows_297 rfl rfl ?_
                                refine al_m_over C hh (by omega) dX5_follows_298 ?_
                                rw [show flW M lf x 18 lf 0 = upF (kdM M) (M 4 0 0) (M 5 0 0) (lf / M 5 0 0) (lf % M 5 0 0) x from u1_s _ _ _ _]
                                refine r_iload C dX5_follows_299 rfl ?_
                                have jn309 : ∀ (t9 : Nat), t9 = tr.toNat → f_W X9 H locs 0 0 309 [some (.ref (ad 30 0)), some (.int (nI (lf))), some (.int (nI (r2))), some (.int (nI (c2))), some (.int (nI (g2))), some (.int (nI (w2))), some (.int (nI (b2))), some (.int (nI (x))), some (.int (nI (2 ^ x))), some (.int (bI ac)), some (.int (nI (hf))), some (.int (nI (av))), some (.int (bI en)), some (.int (bI tr)), some (.int (nI (mi))), some (.int (nI (nx)))] [.int (nI (t9)), .int (nI (upF (kdM M) (M 4 0 0) (M 5 0 0) (lf / M 5 0 0) (lf % M 5 0 0) x)), .int (nI lf), .ref (ad 30 10)] := by
                                  intro t9 ht9
                                  refine r_ixorN C dX5_follows_309 ?_
                                  refine as_m_over C hh (by omega) dX5_follows_310 (fun H locs hh => ?_)
                                  refine r_aload_n C dX5_follows_311 rfl ?_
                                  refine g_X5_40 C hh dX5_follows_312 ?_
                                  refine r_iload_n C dX5_follows_315 rfl ?_
                                  refine r_dup2 C dX5_follows_316 rfl rfl ?_
                                  refine al_m_turned C hh (by omega) dX5_follows_317 ?_
                                  rw [show rs (flW M lf x) 18 (u1 (flW M lf x 18) lf (upF (kdM M) (M 4 0 0) (M 5 0 0) (lf / M 5 0 0) (lf % M 5 0 0) x ^^^ t9)) 19 lf 0 = tnF (kdM M) (M 4 0 0) (M 5 0 0) (lf / M 5 0 0) (lf % M 5 0 0) x from u1_s _ _ _ _]
                                  refine r_iload C dX5_follows_318 rfl ?_
                                  have jn333 : ∀ (s9 : Nat), s9 = (tr && !ac).toNat → f_W X9 H locs 0 0 333 [some (.ref (ad 30 0)), some (.int (nI (lf))), some (.int (nI (r2))), some (.int (nI (c2))), some (.int (nI (g2))), some (.int (nI (w2))), some (.int (nI (b2))), some (.int (nI (x))), some (.int (nI (2 ^ x))), some (.int (bI ac)), some (.int (nI (hf))), some (.int (nI (av))), some (.int (bI en)), some (.int (bI tr)), some (.int (nI (mi))), some (.int (nI (nx)))] [.int (nI (s9)), .int (nI (tnF (kdM M) (M 4 0 0) (M 5 0 0) (lf / M 5 0 0) (lf % M 5 0 0) x)), .int (nI lf), .ref (ad 30 11)] := by
                                    intro s9 hs9
                                    refine r_ixorN C dX5_follows_333 ?_
                                    refine as_m_turned C hh (by omega) dX5_follows_334 (fun H locs hh => ?_)
                                    refine r_iincN C dX5_follows_335 rfl rfl ?_
                                    refine r_goto (tgt := 46) C dX5_follows_338 (by decide) ?_
                                    obtain ⟨⟨q1, q2⟩, ⟨q3, q4⟩, q5, q6⟩ := fo_step (kd := kdM M) (r0 := M 4 0 0) (c0 := M 5 0 0) (r := lf / M 5 0 0) (c := lf % M 5 0 0) (x := x) hac hhf hav hen htr hmi hnx hc2 hr2 hw2 hg2 hb2
                                    replace hh : f_HS Γ B0 (wj F X (mw Γ ad (flW M lf (x + 1)))) X9 H locs := by
                                      rw [← flW_s M lf x t9 s9 q6 hac ht9 hs9 hob.2.2.2.1]
                                      exact hh
                                    have w9 := ih46 (x + 1) _ _ (by omega) (by omega) hh
                                    rw [← q1, ← q2, ← q3, ← q4, ← q5] at w9
                                    refine f_W.le ?_ w9
                                    exact (And.intro rfl (And.intro rfl (And.intro rfl (And.intro rfl (And.intro rfl (And.intro rfl (And.intro rfl (And.intro rfl trivial))))))))
                                  refine r_if_eqB (tgt := 332) C dX5_follows_320 (by decide) (fun h320 => ?_) (fun h320 => ?_)
                                  · have hv9 : 0 = (tr && !ac).toNat := by rw [h320]; rfl
                                    refine r_iconst C (nI 0) dX5_follows_332 rfl ?_
                                    exact jn333 _ hv9
                                  · refine r_iload C dX5_follows_323 rfl ?_
                                    refine r_if_neB (tgt := 332) C dX5_follows_325 (by decide) (fun h325 => ?_) (fun h325 => ?_)
                                    · have hv9 : 0 = (tr && !ac).toNat := by rw [h320, h325]; rfl
                                      refine r_iconst C (nI 0) dX5_follows_332 rfl ?_
                                      exact jn333 _ hv9
                                    · have hv9 : 1 = (tr && !ac).toNat := by rw [h320, h325]; rfl
                                      refine r_iconst C (nI 1) dX5_follows_328 rfl ?_
                                      refine r_goto (tgt := 333) C dX5_follows_329 (by decide) ?_
                                      exact jn333 _ hv9
                                refine r_if_eqB (tgt := 308) C dX5_follows_301 (by decide) (fun h301 => ?_) (fun h301 => ?_)
                                · have hv9 : 0 = tr.toNat := by rw [h301]; rfl
                                  refine r_iconst C (nI 0) dX5_follows_308 rfl ?_
                                  exact jn309 _ hv9
                                · have hv9 : 1 = tr.toNat := by rw [h301]; rfl
                                  refine r_iconst C (nI 1) dX5_follows_304 rfl ?_
                                  refine r_goto (tgt := 309) C dX5_follows_305 (by decide) ?_
                                  exact jn309 _ hv9
                              refine r_if_eqB (tgt := 288) C dX5_follows_273 (by decide) (fun h273 => ?_) (fun h273 => ?_)
                              · have hv9 : blF (kdM M) (M 4 0 0) (M 5 0 0) (lf / M 5 0 0) (lf % M 5 0 0) x = (if tr = true then 2 * 2 ^ x - 1 - blF (kdM M) (M 4 0 0) (M 5 0 0) (lf / M 5 0 0) (lf % M 5 0 0) x else blF (kdM M) (M 4 0 0) (M 5 0 0) (lf / M 5 0 0) (lf % M 5 0 0) x) := by rw [h273]; rfl
                                refine r_iload C dX5_follows_288 rfl ?_
                                exact jn290 _ hv9
                              · have hv9 : 2 * 2 ^ x - 1 - blF (kdM M) (M 4 0 0) (M 5 0 0) (lf / M 5 0 0) (lf % M 5 0 0) x = (if tr = true then 2 * 2 ^ x - 1 - blF (kdM M) (M 4 0 0) (M 5 0 0) (lf / M 5 0 0) (lf % M 5 0 0) x else blF (kdM M) (M 4 0 0) (M 5 0 0) (lf / M 5 0 0) (lf % M 5 0 0) x) := by rw [h273]; rfl
                                refine r_iconst C (nI 2) dX5_follows_276 rfl ?_
                                refine r_iload C dX5_follows_277 rfl ?_
                                refine r_imulN C dX5_follows_279 ?_
                                refine r_iconst C (nI 1) dX5_follows_280 rfl ?_
                                refine r_isubN C dX5_follows_281 (by omega) ?_
                                refine r_iload C dX5_follows_282 rfl ?_
                                refine r_isubN C dX5_follows_284 (by omega) ?_
                                refine r_goto (tgt := 290) C dX5_follows_285 (by decide) ?_
                                exact jn290 _ hv9
                            refine r_if_eqB (tgt := 267) C dX5_follows_259 (by decide) (fun h259 => ?_) (fun h259 => ?_)
                            · have hv9 : hf = (if ac = true then rlF (kdM M) (M 4 0 0) x else hf) := by rw [h259]; rfl
                              refine r_iload C dX5_follows_267 rfl ?_
                              exact jn269 _ hv9
                            · have hv9 : rlF (kdM M) (M 4 0 0) x = (if ac = true then rlF (kdM M) (M 4 0 0) x else hf) := by rw [h259]; rfl
                              refine r_iload C dX5_follows_262 rfl ?_
                              refine r_goto (tgt := 269) C dX5_follows_264 (by decide) ?_
                              exact jn269 _ hv9
                          refine r_if_eqB (tgt := 253) C dX5_follows_245 (by decide) (fun h245 => ?_) (fun h245 => ?_)
                          · have hv9 : clF (kdM M) (M 5 0 0) x = (if ac = true then hf else clF (kdM M) (M 5 0 0) x) := by rw [h245]; rfl
                            refine r_iload C dX5_follows_253 rfl ?_
                            exact jn255 _ hv9
                          · have hv9 : hf = (if ac = true then hf else clF (kdM M) (M 5 0 0) x) := by rw [h245]; rfl
                            refine r_iload C dX5_follows_248 rfl ?_
                            refine r_goto (tgt := 255) C dX5_follows_250 (by decide) ?_
                            exact jn255 _ hv9
                        refine r_if_eqB (tgt := 240) C dX5_follows_233 (by decide) (fun h233 => ?_) (fun h233 => ?_)
                        · have hv9 : nx = (if ac = true then rnF (kdM M) (M 4 0 0) (lf / M 5 0 0) x else nx) := by rw [h233]; rfl
                          refine r_iload C dX5_follows_240 rfl ?_
                          exact jn242 _ hv9
                        · have hv9 : rnF (kdM M) (M 4 0 0) (lf / M 5 0 0) x = (if ac = true then rnF (kdM M) (M 4 0 0) (lf / M 5 0 0) x else nx) := by rw [h233]; rfl
                          refine r_iload_n C dX5_follows_236 rfl ?_
                          refine r_goto (tgt := 242) C dX5_follows_237 (by decide) ?_
                          exact jn242 _ hv9
                      refine r_if_eqB (tgt := 229) C dX5_follows_221 (by decide) (fun h221 => ?_) (fun h221 => ?_)
                      · have hv9 : cnF (kdM M) (M 5 0 0) (lf % M 5 0 0) x = (if ac = true then nx else cnF (kdM M) (M 5 0 0) (lf % M 5 0 0) x) := by rw [h221]; rfl
                        refine r_iload_n C dX5_follows_229 rfl ?_
                        exact jn230 _ hv9
                      · have hv9 : nx = (if ac = true then nx else cnF (kdM M) (M 5 0 0) (lf % M 5 0 0) x) := by rw [h221]; rfl
                        refine r_iload C dX5_follows_224 rfl ?_
                        refine r_goto (tgt := 230) C dX5_follows_226 (by decide) ?_
                        exact jn230 _ hv9
                    refine r_if_eqB (tgt := 212) C dX5_follows_204 (by decide) (fun h204 => ?_) (fun h204 => ?_)
                    · have hv9 : mi - hf = (if en = true then mi else mi - hf) := by rw [h204]; rfl
                      have hmi3 := hmi2 h204
                      refine r_iload C dX5_follows_212 rfl ?_
                      refine r_iload C dX5_follows_214 rfl ?_
                      refine r_isubN C dX5_follows_216 (by omega) ?_
                      exact jn217 _ hv9
                    · have hv9 : mi = (if en = true then mi else mi - hf) := by rw [h204]; rfl
                      refine r_iload C dX5_follows_207 rfl ?_
                      refine r_goto (tgt := 217) C dX5_follows_209 (by decide) ?_
                      exact jn217 _ hv9
                  refine r_if_eqB (tgt := 198) C dX5_follows_183 (by decide) (fun h183 => ?_) (fun h183 => ?_)
                  · have hv9 : av = (if tr = true then 2 * hf - 1 - av else av) := by rw [h183]; rfl
                    refine r_iload C dX5_follows_198 rfl ?_
                    exact jn200 _ hv9
                  · have hv9 : 2 * hf - 1 - av = (if tr = true then 2 * hf - 1 - av else av) := by rw [h183]; rfl
                    refine r_iconst C (nI 2) dX5_follows_186 rfl ?_
                    refine r_iload C dX5_follows_187 rfl ?_
                    refine r_imulN C dX5_follows_189 ?_
                    refine r_iconst C (nI 1) dX5_follows_190 rfl ?_
                    refine r_isubN C dX5_follows_191 (by omega) ?_
                    refine r_iload C dX5_follows_192 rfl ?_
                    refine r_isubN C dX5_follows_194 (by omega) ?_
                    refine r_goto (tgt := 200) C dX5_follows_195 (by decide) ?_
                    exact jn200 _ hv9
                refine r_if_eqB (tgt := 167) C dX5_follows_149 (by decide) (fun h149 => ?_) (fun h149 => ?_)
                · refine r_iload C dX5_follows_167 rfl ?_
                  refine r_iload C dX5_follows_169 rfl ?_
                  refine r_icmp_geN (tgt := 178) C dX5_follows_171 (by decide) (by omega) (by omega) (fun h171 => ?_) (fun h171 => ?_)
                  · have hv9 : false = (en == decide (hf ≤ av)) := by rw [h149, decide_eq_true (by omega)]; rfl
                    refine r_iconst C (bI false) dX5_follows_178 rfl ?_
                    exact jn179 _ hv9
                  · have hv9 : true = (en == decide (hf ≤ av)) := by rw [h149, decide_eq_false (by omega)]; rfl
                    refine r_iconst C (bI true) dX5_follows_174 rfl ?_
                    refine r_goto (tgt := 179) C dX5_follows_175 (by decide) ?_
                    exact jn179 _ hv9
                · refine r_iload C dX5_follows_152 rfl ?_
                  refine r_iload C dX5_follows_154 rfl ?_
                  refine r_icmp_ltN (tgt := 163) C dX5_follows_156 (by decide) (by omega) (by omega) (fun h156 => ?_) (fun h156 => ?_)
                  · have hv9 : false = (en == decide (hf ≤ av)) := by rw [h149, decide_eq_false (by omega)]; rfl
                    refine r_iconst C (bI false) dX5_follows_163 rfl ?_
                    refine r_goto (tgt := 179) C dX5_follows_164 (by decide) ?_
                    exact jn179 _ hv9
                  · have hv9 : true = (en == decide (hf ≤ av)) := by rw [h149, decide_eq_true (by omega)]; rfl
                    refine r_iconst C (bI true) dX5_follows_159 rfl ?_
                    refine r_goto (tgt := 179) C dX5_follows_160 (by decide) ?_
                    exact jn179 _ hv9
              refine r_if_eqN (tgt := 140) C dX5_follows_126 (by decide) (by omega) (fun h126 => ?_) (fun h126 => ?_)
              · have hv9 : true = uS (M 16 x 0) := by exact (decide_eq_true (Or.inl h126)).symm
                refine r_iconst C (bI true) dX5_follows_140 rfl ?_
                refine r_goto (tgt := 145) C dX5_follows_141 (by decide) ?_
                exact jn145 _ hv9
              · refine r_aload_n C dX5_follows_129 rfl ?_
                refine g_X5_31 C hh dX5_follows_130 ?_
                refine r_iload C dX5_follows_133 rfl ?_
                refine al_m_kind C hh (by omega) dX5_follows_135 ?_
                rw [show flW M lf x 16 x 0 = M 16 x 0 from rfl]
                refine r_iconst C (nI 2) dX5_follows_136 rfl ?_
                refine r_icmp_neN (tgt := 144) C dX5_follows_137 (by decide) (by omega) (by omega) (fun h137 => ?_) (fun h137 => ?_)
                · have hv9 : false = uS (M 16 x 0) := by exact (decide_eq_false (by omega)).symm
                  refine r_iconst C (bI false) dX5_follows_144 rfl ?_
                  exact jn145 _ hv9
                · have hv9 : true = uS (M 16 x 0) := by exact (decide_eq_true (Or.inr h137)).symm
                  refine r_iconst C (bI true) dX5_follows_140 rfl ?_
                  refine r_goto (tgt := 145) C dX5_follows_141 (by decide) ?_
                  exact jn145 _ hv9
            refine r_if_eqB (tgt := 116) C dX5_follows_109 (by decide) (fun h109 => ?_) (fun h109 => ?_)
            · have hv9 : rnF (kdM M) (M 4 0 0) (lf / M 5 0 0) x = (if ac = true then cnF (kdM M) (M 5 0 0) (lf % M 5 0 0) x else rnF (kdM M) (M 4 0 0) (lf / M 5 0 0) x) := by rw [h109]; rfl
              refine r_iload_n C dX5_follows_116 rfl ?_
              exact jn117 _ hv9
            · have hv9 : cnF (kdM M) (M 5 0 0) (lf % M 5 0 0) x = (if ac = true then cnF (kdM M) (M 5 0 0) (lf % M 5 0 0) x else rnF (kdM M) (M 4 0 0) (lf / M 5 0 0) x) := by rw [h109]; rfl
              refine r_iload_n C dX5_follows_112 rfl ?_
              refine r_goto (tgt := 117) C dX5_follows_113 (by decide) ?_
              exact jn117 _ hv9
          refine r_if_eqB (tgt := 101) C dX5_follows_91 (by decide) (fun h91 => ?_) (fun h91 => ?_)
          · have hv9 : rlF (kdM M) (M 4 0 0) x / 2 = (if ac = true then clF (kdM M) (M 5 0 0) x / 2 else rlF (kdM M) (M 4 0 0) x / 2) := by rw [h91]; rfl
            refine r_iload C dX5_follows_101 rfl ?_
            refine r_iconst C (nI 2) dX5_follows_103 rfl ?_
            refine r_idivN C dX5_follows_104 (by omega) (by omega) (by omega) ?_
            exact jn105 _ hv9
          · have hv9 : clF (kdM M) (M 5 0 0) x / 2 = (if ac = true then clF (kdM M) (M 5 0 0) x / 2 else rlF (kdM M) (M 4 0 0) x / 2) := by rw [h91]; rfl
            refine r_iload C dX5_follows_94 rfl ?_
            refine r_iconst C (nI 2) dX5_follows_96 rfl ?_
            refine r_idivN C dX5_follows_97 (by omega) (by omega) (by omega) ?_
            refine r_goto (tgt := 105) C dX5_follows_98 (by decide) ?_
            exact jn105 _ hv9
        refine r_if_eqN (tgt := 82) C dX5_follows_68 (by decide) (by omega) (fun h68 => ?_) (fun h68 => ?_)
        · have hv9 : true = decide (M 16 x 0 < 2) := by exact (decide_eq_true (by omega)).symm
          refine r_iconst C (bI true) dX5_follows_82 rfl ?_
          refine r_goto (tgt := 87) C dX5_follows_83 (by decide) ?_
          exact jn87 _ hv9
        · refine r_aload_n C dX5_follows_71 rfl ?_
          refine g_X5_31 C hh dX5_follows_72 ?_
          refine r_iload C dX5_follows_75 rfl ?_
          refine al_m_kind C hh (by omega) dX5_follows_77 ?_
          rw [show flW M lf x 16 x 0 = M 16 x 0 from rfl]
          refine r_iconst C (nI 1) dX5_follows_78 rfl ?_
          refine r_icmp_neN (tgt := 86) C dX5_follows_79 (by decide) (by omega) (by omega) (fun h79 => ?_) (fun h79 => ?_)
          · have hv9 : false = decide (M 16 x 0 < 2) := by exact (decide_eq_false (by omega)).symm
            refine r_iconst C (bI false) dX5_follows_86 rfl ?_
            exact jn87 _ hv9
          · have hv9 : true = decide (M 16 x 0 < 2) := by exact (decide_eq_true (by omega)).symm
            refine r_iconst C (bI true) dX5_follows_82 rfl ?_
            refine r_goto (tgt := 87) C dX5_follows_83 (by decide) ?_
            exact jn87 _ hv9
  refine f_W.le ?_ (lp46 (M 3 0 0 + 1) 0 _ _ (by omega) (by omega) hh)
  exact (And.intro rfl (And.intro rfl (And.intro rfl (And.intro rfl (And.intro rfl (And.intro rfl (And.intro rfl (And.intro rfl trivial))))))))

