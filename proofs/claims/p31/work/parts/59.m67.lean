/-! ===== prints, further ===== -/
theorem okP_ca {P R : fR} {s m : Nat} {rb : Bool} (hrb : afo P R s = rb) : okP P R s m ↔ (rb && caB P R s m 8) = true := by
  unfold okP
  rw [Bool.and_eq_true, caB_ok, hrb]
/-- the wear that is due -/
def duN (P R : fR) (s m : Nat) (cn : Bool) (k : Nat) : Nat := if cn = true ∧ nnx P R s k ≠ 0 then wrx P R s k + m else wrx P R s k
theorem due_t {P R R9 : fR} (hX : XI R) (h17 : ∀ t, t < 128 → R 8 t 0 ≠ 0 → 1 ≤ R 17 t 0) {s m k : Nat} (hs : s < 16) (hk : k < 8) (h1 : 1 ≤ m) (hm : m ≤ 500) (hj : jp P (rs R9 5 (R 5)) R s m 8) (hok : okP P R s m) : iM (wrx P R9 s k) = if iM (duN P R s m true k) = nI 1000 then -1 else iM (duN P R s m true k) := by
  have hl := wrx_lt (P := P) hX (s := s) (y := k)
  have hw := wrx_print h17 hs hk hj hok
  have ho := hok.2 k hk
  rw [ls_wrx hk] at ho
  by_cases z : nnx P R s k = 0
  · have hd : duN P R s m true k = wrx P R s k := if_neg (fun u => u.2 z)
    rw [hw, if_pos z, hd, if_neg (fun u => by rw [iM_1000 (by omega)] at u; omega)]
  · have hd : duN P R s m true k = wrx P R s k + m := if_pos ⟨rfl, z⟩
    rw [decide_eq_false z, Bool.false_or, Bool.and_eq_true, decide_eq_true_iff, decide_eq_true_iff] at ho
    have h0 := ho.1
    rw [hw, if_neg z, hd]
    by_cases w : wrx P R s k - 1 + m = 1000
    · rw [if_pos w, if_pos ((iM_1000 (by omega)).mpr (by omega))]; rfl
    · rw [if_neg w, if_neg (fun u => by rw [iM_1000 (by omega)] at u; omega)]
theorem due_f {P R : fR} (hX : XI R) {s m k : Nat} : iM (wrx P R s k) = if iM (duN P R s m false k) = nI 1000 then -1 else iM (duN P R s m false k) := by
  have hl := wrx_lt (P := P) hX (s := s) (y := k)
  have hd : duN P R s m false k = wrx P R s k := if_neg (fun u => absurd u.1 (by decide))
  rw [hd, if_neg (fun u => by rw [iM_1000 (by omega)] at u; omega)]
theorem du_add {P R : fR} {s m k : Nat} (hs : wrx P R s k ≠ 0) : iM (wrx P R s k) + nI m = iM (wrx P R s k + m) := by
  rw [iM_add hs, iM_pos (by omega)]
  congr 1; omega
set_option maxHeartbeats 4000000 in
set_option maxRecDepth 100000 in
theorem s_pri609t {X9 : fX} {Γ : fG} {B0 : Nat} {ad : Nat → Nat → Nat} {P R0 R M : fR} {n : Nat} (h : RZ (n + 1) P R M) (hn : n ≤ 150) (x y : Int32) {s cp : Nat} (hs : s < shc P R) (hs16 : s < 16) (hw : M 6 0 0 ≠ 0) {nd : Nat} (hnd : ∀ y, y < 8 → tb nd y = decide (nnx P R0 s y ≠ 0)) (hnd2 : nd < 256) (h5 : ∀ y, y < 8 → M 5 y 0 = wrx P R0 s y) (hX0 : XI R0) (hcp : 1 ≤ cp ∧ cp ≤ 500) (hdu : ∀ k, k < 8 → iM (wrx P R s k) = if iM (duN P R0 s cp true k) = nI 1000 then -1 else iM (duN P R0 s cp true k)) (hne : ∀ k, k < 8 → nnx P R0 s k ≠ 0 → wrx P R0 s k ≠ 0) {H : Heap} {locs : List Loc} (C : f_C X9 Γ B0 RL cL_prints 17 9 140 1000 177) (E : f_E X9 Γ B0 (some .boolean) 140 1000 (f_rI (fun r9 w9 => r9 = bI true ∧ ACT Γ ad n w9)) f_no) (hh : f_HS Γ B0 (wj (fw Γ ad P) (xw Γ ad R) (mw Γ ad M)) X9 H locs) : f_W X9 H locs 93 560 609 [some (.ref (ad 1 0)), some (.ref (ad 30 1)), some (.ref (ad 30 2)), some (.ref (ad 30 3)), some (.ref (ad 30 4)), some (.int x), some (.int y), some (.int (nI (s))), none, some (.int (nI (cp))), some (.int (nI (nd))), none, some (.int (bI (true))), some (.ref (M 6 0 0 - 1)), some (.int (bI (true))), none, none] [] := by
  have hF := rl_fi h
  have hI := rl_xi h
  have hL := rl_li h
  have h64 := rl_64 h
  have h24 := rl_24 h
  have e0 := rl_0 h
  have hsh := FI_sh (R := R) hF h64
  have esh := rl_sh h
  have hs6 := shL_6 hL
  have e41 := h.2.1.1
  obtain ⟨l1, l2, l3, l40, l41, l42, ⟨l43, l43h⟩, l44, l45⟩ := id hL
  refine r_iconst C (nI 0) dL_prints_609 rfl ?_
  refine r_istore C dL_prints_610 rfl rfl ?_
  have lp612 : ∀ (d9 : Nat) (k : Nat) (Rk : fR) (H : Heap) (locs : List Loc), 8 - k < d9 → k ≤ 8 → jk Rk R → XI Rk → f_HS Γ B0 (wj (fw Γ ad P) (xw Γ ad Rk) (mw Γ ad M)) X9 H locs → f_W X9 H locs (93 + 3 * k) (560 + 18 * k) 612 [some (.ref (ad 1 0)), some (.ref (ad 30 1)), some (.ref (ad 30 2)), some (.ref (ad 30 3)), some (.ref (ad 30 4)), some (.int x), some (.int y), some (.int (nI (s))), none, some (.int (nI (cp))), some (.int (nI (nd))), none, some (.int (bI (true))), some (.ref (M 6 0 0 - 1)), some (.int (bI (true))), some (.int (nI (k))), none] [] := by
    intro d9
    induction d9 with
    | zero => intro k Rk H locs hd9 hk9 hj hXk hh; exact absurd hd9 (Nat.not_lt_zero _)
    | succ d9 ih612 =>
      intro k Rk H locs hd9 hk9 hj hXk hh
      have hwl := wrx_lt (P := P) hX0 (s := s) (y := k)
      refine r_iload C dL_prints_612 rfl ?_
      refine r_bipush C (nI 8) dL_prints_614 rfl ?_
      refine r_icmp_geN (tgt := 702) C dL_prints_616 (by decide) (by omega) (by omega) (fun h616 => ?_) (fun h616 => ?_)
      · have hz := RZ_jk h hj hXk
        refine r_iload C dL_prints_702 rfl ?_
        exact r_zret C E hh dL_prints_704 (by omega) (by omega) ⟨_, rfl, rfl, ad, P, Rk, M, hz, rfl, fun _ => rfl, rfl⟩
      · refine r_iload C dL_prints_619 rfl ?_
        have jn651 : ∀ (v : Int32), v = iM (duN P R0 s cp true k) → f_W X9 H locs (93 + 3 * k) (560 + 18 * k) 651 [some (.ref (ad 1 0)), some (.ref (ad 30 1)), some (.ref (ad 30 2)), some (.ref (ad 30 3)), some (.ref (ad 30 4)), some (.int x), some (.int y), some (.int (nI (s))), none, some (.int (nI (cp))), some (.int (nI (nd))), none, some (.int (bI (true))), some (.ref (M 6 0 0 - 1)), some (.int (bI (true))), some (.int (nI (k))), none] [.int v] := by
          intro v hS
          subst hS
          refine r_istore C dL_prints_651 rfl rfl ?_
          refine r_iload C dL_prints_653 rfl ?_
          refine r_if_eqB (tgt := 693) C dL_prints_655 (by decide) (fun h655 => ?_) (fun h655 => ?_)
          · exact absurd h655 (by decide)
          · refine r_aload_n C dL_prints_658 rfl ?_
            refine r_iload C dL_prints_659 rfl ?_
            refine r_iload C dL_prints_661 rfl ?_
            refine r_iconst C (nI 4) dL_prints_663 rfl ?_
            refine r_idivN C dL_prints_664 (by omega) (by omega) (by omega) ?_
            refine r_iload C dL_prints_665 rfl ?_
            refine r_iconst C (nI 4) dL_prints_667 rfl ?_
            refine r_iremN C dL_prints_668 (by omega) (by omega) (by omega) ?_
            refine r_callSW C hh (L_wear_k E.2.1 Γ B0 ad _ hF hj hXk hs (by omega)) lw_L_189 rfl rfl (Nat.le_of_ble_eq_true rfl) dL_prints_669 ⟨by decide, by decide⟩ ⟨by omega, by omega⟩ (kk_rI (fun r9 w9 H locs hs9 hp9 hh => ?_))
            obtain ⟨rfl, R', hq, rfl⟩ := hp9
            rw [hdu k (by omega)]
            refine r_iload C dL_prints_672 rfl ?_
            refine r_sipush C (nI 1000) dL_prints_674 rfl ?_
            refine r_icmp_ne (tgt := 684) C dL_prints_677 (by decide) (fun h677 => ?_) (fun h677 => ?_)
            · refine r_iload C dL_prints_684 rfl ?_
              refine r_icmp_ne (tgt := 693) C dL_prints_686 (by decide) (fun h686 => ?_) (fun h686 => ?_)
              · first | exact absurd (if_neg h677) h686 | exact absurd (if_pos h677) h686
              · refine r_iconst C (bI true) dL_prints_689 rfl ?_
                refine r_goto (tgt := 694) C dL_prints_690 (by decide) ?_
                refine r_istore C dL_prints_694 rfl rfl ?_
                refine r_iincN C dL_prints_696 rfl rfl ?_
                refine r_goto (tgt := 612) C dL_prints_699 (by decide) ?_
                refine f_W.le ?_ (ih612 (k + 1) R' _ _ (by omega) (by omega) hq.1 hq.2 hh)
                exact (And.intro rfl (And.intro rfl (And.intro rfl (And.intro rfl (And.intro rfl (And.intro rfl (And.intro rfl (And.intro rfl (And.intro rfl (And.intro rfl (And.intro rfl (And.intro rfl (And.intro rfl (And.intro rfl trivial))))))))))))))
            · refine r_iconst C (-1) dL_prints_680 rfl ?_
              refine r_goto (tgt := 686) C dL_prints_681 (by decide) ?_
              refine r_icmp_ne (tgt := 693) C dL_prints_686 (by decide) (fun h686 => ?_) (fun h686 => ?_)
              · first | exact absurd (if_neg h677) h686 | exact absurd (if_pos h677) h686
              · refine r_iconst C (bI true) dL_prints_689 rfl ?_
                refine r_goto (tgt := 694) C dL_prints_690 (by decide) ?_
                refine r_istore C dL_prints_694 rfl rfl ?_
                refine r_iincN C dL_prints_696 rfl rfl ?_
                refine r_goto (tgt := 612) C dL_prints_699 (by decide) ?_
                refine f_W.le ?_ (ih612 (k + 1) R' _ _ (by omega) (by omega) hq.1 hq.2 hh)
                exact (And.intro rfl (And.intro rfl (And.intro rfl (And.intro rfl (And.intro rfl (And.intro rfl (And.intro rfl (And.intro rfl (And.intro rfl (And.intro rfl (And.intro rfl (And.intro rfl (And.intro rfl (And.intro rfl trivial))))))))))))))
        refine r_if_eqB (tgt := 646) C dL_prints_621 (by decide) (fun h621 => ?_) (fun h621 => ?_)
        · exact absurd h621 (by decide)
        · refine r_iload C dL_prints_624 rfl ?_
          refine r_iload C dL_prints_626 rfl ?_
          refine r_ishrN C dL_prints_628 (by omega) (by omega) ?_
          refine r_iconst C (nI 1) dL_prints_629 rfl ?_
          refine r_iandN C dL_prints_630 ?_
          refine r_iconst C (nI 1) dL_prints_631 rfl ?_
          refine r_icmp_neN (tgt := 646) C dL_prints_632 (by decide) (Nat.lt_of_le_of_lt Nat.and_le_right (by decide)) (by omega) (fun h632 => ?_) (fun h632 => ?_)
          · refine r_aload C dL_prints_646 rfl ?_
            refine r_iload C dL_prints_648 rfl ?_
            refine al_worn C hh hw (by omega) dL_prints_650 ?_
            rw [h5 k (by omega)]
            first
            | exact jn651 _ (by unfold duN; rw [if_neg (fun u => absurd u.1 (by decide))])
            | exact jn651 _ (by
                have h1 : nnx P R0 s k ≠ 0 := by
                  have h9 := (pk_and1 nd k).1.mp h632
                  rw [hnd k (by omega), decide_eq_true_iff] at h9; exact h9
                unfold duN; rw [if_pos ⟨rfl, h1⟩]; exact du_add (hne k (by omega) h1))
            | exact jn651 _ (by
                have h1 : ¬ nnx P R0 s k ≠ 0 := fun u => h632 ((pk_and1 nd k).1.mpr (by rw [hnd k (by omega)]; exact decide_eq_true u))
                unfold duN; rw [if_neg (fun u => h1 u.2)])
          · refine r_aload C dL_prints_635 rfl ?_
            refine r_iload C dL_prints_637 rfl ?_
            refine al_worn C hh hw (by omega) dL_prints_639 ?_
            rw [h5 k (by omega)]
            refine r_iload C dL_prints_640 rfl ?_
            refine r_iadd C dL_prints_642 ?_
            refine r_goto (tgt := 651) C dL_prints_643 (by decide) ?_
            first
            | exact jn651 _ (by unfold duN; rw [if_neg (fun u => absurd u.1 (by decide))])
            | exact jn651 _ (by
                have h1 : nnx P R0 s k ≠ 0 := by
                  have h9 := (pk_and1 nd k).1.mp h632
                  rw [hnd k (by omega), decide_eq_true_iff] at h9; exact h9
                unfold duN; rw [if_pos ⟨rfl, h1⟩]; exact du_add (hne k (by omega) h1))
            | exact jn651 _ (by
                have h1 : ¬ nnx P R0 s k ≠ 0 := fun u => h632 ((pk_and1 nd k).1.mpr (by rw [hnd k (by omega)]; exact decide_eq_true u))
                unfold duN; rw [if_neg (fun u => h1 u.2)])
  refine f_W.le ?_ (lp612 9 0 R _ _ (by omega) (by omega) (fun _ _ _ => rfl) hI hh)
  exact (And.intro rfl (And.intro rfl (And.intro rfl (And.intro rfl (And.intro rfl (And.intro rfl (And.intro rfl (And.intro rfl (And.intro rfl (And.intro rfl (And.intro rfl (And.intro rfl (And.intro rfl (And.intro rfl trivial))))))))))))))

set_option maxHeartbeats 4000000 in
set_option maxRecDepth 100000 in
theorem s_pri609f {X9 : fX} {Γ : fG} {B0 : Nat} {ad : Nat → Nat → Nat} {P R0 R M : fR} {n : Nat} (h : RZ (n + 1) P R M) (hn : n ≤ 150) (x y : Int32) {s cp : Nat} (hs : s < shc P R) (hs16 : s < 16) (hw : M 6 0 0 ≠ 0) {nd : Nat} (hnd : ∀ y, y < 8 → tb nd y = decide (nnx P R0 s y ≠ 0)) (hnd2 : nd < 256) (h5 : ∀ y, y < 8 → M 5 y 0 = wrx P R0 s y) (hX0 : XI R0) (hcp : 1 ≤ cp ∧ cp ≤ 500) (hdu : ∀ k, k < 8 → iM (wrx P R s k) = if iM (duN P R0 s cp false k) = nI 1000 then -1 else iM (duN P R0 s cp false k)) {H : Heap} {locs : List Loc} (C : f_C X9 Γ B0 RL cL_prints 17 9 140 1000 177) (E : f_E X9 Γ B0 (some .boolean) 140 1000 (f_rI (fun r9 w9 => r9 = bI true ∧ ACT Γ ad n w9)) f_no) (hh : f_HS Γ B0 (wj (fw Γ ad P) (xw Γ ad R) (mw Γ ad M)) X9 H locs) : f_W X9 H locs 93 560 609 [some (.ref (ad 1 0)), some (.ref (ad 30 1)), some (.ref (ad 30 2)), some (.ref (ad 30 3)), some (.ref (ad 30 4)), some (.int x), some (.int y), some (.int (nI (s))), none, some (.int (nI (cp))), some (.int (nI (nd))), none, some (.int (bI (false))), some (.ref (M 6 0 0 - 1)), some (.int (bI (true))), none, none] [] := by
  have hF := rl_fi h
  have hI := rl_xi h
  have hL := rl_li h
  have h64 := rl_64 h
  have h24 := rl_24 h
  have e0 := rl_0 h
  have hsh := FI_sh (R := R) hF h64
  have esh := rl_sh h
  have hs6 := shL_6 hL
  have e41 := h.2.1.1
  obtain ⟨l1, l2, l3, l40, l41, l42, ⟨l43, l43h⟩, l44, l45⟩ := id hL
  refine r_iconst C (nI 0) dL_prints_609 rfl ?_
  refine r_istore C dL_prints_610 rfl rfl ?_
  have lp612 : ∀ (d9 : Nat) (k : Nat) (Rk : fR) (H : Heap) (locs : List Loc), 8 - k < d9 → k ≤ 8 → jk Rk R → XI Rk → f_HS Γ B0 (wj (fw Γ ad P) (xw Γ ad Rk) (mw Γ ad M)) X9 H locs → f_W X9 H locs (93 + 3 * k) (560 + 18 * k) 612 [some (.ref (ad 1 0)), some (.ref (ad 30 1)), some (.ref (ad 30 2)), some (.ref (ad 30 3)), some (.ref (ad 30 4)), some (.int x), some (.int y), some (.int (nI (s))), none, some (.int (nI (cp))), some (.int (nI (nd))), none, some (.int (bI (false))), some (.ref (M 6 0 0 - 1)), some (.int (bI (true))), some (.int (nI (k))), none] [] := by
    intro d9
    induction d9 with
    | zero => intro k Rk H locs hd9 hk9 hj hXk hh; exact absurd hd9 (Nat.not_lt_zero _)
    | succ d9 ih612 =>
      intro k Rk H locs hd9 hk9 hj hXk hh
      have hwl := wrx_lt (P := P) hX0 (s := s) (y := k)
      refine r_iload C dL_prints_612 rfl ?_
      refine r_bipush C (nI 8) dL_prints_614 rfl ?_
      refine r_icmp_geN (tgt := 702) C dL_prints_616 (by decide) (by omega) (by omega) (fun h616 => ?_) (fun h616 => ?_)
      · have hz := RZ_jk h hj hXk
        refine r_iload C dL_prints_702 rfl ?_
        exact r_zret C E hh dL_prints_704 (by omega) (by omega) ⟨_, rfl, rfl, ad, P, Rk, M, hz, rfl, fun _ => rfl, rfl⟩
      · refine r_iload C dL_prints_619 rfl ?_
        have jn651 : ∀ (v : Int32), v = iM (duN P R0 s cp false k) → f_W X9 H locs (93 + 3 * k) (560 + 18 * k) 651 [some (.ref (ad 1 0)), some (.ref (ad 30 1)), some (.ref (ad 30 2)), some (.ref (ad 30 3)), some (.ref (ad 30 4)), some (.int x), some (.int y), some (.int (nI (s))), none, some (.int (nI (cp))), some (.int (nI (nd))), none, some (.int (bI (false))), some (.ref (M 6 0 0 - 1)), some (.int (bI (true))), some (.int (nI (k))), none] [.int v] := by
          intro v hS
          subst hS
          refine r_istore C dL_prints_651 rfl rfl ?_
          refine r_iload C dL_prints_653 rfl ?_
          refine r_if_eqB (tgt := 693) C dL_prints_655 (by decide) (fun h655 => ?_) (fun h655 => ?_)
          · exact absurd h655 (by decide)
          · refine r_aload_n C dL_prints_658 rfl ?_
            refine r_iload C dL_prints_659 rfl ?_
            refine r_iload C dL_prints_661 rfl ?_
            refine r_iconst C (nI 4) dL_prints_663 rfl ?_
            refine r_idivN C dL_prints_664 (by omega) (by omega) (by omega) ?_
            refine r_iload C dL_prints_665 rfl ?_
            refine r_iconst C (nI 4) dL_prints_667 rfl ?_
            refine r_iremN C dL_prints_668 (by omega) (by omega) (by omega) ?_
            refine r_callSW C hh (L_wear_k E.2.1 Γ B0 ad _ hF hj hXk hs (by omega)) lw_L_189 rfl rfl (Nat.le_of_ble_eq_true rfl) dL_prints_669 ⟨by decide, by decide⟩ ⟨by omega, by omega⟩ (kk_rI (fun r9 w9 H locs hs9 hp9 hh => ?_))
            obtain ⟨rfl, R', hq, rfl⟩ := hp9
            rw [hdu k (by omega)]
            refine r_iload C dL_prints_672 rfl ?_
            refine r_sipush C (nI 1000) dL_prints_674 rfl ?_
            refine r_icmp_ne (tgt := 684) C dL_prints_677 (by decide) (fun h677 => ?_) (fun h677 => ?_)
            · refine r_iload C dL_prints_684 rfl ?_
              refine r_icmp_ne (tgt := 693) C dL_prints_686 (by decide) (fun h686 => ?_) (fun h686 => ?_)
              · first | exact absurd (if_neg h677) h686 | exact absurd (if_pos h677) h686
              · refine r_iconst C (bI true) dL_prints_689 rfl ?_
                refine r_goto (tgt := 694) C dL_prints_690 (by decide) ?_
                refine r_istore C dL_prints_694 rfl rfl ?_
                refine r_iincN C dL_prints_696 rfl rfl ?_
                refine r_goto (tgt := 612) C dL_prints_699 (by decide) ?_
                refine f_W.le ?_ (ih612 (k + 1) R' _ _ (by omega) (by omega) hq.1 hq.2 hh)
                exact (And.intro rfl (And.intro rfl (And.intro rfl (And.intro rfl (And.intro rfl (And.intro rfl (And.intro rfl (And.intro rfl (And.intro rfl (And.intro rfl (And.intro rfl (And.intro rfl (And.intro rfl (And.intro rfl trivial))))))))))))))
            · refine r_iconst C (-1) dL_prints_680 rfl ?_
              refine r_goto (tgt := 686) C dL_prints_681 (by decide) ?_
              refine r_icmp_ne (tgt := 693) C dL_prints_686 (by decide) (fun h686 => ?_) (fun h686 => ?_)
              · first | exact absurd (if_neg h677) h686 | exact absurd (if_pos h677) h686
              · refine r_iconst C (bI true) dL_prints_689 rfl ?_
                refine r_goto (tgt := 694) C dL_prints_690 (by decide) ?_
                refine r_istore C dL_prints_694 rfl rfl ?_
                refine r_iincN C dL_prints_696 rfl rfl ?_
                refine r_goto (tgt := 612) C dL_prints_699 (by decide) ?_
                refine f_W.le ?_ (ih612 (k + 1) R' _ _ (by omega) (by omega) hq.1 hq.2 hh)
                exact (And.intro rfl (And.intro rfl (And.intro rfl (And.intro rfl (And.intro rfl (And.intro rfl (And.intro rfl (And.intro rfl (And.intro rfl (And.intro rfl (And.intro rfl (And.intro rfl (And.intro rfl (And.intro rfl trivial))))))))))))))
        refine r_if_eqB (tgt := 646) C dL_prints_621 (by decide) (fun h621 => ?_) (fun h621 => ?_)
        · refine r_aload C dL_prints_646 rfl ?_
          refine r_iload C dL_prints_648 rfl ?_
          refine al_worn C hh hw (by omega) dL_prints_650 ?_
          rw [h5 k (by omega)]
          exact jn651 _ (by unfold duN; rw [if_neg (fun u => absurd u.1 (by decide))])
        · exact absurd h621 (by decide)
  refine f_W.le ?_ (lp612 9 0 R _ _ (by omega) (by omega) (fun _ _ _ => rfl) hI hh)
  exact (And.intro rfl (And.intro rfl (And.intro rfl (And.intro rfl (And.intro rfl (And.intro rfl (And.intro rfl (And.intro rfl (And.intro rfl (And.intro rfl (And.intro rfl (And.intro rfl (And.intro rfl (And.intro rfl trivial))))))))))))))

set_option maxHeartbeats 4000000 in
set_option maxRecDepth 100000 in
theorem s_pri518t {X9 : fX} {Γ : fG} {B0 : Nat} {ad : Nat → Nat → Nat} {P R M : fR} {n : Nat} (h : RZ n P R M) (hn : n ≤ 150) (x y : Int32) {s cp : Nat} (hs : s < shc P R) (hcp : 1 ≤ cp ∧ cp ≤ 500) (hw : M 6 0 0 ≠ 0) (hok : okP P R s cp) {nd : Nat} (hnd : ∀ y, y < 8 → tb nd y = decide (nnx P R s y ≠ 0)) (hnd2 : nd < 256) (h5 : ∀ y, y < 8 → M 5 y 0 = wrx P R s y) {H : Heap} {locs : List Loc} (C : f_C X9 Γ B0 RL cL_prints 17 9 140 1000 177) (E : f_E X9 Γ B0 (some .boolean) 140 1000 (f_rI (fun r9 w9 => r9 = bI true ∧ ACT Γ ad n w9)) f_no) (hh : f_HS Γ B0 (wj (fw Γ ad P) (xw Γ ad R) (mw Γ ad M)) X9 H locs) : f_W X9 H locs 49 296 518 [some (.ref (ad 1 0)), some (.ref (ad 30 1)), some (.ref (ad 30 2)), some (.ref (ad 30 3)), some (.ref (ad 30 4)), some (.int x), some (.int y), some (.int (nI (s))), none, some (.int (nI (cp))), some (.int (nI (nd))), none, some (.int (bI (true))), some (.ref (M 6 0 0 - 1)), none, none, none] [] := by
  have hF := rl_fi h
  have hI := rl_xi h
  have hL := rl_li h
  have h64 := rl_64 h
  have h24 := rl_24 h
  have e0 := rl_0 h
  have hsh := FI_sh (R := R) hF h64
  have esh := rl_sh h
  have hs6 := shL_6 hL
  have e41 := h.2.1.1
  obtain ⟨l1, l2, l3, l40, l41, l42, ⟨l43, l43h⟩, l44, l45⟩ := id hL
  have hpg := FI_pg hF
  have hw2 := rl_w h
  have h17 := rl_17 h
  have hs16 : s < 16 := by omega
  have hs6' : s < 6 := by omega
  have hb := rl_b h
  refine r_aload C dL_prints_518 rfl ?_
  refine r_iconst C (nI 5) dL_prints_520 rfl ?_
  refine r_dup2 C dL_prints_521 rfl rfl ?_
  refine al_m_g C hh (by omega) dL_prints_522 ?_
  refine r_iload C dL_prints_523 rfl ?_
  refine r_if_eqB (tgt := 533) C dL_prints_525 (by decide) (fun h525 => ?_) (fun h525 => ?_)
  · exact absurd h525 (by decide)
  · refine r_iload C dL_prints_528 rfl ?_
    refine r_goto (tgt := 534) C dL_prints_530 (by decide) ?_
    refine r_iaddN C dL_prints_534 ?_
    refine as_m_g C hh (by omega) dL_prints_535 (fun H locs hh => ?_)
    replace hh : f_HS Γ B0 (wj (fw Γ ad P) (xw Γ ad (R)) (mw Γ ad (rs M 4 (u1 (M 4) 5 (M 4 5 0 + cp))))) X9 H locs := hs_mw hh (fun _ => rfl) (fun _ => rfl) (fun _ => rfl) (fun _ => rfl) (fun _ => rfl) rfl
    have hL44 := hL.2.2.2.2.2.2.2.2
    refine r_aload_n C dL_prints_536 rfl ?_
    refine r_iload C dL_prints_537 rfl ?_
    refine r_iload C dL_prints_539 rfl ?_
    refine r_callSW C hh (L_print_k E.2.1 Γ B0 ad _ hF hI (by omega) hs hcp.1 hcp.2 hok) lw_L_187 rfl rfl (Nat.le_of_ble_eq_true rfl) dL_prints_541 ⟨by decide, by decide⟩ ⟨by omega, by omega⟩ (kk_rI (fun r9 w9 H locs hs9 hp9 hh => ?_))
    obtain ⟨rfl, R9, ⟨hq1, hq2, hq3⟩, rfl⟩ := hp9
    have h' : RZ (n + 1) P R9 (rs M 4 (u1 (M 4) 5 (M 4 5 0 + cp))) := RZ_print h hn hcp.2 hq1 hq2 hq3 (fun k hk => rs_ne _ _ hk) (fun i hi => if_neg hi) (by simp [rs, u1])
    have hg5 : R 5 0 0 + cp = (rs M 4 (u1 (M 4) 5 (M 4 5 0 + cp))) 4 5 0 := by rw [h.2.1.2.2.2]; simp [rs, u1]
    have hF' := rl_fi h'
    have hs' : s < shc P R9 := by
      have e9 : ∀ R, shc P R = (R 0 0 0 + pgs P - 1) / pgs P := fun _ => rfl
      have e := hq1.1 0 (by decide) (by decide) (by decide)
      rw [rs_ne _ _ (by decide)] at e
      rw [e9, e, ← e9]; exact hs
    have hsh' := FI_sh (R := R9) hF' hq3.1
    have esh' := rl_sh h'
    have hL' := rl_li h'
    have hl6 := shL_6 hL'
    refine r_iload C dL_prints_544 rfl ?_
    refine r_if_eqB (tgt := 556) C dL_prints_546 (by decide) (fun h546 => ?_) (fun h546 => ?_)
    · exact absurd h546 (by decide)
    · refine r_aload C dL_prints_549 rfl ?_
      refine r_iconst C (nI 5) dL_prints_551 rfl ?_
      refine al_m_g C hh (by omega) dL_prints_552 ?_
      refine r_goto (tgt := 558) C dL_prints_553 (by decide) ?_
      refine r_icmp_neN (tgt := 606) C dL_prints_558 (by decide) (by omega) (by rw [← hg5]; omega) (fun h558 => ?_) (fun h558 => ?_)
      · exact absurd (hg5) h558
      · refine r_aload_n C dL_prints_561 rfl ?_
        refine r_iload C dL_prints_562 rfl ?_
        refine r_sipush C (nI 501) dL_prints_564 rfl ?_
        refine r_callSW C hh (x_print2 E.2.1 Γ B0 ad P R9 _ _ _ hF' hq3 (by have := (rl_b h').2.2.2; omega) ⟨rg_N hs' (by omega), fun z => absurd z.2 (by decide)⟩) lw_L_187 rfl rfl (Nat.le_of_ble_eq_true rfl) dL_prints_567 ⟨by decide, by decide⟩ ⟨by omega, by omega⟩ (kk_rI (fun r9 w9 H locs hs9 hp9 hh => ?_))
        obtain ⟨rfl, Ra, hja, rfl⟩ := hp9
        have ha := RZ_jk h' hja.1 hja.2
        have hsa : s < shc P Ra := by
          have e9 : ∀ R, shc P R = (R 0 0 0 + pgs P - 1) / pgs P := fun _ => rfl
          rw [e9, hja.1 0 (by decide) (by decide), ← e9]; exact hs'
        refine r_ldc C ct_L_21 dL_prints_570 ?_
        refine r_icmp_ne (tgt := 606) C dL_prints_572 (by decide) (fun h572 => ?_) (fun h572 => ?_)
        · exact absurd (rfl) h572
        · refine r_aload_n C dL_prints_575 rfl ?_
          refine r_iload C dL_prints_576 rfl ?_
          refine r_iconst C (nI 0) dL_prints_578 rfl ?_
          refine r_callSW C hh (x_print2 E.2.1 Γ B0 ad P Ra _ _ _ hF' hja.2 (by have := (rl_b ha).2.2.2; omega) ⟨rg_N hsa (by have := FI_sh hF' hja.2.1; omega), fun z => absurd z.1 (by decide)⟩) lw_L_187 rfl rfl (Nat.le_of_ble_eq_true rfl) dL_prints_579 ⟨by decide, by decide⟩ ⟨by omega, by omega⟩ (kk_rI (fun r9 w9 H locs hs9 hp9 hh => ?_))
          obtain ⟨rfl, Rb, hjb, rfl⟩ := hp9
          have hb2 := RZ_jk ha hjb.1 hjb.2
          refine r_ldc C ct_L_21 dL_prints_582 ?_
          refine r_icmp_ne (tgt := 606) C dL_prints_584 (by decide) (fun h584 => ?_) (fun h584 => ?_)
          · exact absurd (rfl) h584
          · refine r_aload_n C dL_prints_587 rfl ?_
            refine r_aload C dL_prints_588 rfl ?_
            refine r_callS C E hh (c_L_sheets E.2.1 Γ B0 ad (rs M 4 (u1 (M 4) 5 (M 4 5 0 + cp))) (fw Γ ad P) (xw Γ ad Rb) hL') lk_L_100 rfl rfl (Nat.le_of_ble_eq_true rfl) dL_prints_590 ⟨by decide, by decide⟩ ⟨by omega, by omega⟩ (fun _ _ z9 => False.elim z9) (kk_is (fun H locs hs9 hh => ?_))
            refine r_iconst C (nI 0) dL_prints_593 rfl ?_
            refine r_callSW C hh (x_print1 E.2.1 Γ B0 ad P Rb _ _ _ hF' hjb.2 (by have := (rl_b hb2).2.2.2; omega) (not_rg (Nat.le_of_eq (rl_sh hb2)) (by omega))) lw_L_187 rfl rfl (Nat.le_of_ble_eq_true rfl) dL_prints_594 ⟨by decide, by decide⟩ ⟨by omega, by omega⟩ (kk_rI (fun r9 w9 H locs hs9 hp9 hh => ?_))
            obtain ⟨rfl, Rc, hjc, rfl⟩ := hp9
            have hc2 := RZ_jk hb2 hjc.1 hjc.2
            refine r_ldc C ct_L_18 dL_prints_597 ?_
            refine r_icmp_ne (tgt := 606) C dL_prints_599 (by decide) (fun h599 => ?_) (fun h599 => ?_)
            · exact absurd (rfl) h599
            · refine r_iconst C (bI true) dL_prints_602 rfl ?_
              refine r_goto (tgt := 607) C dL_prints_603 (by decide) ?_
              refine r_istore C dL_prints_607 rfl rfl ?_
              have hjall : jk Rc R9 := fun k a b => by rw [hjc.1 k a b, hjb.1 k a b, hja.1 k a b]
              refine f_W.le ?_ (s_pri609t hc2 hn x y (R0 := R) (s := s) (cp := cp) (nd := nd) ?_ hs16 hw hnd hnd2 h5 hI hcp (fun k hk => ?_) (fun k hk hne => ?_) C E hh)
              · exact (And.intro rfl (And.intro rfl (And.intro rfl (And.intro rfl (And.intro rfl (And.intro rfl (And.intro rfl (And.intro rfl (And.intro rfl (And.intro rfl (And.intro rfl (And.intro rfl (And.intro rfl trivial)))))))))))))
              · have e9 : ∀ R, shc P R = (R 0 0 0 + pgs P - 1) / pgs P := fun _ => rfl
                rw [e9, hjall 0 (by decide) (by decide), ← e9]; exact hs'
              · rw [wrx_jk P hjall]
                exact due_t hI h17 hs16 hk hcp.1 hcp.2 hq1 hok
              · have ho := hok.2 k hk
                rw [ls_wrx hk, decide_eq_false hne, Bool.false_or, Bool.and_eq_true, decide_eq_true_iff] at ho
                exact ho.1

set_option maxHeartbeats 4000000 in
set_option maxRecDepth 100000 in
theorem s_pri518f {X9 : fX} {Γ : fG} {B0 : Nat} {ad : Nat → Nat → Nat} {P R M : fR} {n : Nat} (h : RZ n P R M) (hn : n ≤ 150) (x y : Int32) {s cp : Nat} (hs : s < shc P R) (hcp : 1 ≤ cp ∧ cp ≤ 500) (hw : M 6 0 0 ≠ 0) (hok : ¬ okP P R s cp) {nd : Nat} (hnd : ∀ y, y < 8 → tb nd y = decide (nnx P R s y ≠ 0)) (hnd2 : nd < 256) (h5 : ∀ y, y < 8 → M 5 y 0 = wrx P R s y) {H : Heap} {locs : List Loc} (C : f_C X9 Γ B0 RL cL_prints 17 9 140 1000 177) (E : f_E X9 Γ B0 (some .boolean) 140 1000 (f_rI (fun r9 w9 => r9 = bI true ∧ ACT Γ ad n w9)) f_no) (hh : f_HS Γ B0 (wj (fw Γ ad P) (xw Γ ad R) (mw Γ ad M)) X9 H locs) : f_W X9 H locs 49 296 518 [some (.ref (ad 1 0)), some (.ref (ad 30 1)), some (.ref (ad 30 2)), some (.ref (ad 30 3)), some (.ref (ad 30 4)), some (.int x), some (.int y), some (.int (nI (s))), none, some (.int (nI (cp))), some (.int (nI (nd))), none, some (.int (bI (false))), some (.ref (M 6 0 0 - 1)), none, none, none] [] := by
  have hF := rl_fi h
  have hI := rl_xi h
  have hL := rl_li h
  have h64 := rl_64 h
  have h24 := rl_24 h
  have e0 := rl_0 h
  have hsh := FI_sh (R := R) hF h64
  have esh := rl_sh h
  have hs6 := shL_6 hL
  have e41 := h.2.1.1
  obtain ⟨l1, l2, l3, l40, l41, l42, ⟨l43, l43h⟩, l44, l45⟩ := id hL
  have hpg := FI_pg hF
  have hw2 := rl_w h
  have h17 := rl_17 h
  have hs16 : s < 16 := by omega
  have hs6' : s < 6 := by omega
  have hb := rl_b h
  refine r_aload C dL_prints_518 rfl ?_
  refine r_iconst C (nI 5) dL_prints_520 rfl ?_
  refine r_dup2 C dL_prints_521 rfl rfl ?_
  refine al_m_g C hh (by omega) dL_prints_522 ?_
  refine r_iload C dL_prints_523 rfl ?_
  refine r_if_eqB (tgt := 533) C dL_prints_525 (by decide) (fun h525 => ?_) (fun h525 => ?_)
  · refine r_iconst C (nI 0) dL_prints_533 rfl ?_
    refine r_iaddN C dL_prints_534 ?_
    refine as_m_g C hh (by omega) dL_prints_535 (fun H locs hh => ?_)
    replace hh : f_HS Γ B0 (wj (fw Γ ad P) (xw Γ ad R) (mw Γ ad M)) X9 H locs := hs_mw hh (fun _ => rfl) (fun _ => rfl) (fun _ => rfl) (fun i => by show u1 (M 4) 5 (M 4 5 0 + 0) i 0 = M 4 i 0; unfold u1; split <;> simp_all) (fun _ => rfl) rfl
    refine r_aload_n C dL_prints_536 rfl ?_
    refine r_iload C dL_prints_537 rfl ?_
    refine r_iload C dL_prints_539 rfl ?_
    refine r_callSW C hh (x_print3 E.2.1 Γ B0 ad P R _ _ _ hF hI (by omega) (by rw [xN_nI (by omega), xN_nI (by omega)]; exact ⟨⟨rg_N hs (by omega), (nI_leI (by decide) (by omega)).mpr hcp.1, nI_lt (by omega) (by decide)⟩, hok⟩)) lw_L_187 rfl rfl (Nat.le_of_ble_eq_true rfl) dL_prints_541 ⟨by decide, by decide⟩ ⟨by omega, by omega⟩ (kk_rI (fun r9 w9 H locs hs9 hp9 hh => ?_))
    obtain ⟨rfl, Rz, hjz, rfl⟩ := hp9
    have hz := RZ_jk h hjz.1 hjz.2
    have hsz : s < shc P Rz := by
      have e9 : ∀ R, shc P R = (R 0 0 0 + pgs P - 1) / pgs P := fun _ => rfl
      rw [e9, hjz.1 0 (by decide) (by decide), ← e9]; exact hs
    refine r_iload C dL_prints_544 rfl ?_
    refine r_if_eqB (tgt := 556) C dL_prints_546 (by decide) (fun h546 => ?_) (fun h546 => ?_)
    · refine r_ldc C ct_L_24 dL_prints_556 ?_
      refine r_icmp_ne (tgt := 606) C dL_prints_558 (by decide) (fun h558 => ?_) (fun h558 => ?_)
      · exact absurd (rfl) h558
      · refine r_aload_n C dL_prints_561 rfl ?_
        refine r_iload C dL_prints_562 rfl ?_
        refine r_sipush C (nI 501) dL_prints_564 rfl ?_
        refine r_callSW C hh (x_print2 E.2.1 Γ B0 ad P Rz _ _ _ hF hjz.2 (by have := (rl_b hz).2.2.2; omega) ⟨rg_N hsz (by have := FI_sh hF hjz.2.1; omega), fun z => absurd z.2 (by decide)⟩) lw_L_187 rfl rfl (Nat.le_of_ble_eq_true rfl) dL_prints_567 ⟨by decide, by decide⟩ ⟨by omega, by omega⟩ (kk_rI (fun r9 w9 H locs hs9 hp9 hh => ?_))
        obtain ⟨rfl, Ra, hja, rfl⟩ := hp9
        have ha := RZ_jk hz hja.1 hja.2
        have hsa : s < shc P Ra := by
          have e9 : ∀ R, shc P R = (R 0 0 0 + pgs P - 1) / pgs P := fun _ => rfl
          rw [e9, hja.1 0 (by decide) (by decide), ← e9]; exact hsz
        refine r_ldc C ct_L_21 dL_prints_570 ?_
        refine r_icmp_ne (tgt := 606) C dL_prints_572 (by decide) (fun h572 => ?_) (fun h572 => ?_)
        · exact absurd (rfl) h572
        · refine r_aload_n C dL_prints_575 rfl ?_
          refine r_iload C dL_prints_576 rfl ?_
          refine r_iconst C (nI 0) dL_prints_578 rfl ?_
          refine r_callSW C hh (x_print2 E.2.1 Γ B0 ad P Ra _ _ _ hF hja.2 (by have := (rl_b ha).2.2.2; omega) ⟨rg_N hsa (by have := FI_sh hF hja.2.1; omega), fun z => absurd z.1 (by decide)⟩) lw_L_187 rfl rfl (Nat.le_of_ble_eq_true rfl) dL_prints_579 ⟨by decide, by decide⟩ ⟨by omega, by omega⟩ (kk_rI (fun r9 w9 H locs hs9 hp9 hh => ?_))
          obtain ⟨rfl, Rb, hjb, rfl⟩ := hp9
          have hb2 := RZ_jk ha hjb.1 hjb.2
          refine r_ldc C ct_L_21 dL_prints_582 ?_
          refine r_icmp_ne (tgt := 606) C dL_prints_584 (by decide) (fun h584 => ?_) (fun h584 => ?_)
          · exact absurd (rfl) h584
          · refine r_aload_n C dL_prints_587 rfl ?_
            refine r_aload C dL_prints_588 rfl ?_
            refine r_callS C E hh (c_L_sheets E.2.1 Γ B0 ad M (fw Γ ad P) (xw Γ ad Rb) hL) lk_L_100 rfl rfl (Nat.le_of_ble_eq_true rfl) dL_prints_590 ⟨by decide, by decide⟩ ⟨by omega, by omega⟩ (fun _ _ z9 => False.elim z9) (kk_is (fun H locs hs9 hh => ?_))
            refine r_iconst C (nI 0) dL_prints_593 rfl ?_
            refine r_callSW C hh (x_print1 E.2.1 Γ B0 ad P Rb _ _ _ hF hjb.2 (by have := (rl_b hb2).2.2.2; omega) (not_rg (Nat.le_of_eq (rl_sh hb2)) (by omega))) lw_L_187 rfl rfl (Nat.le_of_ble_eq_true rfl) dL_prints_594 ⟨by decide, by decide⟩ ⟨by omega, by omega⟩ (kk_rI (fun r9 w9 H locs hs9 hp9 hh => ?_))
            obtain ⟨rfl, Rc, hjc, rfl⟩ := hp9
            have hc2 := RZ_jk hb2 hjc.1 hjc.2
            refine r_ldc C ct_L_18 dL_prints_597 ?_
            refine r_icmp_ne (tgt := 606) C dL_prints_599 (by decide) (fun h599 => ?_) (fun h599 => ?_)
            · exact absurd (rfl) h599
            · refine r_iconst C (bI true) dL_prints_602 rfl ?_
              refine r_goto (tgt := 607) C dL_prints_603 (by decide) ?_
              refine r_istore C dL_prints_607 rfl rfl ?_
              have hjall : jk Rc R := fun k a b => by rw [hjc.1 k a b, hjb.1 k a b, hja.1 k a b, hjz.1 k a b]
              refine f_W.le ?_ (s_pri609f (RL_up (Nat.le_succ n) hc2) hn x y (R0 := R) (s := s) (cp := cp) (nd := nd) ?_ hs16 hw hnd hnd2 h5 hI hcp (fun k hk => ?_) C E hh)
              · exact (And.intro rfl (And.intro rfl (And.intro rfl (And.intro rfl (And.intro rfl (And.intro rfl (And.intro rfl (And.intro rfl (And.intro rfl (And.intro rfl (And.intro rfl (And.intro rfl (And.intro rfl trivial)))))))))))))
              · have e9 : ∀ R, shc P R = (R 0 0 0 + pgs P - 1) / pgs P := fun _ => rfl
                rw [e9, hjall 0 (by decide) (by decide), ← e9]; exact hs
              · rw [wrx_jk P hjall]
                exact due_f hI
    · exact absurd h546 (by decide)
  · exact absurd h525 (by decide)

set_option maxHeartbeats 4000000 in
set_option maxRecDepth 100000 in
theorem s_pri458 {X9 : fX} {Γ : fG} {B0 : Nat} {ad : Nat → Nat → Nat} {P R M : fR} {n : Nat} (h : RZ n P R M) (hn : n ≤ 150) (x y : Int32) {s cp : Nat} (hs : s < shc P R) (hcp : 1 ≤ cp ∧ cp ≤ 500) (hw : M 6 0 0 ≠ 0) {rb : Bool} (hrb : afo P R s = rb) {nd : Nat} (hnd : ∀ y, y < 8 → tb nd y = decide (nnx P R s y ≠ 0)) (hnd2 : nd < 256) (h5 : ∀ y, y < 8 → M 5 y 0 = wrx P R s y) {H : Heap} {locs : List Loc} (C : f_C X9 Γ B0 RL cL_prints 17 9 140 1000 177) (E : f_E X9 Γ B0 (some .boolean) 140 1000 (f_rI (fun r9 w9 => r9 = bI true ∧ ACT Γ ad n w9)) f_no) (hh : f_HS Γ B0 (wj (fw Γ ad P) (xw Γ ad R) (mw Γ ad M)) X9 H locs) : f_W X9 H locs 49 296 458 [some (.ref (ad 1 0)), some (.ref (ad 30 1)), some (.ref (ad 30 2)), some (.ref (ad 30 3)), some (.ref (ad 30 4)), some (.int x), some (.int y), some (.int (nI (s))), none, some (.int (nI (cp))), some (.int (nI (nd))), none, some (.int (bI (rb))), some (.ref (M 6 0 0 - 1)), none, none, none] [] := by
  have hF := rl_fi h
  have hI := rl_xi h
  have hL := rl_li h
  have h64 := rl_64 h
  have h24 := rl_24 h
  have e0 := rl_0 h
  have hsh := FI_sh (R := R) hF h64
  have esh := rl_sh h
  have hs6 := shL_6 hL
  have e41 := h.2.1.1
  obtain ⟨l1, l2, l3, l40, l41, l42, ⟨l43, l43h⟩, l44, l45⟩ := id hL
  have hpg := FI_pg hF
  have hw2 := rl_w h
  have h17 := rl_17 h
  have hs16 : s < 16 := by omega
  have hs6' : s < 6 := by omega
  have hb := rl_b h
  refine r_iconst C (nI 0) dL_prints_458 rfl ?_
  refine r_istore C dL_prints_459 rfl rfl ?_
  have lp461 : ∀ (d9 : Nat) (k : Nat) (H : Heap) (locs : List Loc), 8 - k < d9 → k ≤ 8 → f_HS Γ B0 (wj (fw Γ ad P) (xw Γ ad R) (mw Γ ad M)) X9 H locs → f_W X9 H locs 49 296 461 [some (.ref (ad 1 0)), some (.ref (ad 30 1)), some (.ref (ad 30 2)), some (.ref (ad 30 3)), some (.ref (ad 30 4)), some (.int x), some (.int y), some (.int (nI (s))), none, some (.int (nI (cp))), some (.int (nI (nd))), none, some (.int (bI (rb && caB P R s cp k))), some (.ref (M 6 0 0 - 1)), some (.int (nI (k))), none, none] [] := by
    intro d9
    induction d9 with
    | zero => intro k H locs hd9 hk9 hh; exact absurd hd9 (Nat.not_lt_zero _)
    | succ d9 ih461 =>
      intro k H locs hd9 hk9 hh
      have hwl := wrx_lt (P := P) hI (s := s) (y := k)
      refine r_iload C dL_prints_461 rfl ?_
      refine r_bipush C (nI 8) dL_prints_463 rfl ?_
      refine r_icmp_geN (tgt := 518) C dL_prints_465 (by decide) (by omega) (by omega) (fun h465 => ?_) (fun h465 => ?_)
      · obtain rfl : k = 8 := by omega
        have hoc := okP_ca (m := cp) hrb
        cases hcn : (rb && caB P R s cp 8)
        · refine f_W.le ?_ (s_pri518f h hn x y hs hcp hw (fun u => by rw [hoc, hcn] at u; cases u) hnd hnd2 h5 C E hh)
          exact (And.intro rfl (And.intro rfl (And.intro rfl (And.intro rfl (And.intro rfl (And.intro rfl (And.intro rfl (And.intro rfl (And.intro rfl (And.intro rfl (And.intro rfl (And.intro rfl trivial))))))))))))
        · refine f_W.le ?_ (s_pri518t h hn x y hs hcp hw (hoc.mpr hcn) hnd hnd2 h5 C E hh)
          exact (And.intro rfl (And.intro rfl (And.intro rfl (And.intro rfl (And.intro rfl (And.intro rfl (And.intro rfl (And.intro rfl (And.intro rfl (And.intro rfl (And.intro rfl (And.intro rfl trivial))))))))))))
      · refine r_iload C dL_prints_468 rfl ?_
        have jn510 : ∀ (b : Bool), (rb && caB P R s cp (k + 1)) = b → f_W X9 H locs 49 296 510 [some (.ref (ad 1 0)), some (.ref (ad 30 1)), some (.ref (ad 30 2)), some (.ref (ad 30 3)), some (.ref (ad 30 4)), some (.int x), some (.int y), some (.int (nI (s))), none, some (.int (nI (cp))), some (.int (nI (nd))), none, none, some (.ref (M 6 0 0 - 1)), some (.int (nI (k))), none, none] [.int (bI b)] := by
          intro b hS
          subst hS
          refine r_istore C dL_prints_510 rfl rfl ?_
          refine r_iincN C dL_prints_512 rfl rfl ?_
          refine r_goto (tgt := 461) C dL_prints_515 (by decide) ?_
          refine f_W.le ?_ (ih461 (k + 1) _ _ (by omega) (by omega) hh)
          exact (And.intro rfl (And.intro rfl (And.intro rfl (And.intro rfl (And.intro rfl (And.intro rfl (And.intro rfl (And.intro rfl (And.intro rfl (And.intro rfl (And.intro rfl (And.intro rfl (And.intro rfl trivial)))))))))))))
        refine r_if_eqB (tgt := 509) C dL_prints_470 (by decide) (fun h470 => ?_) (fun h470 => ?_)
        · refine r_iconst C (bI false) dL_prints_509 rfl ?_
          refine f_W.le ?_ (jn510 _ (by
            show (rb && (caB P R s cp k && lsO P R s (k / 4) (k % 4) cp)) = _
            rw [← Bool.and_assoc, ls_wrx (by omega)]
            have hkn := hnd k (by omega)
            first
            | (rw [h470]; rfl)
            | (have h1 := (pk_and1 nd k).2.mp h480
               rw [hkn, decide_eq_false_iff_not] at h1
               rw [h470, decide_eq_true (p := nnx P R s k = 0) (by omega)]; rfl)
            | (have h1 : nnx P R s k ≠ 0 := fun z => h480 ((pk_and1 nd k).2.mpr (by rw [hkn]; exact decide_eq_false (fun u => u z)))
               have h2 := (iM_lt0 (v := wrx P R s k) (by omega)).mp h488
               rw [h470, decide_eq_false (p := nnx P R s k = 0) h1, decide_eq_false (p := wrx P R s k ≠ 0) (fun u => u h2)]; rfl)
            | (have h1 : nnx P R s k ≠ 0 := fun z => h480 ((pk_and1 nd k).2.mpr (by rw [hkn]; exact decide_eq_false (fun u => u z)))
               rw [h470, decide_eq_false (p := nnx P R s k = 0) h1, decide_eq_true (p := wrx P R s k ≠ 0) hw0, decide_eq_true (p := wrx P R s k - 1 + cp ≤ 1000) (by omega)]; rfl)
            | (have h1 : nnx P R s k ≠ 0 := fun z => h480 ((pk_and1 nd k).2.mpr (by rw [hkn]; exact decide_eq_false (fun u => u z)))
               rw [h470, decide_eq_false (p := nnx P R s k = 0) h1, decide_eq_true (p := wrx P R s k ≠ 0) hw0, decide_eq_false (p := wrx P R s k - 1 + cp ≤ 1000) (by omega)]; rfl)))
          exact (And.intro rfl (And.intro rfl (And.intro rfl (And.intro rfl (And.intro rfl (And.intro rfl (And.intro rfl (And.intro rfl (And.intro rfl (And.intro rfl (And.intro rfl (And.intro rfl trivial))))))))))))
        · refine r_iload C dL_prints_473 rfl ?_
          refine r_iload C dL_prints_475 rfl ?_
          refine r_ishrN C dL_prints_477 (by omega) (by omega) ?_
          refine r_iconst C (nI 1) dL_prints_478 rfl ?_
          refine r_iandN C dL_prints_479 ?_
          refine r_if_eqN (tgt := 505) C dL_prints_480 (by decide) (Nat.lt_of_le_of_lt Nat.and_le_right (by decide)) (fun h480 => ?_) (fun h480 => ?_)
          · refine r_iconst C (bI true) dL_prints_505 rfl ?_
            refine r_goto (tgt := 510) C dL_prints_506 (by decide) ?_
            refine f_W.le ?_ (jn510 _ (by
              show (rb && (caB P R s cp k && lsO P R s (k / 4) (k % 4) cp)) = _
              rw [← Bool.and_assoc, ls_wrx (by omega)]
              have hkn := hnd k (by omega)
              first
              | (rw [h470]; rfl)
              | (have h1 := (pk_and1 nd k).2.mp h480
                 rw [hkn, decide_eq_false_iff_not] at h1
                 rw [h470, decide_eq_true (p := nnx P R s k = 0) (by omega)]; rfl)
              | (have h1 : nnx P R s k ≠ 0 := fun z => h480 ((pk_and1 nd k).2.mpr (by rw [hkn]; exact decide_eq_false (fun u => u z)))
                 have h2 := (iM_lt0 (v := wrx P R s k) (by omega)).mp h488
                 rw [h470, decide_eq_false (p := nnx P R s k = 0) h1, decide_eq_false (p := wrx P R s k ≠ 0) (fun u => u h2)]; rfl)
              | (have h1 : nnx P R s k ≠ 0 := fun z => h480 ((pk_and1 nd k).2.mpr (by rw [hkn]; exact decide_eq_false (fun u => u z)))
                 rw [h470, decide_eq_false (p := nnx P R s k = 0) h1, decide_eq_true (p := wrx P R s k ≠ 0) hw0, decide_eq_true (p := wrx P R s k - 1 + cp ≤ 1000) (by omega)]; rfl)
              | (have h1 : nnx P R s k ≠ 0 := fun z => h480 ((pk_and1 nd k).2.mpr (by rw [hkn]; exact decide_eq_false (fun u => u z)))
                 rw [h470, decide_eq_false (p := nnx P R s k = 0) h1, decide_eq_true (p := wrx P R s k ≠ 0) hw0, decide_eq_false (p := wrx P R s k - 1 + cp ≤ 1000) (by omega)]; rfl)))
            exact (And.intro rfl (And.intro rfl (And.intro rfl (And.intro rfl (And.intro rfl (And.intro rfl (And.intro rfl (And.intro rfl (And.intro rfl (And.intro rfl (And.intro rfl (And.intro rfl trivial))))))))))))
          · refine r_aload C dL_prints_483 rfl ?_
            refine r_iload C dL_prints_485 rfl ?_
            refine al_worn C hh hw (by omega) dL_prints_487 ?_
            rw [h5 k (by omega)]
            refine r_if_lt (tgt := 509) C dL_prints_488 (by decide) (fun h488 => ?_) (fun h488 => ?_)
            · refine r_iconst C (bI false) dL_prints_509 rfl ?_
              refine f_W.le ?_ (jn510 _ (by
                show (rb && (caB P R s cp k && lsO P R s (k / 4) (k % 4) cp)) = _
                rw [← Bool.and_assoc, ls_wrx (by omega)]
                have hkn := hnd k (by omega)
                first
                | (rw [h470]; rfl)
                | (have h1 := (pk_and1 nd k).2.mp h480
                   rw [hkn, decide_eq_false_iff_not] at h1
                   rw [h470, decide_eq_true (p := nnx P R s k = 0) (by omega)]; rfl)
                | (have h1 : nnx P R s k ≠ 0 := fun z => h480 ((pk_and1 nd k).2.mpr (by rw [hkn]; exact decide_eq_false (fun u => u z)))
                   have h2 := (iM_lt0 (v := wrx P R s k) (by omega)).mp h488
                   rw [h470, decide_eq_false (p := nnx P R s k = 0) h1, decide_eq_false (p := wrx P R s k ≠ 0) (fun u => u h2)]; rfl)
                | (have h1 : nnx P R s k ≠ 0 := fun z => h480 ((pk_and1 nd k).2.mpr (by rw [hkn]; exact decide_eq_false (fun u => u z)))
                   rw [h470, decide_eq_false (p := nnx P R s k = 0) h1, decide_eq_true (p := wrx P R s k ≠ 0) hw0, decide_eq_true (p := wrx P R s k - 1 + cp ≤ 1000) (by omega)]; rfl)
                | (have h1 : nnx P R s k ≠ 0 := fun z => h480 ((pk_and1 nd k).2.mpr (by rw [hkn]; exact decide_eq_false (fun u => u z)))
                   rw [h470, decide_eq_false (p := nnx P R s k = 0) h1, decide_eq_true (p := wrx P R s k ≠ 0) hw0, decide_eq_false (p := wrx P R s k - 1 + cp ≤ 1000) (by omega)]; rfl)))
              exact (And.intro rfl (And.intro rfl (And.intro rfl (And.intro rfl (And.intro rfl (And.intro rfl (And.intro rfl (And.intro rfl (And.intro rfl (And.intro rfl (And.intro rfl (And.intro rfl trivial))))))))))))
            · have hw0 : wrx P R s k ≠ 0 := fun u => h488 ((iM_lt0 (by omega)).mpr u)
              refine r_aload C dL_prints_491 rfl ?_
              refine r_iload C dL_prints_493 rfl ?_
              refine al_worn C hh hw (by omega) dL_prints_495 ?_
              rw [h5 k (by omega)]
              refine r_iload C dL_prints_496 rfl ?_
              refine r_iadd C dL_prints_498 ?_
              rw [show (iM (wrx P R s k) + nI cp : Int32) = nI (wrx P R s k - 1 + cp) from iM_add hw0]
              refine r_sipush C (nI 1000) dL_prints_499 rfl ?_
              refine r_icmp_gtN (tgt := 509) C dL_prints_502 (by decide) (by omega) (by omega) (fun h502 => ?_) (fun h502 => ?_)
              · refine r_iconst C (bI false) dL_prints_509 rfl ?_
                refine f_W.le ?_ (jn510 _ (by
                  show (rb && (caB P R s cp k && lsO P R s (k / 4) (k % 4) cp)) = _
                  rw [← Bool.and_assoc, ls_wrx (by omega)]
                  have hkn := hnd k (by omega)
                  first
                  | (rw [h470]; rfl)
                  | (have h1 := (pk_and1 nd k).2.mp h480
                     rw [hkn, decide_eq_false_iff_not] at h1
                     rw [h470, decide_eq_true (p := nnx P R s k = 0) (by omega)]; rfl)
                  | (have h1 : nnx P R s k ≠ 0 := fun z => h480 ((pk_and1 nd k).2.mpr (by rw [hkn]; exact decide_eq_false (fun u => u z)))
                     have h2 := (iM_lt0 (v := wrx P R s k) (by omega)).mp h488
                     rw [h470, decide_eq_false (p := nnx P R s k = 0) h1, decide_eq_false (p := wrx P R s k ≠ 0) (fun u => u h2)]; rfl)
                  | (have h1 : nnx P R s k ≠ 0 := fun z => h480 ((pk_and1 nd k).2.mpr (by rw [hkn]; exact decide_eq_false (fun u => u z)))
                     rw [h470, decide_eq_false (p := nnx P R s k = 0) h1, decide_eq_true (p := wrx P R s k ≠ 0) hw0, decide_eq_true (p := wrx P R s k - 1 + cp ≤ 1000) (by omega)]; rfl)
                  | (have h1 : nnx P R s k ≠ 0 := fun z => h480 ((pk_and1 nd k).2.mpr (by rw [hkn]; exact decide_eq_false (fun u => u z)))
                     rw [h470, decide_eq_false (p := nnx P R s k = 0) h1, decide_eq_true (p := wrx P R s k ≠ 0) hw0, decide_eq_false (p := wrx P R s k - 1 + cp ≤ 1000) (by omega)]; rfl)))
                exact (And.intro rfl (And.intro rfl (And.intro rfl (And.intro rfl (And.intro rfl (And.intro rfl (And.intro rfl (And.intro rfl (And.intro rfl (And.intro rfl (And.intro rfl (And.intro rfl trivial))))))))))))
              · refine r_iconst C (bI true) dL_prints_505 rfl ?_
                refine r_goto (tgt := 510) C dL_prints_506 (by decide) ?_
                refine f_W.le ?_ (jn510 _ (by
                  show (rb && (caB P R s cp k && lsO P R s (k / 4) (k % 4) cp)) = _
                  rw [← Bool.and_assoc, ls_wrx (by omega)]
                  have hkn := hnd k (by omega)
                  first
                  | (rw [h470]; rfl)
                  | (have h1 := (pk_and1 nd k).2.mp h480
                     rw [hkn, decide_eq_false_iff_not] at h1
                     rw [h470, decide_eq_true (p := nnx P R s k = 0) (by omega)]; rfl)
                  | (have h1 : nnx P R s k ≠ 0 := fun z => h480 ((pk_and1 nd k).2.mpr (by rw [hkn]; exact decide_eq_false (fun u => u z)))
                     have h2 := (iM_lt0 (v := wrx P R s k) (by omega)).mp h488
                     rw [h470, decide_eq_false (p := nnx P R s k = 0) h1, decide_eq_false (p := wrx P R s k ≠ 0) (fun u => u h2)]; rfl)
                  | (have h1 : nnx P R s k ≠ 0 := fun z => h480 ((pk_and1 nd k).2.mpr (by rw [hkn]; exact decide_eq_false (fun u => u z)))
                     rw [h470, decide_eq_false (p := nnx P R s k = 0) h1, decide_eq_true (p := wrx P R s k ≠ 0) hw0, decide_eq_true (p := wrx P R s k - 1 + cp ≤ 1000) (by omega)]; rfl)
                  | (have h1 : nnx P R s k ≠ 0 := fun z => h480 ((pk_and1 nd k).2.mpr (by rw [hkn]; exact decide_eq_false (fun u => u z)))
                     rw [h470, decide_eq_false (p := nnx P R s k = 0) h1, decide_eq_true (p := wrx P R s k ≠ 0) hw0, decide_eq_false (p := wrx P R s k - 1 + cp ≤ 1000) (by omega)]; rfl)))
                exact (And.intro rfl (And.intro rfl (And.intro rfl (And.intro rfl (And.intro rfl (And.intro rfl (And.intro rfl (And.intro rfl (And.intro rfl (And.intro rfl (And.intro rfl (And.intro rfl trivial))))))))))))
  have w9 := lp461 9 0 H locs (by omega) (by omega) hh
  rw [show (rb && caB P R s cp 0) = rb from Bool.and_true _] at w9
  refine f_W.le ?_ (w9)
  exact (And.intro rfl (And.intro rfl (And.intro rfl (And.intro rfl (And.intro rfl (And.intro rfl (And.intro rfl (And.intro rfl (And.intro rfl (And.intro rfl (And.intro rfl (And.intro rfl (And.intro rfl trivial)))))))))))))

set_option maxHeartbeats 4000000 in
set_option maxRecDepth 100000 in
theorem s_pri180 {X9 : fX} {Γ : fG} {B0 : Nat} {ad : Nat → Nat → Nat} {P R M : fR} {n : Nat} (h : RZ n P R M) (hn : n ≤ 150) (x y : Int32) {s cp : Nat} (hs : s < shc P R) (hcp : 1 ≤ cp ∧ cp ≤ 500) (hw : M 6 0 0 ≠ 0) {rb : Bool} (hrb : afo P R s = rb) {nd : Nat} (hnd : ∀ y, y < 8 → tb nd y = decide (nnx P R s y ≠ 0)) (hnd2 : nd < 256) {H : Heap} {locs : List Loc} (C : f_C X9 Γ B0 RL cL_prints 17 9 140 1000 177) (E : f_E X9 Γ B0 (some .boolean) 140 1000 (f_rI (fun r9 w9 => r9 = bI true ∧ ACT Γ ad n w9)) f_no) (hh : f_HS Γ B0 (wj (fw Γ ad P) (xw Γ ad R) (mw Γ ad M)) X9 H locs) : f_W X9 H locs 25 152 180 [some (.ref (ad 1 0)), some (.ref (ad 30 1)), some (.ref (ad 30 2)), some (.ref (ad 30 3)), some (.ref (ad 30 4)), some (.int x), some (.int y), some (.int (nI (s))), some (.int (bI (rb))), some (.int (nI (cp))), some (.int (nI (nd))), some (.int (nI (0))), some (.int (bI (rb))), some (.ref (M 6 0 0 - 1)), none, none, none] [] := by
  have hF := rl_fi h
  have hI := rl_xi h
  have hL := rl_li h
  have h64 := rl_64 h
  have h24 := rl_24 h
  have e0 := rl_0 h
  have hsh := FI_sh (R := R) hF h64
  have esh := rl_sh h
  have hs6 := shL_6 hL
  have e41 := h.2.1.1
  obtain ⟨l1, l2, l3, l40, l41, l42, ⟨l43, l43h⟩, l44, l45⟩ := id hL
  have hpg := FI_pg hF
  have hw2 := rl_w h
  have h17 := rl_17 h
  have hs16 : s < 16 := by omega
  have hs6' : s < 6 := by omega
  have hb := rl_b h
  refine r_iconst C (nI 0) dL_prints_180 rfl ?_
  refine r_istore C dL_prints_181 rfl rfl ?_
  have lp183 : ∀ (d9 : Nat) (k : Nat) (Rk : fR) (H : Heap) (locs : List Loc), 8 - k < d9 → k ≤ 8 → jk Rk R → XI Rk → f_HS Γ B0 (wj (fw Γ ad P) (xw Γ ad Rk) (mw Γ ad (wkM M P R s k))) X9 H locs → f_W X9 H locs (25 + 3 * k) (152 + 18 * k) 183 [some (.ref (ad 1 0)), some (.ref (ad 30 1)), some (.ref (ad 30 2)), some (.ref (ad 30 3)), some (.ref (ad 30 4)), some (.int x), some (.int y), some (.int (nI (s))), some (.int (bI (rb))), some (.int (nI (cp))), some (.int (nI (nd))), some (.int (nI (cntB (fun y => tb nd y && decide (wrx P R s y = 0)) k))), some (.int (bI (rb))), some (.ref (M 6 0 0 - 1)), some (.int (nI (k))), none, none] [] := by
    intro d9
    induction d9 with
    | zero => intro k Rk H locs hd9 hk9 hj hXk hh; exact absurd hd9 (Nat.not_lt_zero _)
    | succ d9 ih183 =>
      intro k Rk H locs hd9 hk9 hj hXk hh
      have hwl := wrx_lt (P := P) hI (s := s) (y := k)
      have hcl := cntB_le (fun y => tb nd y && decide (wrx P R s y = 0)) k
      refine r_iload C dL_prints_183 rfl ?_
      refine r_bipush C (nI 8) dL_prints_185 rfl ?_
      refine r_icmp_geN (tgt := 244) C dL_prints_187 (by decide) (by omega) (by omega) (fun h187 => ?_) (fun h187 => ?_)
      · obtain rfl : k = 8 := by omega
        refine r_iload C dL_prints_244 rfl ?_
        refine r_iconst C (nI 5) dL_prints_246 rfl ?_
        refine r_ishr C dL_prints_247 ?_
        refine r_iconst C (nI 2) dL_prints_248 rfl ?_
        refine r_callS C E hh (c_low E.2.1 Γ B0 _ _ 2 (by omega) (by omega)) lk_L_149 rfl rfl (Nat.le_of_ble_eq_true rfl) dL_prints_249 ⟨by decide, by decide⟩ ⟨by omega, by omega⟩ (fun _ _ z9 => False.elim z9) (kk_rI (fun r9 w9 H locs hs9 hp9 hh => ?_))
        obtain ⟨⟨j2, hj2, rfl⟩, rfl⟩ := hp9
        refine r_if_neN (tgt := 458) C dL_prints_252 (by decide) (by omega) (fun h252 => ?_) (fun h252 => ?_)
        · have hz := RZ_jk h hj hXk
          have hs' : s < shc P Rk := by
            have e9 : ∀ R, shc P R = (R 0 0 0 + pgs P - 1) / pgs P := fun _ => rfl
            rw [e9, hj 0 (by decide) (by decide), ← e9]; exact hs
          have hk0 := hj 0 (by decide) (by decide)
          have hk6 := hj 6 (by decide) (by decide)
          have hk14 := hj 14 (by decide) (by decide)
          have haf : afo P Rk s = rb := by
            rw [afo_eq P hk0 (hj 2 (by decide) (by decide)) hk6 (hj 10 (by decide) (by decide)) (hj 11 (by decide) (by decide)) (hj 12 (by decide) (by decide)) (hj 13 (by decide) (by decide)) hk14 (hj 16 (by decide) (by decide))]; exact hrb
          have hnd' : ∀ y, y < 8 → tb nd y = decide (nnx P Rk s y ≠ 0) := fun y hy => by rw [nnx_eq P hk0 hk6 hk14]; exact hnd y hy
          have h5 : ∀ y, y < 8 → wkM M P R s 8 5 y 0 = wrx P Rk s y := fun y hy => by rw [wrx_jk P hj]; exact if_pos hy
          refine f_W.le ?_ (s_pri458 (M := wkM M P R s 8) hz hn x y hs' hcp hw haf hnd' hnd2 h5 C E hh)
          exact (And.intro rfl (And.intro rfl (And.intro rfl (And.intro rfl (And.intro rfl (And.intro rfl (And.intro rfl (And.intro rfl (And.intro rfl (And.intro rfl (And.intro rfl (And.intro rfl trivial))))))))))))
        · have hz := RZ_jk h hj hXk
          have hs' : s < shc P Rk := by
            have e9 : ∀ R, shc P R = (R 0 0 0 + pgs P - 1) / pgs P := fun _ => rfl
            rw [e9, hj 0 (by decide) (by decide), ← e9]; exact hs
          have hk0 := hj 0 (by decide) (by decide)
          have hk6 := hj 6 (by decide) (by decide)
          have hk14 := hj 14 (by decide) (by decide)
          have haf : afo P Rk s = rb := by
            rw [afo_eq P hk0 (hj 2 (by decide) (by decide)) hk6 (hj 10 (by decide) (by decide)) (hj 11 (by decide) (by decide)) (hj 12 (by decide) (by decide)) (hj 13 (by decide) (by decide)) hk14 (hj 16 (by decide) (by decide))]; exact hrb
          have hnd' : ∀ y, y < 8 → tb nd y = decide (nnx P Rk s y ≠ 0) := fun y hy => by rw [nnx_eq P hk0 hk6 hk14]; exact hnd y hy
          have h5 : ∀ y, y < 8 → wkM M P R s 8 5 y 0 = wrx P Rk s y := fun y hy => by rw [wrx_jk P hj]; exact if_pos hy
          have hmd : cntB (fun y => tb nd y && decide (wrx P R s y = 0)) 8 = cntB (mdB P Rk s) 8 := cntB_c 8 (fun y hy => by
            unfold mdB
            rw [hnd' y hy, wrx_jk P hj])
          cases rb
          · refine f_W.le ?_ (s_pri255f (M := wkM M P R s 8) hz hn x y hs' hcp hw haf (nd := nd) (md := cntB (fun y => tb nd y && decide (wrx P R s y = 0)) 8) C E hh)
            exact (And.intro rfl (And.intro rfl (And.intro rfl (And.intro rfl (And.intro rfl (And.intro rfl (And.intro rfl (And.intro rfl (And.intro rfl (And.intro rfl (And.intro rfl (And.intro rfl trivial))))))))))))
          · refine f_W.le ?_ (s_pri255t (M := wkM M P R s 8) hz hn x y hs' hcp hw haf hnd' hnd2 hmd h5 C E hh)
            exact (And.intro rfl (And.intro rfl (And.intro rfl (And.intro rfl (And.intro rfl (And.intro rfl (And.intro rfl (And.intro rfl (And.intro rfl (And.intro rfl (And.intro rfl (And.intro rfl trivial))))))))))))
      · refine r_aload C dL_prints_190 rfl ?_
        refine r_iload C dL_prints_192 rfl ?_
        refine r_aload_n C dL_prints_194 rfl ?_
        refine r_iload C dL_prints_195 rfl ?_
        refine r_iload C dL_prints_197 rfl ?_
        refine r_iconst C (nI 4) dL_prints_199 rfl ?_
        refine r_idivN C dL_prints_200 (by omega) (by omega) (by omega) ?_
        refine r_iload C dL_prints_201 rfl ?_
        refine r_iconst C (nI 4) dL_prints_203 rfl ?_
        refine r_iremN C dL_prints_204 (by omega) (by omega) (by omega) ?_
        refine r_callSW C hh (L_wear_k E.2.1 Γ B0 ad _ hF hj hXk hs (by omega)) lw_L_189 rfl rfl (Nat.le_of_ble_eq_true rfl) dL_prints_205 ⟨by decide, by decide⟩ ⟨by omega, by omega⟩ (kk_rI (fun r9 w9 H locs hs9 hp9 hh => ?_))
        obtain ⟨rfl, R', hq, rfl⟩ := hp9
        refine as_worn C hh hw (by omega) dL_prints_208 (fun H locs hh => ?_)
        refine r_iload C dL_prints_209 rfl ?_
        refine r_iload C dL_prints_211 rfl ?_
        refine r_iload C dL_prints_213 rfl ?_
        refine r_ishrN C dL_prints_215 (by omega) (by omega) ?_
        refine r_iconst C (nI 1) dL_prints_216 rfl ?_
        refine r_iandN C dL_prints_217 ?_
        refine r_iconst C (nI 1) dL_prints_218 rfl ?_
        have jn235 : ∀ (v : Nat), (if (tb nd k && decide (wrx P R s k = 0)) = true then 1 else 0) = v → f_W X9 H locs (25 + 3 * k + 3) (152 + 18 * k + 18) 235 [some (.ref (ad 1 0)), some (.ref (ad 30 1)), some (.ref (ad 30 2)), some (.ref (ad 30 3)), some (.ref (ad 30 4)), some (.int x), some (.int y), some (.int (nI (s))), some (.int (bI (rb))), some (.int (nI (cp))), some (.int (nI (nd))), some (.int (nI (cntB (fun y => tb nd y && decide (wrx P R s y = 0)) k))), some (.int (bI (rb))), some (.ref (M 6 0 0 - 1)), some (.int (nI (k))), none, none] [.int (nI v), .int (nI (cntB (fun y => tb nd y && decide (wrx P R s y = 0)) k))] := by
          intro v hS
          subst hS
          refine r_iaddN C dL_prints_235 ?_
          refine r_istore C dL_prints_236 rfl rfl ?_
          refine r_iincN C dL_prints_238 rfl rfl ?_
          refine r_goto (tgt := 183) C dL_prints_241 (by decide) ?_
          refine f_W.le ?_ (ih183 (k + 1) R' _ _ (by omega) (by omega) hq.1 hq.2 (hs_mw hh (fun _ => rfl) (fun _ => rfl) (fun _ => rfl) (fun _ => rfl) (fun i => wkM_s M P R s k i) rfl))
          exact (And.intro rfl (And.intro rfl (And.intro rfl (And.intro rfl (And.intro rfl (And.intro rfl (And.intro rfl (And.intro rfl (And.intro rfl (And.intro rfl (And.intro rfl (And.intro rfl (And.intro rfl (And.intro rfl (And.intro rfl trivial)))))))))))))))
        refine r_icmp_neN (tgt := 234) C dL_prints_219 (by decide) (Nat.lt_of_le_of_lt Nat.and_le_right (by decide)) (by omega) (fun h219 => ?_) (fun h219 => ?_)
        · refine r_iconst C (nI 0) dL_prints_234 rfl ?_
          first
          | exact jn235 1 (by rw [(pk_and1 nd k).1.mp h219, decide_eq_true (p := wrx P R s k = 0) (by
              by_cases z : wrx P R s k = 0
              · exact z
              · exact absurd ((iM_ge0 (by omega)).mpr z) h227)]; rfl)
          | exact jn235 0 (by
              first
              | (have h1 : tb nd k = false := by
                   cases z : tb nd k
                   · rfl
                   · exact absurd ((pk_and1 nd k).1.mpr z) h219
                 rw [h1]; rfl)
              | (have h1 := (iM_ge0 (v := wrx P R s k) (by omega)).mp h227
                 rw [decide_eq_false (p := wrx P R s k = 0) h1, Bool.and_false]; rfl))
        · refine r_aload C dL_prints_222 rfl ?_
          refine r_iload C dL_prints_224 rfl ?_
          refine al_worn C hh hw (by omega) dL_prints_226 ?_
          rw [show rs (wkM M P R s k) 5 (u1 ((wkM M P R s k) 5) k (wrx P R s k)) 5 k 0 = wrx P R s k from if_pos rfl]
          refine r_if_ge (tgt := 234) C dL_prints_227 (by decide) (fun h227 => ?_) (fun h227 => ?_)
          · refine r_iconst C (nI 0) dL_prints_234 rfl ?_
            first
            | exact jn235 1 (by rw [(pk_and1 nd k).1.mp h219, decide_eq_true (p := wrx P R s k = 0) (by
                by_cases z : wrx P R s k = 0
                · exact z
                · exact absurd ((iM_ge0 (by omega)).mpr z) h227)]; rfl)
            | exact jn235 0 (by
                first
                | (have h1 : tb nd k = false := by
                     cases z : tb nd k
                     · rfl
                     · exact absurd ((pk_and1 nd k).1.mpr z) h219
                   rw [h1]; rfl)
                | (have h1 := (iM_ge0 (v := wrx P R s k) (by omega)).mp h227
                   rw [decide_eq_false (p := wrx P R s k = 0) h1, Bool.and_false]; rfl))
          · refine r_iconst C (nI 1) dL_prints_230 rfl ?_
            refine r_goto (tgt := 235) C dL_prints_231 (by decide) ?_
            first
            | exact jn235 1 (by rw [(pk_and1 nd k).1.mp h219, decide_eq_true (p := wrx P R s k = 0) (by
                by_cases z : wrx P R s k = 0
                · exact z
                · exact absurd ((iM_ge0 (by omega)).mpr z) h227)]; rfl)
            | exact jn235 0 (by
                first
                | (have h1 : tb nd k = false := by
                     cases z : tb nd k
                     · rfl
                     · exact absurd ((pk_and1 nd k).1.mpr z) h219
                   rw [h1]; rfl)
                | (have h1 := (iM_ge0 (v := wrx P R s k) (by omega)).mp h227
                   rw [decide_eq_false (p := wrx P R s k = 0) h1, Bool.and_false]; rfl))
  refine f_W.le ?_ (lp183 9 0 R _ _ (by omega) (by omega) (fun _ _ _ => rfl) hI (hs_mw hh (fun _ => rfl) (fun _ => rfl) (fun _ => rfl) (fun _ => rfl) (fun i => by show M 5 i 0 = if i < 0 then wrx P R s i else M 5 i 0; rw [if_neg (Nat.not_lt_zero i)]) rfl))
  exact (And.intro rfl (And.intro rfl (And.intro rfl (And.intro rfl (And.intro rfl (And.intro rfl (And.intro rfl (And.intro rfl (And.intro rfl (And.intro rfl (And.intro rfl (And.intro rfl (And.intro rfl (And.intro rfl (And.intro rfl trivial)))))))))))))))

set_option maxHeartbeats 4000000 in
set_option maxRecDepth 100000 in
theorem s_pri110 {X9 : fX} {Γ : fG} {B0 : Nat} {ad : Nat → Nat → Nat} {P R M : fR} {n : Nat} (h : RZ n P R M) (hn : n ≤ 150) (x y : Int32) {s cp : Nat} (hs : s < shc P R) (hcp : 1 ≤ cp ∧ cp ≤ 500) (hw : M 6 0 0 ≠ 0) {rb : Bool} (hrb : afo P R s = rb) {H : Heap} {locs : List Loc} (C : f_C X9 Γ B0 RL cL_prints 17 9 140 1000 177) (E : f_E X9 Γ B0 (some .boolean) 140 1000 (f_rI (fun r9 w9 => r9 = bI true ∧ ACT Γ ad n w9)) f_no) (hh : f_HS Γ B0 (wj (fw Γ ad P) (xw Γ ad R) (mw Γ ad M)) X9 H locs) : f_W X9 H locs 1 8 110 [some (.ref (ad 1 0)), some (.ref (ad 30 1)), some (.ref (ad 30 2)), some (.ref (ad 30 3)), some (.ref (ad 30 4)), some (.int x), some (.int y), some (.int (nI (s))), some (.int (bI (rb))), some (.int (nI (cp))), some (.int (nI (0))), some (.int (nI (0))), some (.int (bI (rb))), some (.ref (M 6 0 0 - 1)), none, none, none] [] := by
  have hF := rl_fi h
  have hI := rl_xi h
  have hL := rl_li h
  have h64 := rl_64 h
  have h24 := rl_24 h
  have e0 := rl_0 h
  have hsh := FI_sh (R := R) hF h64
  have esh := rl_sh h
  have hs6 := shL_6 hL
  have e41 := h.2.1.1
  obtain ⟨l1, l2, l3, l40, l41, l42, ⟨l43, l43h⟩, l44, l45⟩ := id hL
  have hpg := FI_pg hF
  have hw2 := rl_w h
  have h17 := rl_17 h
  have hs16 : s < 16 := by omega
  have hs6' : s < 6 := by omega
  have hb := rl_b h
  have hlo : s * pgs P < R 0 0 0 := by
    have e9 : shc P R = (R 0 0 0 + pgs P - 1) / pgs P := rfl
    rw [e9, Nat.lt_div_iff_mul_lt (by omega)] at hs
    omega
  have hw3 : 2 * M 4 3 0 * s = s * pgs P + 0 := by rw [Nat.add_zero, Nat.mul_comm, hw2]
  have hw4 : 2 * M 4 3 0 * (s + 1) = s * pgs P + pgs P := by rw [← hw2, Nat.mul_comm, Nat.succ_mul]
  have h7 := hF.2.2.2.2.2.2.1
  refine r_iconst C (nI 2) dL_prints_110 rfl ?_
  refine r_aload C dL_prints_111 rfl ?_
  refine r_iconst C (nI 3) dL_prints_113 rfl ?_
  refine al_m_g C hh (by omega) dL_prints_114 ?_
  refine r_imulN C dL_prints_115 ?_
  refine r_iload C dL_prints_116 rfl ?_
  refine r_imulN C dL_prints_118 ?_
  refine r_istore C dL_prints_119 rfl rfl ?_
  have lp121 : ∀ (d9 : Nat) (d : Nat) (H : Heap) (locs : List Loc), pgs P - d < d9 → d ≤ pgs P → s * pgs P + d ≤ R 0 0 0 → f_HS Γ B0 (wj (fw Γ ad P) (xw Γ ad R) (mw Γ ad M)) X9 H locs → f_W X9 H locs (1 + d) (8 + 6 * d) 121 [some (.ref (ad 1 0)), some (.ref (ad 30 1)), some (.ref (ad 30 2)), some (.ref (ad 30 3)), some (.ref (ad 30 4)), some (.int x), some (.int y), some (.int (nI (s))), some (.int (bI (rb))), some (.int (nI (cp))), some (.int (nI (ndL P M (s * pgs P) d))), some (.int (nI (0))), some (.int (bI (rb))), some (.ref (M 6 0 0 - 1)), some (.int (nI (s * pgs P + d))), none, none] [] := by
    intro d9
    induction d9 with
    | zero => intro d H locs hd9 hd1 hd2 hh; exact absurd hd9 (Nat.not_lt_zero _)
    | succ d9 ih121 =>
      intro d H locs hd9 hd1 hd2 hh
      have g1 := l1 (s * pgs P + d)
      have hn1 := nd_one (M 1 (s * pgs P + d) 0 / 256 % 16) (Nat.mod_lt _ (by decide)) (P 7 ((s * pgs P + d) % pgs P) 0 % 2) (Nat.mod_lt _ (by decide))
      refine r_iload C dL_prints_121 rfl ?_
      refine r_iconst C (nI 2) dL_prints_123 rfl ?_
      refine r_aload C dL_prints_124 rfl ?_
      refine r_iconst C (nI 3) dL_prints_126 rfl ?_
      refine al_m_g C hh (by omega) dL_prints_127 ?_
      refine r_imulN C dL_prints_128 ?_
      refine r_iload C dL_prints_129 rfl ?_
      refine r_iconst C (nI 1) dL_prints_131 rfl ?_
      refine r_iaddN C dL_prints_132 ?_
      refine r_imulN C dL_prints_133 ?_
      rw [hw4]
      refine r_icmp_geN (tgt := 180) C dL_prints_134 (by decide) (by omega) (by omega) (fun h134 => ?_) (fun h134 => ?_)
      · have hd : d = min (pgs P) (R 0 0 0 - s * pgs P) := by omega
        refine f_widen (show _ ≤ 25 by omega) (show _ ≤ 152 by omega) (f_W.le ?_ (s_pri180 h hn x y hs hcp hw hrb (fun z hz => nd_nnx h hz hd) (ndL_lt P M _ d) C E hh))
        exact (And.intro rfl (And.intro rfl (And.intro rfl (And.intro rfl (And.intro rfl (And.intro rfl (And.intro rfl (And.intro rfl (And.intro rfl (And.intro rfl (And.intro rfl (And.intro rfl (And.intro rfl (And.intro rfl trivial))))))))))))))
      · refine r_iload C dL_prints_137 rfl ?_
        refine r_aload C dL_prints_139 rfl ?_
        refine r_iconst C (nI 0) dL_prints_141 rfl ?_
        refine al_m_g C hh (by omega) dL_prints_142 ?_
        refine r_icmp_geN (tgt := 180) C dL_prints_143 (by decide) (by omega) (by omega) (fun h143 => ?_) (fun h143 => ?_)
        · have hd : d = min (pgs P) (R 0 0 0 - s * pgs P) := by omega
          refine f_widen (show _ ≤ 25 by omega) (show _ ≤ 152 by omega) (f_W.le ?_ (s_pri180 h hn x y hs hcp hw hrb (fun z hz => nd_nnx h hz hd) (ndL_lt P M _ d) C E hh))
          exact (And.intro rfl (And.intro rfl (And.intro rfl (And.intro rfl (And.intro rfl (And.intro rfl (And.intro rfl (And.intro rfl (And.intro rfl (And.intro rfl (And.intro rfl (And.intro rfl (And.intro rfl (And.intro rfl trivial))))))))))))))
        · refine r_iload C dL_prints_146 rfl ?_
          refine r_aload_n C dL_prints_148 rfl ?_
          refine r_iload C dL_prints_149 rfl ?_
          refine al_m_p C hh (by omega) dL_prints_151 ?_
          refine r_sipush C (nI 256) dL_prints_152 rfl ?_
          refine r_idivN C dL_prints_155 (by omega) (by omega) (by omega) ?_
          refine r_bipush C (nI 16) dL_prints_156 rfl ?_
          refine r_iremN C dL_prints_158 (by omega) (by omega) (by omega) ?_
          refine r_iconst C (nI 4) dL_prints_159 rfl ?_
          refine r_aload_n C dL_prints_160 rfl ?_
          refine r_iload C dL_prints_161 rfl ?_
          refine r_callSW C hh (L_leafOf_k E.2.1 Γ B0 ad h (s * pgs P + d) (by omega)) lw_L_112 rfl rfl (Nat.le_of_ble_eq_true rfl) dL_prints_163 ⟨by decide, by decide⟩ ⟨by omega, by omega⟩ (kk_is (fun H locs hs9 hh => ?_))
          refine r_bipush C (nI 16) dL_prints_166 rfl ?_
          refine r_idivN C dL_prints_168 (by have := h7 ((s * pgs P + d) % pgs P); omega) (by omega) (by omega) ?_
          rw [(face_ok _ (h7 _)).1]
          refine r_imulN C dL_prints_169 ?_
          refine r_ishlN C dL_prints_170 (by omega) (by omega) ?_
          refine r_iorN C dL_prints_171 ?_
          refine r_istore C dL_prints_172 rfl rfl ?_
          refine r_iincN C dL_prints_174 rfl rfl ?_
          refine r_goto (tgt := 121) C dL_prints_177 (by decide) ?_
          refine f_W.le ?_ (ih121 (d + 1) _ _ (by omega) (by omega) (by omega) hh)
          exact (And.intro rfl (And.intro rfl (And.intro rfl (And.intro rfl (And.intro rfl (And.intro rfl (And.intro rfl (And.intro rfl (And.intro rfl (And.intro rfl (And.intro rfl (And.intro rfl (And.intro rfl (And.intro rfl (And.intro rfl trivial)))))))))))))))
  rw [hw3]
  refine f_W.le ?_ (lp121 (pgs P + 1) 0 _ _ (by omega) (by omega) (by omega) hh)
  exact (And.intro rfl (And.intro rfl (And.intro rfl (And.intro rfl (And.intro rfl (And.intro rfl (And.intro rfl (And.intro rfl (And.intro rfl (And.intro rfl (And.intro rfl (And.intro rfl (And.intro rfl (And.intro rfl (And.intro rfl trivial)))))))))))))))

set_option maxHeartbeats 4000000 in
set_option maxRecDepth 100000 in
theorem s_pri46 {X9 : fX} {Γ : fG} {B0 : Nat} {ad : Nat → Nat → Nat} {P R M : fR} {n : Nat} (h : RZ n P R M) (hn : n ≤ 150) (x y : Int32) (hg : ¬ M 4 0 0 = 0) (hw0 : M 6 0 0 = 0) {H : Heap} {locs : List Loc} (C : f_C X9 Γ B0 RL cL_prints 17 9 140 1000 177) (E : f_E X9 Γ B0 (some .boolean) 140 1000 (f_rI (fun r9 w9 => r9 = bI true ∧ ACT Γ ad n w9)) f_no) (hh : f_HS Γ B0 (wj (fw Γ ad P) (xw Γ ad R) (mw Γ ad M)) X9 H locs) : f_W X9 H locs 0 0 46 [some (.ref (ad 1 0)), some (.ref (ad 30 1)), some (.ref (ad 30 2)), some (.ref (ad 30 3)), some (.ref (ad 30 4)), some (.int x), some (.int y), none, none, none, none, none, none, none, none, none, none] [] := by
  have hF := rl_fi h
  have hI := rl_xi h
  have hL := rl_li h
  have h64 := rl_64 h
  have h24 := rl_24 h
  have e0 := rl_0 h
  have hsh := FI_sh (R := R) hF h64
  have esh := rl_sh h
  have hs6 := shL_6 hL
  have e41 := h.2.1.1
  obtain ⟨l1, l2, l3, l40, l41, l42, ⟨l43, l43h⟩, l44, l45⟩ := id hL
  have hs1 : 0 < shL M := by unfold shL; exact Nat.div_pos (by omega) (by omega)
  have hrd := rl_rd h
  refine r_iload C dL_prints_46 rfl ?_
  refine r_aload C dL_prints_48 rfl ?_
  refine r_callS C E hh (c_L_sheets E.2.1 Γ B0 ad M (fw Γ ad P) (xw Γ ad R) hL) lk_L_100 rfl rfl (Nat.le_of_ble_eq_true rfl) dL_prints_50 ⟨by decide, by decide⟩ ⟨by omega, by omega⟩ (fun _ _ z9 => False.elim z9) (kk_is (fun H locs hs9 hh => ?_))
  refine r_callS C E hh (c_low E.2.1 Γ B0 _ _ (shL M) (by omega) (by omega)) lk_L_149 rfl rfl (Nat.le_of_ble_eq_true rfl) dL_prints_53 ⟨by decide, by decide⟩ ⟨by omega, by omega⟩ (fun _ _ z9 => False.elim z9) (kk_rI (fun r9 w9 H locs hs9 hp9 hh => ?_))
  obtain ⟨⟨s, hs0, rfl⟩, rfl⟩ := hp9
  refine r_istore C dL_prints_56 rfl rfl ?_
  refine r_aload_n C dL_prints_58 rfl ?_
  refine r_aload_n C dL_prints_59 rfl ?_
  refine r_aload_n C dL_prints_60 rfl ?_
  refine r_aload C dL_prints_61 rfl ?_
  refine r_callS C E hh (c_L_ready E.2.1 Γ B0 ad M (fw Γ ad P) (xw Γ ad R) hL) lk_L_108 rfl rfl (Nat.le_of_ble_eq_true rfl) dL_prints_63 ⟨by decide, by decide⟩ ⟨by omega, by omega⟩ (fun _ _ z9 => False.elim z9) (kk_is (fun H locs hs9 hh => ?_))
  refine r_iload C dL_prints_66 rfl ?_
  refine r_ishrN C dL_prints_68 (by omega) (by omega) ?_
  refine r_iconst C (nI 1) dL_prints_69 rfl ?_
  refine r_iandN C dL_prints_70 ?_
  refine r_iconst C (nI 1) dL_prints_71 rfl ?_
  have jn80 : ∀ (b : Bool), tb (rdL M (M 4 0 0)) s = b → ∀ (H : Heap) (locs : List Loc), f_HS Γ B0 (wj (fw Γ ad P) (xw Γ ad R) (mw Γ ad M)) X9 H locs → f_W X9 H locs 0 0 80 [some (.ref (ad 1 0)), some (.ref (ad 30 1)), some (.ref (ad 30 2)), some (.ref (ad 30 3)), some (.ref (ad 30 4)), some (.int x), some (.int y), some (.int (nI (s))), none, none, none, none, none, none, none, none, none] [.int (bI b)] := by
    intro b hb H locs hh
    have hrb : afo P R s = b := by
      rw [← hb, hrd.2 s (by omega), decide_eq_true (by omega), Bool.true_and]
    refine r_istore C dL_prints_80 rfl rfl ?_
    refine r_iconst C (nI 1) dL_prints_82 rfl ?_
    refine r_iload C dL_prints_83 rfl ?_
    refine r_sipush C (nI 500) dL_prints_85 rfl ?_
    refine r_callS C E hh (c_low E.2.1 Γ B0 _ _ 500 (by omega) (by omega)) lk_L_149 rfl rfl (Nat.le_of_ble_eq_true rfl) dL_prints_88 ⟨by decide, by decide⟩ ⟨by omega, by omega⟩ (fun _ _ z9 => False.elim z9) (kk_rI (fun r9 w9 H locs hs9 hp9 hh => ?_))
    obtain ⟨⟨c0, hc0, rfl⟩, rfl⟩ := hp9
    refine r_iaddN C dL_prints_91 ?_
    generalize hcd : 1 + c0 = cp
    have hcp : 1 ≤ cp ∧ cp ≤ 500 := by omega
    refine r_istore C dL_prints_92 rfl rfl ?_
    refine r_iconst C (nI 0) dL_prints_94 rfl ?_
    refine r_istore C dL_prints_95 rfl rfl ?_
    refine r_iconst C (nI 0) dL_prints_97 rfl ?_
    refine r_istore C dL_prints_98 rfl rfl ?_
    refine r_iload C dL_prints_100 rfl ?_
    refine r_istore C dL_prints_102 rfl rfl ?_
    refine r_bipush C (nI 8) dL_prints_104 rfl ?_
    refine r_newa (.inr (.inr 5)) C hh ((show (if M 6 0 0 = 0 then none else some (M 6 0 0 - 1, (.inl (Γ.2 0, 8, .inl (fun i => iM (M 5 i 0))) : va_E))) = none from if_pos hw0)) 0 rfl rfl (fun _ z9 => by cases z9) ac_int (8, .inl (fun _ => 0)) (fun _ => rfl) (by decide) (by decide) (by omega) (by omega) dL_prints_106 (fun H1 hz9 hh => ?_)
    obtain ⟨M2, h2, hw2, e2, hh2⟩ := alloc5 h hw0 hh
    rw [← e2]
    refine r_astore C dL_prints_108 rfl rfl ?_
    refine f_W.le ?_ (s_pri110 (M := M2) h2 hn x y (s := s) (cp := cp) (by omega) hcp hw2 hrb C E hh2)
    exact (And.intro rfl (And.intro rfl (And.intro rfl (And.intro rfl (And.intro rfl (And.intro rfl (And.intro rfl (And.intro rfl (And.intro rfl (And.intro rfl (And.intro rfl (And.intro rfl (And.intro rfl (And.intro rfl trivial))))))))))))))
  refine r_icmp_neN (tgt := 79) C dL_prints_72 (by decide) (Nat.lt_of_le_of_lt Nat.and_le_right (by decide)) (by omega) (fun h72 => ?_) (fun h72 => ?_)
  · refine r_iconst C (bI false) dL_prints_79 rfl ?_
    exact jn80 _ (by first | exact (pk_and1 _ _).1.mp h72 | (cases z : tb (rdL M (M 4 0 0)) s; rfl; exact absurd ((pk_and1 _ _).1.mpr z) h72)) _ _ hh
  · refine r_iconst C (bI true) dL_prints_75 rfl ?_
    refine r_goto (tgt := 80) C dL_prints_76 (by decide) ?_
    exact jn80 _ (by first | exact (pk_and1 _ _).1.mp h72 | (cases z : tb (rdL M (M 4 0 0)) s; rfl; exact absurd ((pk_and1 _ _).1.mpr z) h72)) _ _ hh

set_option maxHeartbeats 4000000 in
set_option maxRecDepth 100000 in
theorem c_L_prints {l : Launch} (hl : l.stackTraces = false) (Γ : fG) (B0 : Nat) (ad : Nat → Nat → Nat) (P R M : fR) (n : Nat) (h : RZ n P R M) (hn : n ≤ 150) (x y : Int32) : f_Met l yL_prints cL_prints 17 (some .boolean) 9 140 1000 177 Γ B0 [.ref (ad 1 0), .ref (ad 30 1), .ref (ad 30 2), .ref (ad 30 3), .ref (ad 30 4), .int x, .int y] (wj (fw Γ ad P) (xw Γ ad R) (mw Γ ad M)) (f_rI (fun r9 w9 => r9 = bI true ∧ ACT Γ ad n w9)) f_no := by
  refine f_of hl (by decide) rfl (Nat.le_of_ble_eq_true rfl) (fun X9 C E hh hnm => ?_)
  generalize (f_s X9).heap = H, ([] : List Loc) = locs at hh ⊢
  have hF := rl_fi h
  have hI := rl_xi h
  have hL := rl_li h
  have h64 := rl_64 h
  have h24 := rl_24 h
  have e0 := rl_0 h
  have hsh := FI_sh (R := R) hF h64
  have esh := rl_sh h
  have hs6 := shL_6 hL
  have e41 := h.2.1.1
  obtain ⟨l1, l2, l3, l40, l41, l42, ⟨l43, l43h⟩, l44, l45⟩ := id hL
  have hb := rl_b h
  refine r_aload C dL_prints_0 rfl ?_
  refine r_iconst C (nI 0) dL_prints_2 rfl ?_
  refine al_m_g C hh (by omega) dL_prints_3 ?_
  refine r_if_neN (tgt := 46) C dL_prints_4 (by decide) (by omega) (fun h4 => ?_) (fun h4 => ?_)
  · exact s_pri46 (M := rs M 6 (k0 0)) h hn x y h4 rfl C E (hs_drop5 hh)
  · have hs0 : shc P R = 0 := by
      have e9 : shc P R = (R 0 0 0 + pgs P - 1) / pgs P := rfl
      have hpg := FI_pg hF
      rw [e9, e0, h4, Nat.div_eq_of_lt (by omega)]
    refine r_aload_n C dL_prints_7 rfl ?_
    refine r_iconst C (nI 0) dL_prints_8 rfl ?_
    refine r_callSW C hh (x_makePlates1 E.2.1 Γ B0 ad P R _ _ hF hI (by omega) (not_rg (by omega) (by decide))) lw_L_185 rfl rfl (Nat.le_of_ble_eq_true rfl) dL_prints_9 ⟨by decide, by decide⟩ ⟨by omega, by omega⟩ (kk_is (fun H locs hs9 hh => ?_))
    refine r_ldc C ct_L_18 dL_prints_12 ?_
    refine r_icmp_ne (tgt := 44) C dL_prints_14 (by decide) (fun h14 => ?_) (fun h14 => ?_)
    · exact absurd (rfl) h14
    · refine r_aload_n C dL_prints_17 rfl ?_
      refine r_iconst C (nI 0) dL_prints_18 rfl ?_
      refine r_iconst C (nI 0) dL_prints_19 rfl ?_
      refine r_callSW C hh (x_print1 E.2.1 Γ B0 ad P R _ _ _ hF hI (by omega) (not_rg (by omega) (by decide))) lw_L_187 rfl rfl (Nat.le_of_ble_eq_true rfl) dL_prints_20 ⟨by decide, by decide⟩ ⟨by omega, by omega⟩ (kk_rI (fun r9 w9 H locs hs9 hp9 hh => ?_))
      obtain ⟨rfl, Rz, hjz, rfl⟩ := hp9
      have hz := RZ_jk h hjz.1 hjz.2
      refine r_ldc C ct_L_18 dL_prints_23 ?_
      refine r_icmp_ne (tgt := 44) C dL_prints_25 (by decide) (fun h25 => ?_) (fun h25 => ?_)
      · exact absurd (rfl) h25
      · refine r_aload_n C dL_prints_28 rfl ?_
        refine r_iconst C (nI 0) dL_prints_29 rfl ?_
        refine r_iconst C (nI 2) dL_prints_30 rfl ?_
        refine r_iconst C (nI 0) dL_prints_31 rfl ?_
        refine r_callSW C hh (x_wear1 E.2.1 Γ B0 ad P Rz _ _ _ _ hF hjz.2 (not_rg (by rw [show shc P Rz = shc P R from (by have e9 : ∀ R, shc P R = (R 0 0 0 + pgs P - 1) / pgs P := fun _ => rfl; rw [e9, e9, hjz.1 0 (by decide) (by decide)]), hs0]; exact Nat.le_refl _) (by decide))) lw_L_189 rfl rfl (Nat.le_of_ble_eq_true rfl) dL_prints_32 ⟨by decide, by decide⟩ ⟨by omega, by omega⟩ (kk_is (fun H locs hs9 hh => ?_))
        refine r_ldc C ct_L_18 dL_prints_35 ?_
        refine r_icmp_ne (tgt := 44) C dL_prints_37 (by decide) (fun h37 => ?_) (fun h37 => ?_)
        · exact absurd (rfl) h37
        · refine r_iconst C (bI true) dL_prints_40 rfl ?_
          refine r_goto (tgt := 45) C dL_prints_41 (by decide) ?_
          exact r_zret C E hh dL_prints_45 (by omega) (by omega) ⟨_, rfl, rfl, ad, P, Rz, M, RL_up (Nat.le_succ n) hz, rfl, fun _ => rfl, rfl⟩

