/-! ===== folding: up and down ===== -/
theorem rs4 (P : fR) (a b a' b' : Nat → Nat → Nat) : rs (rs (rs (rs P 5 a) 9 b) 5 a') 9 b' = rs (rs P 5 a') 9 b' := by
  funext c
  by_cases h9 : c = 9
  · subst h9; rw [rs_same, rs_same]
  · rw [rs_ne _ _ h9, rs_ne _ _ h9]
    by_cases h5 : c = 5
    · subst h5; rw [rs_same, rs_same]
    · rw [rs_ne _ _ h5, rs_ne _ _ h9, rs_ne _ _ h5, rs_ne _ _ h5]
set_option maxHeartbeats 4000000 in
set_option maxRecDepth 100000 in
theorem c_X0_foldUpOrDown {l : Launch} (hl : l.stackTraces = false) (Γ : fG) (B0 : Nat) (ad : Nat → Nat → Nat) (P : fR) (X : Nat × Nat → fO) (M : Nat → fO) (k rl cl h : Nat) (hk : k < 4) (h1 : 1 ≤ h) (hcl : 1 ≤ cl) (hb : rl * cl * 2 * h ≤ 16) (hm : rl ≤ 16 ∧ cl ≤ 16 ∧ h ≤ 16) (h8 : ∀ i, P 8 i 0 < 32) : f_Met l yX0_foldUpOrDown cX0_foldUpOrDown 10 none 2 0 0 48 Γ B0 [.ref (ad 0 0), .int (nI (k)), .int (nI (rl)), .int (nI (cl)), .int (nI (h))] (wj (fw Γ ad P) X M) (f_to (wj (fw Γ ad (rs (rs P 5 (tU (P 5) (P 8) k rl cl h (rl * cl))) 9 (gU (P 9) (P 8) k rl cl h (rl * cl)))) X M)) f_no := by
  refine f_of hl (by decide) rfl (Nat.le_of_ble_eq_true rfl) (fun X9 C E hh hnm => ?_)
  generalize (f_s X9).heap = H, ([] : List Loc) = locs at hh ⊢
  refine r_iconst C (nI 0) dX0_foldUpOrDown_0 rfl ?_
  refine r_istore C dX0_foldUpOrDown_1 rfl rfl ?_
  have lp3 : ∀ (d9 : Nat) (r : Nat) (H : Heap) (locs : List Loc), rl - r < d9 → r ≤ rl → f_HS Γ B0 (wj (fw Γ ad (rs (rs P 5 (tU (P 5) (P 8) k rl cl h (r * cl))) 9 (gU (P 9) (P 8) k rl cl h (r * cl)))) X M) X9 H locs → f_W X9 H locs 0 0 3 [some (.ref (ad 0 0)), some (.int (nI (k))), some (.int (nI (rl))), some (.int (nI (cl))), some (.int (nI (h))), some (.int (nI (r))), none, none, none, none] [] := by
    intro d9
    induction d9 with
    | zero => intro r H locs hd9 hl hh; exact absurd hd9 (Nat.not_lt_zero _)
    | succ d9 ih3 =>
      intro r H locs hd9 hl hh
      refine r_iload C dX0_foldUpOrDown_3 rfl ?_
      refine r_iload_n C dX0_foldUpOrDown_5 rfl ?_
      refine r_icmp_geN (tgt := 95) C dX0_foldUpOrDown_6 (by decide) (by omega) (by omega) (fun h6 => ?_) (fun h6 => ?_)
      · obtain rfl : r = rl := by omega
        exact r_vret C E hh dX0_foldUpOrDown_95 (by omega) (by omega) ⟨rfl, rfl⟩
      · have jn23 : ∀ (st : Nat), stS k 3 rl r = st → f_W X9 H locs 0 0 23 [some (.ref (ad 0 0)), some (.int (nI (k))), some (.int (nI (rl))), some (.int (nI (cl))), some (.int (nI (h))), some (.int (nI (r))), none, none, none, none] [.int (nI st)] := by
          intro st hS
          have hst : st < 2 * rl := by
            rw [← hS]; unfold stS; split <;> omega
          refine r_istore C dX0_foldUpOrDown_23 rfl rfl ?_
          refine r_iconst C (nI 2) dX0_foldUpOrDown_25 rfl ?_
          refine r_iload_n C dX0_foldUpOrDown_26 rfl ?_
          refine r_imulN C dX0_foldUpOrDown_27 ?_
          refine r_iconst C (nI 1) dX0_foldUpOrDown_28 rfl ?_
          refine r_isubN C dX0_foldUpOrDown_29 (by omega) ?_
          refine r_iload C dX0_foldUpOrDown_30 rfl ?_
          refine r_isubN C dX0_foldUpOrDown_32 (by omega) ?_
          refine r_istore C dX0_foldUpOrDown_33 rfl rfl ?_
          refine r_iconst C (nI 0) dX0_foldUpOrDown_35 rfl ?_
          refine r_istore C dX0_foldUpOrDown_36 rfl rfl ?_
          have lp38 : ∀ (d9 : Nat) (c : Nat) (H : Heap) (locs : List Loc), cl - c < d9 → c ≤ cl → f_HS Γ B0 (wj (fw Γ ad (rs (rs P 5 (tU (P 5) (P 8) k rl cl h (r * cl + c))) 9 (gU (P 9) (P 8) k rl cl h (r * cl + c)))) X M) X9 H locs → f_W X9 H locs 0 0 38 [some (.ref (ad 0 0)), some (.int (nI (k))), some (.int (nI (rl))), some (.int (nI (cl))), some (.int (nI (h))), some (.int (nI (r))), some (.int (nI (st))), some (.int (nI (2 * rl - 1 - (st)))), some (.int (nI (c))), none] [] := by
            intro d9
            induction d9 with
            | zero => intro c H locs hd9 hl hh; exact absurd hd9 (Nat.not_lt_zero _)
            | succ d9 ih38 =>
              intro c H locs hd9 hl hh
              refine r_iload C dX0_foldUpOrDown_38 rfl ?_
              refine r_iload_n C dX0_foldUpOrDown_40 rfl ?_
              refine r_icmp_geN (tgt := 89) C dX0_foldUpOrDown_41 (by decide) (by omega) (by omega) (fun h41 => ?_) (fun h41 => ?_)
              · have e41 : c = cl := by omega
                rw [e41] at hh
                refine r_iincN C dX0_foldUpOrDown_89 rfl rfl ?_
                refine r_goto (tgt := 3) C dX0_foldUpOrDown_92 (by decide) ?_
                rw [show r * cl + cl = (r + 1) * cl by rw [Nat.succ_mul]] at hh
                refine f_W.le ?_ (ih3 (r + 1) _ _ (by omega) (by omega) hh)
                exact (And.intro rfl (And.intro rfl (And.intro rfl (And.intro rfl (And.intro rfl (And.intro rfl trivial))))))
              · have hnp := pile_le (h := 2 * h) (leaf_lt h6 h41) (by rw [← Nat.mul_assoc]; exact hb)
                rw [← Nat.mul_assoc] at hnp
                have hq : ∀ s, s < 2 * rl → (s * cl + c) * h + h ≤ 16 := fun s hs => pile_le (n := rl * cl * 2) (by have := leaf_lt hs h41; rw [Nat.mul_right_comm, Nat.mul_comm rl 2]; exact this) hb
                refine r_iload C dX0_foldUpOrDown_44 rfl ?_
                refine r_iload_n C dX0_foldUpOrDown_46 rfl ?_
                refine r_imulN C dX0_foldUpOrDown_47 ?_
                refine r_iload C dX0_foldUpOrDown_48 rfl ?_
                refine r_iaddN C dX0_foldUpOrDown_50 ?_
                refine r_istore C dX0_foldUpOrDown_51 rfl rfl ?_
                refine r_aload_n C dX0_foldUpOrDown_53 rfl ?_
                refine r_iload C dX0_foldUpOrDown_54 rfl ?_
                refine r_iload C dX0_foldUpOrDown_56 rfl ?_
                refine r_callV C E hh (c_X0_turnLeaves E.2.1 Γ B0 _ _ _ _ _ _ (hq _ (by omega)) h8) lk_X0_74 (tr := .inl 0) rfl rfl rfl rfl (Nat.le_of_ble_eq_true rfl) dX0_foldUpOrDown_58 ⟨by decide, by decide⟩ ⟨by omega, by omega⟩ (fun _ _ z9 => False.elim z9) (kk_to (fun H locs hs9 hh => ?_))
                refine r_aload_n C dX0_foldUpOrDown_61 rfl ?_
                refine r_iload C dX0_foldUpOrDown_62 rfl ?_
                refine r_iload_n C dX0_foldUpOrDown_64 rfl ?_
                refine r_imulN C dX0_foldUpOrDown_65 ?_
                refine r_iload C dX0_foldUpOrDown_66 rfl ?_
                refine r_iaddN C dX0_foldUpOrDown_68 ?_
                refine r_iload C dX0_foldUpOrDown_69 rfl ?_
                refine r_iload_n C dX0_foldUpOrDown_71 rfl ?_
                refine r_imulN C dX0_foldUpOrDown_72 ?_
                refine r_iload C dX0_foldUpOrDown_73 rfl ?_
                refine r_iaddN C dX0_foldUpOrDown_75 ?_
                refine r_iload C dX0_foldUpOrDown_76 rfl ?_
                refine r_iload C dX0_foldUpOrDown_78 rfl ?_
                refine r_callV C E hh (c_X0_layOver E.2.1 Γ B0 _ _ _ _ _ _ _ _ h1 hnp (hq _ (by omega)) (hq _ (by omega)) h8) lk_X0_71 (tr := .inl 0) rfl rfl rfl rfl (Nat.le_of_ble_eq_true rfl) dX0_foldUpOrDown_80 ⟨by decide, by decide⟩ ⟨by omega, by omega⟩ (fun _ _ z9 => False.elim z9) (kk_to (fun H locs hs9 hh => ?_))
                replace hh : f_HS Γ B0 (wj (fw Γ ad (rs (rs P 5 (tU (P 5) (P 8) k rl cl h (r * cl + (c + 1)))) 9 (gU (P 9) (P 8) k rl cl h (r * cl + (c + 1))))) X M) X9 H locs := by
                  have e1 := gU_s (P 9) (P 8) k rl h (r := r) h41
                  have e2 := tU_s (P 5) (P 8) k rl h (r := r) h41
                  rw [hS] at e1 e2
                  rw [← e1, ← e2, ← rs4 P (tU (P 5) (P 8) k rl cl h (r * cl + c)) (gU (P 9) (P 8) k rl cl h (r * cl + c))]
                  exact hh
                refine r_iincN C dX0_foldUpOrDown_83 rfl rfl ?_
                refine r_goto (tgt := 38) C dX0_foldUpOrDown_86 (by decide) ?_
                refine f_W.le ?_ (ih38 (c + 1) _ _ (by omega) (by omega) hh)
                exact (And.intro rfl (And.intro rfl (And.intro rfl (And.intro rfl (And.intro rfl (And.intro rfl (And.intro rfl (And.intro rfl (And.intro rfl trivial)))))))))
          exact lp38 (cl + 1) 0 _ _ (by omega) (by omega) hh
        refine r_iload_n C dX0_foldUpOrDown_9 rfl ?_
        refine r_iconst C (nI 3) dX0_foldUpOrDown_10 rfl ?_
        refine r_icmp_neN (tgt := 21) C dX0_foldUpOrDown_11 (by decide) (by omega) (by omega) (fun h11 => ?_) (fun h11 => ?_)
        · have hS : stS k 3 rl r = r := if_neg (by omega)
          refine r_iload C dX0_foldUpOrDown_21 rfl ?_
          exact jn23 _ hS
        · have hS : stS k 3 rl r = rl + r := if_pos (by omega)
          refine r_iload_n C dX0_foldUpOrDown_14 rfl ?_
          refine r_iload C dX0_foldUpOrDown_15 rfl ?_
          refine r_iaddN C dX0_foldUpOrDown_17 ?_
          refine r_goto (tgt := 23) C dX0_foldUpOrDown_18 (by decide) ?_
          exact jn23 _ hS
  rw [show P = rs (rs P 5 (tU (P 5) (P 8) k rl cl h (0 * cl))) 9 (gU (P 9) (P 8) k rl cl h (0 * cl)) by rw [Nat.zero_mul]; show P = rs (rs P 5 (P 5)) 9 (P 9); rw [rs_id P 5, rs_id P 9]] at hh
  exact lp3 (rl + 1) 0 _ _ (by omega) (by omega) hh

