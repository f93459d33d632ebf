/-! ===== folding: the folds ===== -/
def stS (k t cl c : Nat) : Nat := if k = t then cl + c else c
def gS (fo pi : Nat → Nat → Nat) (k cl h : Nat) : Nat → (Nat → Nat → Nat)
  | 0 => fo
  | x + 1 => lyf (gS fo pi k cl h x) pi (x * 2 * h) ((x / cl * 2 * cl + stS k 1 cl (x % cl)) * h) ((x / cl * 2 * cl + (2 * cl - 1 - stS k 1 cl (x % cl))) * h) h h
def gU (fo pi : Nat → Nat → Nat) (k rl cl h : Nat) : Nat → (Nat → Nat → Nat)
  | 0 => fo
  | x + 1 => lyf (gU fo pi k rl cl h x) pi (x * 2 * h) ((stS k 3 rl (x / cl) * cl + x % cl) * h) (((2 * rl - 1 - stS k 3 rl (x / cl)) * cl + x % cl) * h) h h
def tU (tu pi : Nat → Nat → Nat) (k rl cl h : Nat) : Nat → (Nat → Nat → Nat)
  | 0 => tu
  | x + 1 => trf (tU tu pi k rl cl h x) (fun l => pi (((2 * rl - 1 - stS k 3 rl (x / cl)) * cl + x % cl) * h + l) 0) h
theorem dm_1 {r c cl : Nat} (hc : c < cl) : (r * cl + c) / cl = r := by
  rw [Nat.mul_comm, Nat.mul_add_div (by omega), Nat.div_eq_of_lt hc, Nat.add_zero]
theorem dm_2 {r c cl : Nat} (hc : c < cl) : (r * cl + c) % cl = c := by
  rw [Nat.mul_comm, Nat.mul_add_mod, Nat.mod_eq_of_lt hc]
theorem gS_s (fo pi : Nat → Nat → Nat) (k h : Nat) {cl r c : Nat} (hc : c < cl) : lyf (gS fo pi k cl h (r * cl + c)) pi ((r * cl + c) * 2 * h) ((r * 2 * cl + stS k 1 cl c) * h) ((r * 2 * cl + (2 * cl - 1 - stS k 1 cl c)) * h) h h = gS fo pi k cl h (r * cl + (c + 1)) := by
  rw [show r * cl + (c + 1) = (r * cl + c) + 1 from rfl]
  conv => rhs; unfold gS
  rw [dm_1 hc, dm_2 hc]
theorem gS_y (fo pi : Nat → Nat → Nat) {k : Nat} (h : Nat) {cl r c : Nat} (hc : c < cl) (hk : k = 1) : lyf (gS fo pi k cl h (r * cl + c)) pi ((r * cl + c) * 2 * h) ((r * 2 * cl + (cl + c)) * h) ((r * 2 * cl + (2 * cl - 1 - (cl + c))) * h) h h = gS fo pi k cl h (r * cl + (c + 1)) := by
  rw [← gS_s fo pi k h hc, show stS k 1 cl c = cl + c from if_pos hk]
theorem gS_n (fo pi : Nat → Nat → Nat) {k : Nat} (h : Nat) {cl r c : Nat} (hc : c < cl) (hk : ¬ k = 1) : lyf (gS fo pi k cl h (r * cl + c)) pi ((r * cl + c) * 2 * h) ((r * 2 * cl + c) * h) ((r * 2 * cl + (2 * cl - 1 - c)) * h) h h = gS fo pi k cl h (r * cl + (c + 1)) := by
  rw [← gS_s fo pi k h hc, show stS k 1 cl c = c from if_neg hk]
theorem gU_s (fo pi : Nat → Nat → Nat) (k rl h : Nat) {cl r c : Nat} (hc : c < cl) : lyf (gU fo pi k rl cl h (r * cl + c)) pi ((r * cl + c) * 2 * h) ((stS k 3 rl r * cl + c) * h) (((2 * rl - 1 - stS k 3 rl r) * cl + c) * h) h h = gU fo pi k rl cl h (r * cl + (c + 1)) := by
  rw [show r * cl + (c + 1) = (r * cl + c) + 1 from rfl]
  conv => rhs; unfold gU
  rw [dm_1 hc, dm_2 hc]
theorem tU_s (tu pi : Nat → Nat → Nat) (k rl h : Nat) {cl r c : Nat} (hc : c < cl) : trf (tU tu pi k rl cl h (r * cl + c)) (fun l => pi (((2 * rl - 1 - stS k 3 rl r) * cl + c) * h + l) 0) h = tU tu pi k rl cl h (r * cl + (c + 1)) := by
  rw [show r * cl + (c + 1) = (r * cl + c) + 1 from rfl]
  conv => rhs; unfold tU
  rw [dm_1 hc, dm_2 hc]
theorem rs_id (P : fR) (c : Nat) : rs P c (P c) = P := by
  funext d
  by_cases hc : d = c
  · subst hc; rw [rs_same]
  · rw [rs_ne _ _ hc]
theorem pile_le {p n h : Nat} (h1 : p < n) (hb : n * h ≤ 16) : p * h + h ≤ 16 := by
  have h2 : (p + 1) * h ≤ n * h := Nat.mul_le_mul_right h h1
  rw [Nat.succ_mul] at h2
  omega
theorem pile_lt {r c rl cl : Nat} (hr : r < rl) (hc : c < 2 * cl) : r * 2 * cl + c < rl * 2 * cl := by
  have := leaf_lt hr hc
  rwa [← Nat.mul_assoc, ← Nat.mul_assoc] at this
set_option maxHeartbeats 4000000 in
set_option maxRecDepth 100000 in
theorem c_X0_foldSideways {l : Launch} (hl : l.stackTraces = false) (Γ : fG) (B0 : Nat) (ad : Nat → Nat → Nat) (P : fR) (X : Nat × Nat → fO) (M : Nat → fO) (k rl cl h : Nat) (hk : k < 4) (h1 : 1 ≤ h) (hcl : 1 ≤ cl) (hb : rl * cl * 2 * h ≤ 16) (hm : rl ≤ 16 ∧ cl ≤ 16 ∧ h ≤ 16) (h8 : ∀ i, P 8 i 0 < 32) : f_Met l yX0_foldSideways cX0_foldSideways 10 none 2 0 0 48 Γ B0 [.ref (ad 0 0), .int (nI (k)), .int (nI (rl)), .int (nI (cl)), .int (nI (h))] (wj (fw Γ ad P) X M) (f_to (wj (fw Γ ad (rs P 9 (gS (P 9) (P 8) k cl h (rl * cl)))) X M)) f_no := by
  refine f_of hl (by decide) rfl (Nat.le_of_ble_eq_true rfl) (fun X9 C E hh hnm => ?_)
  generalize (f_s X9).heap = H, ([] : List Loc) = locs at hh ⊢
  refine r_iconst C (nI 0) dX0_foldSideways_0 rfl ?_
  refine r_istore C dX0_foldSideways_1 rfl rfl ?_
  have lp3 : ∀ (d9 : Nat) (r : Nat) (H : Heap) (locs : List Loc), rl - r < d9 → r ≤ rl → f_HS Γ B0 (wj (fw Γ ad (rs P 9 (gS (P 9) (P 8) k cl h (r * cl)))) X M) X9 H locs → f_W X9 H locs 0 0 3 [some (.ref (ad 0 0)), some (.int (nI (k))), some (.int (nI (rl))), some (.int (nI (cl))), some (.int (nI (h))), some (.int (nI (r))), none, none, none, none] [] := by
    intro d9
    induction d9 with
    | zero => intro r H locs hd9 hl hh; exact absurd hd9 (Nat.not_lt_zero _)
    | succ d9 ih3 =>
      intro r H locs hd9 hl hh
      refine r_iload C dX0_foldSideways_3 rfl ?_
      refine r_iload_n C dX0_foldSideways_5 rfl ?_
      refine r_icmp_geN (tgt := 87) C dX0_foldSideways_6 (by decide) (by omega) (by omega) (fun h6 => ?_) (fun h6 => ?_)
      · obtain rfl : r = rl := by omega
        exact r_vret C E hh dX0_foldSideways_87 (by omega) (by omega) ⟨rfl, rfl⟩
      · refine r_iconst C (nI 0) dX0_foldSideways_9 rfl ?_
        refine r_istore C dX0_foldSideways_10 rfl rfl ?_
        have lp12 : ∀ (d9 : Nat) (c : Nat) (H : Heap) (locs : List Loc), cl - c < d9 → c ≤ cl → f_HS Γ B0 (wj (fw Γ ad (rs P 9 (gS (P 9) (P 8) k cl h (r * cl + c)))) X M) X9 H locs → f_W X9 H locs 0 0 12 [some (.ref (ad 0 0)), some (.int (nI (k))), some (.int (nI (rl))), some (.int (nI (cl))), some (.int (nI (h))), some (.int (nI (r))), some (.int (nI (c))), none, none, none] [] := by
          intro d9
          induction d9 with
          | zero => intro c H locs hd9 hl hh; exact absurd hd9 (Nat.not_lt_zero _)
          | succ d9 ih12 =>
            intro c H locs hd9 hl hh
            refine r_iload C dX0_foldSideways_12 rfl ?_
            refine r_iload_n C dX0_foldSideways_14 rfl ?_
            refine r_icmp_geN (tgt := 81) C dX0_foldSideways_15 (by decide) (by omega) (by omega) (fun h15 => ?_) (fun h15 => ?_)
            · have e15 : c = cl := by omega
              rw [e15] at hh
              refine r_iincN C dX0_foldSideways_81 rfl rfl ?_
              refine r_goto (tgt := 3) C dX0_foldSideways_84 (by decide) ?_
              rw [show r * cl + cl = (r + 1) * cl by rw [Nat.succ_mul]] at hh
              refine f_W.le ?_ (ih3 (r + 1) _ _ (by omega) (by omega) hh)
              exact (And.intro rfl (And.intro rfl (And.intro rfl (And.intro rfl (And.intro rfl (And.intro rfl trivial))))))
            · have hnp := pile_le (h := 2 * h) (leaf_lt h6 h15) (by rw [← Nat.mul_assoc]; exact hb)
              rw [← Nat.mul_assoc] at hnp
              have hq : ∀ s, s < 2 * cl → (r * 2 * cl + s) * h + h ≤ 16 := fun s hs => pile_le (n := rl * 2 * cl) (pile_lt h6 hs) (by rw [Nat.mul_assoc rl 2 cl, Nat.mul_comm 2 cl, ← Nat.mul_assoc]; exact hb)
              refine r_iload_n C dX0_foldSideways_18 rfl ?_
              refine r_iconst C (nI 1) dX0_foldSideways_19 rfl ?_
              refine r_icmp_neN (tgt := 30) C dX0_foldSideways_20 (by decide) (by omega) (by omega) (fun h20 => ?_) (fun h20 => ?_)
              · refine r_iload C dX0_foldSideways_30 rfl ?_
                refine r_istore C dX0_foldSideways_32 rfl rfl ?_
                refine r_iconst C (nI 2) dX0_foldSideways_34 rfl ?_
                refine r_iload_n C dX0_foldSideways_35 rfl ?_
                refine r_imulN C dX0_foldSideways_36 ?_
                refine r_iconst C (nI 1) dX0_foldSideways_37 rfl ?_
                refine r_isubN C dX0_foldSideways_38 (by omega) ?_
                refine r_iload C dX0_foldSideways_39 rfl ?_
                refine r_isubN C dX0_foldSideways_41 (by omega) ?_
                refine r_istore C dX0_foldSideways_42 rfl rfl ?_
                refine r_iload C dX0_foldSideways_44 rfl ?_
                refine r_iconst C (nI 2) dX0_foldSideways_46 rfl ?_
                refine r_imulN C dX0_foldSideways_47 ?_
                refine r_iload_n C dX0_foldSideways_48 rfl ?_
                refine r_imulN C dX0_foldSideways_49 ?_
                refine r_istore C dX0_foldSideways_50 rfl rfl ?_
                refine r_aload_n C dX0_foldSideways_52 rfl ?_
                refine r_iload C dX0_foldSideways_53 rfl ?_
                refine r_iload_n C dX0_foldSideways_55 rfl ?_
                refine r_imulN C dX0_foldSideways_56 ?_
                refine r_iload C dX0_foldSideways_57 rfl ?_
                refine r_iaddN C dX0_foldSideways_59 ?_
                refine r_iload C dX0_foldSideways_60 rfl ?_
                refine r_iload C dX0_foldSideways_62 rfl ?_
                refine r_iaddN C dX0_foldSideways_64 ?_
                refine r_iload C dX0_foldSideways_65 rfl ?_
                refine r_iload C dX0_foldSideways_67 rfl ?_
                refine r_iaddN C dX0_foldSideways_69 ?_
                refine r_iload C dX0_foldSideways_70 rfl ?_
                refine r_callV C E hh (c_X0_layOver E.2.1 Γ B0 _ _ _ _ _ _ _ _ h1 hnp (hq _ (by omega)) (hq _ (by omega)) h8) lk_X0_71 (tr := .inl 0) rfl rfl rfl rfl (Nat.le_of_ble_eq_true rfl) dX0_foldSideways_72 ⟨by decide, by decide⟩ ⟨by omega, by omega⟩ (fun _ _ z9 => False.elim z9) (kk_to (fun H locs hs9 hh => ?_))
                rw [rs_same, rs_rs, show rs P 9 (gS (P 9) (P 8) k cl h (r * cl + c)) 8 = P 8 from rfl] at hh
                first
                  | rw [gS_y (P 9) (P 8) h h15 (by omega)] at hh
                  | rw [gS_n (P 9) (P 8) h h15 (by omega)] at hh
                refine r_iincN C dX0_foldSideways_75 rfl rfl ?_
                refine r_goto (tgt := 12) C dX0_foldSideways_78 (by decide) ?_
                refine f_W.le ?_ (ih12 (c + 1) _ _ (by omega) (by omega) hh)
                exact (And.intro rfl (And.intro rfl (And.intro rfl (And.intro rfl (And.intro rfl (And.intro rfl (And.intro rfl trivial)))))))
              · refine r_iload_n C dX0_foldSideways_23 rfl ?_
                refine r_iload C dX0_foldSideways_24 rfl ?_
                refine r_iaddN C dX0_foldSideways_26 ?_
                refine r_goto (tgt := 32) C dX0_foldSideways_27 (by decide) ?_
                refine r_istore C dX0_foldSideways_32 rfl rfl ?_
                refine r_iconst C (nI 2) dX0_foldSideways_34 rfl ?_
                refine r_iload_n C dX0_foldSideways_35 rfl ?_
                refine r_imulN C dX0_foldSideways_36 ?_
                refine r_iconst C (nI 1) dX0_foldSideways_37 rfl ?_
                refine r_isubN C dX0_foldSideways_38 (by omega) ?_
                refine r_iload C dX0_foldSideways_39 rfl ?_
                refine r_isubN C dX0_foldSideways_41 (by omega) ?_
                refine r_istore C dX0_foldSideways_42 rfl rfl ?_
                refine r_iload C dX0_foldSideways_44 rfl ?_
                refine r_iconst C (nI 2) dX0_foldSideways_46 rfl ?_
                refine r_imulN C dX0_foldSideways_47 ?_
                refine r_iload_n C dX0_foldSideways_48 rfl ?_
                refine r_imulN C dX0_foldSideways_49 ?_
                refine r_istore C dX0_foldSideways_50 rfl rfl ?_
                refine r_aload_n C dX0_foldSideways_52 rfl ?_
                refine r_iload C dX0_foldSideways_53 rfl ?_
                refine r_iload_n C dX0_foldSideways_55 rfl ?_
                refine r_imulN C dX0_foldSideways_56 ?_
                refine r_iload C dX0_foldSideways_57 rfl ?_
                refine r_iaddN C dX0_foldSideways_59 ?_
                refine r_iload C dX0_foldSideways_60 rfl ?_
                refine r_iload C dX0_foldSideways_62 rfl ?_
                refine r_iaddN C dX0_foldSideways_64 ?_
                refine r_iload C dX0_foldSideways_65 rfl ?_
                refine r_iload C dX0_foldSideways_67 rfl ?_
                refine r_iaddN C dX0_foldSideways_69 ?_
                refine r_iload C dX0_foldSideways_70 rfl ?_
                refine r_callV C E hh (c_X0_layOver E.2.1 Γ B0 _ _ _ _ _ _ _ _ h1 hnp (hq _ (by omega)) (hq _ (by omega)) h8) lk_X0_71 (tr := .inl 0) rfl rfl rfl rfl (Nat.le_of_ble_eq_true rfl) dX0_foldSideways_72 ⟨by decide, by decide⟩ ⟨by omega, by omega⟩ (fun _ _ z9 => False.elim z9) (kk_to (fun H locs hs9 hh => ?_))
                rw [rs_same, rs_rs, show rs P 9 (gS (P 9) (P 8) k cl h (r * cl + c)) 8 = P 8 from rfl] at hh
                first
                  | rw [gS_y (P 9) (P 8) h h15 (by omega)] at hh
                  | rw [gS_n (P 9) (P 8) h h15 (by omega)] at hh
                refine r_iincN C dX0_foldSideways_75 rfl rfl ?_
                refine r_goto (tgt := 12) C dX0_foldSideways_78 (by decide) ?_
                refine f_W.le ?_ (ih12 (c + 1) _ _ (by omega) (by omega) hh)
                exact (And.intro rfl (And.intro rfl (And.intro rfl (And.intro rfl (And.intro rfl (And.intro rfl (And.intro rfl trivial)))))))
        exact lp12 (cl + 1) 0 _ _ (by omega) (by omega) hh
  rw [← rs_id P 9, show P 9 = gS (P 9) (P 8) k cl h 0 from rfl, show 0 = 0 * cl from (Nat.zero_mul cl).symm] at hh
  exact lp3 (rl + 1) 0 _ _ (by omega) (by omega) hh

