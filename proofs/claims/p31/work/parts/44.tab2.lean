/-! ===== tables: what is read does not depend on what lay there before ===== -/
def agN (n : Nat) (f g : Nat → Nat → Nat) : Prop := ∀ i, i < n → f i 0 = g i 0
theorem trf_ag {n : Nat} {tu tu' : Nat → Nat → Nat} {pi pi' : Nat → Nat} (ht : agN n tu tu') : ∀ l, (∀ j, j < l → pi j = pi' j) → agN n (trf tu pi l) (trf tu' pi' l)
  | 0, _ => ht
  | l + 1, hp => by
    intro i hi
    have ih := trf_ag ht l (fun j hj => hp j (by omega))
    have e := hp l (Nat.lt_succ_self l)
    show u1 (trf tu pi l) (pi l / 2) (!zB (trf tu pi l (pi l / 2) 0)).toNat i 0 = u1 (trf tu' pi' l) (pi' l / 2) (!zB (trf tu' pi' l (pi' l / 2) 0)).toNat i 0
    rw [e]
    unfold u1
    by_cases h : i = pi' l / 2
    · rw [if_pos h, if_pos h, ← h, ih i hi]
    · rw [if_neg h, if_neg h]; exact ih i hi
theorem idx_lt {p N h j n : Nat} (hp : p < N) (hj : j < h) (hb : N * h ≤ n) : p * h + j < n := by
  have h1 := Nat.mul_le_mul_right h hp
  rw [Nat.succ_mul] at h1
  omega
theorem idx_le {p N h n : Nat} (hp : p < N) (hb : N * h ≤ n) : p * h + h ≤ n := by
  have h1 := Nat.mul_le_mul_right h hp
  rw [Nat.succ_mul] at h1
  omega
theorem tU_ag {n : Nat} {tu tu' pi pi' : Nat → Nat → Nat} (ht : agN n tu tu') (hp : agN n pi pi') {k rl cl h : Nat} (hn : rl * cl * 2 * h ≤ n) : ∀ x, x ≤ rl * cl → agN n (tU tu pi k rl cl h x) (tU tu' pi' k rl cl h x)
  | 0, _ => ht
  | x + 1, hx => by
    refine trf_ag (tU_ag ht hp hn x (by omega)) h (fun j hj => hp _ ?_)
    have hcl : 0 < cl := by
      rcases Nat.eq_zero_or_pos cl with z | z
      · rw [z, Nat.mul_zero] at hx; omega
      · exact z
    have hr : x / cl < rl := (Nat.div_lt_iff_lt_mul hcl).mpr hx
    have hc := Nat.mod_lt x hcl
    have hrl : 0 < rl := Nat.lt_of_le_of_lt (Nat.zero_le _) hr
    have hs : 2 * rl - 1 - stS k 3 rl (x / cl) < 2 * rl := by omega
    have h2 := leaf_lt hs hc
    refine idx_lt h2 hj ?_
    rw [Nat.mul_assoc 2 rl cl, Nat.mul_comm 2 (rl * cl)]
    exact hn
theorem lyf_ag {n : Nat} {fo fo' pi pi' : Nat → Nat → Nat} (hp : agN n pi pi') {lw sb ob h : Nat} (ho : ∀ i, i < lw → fo i 0 = fo' i 0) (hs : sb + h ≤ n) (hb : ob + h ≤ n) : ∀ i, i < lw + 2 * h → lyf fo pi lw sb ob h h i 0 = lyf fo' pi' lw sb ob h h i 0 := by
  intro i hi
  unfold lyf
  by_cases h1 : lw ≤ i ∧ i < lw + h
  · rw [if_pos h1, if_pos h1]; exact hp _ (by omega)
  · rw [if_neg h1, if_neg h1]
    by_cases h2 : lw + h ≤ i ∧ i < lw + h + h
    · rw [if_pos h2, if_pos h2, hp _ (by omega)]
    · rw [if_neg h2, if_neg h2]; exact ho i (by omega)
theorem blk (x h : Nat) : (x + 1) * 2 * h = x * 2 * h + 2 * h := by rw [Nat.add_mul, Nat.add_mul, Nat.one_mul]
theorem gS_ag {n : Nat} {fo fo' pi pi' : Nat → Nat → Nat} (hp : agN n pi pi') {k rl cl h : Nat} (hn : rl * cl * 2 * h ≤ n) : ∀ x, x ≤ rl * cl → ∀ i, i < x * 2 * h → gS fo pi k cl h x i 0 = gS fo' pi' k cl h x i 0
  | 0, _, i, hi => by simp at hi
  | x + 1, hx, i, hi => by
    have hcl : 0 < cl := by
      rcases Nat.eq_zero_or_pos cl with z | z
      · rw [z, Nat.mul_zero] at hx; omega
      · exact z
    have hr : x / cl < rl := (Nat.div_lt_iff_lt_mul hcl).mpr hx
    have hc := Nat.mod_lt x hcl
    have hst : stS k 1 cl (x % cl) < 2 * cl := by unfold stS; split <;> omega
    have hn2 : rl * 2 * cl * h ≤ n := by rw [Nat.mul_right_comm rl 2 cl]; exact hn
    refine lyf_ag hp (gS_ag hp hn x (by omega)) (idx_le (pile_lt hr hst) hn2) (idx_le (pile_lt hr (show 2 * cl - 1 - stS k 1 cl (x % cl) < 2 * cl by omega)) hn2) i ?_
    rw [blk] at hi; exact hi
theorem gU_ag {n : Nat} {fo fo' pi pi' : Nat → Nat → Nat} (hp : agN n pi pi') {k rl cl h : Nat} (hn : rl * cl * 2 * h ≤ n) : ∀ x, x ≤ rl * cl → ∀ i, i < x * 2 * h → gU fo pi k rl cl h x i 0 = gU fo' pi' k rl cl h x i 0
  | 0, _, i, hi => by simp at hi
  | x + 1, hx, i, hi => by
    have hcl : 0 < cl := by
      rcases Nat.eq_zero_or_pos cl with z | z
      · rw [z, Nat.mul_zero] at hx; omega
      · exact z
    have hr : x / cl < rl := (Nat.div_lt_iff_lt_mul hcl).mpr hx
    have hc := Nat.mod_lt x hcl
    have hst : stS k 3 rl (x / cl) < 2 * rl := by unfold stS; split <;> omega
    have hn2 : 2 * rl * cl * h ≤ n := by rw [Nat.mul_assoc 2 rl cl, Nat.mul_comm 2 (rl * cl)]; exact hn
    refine lyf_ag hp (gU_ag hp hn x (by omega)) (idx_le (leaf_lt hst hc) hn2) (idx_le (leaf_lt (show 2 * rl - 1 - stS k 3 rl (x / cl) < 2 * rl by have := Nat.zero_le (x / cl); omega) hc) hn2) i ?_
    rw [blk] at hi; exact hi
theorem fdF_ag {P P' : fR} {n m : Nat} (h1 : P 1 0 0 = n) (h1' : P' 1 0 0 = n) (hk : ∀ i, i < m → kdP P i = kdP P' i) (h2 : P 2 0 0 = P' 2 0 0) (h3 : P 3 0 0 = P' 3 0 0)
    (hE : ∀ x, x < m → rlF (kdP P) (P 2 0 0) (x + 1) * clF (kdP P) (P 3 0 0) (x + 1) * 2 * 2 ^ x = n) : ∀ x, x ≤ m → agN n (fdF P x 8) (fdF P' x 8) ∧ agN n (fdF P x 5) (fdF P' x 5)
  | 0, _ => by
    refine ⟨fun i hi => ?_, fun i hi => ?_⟩
    · show iniP (P 8) (P 1 0 0) i 0 = iniP (P' 8) (P' 1 0 0) i 0
      rw [h1, h1']
      unfold iniP
      rw [if_pos hi, if_pos hi]
    · show iniT (P 5) (P 1 0 0) i 0 = iniT (P' 5) (P' 1 0 0) i 0
      rw [h1, h1']
      unfold iniT
      rw [if_pos hi, if_pos hi]
  | x + 1, hx => by
    obtain ⟨a8, a5⟩ := fdF_ag h1 h1' hk h2 h3 hE x (by omega)
    have er := rlF_congr hk (P 2 0 0) (x + 1) (by omega)
    have ec := rlF_congr hk (P 3 0 0) (x + 1) (by omega)
    have hE9 := hE x (by omega)
    have hkx : P 4 x 0 = P' 4 x 0 := hk x (by omega)
    have hs : fdF P' (x + 1) = fdC (fdT (fdF P' x) (P 4 x 0) (rlF (kdP P) (P 2 0 0) (x + 1)) (clF (kdP P) (P 3 0 0) (x + 1)) (2 ^ x)) n := by
      rw [er.1, ec.2, h2, h3, hkx, ← h1']; rfl
    have hs0 : fdF P (x + 1) = fdC (fdT (fdF P x) (P 4 x 0) (rlF (kdP P) (P 2 0 0) (x + 1)) (clF (kdP P) (P 3 0 0) (x + 1)) (2 ^ x)) n := by
      rw [← h1]; rfl
    rw [hs, hs0]
    generalize rlF (kdP P) (P 2 0 0) (x + 1) = rl at *
    generalize clF (kdP P) (P 3 0 0) (x + 1) = cl at *
    have hn : rl * cl * 2 * 2 ^ x ≤ n := by omega
    have e8 : ∀ Q : fR, fdC Q n 8 = cpyT (Q 9) (Q 8) n := fun _ => rfl
    have e5 : ∀ Q : fR, fdC Q n 5 = Q 5 := fun _ => rfl
    rw [e8, e8, e5, e5]
    by_cases hkk : P 4 x 0 < 2
    · have t9 : ∀ Q : fR, fdT Q (P 4 x 0) rl cl (2 ^ x) 9 = gS (Q 9) (Q 8) (P 4 x 0) cl (2 ^ x) (rl * cl) := fun Q => by unfold fdT; rw [if_pos hkk]; rfl
      have t5 : ∀ Q : fR, fdT Q (P 4 x 0) rl cl (2 ^ x) 5 = Q 5 := fun Q => by unfold fdT; rw [if_pos hkk]; rfl
      rw [t5, t5, t9, t9]
      refine ⟨fun i hi => ?_, a5⟩
      unfold cpyT
      rw [if_pos hi, if_pos hi]
      exact gS_ag a8 hn (rl * cl) (Nat.le_refl _) i (by omega)
    · have t9 : ∀ Q : fR, fdT Q (P 4 x 0) rl cl (2 ^ x) 9 = gU (Q 9) (Q 8) (P 4 x 0) rl cl (2 ^ x) (rl * cl) := fun Q => by unfold fdT; rw [if_neg hkk]; rfl
      have t5 : ∀ Q : fR, fdT Q (P 4 x 0) rl cl (2 ^ x) 5 = tU (Q 5) (Q 8) (P 4 x 0) rl cl (2 ^ x) (rl * cl) := fun Q => by unfold fdT; rw [if_neg hkk]; rfl
      rw [t5, t5, t9, t9]
      refine ⟨fun i hi => ?_, tU_ag a5 a8 hn (rl * cl) (Nat.le_refl _)⟩
      unfold cpyT
      rw [if_pos hi, if_pos hi]
      exact gU_ag a8 hn (rl * cl) (Nat.le_refl _) i (by omega)
def rpv (P : fR) (n o : Nat) : Nat := if o % 2 = 0 then P 8 (n - o / 2 - 1) 0 else flp (P 8 (n - o / 2 - 1) 0)
theorem rpX_7v (P : fR) (n : Nat) : ∀ x o, o < 2 * x → rpX P n x 7 o 0 = rpv P n o
  | 0, o, h => absurd h (by omega)
  | x + 1, o, h => by
    show u1 (u1 (rpX P n x 7) (2 * x) (P 8 (n - x - 1) 0)) (2 * x + 1) (flp (P 8 (n - x - 1) 0)) o 0 = _
    unfold u1
    by_cases h1 : o = 2 * x + 1
    · rw [if_pos h1]
      unfold rpv
      rw [if_neg (by omega), show o / 2 = x by omega]
    · rw [if_neg h1]
      by_cases h2 : o = 2 * x
      · rw [if_pos h2]
        unfold rpv
        rw [if_pos (by omega), show o / 2 = x by omega]
      · rw [if_neg h2]
        exact rpX_7v P n x o (by omega)
theorem rpX_6v {P P' : fR} {n : Nat} (h8 : agN n (P 8) (P' 8)) : ∀ x, x ≤ n → ∀ k, (∃ o, o < 2 * x ∧ k = rpv P' n o) → rpX P n x 6 k 0 = rpX P' n x 6 k 0
  | 0, _, k, h => by obtain ⟨o, h, -⟩ := h; omega
  | x + 1, hx, k, h => by
    have e := h8 (n - x - 1) (by omega)
    show u1 (u1 (rpX P n x 6) (P 8 (n - x - 1) 0) (2 * x)) (flp (P 8 (n - x - 1) 0)) (2 * x + 1) k 0 = u1 (u1 (rpX P' n x 6) (P' 8 (n - x - 1) 0) (2 * x)) (flp (P' 8 (n - x - 1) 0)) (2 * x + 1) k 0
    rw [e]
    unfold u1
    by_cases h1 : k = flp (P' 8 (n - x - 1) 0)
    · rw [if_pos h1, if_pos h1]
    · rw [if_neg h1, if_neg h1]
      by_cases h2 : k = P' 8 (n - x - 1) 0
      · rw [if_pos h2, if_pos h2]
      · rw [if_neg h2, if_neg h2]
        obtain ⟨o, ho, hk⟩ := h
        refine rpX_6v h8 x (by omega) k ⟨o, ?_, hk⟩
        by_cases q : o < 2 * x
        · exact q
        · exfalso
          unfold rpv at hk
          by_cases q2 : o % 2 = 0
          · rw [if_pos q2, show o / 2 = x by omega] at hk; exact h2 hk
          · rw [if_neg q2, show o / 2 = x by omega] at hk; exact h1 hk
def hgE (kd : Nat → Nat) (r c n x : Nat) : Bool := Nat.beq (rlF kd r (x + 1) * clF kd c (x + 1) * 2 * 2 ^ x) n
theorem hgE_all : ∀ many, many < 5 → ∀ folds, folds < 2 ^ (2 * many) → ∀ x, x < many → hgE (kq folds) (rowU (kq folds) many) (colU (kq folds) many) (2 ^ many) x = true := by decide +kernel
theorem tbA_all {many folds l : Nat} (h1 : 1 ≤ many) (h5 : many < 5) (hfo : folds < 2 ^ (2 * many)) (hl : l < 2 ^ many) : tbA many folds l = true := by
  match many, h1, h5, hfo, hl with
  | 1, _, _, hfo, hl => exact tbA_1 folds hfo l hl
  | 2, _, _, hfo, hl => exact tbA_2 folds hfo l hl
  | 3, _, _, hfo, hl => exact tbA_3 folds hfo l hl
  | 4, _, _, hfo, hl =>
    have hf : folds < 256 := hfo
    have hl2 : l < 16 := hl
    by_cases a : folds < 64
    · exact tbA_4a folds a l hl2
    · by_cases b : folds < 128
      · have := tbA_4b (folds - 64) (by omega) l hl2
        rw [show folds - 64 + 64 = folds by omega] at this; exact this
      · by_cases c : folds < 192
        · have := tbA_4c (folds - 128) (by omega) l hl2
          rw [show folds - 128 + 128 = folds by omega] at this; exact this
        · have := tbA_4d (folds - 192) (by omega) l hl2
          rw [show folds - 192 + 192 = folds by omega] at this; exact this
  | n + 5, _, h5, _, _ => omega
theorem tbK_all {many folds l : Nat} (h1 : 1 ≤ many) (h5 : many < 5) (hfo : folds < 2 ^ (2 * many)) (hl : l < 2 * 2 ^ many) : tbK many folds l = true := by
  match many, h1, h5, hfo, hl with
  | 1, _, _, hfo, hl => exact tbK_1 folds hfo l hl
  | 2, _, _, hfo, hl => exact tbK_2 folds hfo l hl
  | 3, _, _, hfo, hl => exact tbK_3 folds hfo l hl
  | 4, _, _, hfo, hl =>
    have hf : folds < 256 := hfo
    have hl2 : l < 32 := hl
    by_cases a : folds < 64
    · exact tbK_4_0 folds a l hl2
    · by_cases b : folds < 128
      · have := tbK_4_1 (folds - 64) (by omega) l hl2
        rw [show folds - 64 + 64 = folds by omega] at this; exact this
      · by_cases c : folds < 192
        · have := tbK_4_2 (folds - 128) (by omega) l hl2
          rw [show folds - 128 + 128 = folds by omega] at this; exact this
        · have := tbK_4_3 (folds - 192) (by omega) l hl2
          rw [show folds - 192 + 192 = folds by omega] at this; exact this
  | n + 5, _, h5, _, _ => omega
theorem fbZ_ag (P : fR) {many folds : Nat} (h1 : 1 ≤ many) (h5 : many < 5) (hfo : folds < 2 ^ (2 * many)) : agN (2 ^ many) (fbZ P many folds 5) (fbZ zP many folds 5) ∧ agN (2 * 2 ^ many) (fbZ P many folds 6) (fbZ zP many folds 6) ∧ agN (2 * 2 ^ many) (fbZ P many folds 7) (fbZ zP many folds 7) := by
  have kd : ∀ Q : fR, ∀ i, i < many → kdP (fbX Q many folds many) i = kq folds i := fun Q i hi => by unfold kdP; rw [fbX_4, if_pos hi]
  have e1 : ∀ Q : fR, fbX Q many folds many 1 0 0 = 2 ^ many := fun Q => congrFun (congrFun (fbX_ne Q many folds (by decide) (by decide) (by decide) many) 0) 0
  obtain ⟨a2, a3⟩ := fbX_2 P many folds many
  obtain ⟨b2, b3⟩ := fbX_2 zP many folds many
  have hE : ∀ x, x < many → rlF (kdP (fbX P many folds many)) (fbX P many folds many 2 0 0) (x + 1) * clF (kdP (fbX P many folds many)) (fbX P many folds many 3 0 0) (x + 1) * 2 * 2 ^ x = 2 ^ many := fun x hx => by
    rw [a2, a3, (rlF_congr (kd P) _ (x + 1) (by omega)).1, (rlF_congr (kd P) _ (x + 1) (by omega)).2]
    exact Nat.eq_of_beq_eq_true (hgE_all many h5 folds hfo x hx)
  obtain ⟨c8, c5⟩ := fdF_ag (e1 P) (e1 zP) (fun i hi => (kd P i hi).trans (kd zP i hi).symm) (a2.trans b2.symm) (a3.trans b3.symm) hE many (Nat.le_refl _)
  have z5 : ∀ Q : fR, fbZ Q many folds 5 = fbY Q many folds 5 := fun Q => rpX_ne _ _ (by decide) (by decide) _
  refine ⟨by rw [z5, z5]; exact c5, fun k hk => ?_, fun o ho => ?_⟩
  · refine rpX_6v c8 (2 ^ many) (Nat.le_refl _) k ?_
    have h := tbK_all h1 h5 hfo hk
    unfold tbK at h
    rw [Bool.and_eq_true, Bool.and_eq_true] at h
    have g1 := Nat.blt_eq.mp h.1
    have g2 := Nat.eq_of_beq_eq_true h.2.1
    exact ⟨_, g1, by rw [← rpX_7v _ _ _ _ g1]; exact g2.symm⟩
  · show rpX (fbY P many folds) (2 ^ many) (2 ^ many) 7 o 0 = rpX (fbY zP many folds) (2 ^ many) (2 ^ many) 7 o 0
    rw [rpX_7v _ _ _ _ ho, rpX_7v _ _ _ _ ho]
    unfold rpv
    rw [show fbY P many folds 8 (2 ^ many - o / 2 - 1) 0 = fbY zP many folds 8 (2 ^ many - o / 2 - 1) 0 from c8 _ (by omega)]
/-- the tables of the class, by rule and turned -/
theorem fbZ_tab (P : fR) {many folds : Nat} (h1 : 1 ≤ many) (h5 : many < 5) (hfo : folds < 2 ^ (2 * many)) :
    (∀ l, l < 2 ^ many → ∀ sd, sd < 2 → fbZ P many folds 6 (l * 2 + sd) 0 = obr (kq folds) (rowU (kq folds) many) (colU (kq folds) many) many sd (l / colU (kq folds) many) (l % colU (kq folds) many)) ∧
    ∀ k, k < 2 * 2 ^ many → fbZ P many folds 6 k 0 < 2 * 2 ^ many ∧ fbZ P many folds 7 (fbZ P many folds 6 k 0) 0 = k ∧ fbZ P many folds 7 k 0 < 2 * 2 ^ many ∧ fbZ P many folds 6 (fbZ P many folds 7 k 0) 0 = k := by
  obtain ⟨g5, g6, g7⟩ := fbZ_ag P h1 h5 hfo
  refine ⟨fun l hl sd hsd => ?_, fun k hk => ?_⟩
  · have h := tbA_all h1 h5 hfo hl
    unfold tbA at h
    rw [Bool.and_eq_true] at h
    rw [g6 _ (by omega)]
    match sd, hsd with
    | 0, _ => exact Nat.eq_of_beq_eq_true h.1
    | 1, _ => exact Nat.eq_of_beq_eq_true h.2
  · have h := tbK_all h1 h5 hfo hk
    unfold tbK at h
    rw [Bool.and_eq_true, Bool.and_eq_true, Bool.and_eq_true] at h
    have q1 := Nat.blt_eq.mp h.1
    have q2 := Nat.eq_of_beq_eq_true h.2.1
    have q3 := Nat.blt_eq.mp h.2.2.1
    have q4 := Nat.eq_of_beq_eq_true h.2.2.2
    have e6 := g6 k hk
    have e7 := g7 k hk
    rw [e6, e7, g7 _ q1, g6 _ q3]
    exact ⟨q1, q2, q3, q4⟩
theorem ob_congr {kd kd' : Nat → Nat} {n : Nat} (h : ∀ i, i < n → kd i = kd' i) (r0 c0 r c : Nat) : ∀ x, x ≤ n → (rnF kd r0 r x = rnF kd' r0 r x ∧ cnF kd c0 c x = cnF kd' c0 c x) ∧ blF kd r0 c0 r c x = blF kd' r0 c0 r c x ∧ upF kd r0 c0 r c x = upF kd' r0 c0 r c x
  | 0, _ => ⟨⟨rfl, rfl⟩, rfl, rfl⟩
  | x + 1, hx => by
    obtain ⟨⟨a1, a2⟩, a3, a4⟩ := ob_congr h r0 c0 r c x (by omega)
    have hk := h x (by omega)
    have e1 := rlF_congr h r0 (x + 1) hx
    have e2 := rlF_congr h c0 (x + 1) hx
    have eo : ovF kd r0 c0 r c x = ovF kd' r0 c0 r c x := by unfold ovF; rw [hk, e1.1, e2.2, a1, a2]
    refine ⟨⟨?_, ?_⟩, ?_, ?_⟩
    · show (if kd x < 2 then rnF kd r0 r x else fsp (rnF kd r0 r x) (rlF kd r0 (x + 1)) (uS (kd x))) = (if kd' x < 2 then rnF kd' r0 r x else fsp (rnF kd' r0 r x) (rlF kd' r0 (x + 1)) (uS (kd' x)))
      rw [hk, e1.1, a1]
    · show (if kd x < 2 then fsp (cnF kd c0 c x) (clF kd c0 (x + 1)) (uS (kd x)) else cnF kd c0 c x) = (if kd' x < 2 then fsp (cnF kd' c0 c x) (clF kd' c0 (x + 1)) (uS (kd' x)) else cnF kd' c0 c x)
      rw [hk, e2.2, a2]
    · show (if ovF kd r0 c0 r c x = true then 2 * 2 ^ x - 1 - blF kd r0 c0 r c x else blF kd r0 c0 r c x) = (if ovF kd' r0 c0 r c x = true then 2 * 2 ^ x - 1 - blF kd' r0 c0 r c x else blF kd' r0 c0 r c x)
      rw [eo, a3]
    · show (if ovF kd r0 c0 r c x = true then 1 - upF kd r0 c0 r c x else upF kd r0 c0 r c x) = (if ovF kd' r0 c0 r c x = true then 1 - upF kd' r0 c0 r c x else upF kd' r0 c0 r c x)
      rw [eo, a4]
/-- the folding's tables: both ways find the same, the two sides of a leaf bear neighbours -/
def FP (P : fR) : Prop :=
  (∀ l, l < 2 ^ P 0 0 0 → ∀ sd, sd < 2 → obr (kdP P) (P 2 0 0) (P 3 0 0) (P 0 0 0) sd (l / P 3 0 0) (l % P 3 0 0) = P 6 (l * 2 + sd) 0) ∧
  (∀ k, k < pgs P → P 6 k 0 < pgs P ∧ P 7 (P 6 k 0) 0 = k ∧ P 7 k 0 < pgs P ∧ P 6 (P 7 k 0) 0 = k) ∧
  ∀ o, 2 * o + 1 < pgs P → P 7 (2 * o + 1) 0 = flp (P 7 (2 * o) 0)
theorem FP_fold (P : fR) {many folds : Nat} (h1 : 1 ≤ many) (h5 : many < 5) (hfo : folds < 2 ^ (2 * many)) : FP (fbZ P many folds) := by
  obtain ⟨t6, tk⟩ := fbZ_tab P h1 h5 hfo
  obtain ⟨e0, e2, e3, hk⟩ := fbZ_0 P many folds
  have hp : pgs (fbZ P many folds) = 2 * 2 ^ many := by unfold pgs; rw [e0]; exact (pow4 h1 h5).2.2.1
  unfold FP
  rw [hp, e0, e2, e3]
  refine ⟨fun l hl sd hsd => ?_, tk, fun o ho => ?_⟩
  · have c := ob_congr hk (rowU (kq folds) many) (colU (kq folds) many) (l / colU (kq folds) many) (l % colU (kq folds) many) many (Nat.le_refl _)
    rw [t6 l hl sd hsd]
    unfold obr; rw [c.2.1, c.2.2]
  · show rpX (fbY P many folds) (2 ^ many) (2 ^ many) 7 (2 * o + 1) 0 = flp (rpX (fbY P many folds) (2 ^ many) (2 ^ many) 7 (2 * o) 0)
    rw [rpX_7v _ _ _ _ ho, rpX_7v _ _ _ (2 * o) (by omega)]
    unfold rpv
    rw [if_neg (by omega), if_pos (by omega), show (2 * o + 1) / 2 = 2 * o / 2 by omega]
