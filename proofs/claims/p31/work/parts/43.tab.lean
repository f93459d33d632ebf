/-! ===== the closed tables of the folds ===== -/
def tbA (many folds l : Nat) : Bool :=
  Nat.beq (fbZ zP many folds 6 (l * 2 + 0) 0) (obr (kq folds) (rowU (kq folds) many) (colU (kq folds) many) many 0 (l / colU (kq folds) many) (l % colU (kq folds) many)) &&
  Nat.beq (fbZ zP many folds 6 (l * 2 + 1) 0) (obr (kq folds) (rowU (kq folds) many) (colU (kq folds) many) many 1 (l / colU (kq folds) many) (l % colU (kq folds) many))
def tbK (many folds k : Nat) : Bool :=
  Nat.blt (fbZ zP many folds 6 k 0) (2 * 2 ^ many) && (Nat.beq (fbZ zP many folds 7 (fbZ zP many folds 6 k 0) 0) k && (Nat.blt (fbZ zP many folds 7 k 0) (2 * 2 ^ many) && Nat.beq (fbZ zP many folds 6 (fbZ zP many folds 7 k 0) 0) k))
set_option maxRecDepth 100000 in
theorem tbA_4a : ∀ f, f < 64 → ∀ l, l < 16 → tbA 4 f l = true := by decide +kernel
set_option maxRecDepth 100000 in
theorem tbA_4b : ∀ f, f < 64 → ∀ l, l < 16 → tbA 4 (f + 64) l = true := by decide +kernel
/-! ===== the closed tables of the folds, further ===== -/
set_option maxRecDepth 100000 in
theorem tbA_4c : ∀ f, f < 64 → ∀ l, l < 16 → tbA 4 (f + 128) l = true := by decide +kernel
set_option maxRecDepth 100000 in
theorem tbA_4d : ∀ f, f < 64 → ∀ l, l < 16 → tbA 4 (f + 192) l = true := by decide +kernel
set_option maxRecDepth 100000 in
theorem tbA_3 : ∀ f, f < 64 → ∀ l, l < 8 → tbA 3 f l = true := by decide +kernel
set_option maxRecDepth 100000 in
theorem tbA_2 : ∀ f, f < 16 → ∀ l, l < 4 → tbA 2 f l = true := by decide +kernel
set_option maxRecDepth 100000 in
theorem tbA_1 : ∀ f, f < 4 → ∀ l, l < 2 → tbA 1 f l = true := by decide +kernel
set_option maxRecDepth 100000 in
theorem tbK_3 : ∀ f, f < 64 → ∀ l, l < 16 → tbK 3 f l = true := by decide +kernel
set_option maxRecDepth 100000 in
theorem tbK_2 : ∀ f, f < 16 → ∀ l, l < 8 → tbK 2 f l = true := by decide +kernel
set_option maxRecDepth 100000 in
theorem tbK_1 : ∀ f, f < 4 → ∀ l, l < 4 → tbK 1 f l = true := by decide +kernel
/-! ===== the closed tables of the folds, further (0) ===== -/
set_option maxRecDepth 100000 in
theorem tbK_4_0 : ∀ f, f < 64 → ∀ l, l < 32 → tbK 4 (f + 0) l = true := by decide +kernel
/-! ===== the closed tables of the folds, further (1) ===== -/
set_option maxRecDepth 100000 in
theorem tbK_4_1 : ∀ f, f < 64 → ∀ l, l < 32 → tbK 4 (f + 64) l = true := by decide +kernel
/-! ===== the closed tables of the folds, further (2) ===== -/
set_option maxRecDepth 100000 in
theorem tbK_4_2 : ∀ f, f < 64 → ∀ l, l < 32 → tbK 4 (f + 128) l = true := by decide +kernel
/-! ===== the closed tables of the folds, further (3) ===== -/
set_option maxRecDepth 100000 in
theorem tbK_4_3 : ∀ f, f < 64 → ∀ l, l < 32 → tbK 4 (f + 192) l = true := by decide +kernel
