/-! ===== the closed tables of the folds ===== -/
def tbA (many folds l : Nat) : Bool :=
  Nat.beq (fbZ zP many folds 6 (l * 2 + 0) 0) (obr (kq folds) (rowU (kq folds) many) (colU (kq folds) many) many 0 (l / colU (kq folds) many) (l % colU (kq folds) many)) &&
  (Nat.beq (fbZ zP many folds 6 (l * 2 + 1) 0) (obr (kq folds) (rowU (kq folds) many) (colU (kq folds) many) many 1 (l / colU (kq folds) many) (l % colU (kq folds) many)) &&
  (Nat.beq (zB (fbZ zP many folds 5 l 0)).toNat (tnF (kq folds) (rowU (kq folds) many) (colU (kq folds) many) (l / colU (kq folds) many) (l % colU (kq folds) many) many)))
def tbK (many folds k : Nat) : Bool :=
  Nat.blt (fbZ zP many folds 6 k 0) (2 * 2 ^ many) && (Nat.beq (fbZ zP many folds 7 (fbZ zP many folds 6 k 0) 0) k && (Nat.blt (fbZ zP many folds 7 k 0) (2 * 2 ^ many) && Nat.beq (fbZ zP many folds 6 (fbZ zP many folds 7 k 0) 0) k))
set_option maxRecDepth 100000 in
theorem tbA_4a : ∀ f, f < 64 → ∀ l, l < 16 → tbA 4 f l = true := by decide +kernel
set_option maxRecDepth 100000 in
theorem tbA_4b : ∀ f, f < 64 → ∀ l, l < 16 → tbA 4 (f + 64) l = true := by decide +kernel
