/-! ===== the closed tables of the folds, further ===== -/
set_option maxRecDepth 100000 in
theorem tbA_4c : ∀ f, f < 64 → ∀ l, l < 16 → tbA 4 (f + 128) l = true := by decide +kernel
set_option maxRecDepth 100000 in
theorem tbA_4d : ∀ f, f < 64 → ∀ l, l < 16 → tbA 4 (f + 192) l = true := by decide +kernel
set_option maxRecDepth 100000 in
theorem tbA_3 : ∀ f, f < 64 → ∀ l, l < 8 → tbA 3 f l = true := by decide +kernel
set_option maxRecDepth 100000 in
theorem tbA_2 : ∀ f, f < 16 → ∀ l, l < 4 → tbA 2 f l = true := by decide +kernel
set_option maxRecDepth 100000 in
theorem tbA_1 : ∀ f, f < 4 → ∀ l, l < 2 → tbA 1 f l = true := by decide +kernel
set_option maxRecDepth 100000 in
theorem tbK_3 : ∀ f, f < 64 → ∀ l, l < 16 → tbK 3 f l = true := by decide +kernel
set_option maxRecDepth 100000 in
theorem tbK_2 : ∀ f, f < 16 → ∀ l, l < 8 → tbK 2 f l = true := by decide +kernel
set_option maxRecDepth 100000 in
theorem tbK_1 : ∀ f, f < 4 → ∀ l, l < 4 → tbK 1 f l = true := by decide +kernel
