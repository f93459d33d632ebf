/-! ===== the closed tables of the folds, further (2) ===== -/
set_option maxRecDepth 100000 in
theorem tbK_4_2 : ∀ f, f < 64 → ∀ l, l < 32 → tbK 4 (f + 128) l = true := by decide +kernel
