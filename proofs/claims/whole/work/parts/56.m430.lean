/-! ===== the closed tables of the folds, further (0) ===== -/
set_option maxRecDepth 100000 in
theorem tbK_4_0 : ∀ f, f < 64 → ∀ l, l < 32 → tbK 4 (f + 0) l = true := by decide +kernel
