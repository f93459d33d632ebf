/-! ===== the closed tables of the folds, further (3) ===== -/
set_option maxRecDepth 100000 in
theorem tbK_4_3 : ∀ f, f < 64 → ∀ l, l < 32 → tbK 4 (f + 192) l = true := by decide +kernel
