theorem pfx_hex : ∀ j, j < 19 → 16 * hexI (kz3.2.2.2.getD (2 * j) 0) + hexI (kz3.2.2.2.getD (2 * j + 1) 0) = nI (sv_PREFIX.getD j 0).toBitVec.toNat := by decide
