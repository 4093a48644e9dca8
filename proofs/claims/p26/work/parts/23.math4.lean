/-! ===== BEGIN math4: the reference's rounds find the least cost ===== -/
/-! ===== END math4 ===== -/
