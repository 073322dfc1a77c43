theorem wLx3 : ∀ w ∈ wsX30, w ∈ lw_tbl := by decide +kernel
theorem wLx4 : ∀ w ∈ wsX40, w ∈ lw_tbl := by decide +kernel
theorem wLx2 : ∀ w ∈ wsX20, w ∈ lw_tbl := by decide +kernel
