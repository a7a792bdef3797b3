/-! the facts about doubles that put and item want -/
theorem fpP : fp_put := fun c => put_ok c
theorem fpB : fp_bits := fun h hq => c57 h.1.1 h.2 hq
