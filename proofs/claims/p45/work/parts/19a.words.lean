theorem plX9_387 : FP RX9 387 0 0 .int := ⟨RX0, TX0, 17, rfl, inlX0, by decide, wd_290, rfl, by decide +kernel, tyX0, tyX0_ok, nmX0⟩
