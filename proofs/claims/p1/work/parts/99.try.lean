theorem am_try : (am_run [] 200000 10 193 (0, am_entry 193 [.ref (am_B + 1)], []) []).isSome = true := by decide +kernel
