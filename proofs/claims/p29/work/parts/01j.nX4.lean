theorem dX4_ahead_6 : decode cX4_ahead 6 = .ok (.ireturn, 1) := by decide +kernel
