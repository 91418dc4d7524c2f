theorem d_MO_readRepeat_150 : decode b_MO_readRepeat 150 = .ok (.return_, 1) := by decide +kernel
