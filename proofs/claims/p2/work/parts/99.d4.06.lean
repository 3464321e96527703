theorem dX12_init_800 : decode cX12_init 800 = .ok (.newarray .int, 2) := by decide +kernel
theorem dX12_init_802 : decode cX12_init 802 = .ok (.putfield 298, 3) := by decide +kernel
