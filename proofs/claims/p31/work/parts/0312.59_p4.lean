theorem hd_X12_qIsOn_1 : skD yX12_qIsOn 1 := by decide +kernel
theorem hd_X12_qBracket_0 : skD yX12_qBracket 0 := by decide +kernel
theorem hd_X12_qDropsToBracket_0 : skD yX12_qDropsToBracket 0 := by decide +kernel

