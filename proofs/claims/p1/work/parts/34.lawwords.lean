
theorem lwd_0 : (.classLink RL 8 RX11 : Cond) ∈ lw_tbl := by decide +kernel
theorem lwd_1 : (.instantiable RX11 14 : Cond) ∈ lw_tbl := by decide +kernel
theorem lwd_2 : (.initialized RX11 : Cond) ∈ lw_tbl := by decide +kernel
theorem lwd_3 : (.methodLink RL 117 yX11_init : Cond) ∈ lw_tbl := by decide +kernel
theorem lwd_4 : (.instanceMethod yX11_init : Cond) ∈ lw_tbl := by decide +kernel
theorem lwd_5 : (.classLink RL 118 RX12 : Cond) ∈ lw_tbl := by decide +kernel
theorem lwd_6 : (.instantiable RX12 38 : Cond) ∈ lw_tbl := by decide +kernel
theorem lwd_7 : (.initialized RX12 : Cond) ∈ lw_tbl := by decide +kernel
theorem lwd_8 : (.methodLink RL 120 yX12_init : Cond) ∈ lw_tbl := by decide +kernel
theorem lwd_9 : (.instanceMethod yX12_init : Cond) ∈ lw_tbl := by decide +kernel
theorem lwd_10 : (.arrayClass .long : Cond) ∈ lw_tbl := by decide +kernel
