
theorem gl_m_count2 : GoodIn lw_tbl (wsV RL 254 RX12 yX12_count vs_m_count2) := goodIn_of _ (by decide +kernel)
theorem gl_c_count3 : GoodIn lw_tbl (wsV RL 251 RX11 yX11_count vs_c_count3) := goodIn_of _ (by decide +kernel)
theorem gl_m_count3 : GoodIn lw_tbl (wsV RL 254 RX12 yX12_count vs_m_count3) := goodIn_of _ (by decide +kernel)
theorem gl_c_countx : GoodIn lw_tbl (wsV RL 251 RX11 yX11_count vs_c_countx) := goodIn_of _ (by decide +kernel)
theorem gl_m_countx : GoodIn lw_tbl (wsV RL 254 RX12 yX12_count vs_m_countx) := goodIn_of _ (by decide +kernel)
