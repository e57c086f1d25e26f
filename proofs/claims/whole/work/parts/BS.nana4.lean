/-! no newarray: method by method, 4 -/
section NANA4
theorem na_feed : noNA (m_c mX12_feed) = true := by decide +kernel
theorem na_end : noNA (m_c mX12_end) = true := by decide +kernel
theorem na_text : noNA (m_c mX12_text) = true := by decide +kernel
theorem na_fault : noNA (m_c mX12_fault) = true := by decide +kernel
theorem na_by : noNA (m_c mX12_by) = true := by decide +kernel
theorem na_played : noNA (m_c mX12_played) = true := by decide +kernel
theorem na_of : noNA (m_c mX12_of) = true := by decide +kernel
theorem na_through : noNA (m_c mX12_through) = true := by decide +kernel
theorem na_turn : noNA (m_c mX12_turn) = true := by decide +kernel
theorem na_said : noNA (m_c mX12_said) = true := by decide +kernel
theorem na_misjoined : noNA (m_c mX12_misjoined) = true := by decide +kernel
theorem na_whose : noNA (m_c mX12_whose) = true := by decide +kernel
theorem na_first : noNA (m_c mX12_first) = true := by decide +kernel
theorem na_cold : noNA (m_c mX12_cold) = true := by decide +kernel
theorem na_haste : noNA (m_c mX12_haste) = true := by decide +kernel
theorem na_rules : noNA (m_c mX12_rules) = true := by decide +kernel
theorem na_bestRule : noNA (m_c mX12_bestRule) = true := by decide +kernel
theorem na_price : noNA (m_c mX12_price) = true := by decide +kernel
theorem na_pence : noNA (m_c mX12_pence) = true := by decide +kernel
theorem na_forPence : noNA (m_c mX12_forPence) = true := by decide +kernel
theorem na_comes : noNA (m_c mX12_comes) = true := by decide +kernel
theorem na_apart : noNA (m_c mX12_apart) = true := by decide +kernel
theorem na_drawn : noNA (m_c mX12_drawn) = true := by decide +kernel
theorem na_wide : noNA (m_c mX12_wide) = true := by decide +kernel
theorem na_worth : noNA (m_c mX12_worth) = true := by decide +kernel
theorem na_agree : noNA (m_c mX12_agree) = true := by decide +kernel
theorem na_least : noNA (m_c mX12_least) = true := by decide +kernel
theorem na_heard : noNA (m_c mX12_heard) = true := by decide +kernel
theorem na_span : noNA (m_c mX12_span) = true := by decide +kernel
theorem na_way : noNA (m_c mX12_way) = true := by decide +kernel
theorem na_refused : noNA (m_c mX12_refused) = true := by decide +kernel
theorem na_image : noNA (m_c mX12_image) = true := by decide +kernel
theorem na_back : noNA (m_c mX12_back) = true := by decide +kernel
theorem na_about : noNA (m_c mX12_about) = true := by decide +kernel
end NANA4
