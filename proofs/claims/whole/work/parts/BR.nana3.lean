/-! no newarray: method by method, 3 -/
section NANA3
theorem na_draw : noNA (m_c mX12_draw) = true := by decide +kernel
theorem na_beginsTurn : noNA (m_c mX12_beginsTurn) = true := by decide +kernel
theorem na_longOf : noNA (m_c mX12_longOf) = true := by decide +kernel
theorem na_talliesAll : noNA (m_c mX12_talliesAll) = true := by decide +kernel
theorem na_keepsNow : noNA (m_c mX12_keepsNow) = true := by decide +kernel
theorem na_turnGoingOn : noNA (m_c mX12_turnGoingOn) = true := by decide +kernel
theorem na_heardOut : noNA (m_c mX12_heardOut) = true := by decide +kernel
theorem na_speak : noNA (m_c mX12_speak) = true := by decide +kernel
theorem na_hush : noNA (m_c mX12_hush) = true := by decide +kernel
theorem na_yes : noNA (m_c mX12_yes) = true := by decide +kernel
theorem na_go : noNA (m_c mX12_go) = true := by decide +kernel
theorem na_delay : noNA (m_c mX12_delay) = true := by decide +kernel
theorem na_rule : noNA (m_c mX12_rule) = true := by decide +kernel
theorem na_countOf : noNA (m_c mX12_countOf) = true := by decide +kernel
theorem na_takenAt : noNA (m_c mX12_takenAt) = true := by decide +kernel
theorem na_heardThen : noNA (m_c mX12_heardThen) = true := by decide +kernel
theorem na_endedBy : noNA (m_c mX12_endedBy) = true := by decide +kernel
theorem na_inLowest : noNA (m_c mX12_inLowest) = true := by decide +kernel
theorem na_common : noNA (m_c mX12_common) = true := by decide +kernel
theorem na_beganAt : noNA (m_c mX12_beganAt) = true := by decide +kernel
theorem na_heardBegin : noNA (m_c mX12_heardBegin) = true := by decide +kernel
theorem na_hasBegun : noNA (m_c mX12_hasBegun) = true := by decide +kernel
theorem na_seems : noNA (m_c mX12_seems) = true := by decide +kernel
theorem na_turnAt : noNA (m_c mX12_turnAt) = true := by decide +kernel
theorem na_laysRule : noNA (m_c mX12_laysRule) = true := by decide +kernel
theorem na_penceOf : noNA (m_c mX12_penceOf) = true := by decide +kernel
theorem na_isLine : noNA (m_c mX12_isLine) = true := by decide +kernel
theorem na_comesOf : noNA (m_c mX12_comesOf) = true := by decide +kernel
theorem na_laysFresh : noNA (m_c mX12_laysFresh) = true := by decide +kernel
theorem na_cameThrough : noNA (m_c mX12_cameThrough) = true := by decide +kernel
theorem na_comeApart : noNA (m_c mX12_comeApart) = true := by decide +kernel
theorem na_tellEnd : noNA (m_c mX12_tellEnd) = true := by decide +kernel
theorem na_seed : noNA (m_c mX12_seed) = true := by decide +kernel
theorem na_undo : noNA (m_c mX12_undo) = true := by decide +kernel
end NANA3
