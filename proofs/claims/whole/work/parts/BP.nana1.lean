/-! no newarray: method by method, 1 -/
section NANA
theorem na_copies : noNA (m_c mX12_copies) = true := by decide +kernel
theorem na_in : noNA (m_c mX12_in) = true := by decide +kernel
theorem na_refuses : noNA (m_c mX12_refuses) = true := by decide +kernel
theorem na_refusesIt : noNA (m_c mX12_refusesIt) = true := by decide +kernel
theorem na_isEnd : noNA (m_c mX12_isEnd) = true := by decide +kernel
theorem na_delayOf : noNA (m_c mX12_delayOf) = true := by decide +kernel
theorem na_keepsStep : noNA (m_c mX12_keepsStep) = true := by decide +kernel
theorem na_put : noNA (m_c mX12_put) = true := by decide +kernel
theorem na_next : noNA (m_c mX12_next) = true := by decide +kernel
theorem na_isLetter : noNA (m_c mX12_isLetter) = true := by decide +kernel
theorem na_wordOf : noNA (m_c mX12_wordOf) = true := by decide +kernel
theorem na_asks : noNA (m_c mX12_asks) = true := by decide +kernel
theorem na_isWord : noNA (m_c mX12_isWord) = true := by decide +kernel
theorem na_opensSign : noNA (m_c mX12_opensSign) = true := by decide +kernel
theorem na_errs : noNA (m_c mX12_errs) = true := by decide +kernel
theorem na_opensFrame : noNA (m_c mX12_opensFrame) = true := by decide +kernel
theorem na_begins : noNA (m_c mX12_begins) = true := by decide +kernel
theorem na_nameNow : noNA (m_c mX12_nameNow) = true := by decide +kernel
theorem na_emits : noNA (m_c mX12_emits) = true := by decide +kernel
theorem na_oneIsOver : noNA (m_c mX12_oneIsOver) = true := by decide +kernel
theorem na_top : noNA (m_c mX12_top) = true := by decide +kernel
theorem na_mayName : noNA (m_c mX12_mayName) = true := by decide +kernel
theorem na_isSign : noNA (m_c mX12_isSign) = true := by decide +kernel
theorem na_goesOn : noNA (m_c mX12_goesOn) = true := by decide +kernel
end NANA
