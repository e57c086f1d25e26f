/-! no newarray: method by method, 2 -/
section NANA2
theorem na_waitsFor : noNA (m_c mX12_waitsFor) = true := by decide +kernel
theorem na_rank : noNA (m_c mX12_rank) = true := by decide +kernel
theorem na_works : noNA (m_c mX12_works) = true := by decide +kernel
theorem na_turnsTo : noNA (m_c mX12_turnsTo) = true := by decide +kernel
theorem na_isAsking : noNA (m_c mX12_isAsking) = true := by decide +kernel
theorem na_askIsOver : noNA (m_c mX12_askIsOver) = true := by decide +kernel
theorem na_clauseIsOver : noNA (m_c mX12_clauseIsOver) = true := by decide +kernel
theorem na_asksOn : noNA (m_c mX12_asksOn) = true := by decide +kernel
theorem na_clause : noNA (m_c mX12_clause) = true := by decide +kernel
theorem na_wasTold : noNA (m_c mX12_wasTold) = true := by decide +kernel
theorem na_doing : noNA (m_c mX12_doing) = true := by decide +kernel
theorem na_number : noNA (m_c mX12_number) = true := by decide +kernel
theorem na_numberBehind : noNA (m_c mX12_numberBehind) = true := by decide +kernel
theorem na_laysNow : noNA (m_c mX12_laysNow) = true := by decide +kernel
theorem na_laysTurn : noNA (m_c mX12_laysTurn) = true := by decide +kernel
theorem na_ofTurn : noNA (m_c mX12_ofTurn) = true := by decide +kernel
theorem na_wasSpoken : noNA (m_c mX12_wasSpoken) = true := by decide +kernel
theorem na_tenthGoes : noNA (m_c mX12_tenthGoes) = true := by decide +kernel
theorem na_hearsAll : noNA (m_c mX12_hearsAll) = true := by decide +kernel
theorem na_lowestOf : noNA (m_c mX12_lowestOf) = true := by decide +kernel
theorem na_goesSpeaking : noNA (m_c mX12_goesSpeaking) = true := by decide +kernel
theorem na_stopsOf : noNA (m_c mX12_stopsOf) = true := by decide +kernel
theorem na_told : noNA (m_c mX12_told) = true := by decide +kernel
theorem na_lawOf : noNA (m_c mX12_lawOf) = true := by decide +kernel
theorem na_ordersOf : noNA (m_c mX12_ordersOf) = true := by decide +kernel
theorem na_names : noNA (m_c mX12_names) = true := by decide +kernel
theorem na_saysOf : noNA (m_c mX12_saysOf) = true := by decide +kernel
theorem na_worked : noNA (m_c mX12_worked) = true := by decide +kernel
theorem na_bound : noNA (m_c mX12_bound) = true := by decide +kernel
theorem na_held : noNA (m_c mX12_held) = true := by decide +kernel
theorem na_endsTurn : noNA (m_c mX12_endsTurn) = true := by decide +kernel
theorem na_saysNow : noNA (m_c mX12_saysNow) = true := by decide +kernel
theorem na_goesSilent : noNA (m_c mX12_goesSilent) = true := by decide +kernel
theorem na_findsPatience : noNA (m_c mX12_findsPatience) = true := by decide +kernel
end NANA2
