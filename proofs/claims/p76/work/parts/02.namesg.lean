def m_L_areCommitments : xM := (yL_areCommitments, cL_areCommitments, 11, (some FieldType.boolean), [])
theorem M_L_areCommitments : xMok m_L_areCommitments true 4 := ⟨by decide +kernel, ⟨by decide +kernel, by decide +kernel⟩, by decide +kernel, lw_bm 869 (by decide +kernel) rfl, lw_bm 36 (by decide +kernel) rfl, lw_bm 868 (by decide +kernel) rfl⟩
def m_L_areRuns : xM := (yL_areRuns, cL_areRuns, 16, (some FieldType.boolean), [])
theorem M_L_areRuns : xMok m_L_areRuns true 5 := ⟨by decide +kernel, ⟨by decide +kernel, by decide +kernel⟩, by decide +kernel, lw_in5 6 rfl rfl, lw_bm 36 (by decide +kernel) rfl, lw_bm 1001 (by decide +kernel) rfl⟩
def m_L_areSimulated : xM := (yL_areSimulated, cL_areSimulated, 11, (some FieldType.boolean), [])
theorem M_L_areSimulated : xMok m_L_areSimulated true 4 := ⟨by decide +kernel, ⟨by decide +kernel, by decide +kernel⟩, by decide +kernel, lw_in5 176 rfl rfl, lw_bm 36 (by decide +kernel) rfl, lw_bm 1171 (by decide +kernel) rfl⟩
def m_L_areJoined : xM := (yL_areJoined, cL_areJoined, 16, (some FieldType.boolean), [])
theorem M_L_areJoined : xMok m_L_areJoined true 4 := ⟨by decide +kernel, ⟨by decide +kernel, by decide +kernel⟩, by decide +kernel, lw_in5 206 rfl rfl, lw_bm 36 (by decide +kernel) rfl, lw_bm 1201 (by decide +kernel) rfl⟩
