theorem tbin_X0 : ∀ w ∈ u_ws RX0 TX0 14, w ∈ tbl := by decide +kernel
theorem tbin_X1 : ∀ w ∈ u_ws RX1 TX1 4, w ∈ tbl := by decide +kernel
theorem tbin_X2 : ∀ w ∈ u_ws RX2 TX2 12, w ∈ tbl := by decide +kernel
theorem tbin_X3 : ∀ w ∈ u_ws RX3 TX3 3, w ∈ tbl := by decide +kernel
theorem tbin_X4 : ∀ w ∈ u_ws RX4 TX4 7, w ∈ tbl := by decide +kernel
theorem tbin_X5 : ∀ w ∈ u_ws RX5 TX5 33, w ∈ tbl := by decide +kernel
theorem f_X3_9 : FL RX3 9 3 0 := ⟨RX3, TX3, 3, rfl, by decide, tbin_X3, Or.inl (tb_in 84 (by decide +kernel) rfl)⟩
theorem f_X3_26 : FL RX3 26 3 1 := ⟨RX3, TX3, 3, rfl, by decide, tbin_X3, Or.inl (tb_in 85 (by decide +kernel) rfl)⟩
theorem p_X3_26 : FP RX3 26 3 1 .int := ⟨RX3, TX3, 3, tyX3, rfl, by decide, tbin_X3, Or.inl (tb_in 85 (by decide +kernel) rfl), tyX3_ok, nmX3, rfl, by decide +kernel⟩
theorem f_X3_30 : FL RX3 30 3 2 := ⟨RX3, TX3, 3, rfl, by decide, tbin_X3, Or.inl (tb_in 86 (by decide +kernel) rfl)⟩
theorem p_X3_30 : FP RX3 30 3 2 .int := ⟨RX3, TX3, 3, tyX3, rfl, by decide, tbin_X3, Or.inl (tb_in 86 (by decide +kernel) rfl), tyX3_ok, nmX3, rfl, by decide +kernel⟩
theorem f_X0_9 : FL RX0 9 0 0 := ⟨RX0, TX0, 14, rfl, by decide, tbin_X0, Or.inl (tb_in 101 (by decide +kernel) rfl)⟩
theorem f_X2_28 : FL RX2 28 0 0 := ⟨RX0, TX0, 14, rfl, by decide, tbin_X0, Or.inr ⟨"ChildCourt", tb_in 102 (by decide +kernel) rfl⟩⟩
theorem f_X4_78 : FL RX4 78 0 0 := ⟨RX0, TX0, 14, rfl, by decide, tbin_X0, Or.inr ⟨"ChildCourt", tb_in 103 (by decide +kernel) rfl⟩⟩
theorem f_X0_15 : FL RX0 15 0 1 := ⟨RX0, TX0, 14, rfl, by decide, tbin_X0, Or.inl (tb_in 104 (by decide +kernel) rfl)⟩
theorem f_X4_81 : FL RX4 81 0 1 := ⟨RX0, TX0, 14, rfl, by decide, tbin_X0, Or.inr ⟨"ChildCourt", tb_in 105 (by decide +kernel) rfl⟩⟩
theorem f_X2_112 : FL RX2 112 0 1 := ⟨RX0, TX0, 14, rfl, by decide, tbin_X0, Or.inr ⟨"ChildCourt", tb_in 106 (by decide +kernel) rfl⟩⟩
theorem f_X0_18 : FL RX0 18 0 2 := ⟨RX0, TX0, 14, rfl, by decide, tbin_X0, Or.inl (tb_in 107 (by decide +kernel) rfl)⟩
theorem f_X4_97 : FL RX4 97 0 2 := ⟨RX0, TX0, 14, rfl, by decide, tbin_X0, Or.inr ⟨"ChildCourt", tb_in 108 (by decide +kernel) rfl⟩⟩
theorem f_X2_72 : FL RX2 72 0 2 := ⟨RX0, TX0, 14, rfl, by decide, tbin_X0, Or.inr ⟨"ChildCourt", tb_in 109 (by decide +kernel) rfl⟩⟩
theorem f_X0_21 : FL RX0 21 0 3 := ⟨RX0, TX0, 14, rfl, by decide, tbin_X0, Or.inl (tb_in 110 (by decide +kernel) rfl)⟩
theorem f_X4_100 : FL RX4 100 0 3 := ⟨RX0, TX0, 14, rfl, by decide, tbin_X0, Or.inr ⟨"ChildCourt", tb_in 111 (by decide +kernel) rfl⟩⟩
theorem f_X2_75 : FL RX2 75 0 3 := ⟨RX0, TX0, 14, rfl, by decide, tbin_X0, Or.inr ⟨"ChildCourt", tb_in 112 (by decide +kernel) rfl⟩⟩
theorem f_X0_24 : FL RX0 24 0 4 := ⟨RX0, TX0, 14, rfl, by decide, tbin_X0, Or.inl (tb_in 113 (by decide +kernel) rfl)⟩
theorem f_X4_103 : FL RX4 103 0 4 := ⟨RX0, TX0, 14, rfl, by decide, tbin_X0, Or.inr ⟨"ChildCourt", tb_in 114 (by decide +kernel) rfl⟩⟩
theorem f_X2_99 : FL RX2 99 0 4 := ⟨RX0, TX0, 14, rfl, by decide, tbin_X0, Or.inr ⟨"ChildCourt", tb_in 115 (by decide +kernel) rfl⟩⟩
theorem f_X0_27 : FL RX0 27 0 5 := ⟨RX0, TX0, 14, rfl, by decide, tbin_X0, Or.inl (tb_in 116 (by decide +kernel) rfl)⟩
theorem f_X4_163 : FL RX4 163 0 5 := ⟨RX0, TX0, 14, rfl, by decide, tbin_X0, Or.inr ⟨"ChildCourt", tb_in 117 (by decide +kernel) rfl⟩⟩
theorem f_X0_30 : FL RX0 30 0 6 := ⟨RX0, TX0, 14, rfl, by decide, tbin_X0, Or.inl (tb_in 118 (by decide +kernel) rfl)⟩
theorem f_X4_166 : FL RX4 166 0 6 := ⟨RX0, TX0, 14, rfl, by decide, tbin_X0, Or.inr ⟨"ChildCourt", tb_in 119 (by decide +kernel) rfl⟩⟩
theorem f_X0_46 : FL RX0 46 0 7 := ⟨RX0, TX0, 14, rfl, by decide, tbin_X0, Or.inl (tb_in 120 (by decide +kernel) rfl)⟩
theorem p_X0_46 : FP RX0 46 0 7 .int := ⟨RX0, TX0, 14, tyX0, rfl, by decide, tbin_X0, Or.inl (tb_in 120 (by decide +kernel) rfl), tyX0_ok, nmX0, rfl, by decide +kernel⟩
theorem f_X2_78 : FL RX2 78 0 7 := ⟨RX0, TX0, 14, rfl, by decide, tbin_X0, Or.inr ⟨"ChildCourt", tb_in 121 (by decide +kernel) rfl⟩⟩
theorem p_X2_78 : FP RX2 78 0 7 .int := ⟨RX0, TX0, 14, tyX0, rfl, by decide, tbin_X0, Or.inr ⟨"ChildCourt", tb_in 121 (by decide +kernel) rfl⟩, tyX0_ok, nmX0, rfl, by decide +kernel⟩
theorem f_X4_117 : FL RX4 117 0 7 := ⟨RX0, TX0, 14, rfl, by decide, tbin_X0, Or.inr ⟨"ChildCourt", tb_in 122 (by decide +kernel) rfl⟩⟩
theorem p_X4_117 : FP RX4 117 0 7 .int := ⟨RX0, TX0, 14, tyX0, rfl, by decide, tbin_X0, Or.inr ⟨"ChildCourt", tb_in 122 (by decide +kernel) rfl⟩, tyX0_ok, nmX0, rfl, by decide +kernel⟩
theorem f_X0_37 : FL RX0 37 0 8 := ⟨RX0, TX0, 14, rfl, by decide, tbin_X0, Or.inl (tb_in 123 (by decide +kernel) rfl)⟩
theorem p_X0_37 : FP RX0 37 0 8 .int := ⟨RX0, TX0, 14, tyX0, rfl, by decide, tbin_X0, Or.inl (tb_in 123 (by decide +kernel) rfl), tyX0_ok, nmX0, rfl, by decide +kernel⟩
theorem f_X2_102 : FL RX2 102 0 8 := ⟨RX0, TX0, 14, rfl, by decide, tbin_X0, Or.inr ⟨"ChildCourt", tb_in 124 (by decide +kernel) rfl⟩⟩
theorem p_X2_102 : FP RX2 102 0 8 .int := ⟨RX0, TX0, 14, tyX0, rfl, by decide, tbin_X0, Or.inr ⟨"ChildCourt", tb_in 124 (by decide +kernel) rfl⟩, tyX0_ok, nmX0, rfl, by decide +kernel⟩
theorem f_X4_151 : FL RX4 151 0 8 := ⟨RX0, TX0, 14, rfl, by decide, tbin_X0, Or.inr ⟨"ChildCourt", tb_in 125 (by decide +kernel) rfl⟩⟩
theorem p_X4_151 : FP RX4 151 0 8 .int := ⟨RX0, TX0, 14, tyX0, rfl, by decide, tbin_X0, Or.inr ⟨"ChildCourt", tb_in 125 (by decide +kernel) rfl⟩, tyX0_ok, nmX0, rfl, by decide +kernel⟩
theorem f_X0_33 : FL RX0 33 0 9 := ⟨RX0, TX0, 14, rfl, by decide, tbin_X0, Or.inl (tb_in 126 (by decide +kernel) rfl)⟩
theorem p_X0_33 : FP RX0 33 0 9 .int := ⟨RX0, TX0, 14, tyX0, rfl, by decide, tbin_X0, Or.inl (tb_in 126 (by decide +kernel) rfl), tyX0_ok, nmX0, rfl, by decide +kernel⟩
theorem f_X4_72 : FL RX4 72 0 9 := ⟨RX0, TX0, 14, rfl, by decide, tbin_X0, Or.inr ⟨"ChildCourt", tb_in 127 (by decide +kernel) rfl⟩⟩
theorem p_X4_72 : FP RX4 72 0 9 .int := ⟨RX0, TX0, 14, tyX0, rfl, by decide, tbin_X0, Or.inr ⟨"ChildCourt", tb_in 127 (by decide +kernel) rfl⟩, tyX0_ok, nmX0, rfl, by decide +kernel⟩
theorem f_X2_37 : FL RX2 37 0 10 := ⟨RX0, TX0, 14, rfl, by decide, tbin_X0, Or.inr ⟨"ChildCourt", tb_in 128 (by decide +kernel) rfl⟩⟩
theorem p_X2_37 : FP RX2 37 0 10 .int := ⟨RX0, TX0, 14, tyX0, rfl, by decide, tbin_X0, Or.inr ⟨"ChildCourt", tb_in 128 (by decide +kernel) rfl⟩, tyX0_ok, nmX0, rfl, by decide +kernel⟩
theorem f_X4_110 : FL RX4 110 0 10 := ⟨RX0, TX0, 14, rfl, by decide, tbin_X0, Or.inr ⟨"ChildCourt", tb_in 129 (by decide +kernel) rfl⟩⟩
theorem p_X4_110 : FP RX4 110 0 10 .int := ⟨RX0, TX0, 14, tyX0, rfl, by decide, tbin_X0, Or.inr ⟨"ChildCourt", tb_in 129 (by decide +kernel) rfl⟩, tyX0_ok, nmX0, rfl, by decide +kernel⟩
theorem f_X0_66 : FL RX0 66 0 10 := ⟨RX0, TX0, 14, rfl, by decide, tbin_X0, Or.inl (tb_in 130 (by decide +kernel) rfl)⟩
theorem p_X0_66 : FP RX0 66 0 10 .int := ⟨RX0, TX0, 14, tyX0, rfl, by decide, tbin_X0, Or.inl (tb_in 130 (by decide +kernel) rfl), tyX0_ok, nmX0, rfl, by decide +kernel⟩
theorem f_X2_42 : FL RX2 42 0 11 := ⟨RX0, TX0, 14, rfl, by decide, tbin_X0, Or.inr ⟨"ChildCourt", tb_in 131 (by decide +kernel) rfl⟩⟩
theorem p_X2_42 : FP RX2 42 0 11 .int := ⟨RX0, TX0, 14, tyX0, rfl, by decide, tbin_X0, Or.inr ⟨"ChildCourt", tb_in 131 (by decide +kernel) rfl⟩, tyX0_ok, nmX0, rfl, by decide +kernel⟩
theorem f_X4_84 : FL RX4 84 0 11 := ⟨RX0, TX0, 14, rfl, by decide, tbin_X0, Or.inr ⟨"ChildCourt", tb_in 132 (by decide +kernel) rfl⟩⟩
theorem p_X4_84 : FP RX4 84 0 11 .int := ⟨RX0, TX0, 14, tyX0, rfl, by decide, tbin_X0, Or.inr ⟨"ChildCourt", tb_in 132 (by decide +kernel) rfl⟩, tyX0_ok, nmX0, rfl, by decide +kernel⟩
theorem f_X0_69 : FL RX0 69 0 11 := ⟨RX0, TX0, 14, rfl, by decide, tbin_X0, Or.inl (tb_in 133 (by decide +kernel) rfl)⟩
theorem p_X0_69 : FP RX0 69 0 11 .int := ⟨RX0, TX0, 14, tyX0, rfl, by decide, tbin_X0, Or.inl (tb_in 133 (by decide +kernel) rfl), tyX0_ok, nmX0, rfl, by decide +kernel⟩
theorem f_X2_46 : FL RX2 46 0 12 := ⟨RX0, TX0, 14, rfl, by decide, tbin_X0, Or.inr ⟨"ChildCourt", tb_in 134 (by decide +kernel) rfl⟩⟩
theorem p_X2_46 : FP RX2 46 0 12 .int := ⟨RX0, TX0, 14, tyX0, rfl, by decide, tbin_X0, Or.inr ⟨"ChildCourt", tb_in 134 (by decide +kernel) rfl⟩, tyX0_ok, nmX0, rfl, by decide +kernel⟩
theorem f_X4_91 : FL RX4 91 0 12 := ⟨RX0, TX0, 14, rfl, by decide, tbin_X0, Or.inr ⟨"ChildCourt", tb_in 135 (by decide +kernel) rfl⟩⟩
theorem p_X4_91 : FP RX4 91 0 12 .int := ⟨RX0, TX0, 14, tyX0, rfl, by decide, tbin_X0, Or.inr ⟨"ChildCourt", tb_in 135 (by decide +kernel) rfl⟩, tyX0_ok, nmX0, rfl, by decide +kernel⟩
theorem f_X0_72 : FL RX0 72 0 12 := ⟨RX0, TX0, 14, rfl, by decide, tbin_X0, Or.inl (tb_in 136 (by decide +kernel) rfl)⟩
theorem p_X0_72 : FP RX0 72 0 12 .int := ⟨RX0, TX0, 14, tyX0, rfl, by decide, tbin_X0, Or.inl (tb_in 136 (by decide +kernel) rfl), tyX0_ok, nmX0, rfl, by decide +kernel⟩
theorem f_X0_75 : FL RX0 75 0 13 := ⟨RX0, TX0, 14, rfl, by decide, tbin_X0, Or.inl (tb_in 137 (by decide +kernel) rfl)⟩
theorem p_X0_75 : FP RX0 75 0 13 .int := ⟨RX0, TX0, 14, tyX0, rfl, by decide, tbin_X0, Or.inl (tb_in 137 (by decide +kernel) rfl), tyX0_ok, nmX0, rfl, by decide +kernel⟩
theorem f_X4_160 : FL RX4 160 0 13 := ⟨RX0, TX0, 14, rfl, by decide, tbin_X0, Or.inr ⟨"ChildCourt", tb_in 138 (by decide +kernel) rfl⟩⟩
theorem p_X4_160 : FP RX4 160 0 13 .int := ⟨RX0, TX0, 14, tyX0, rfl, by decide, tbin_X0, Or.inr ⟨"ChildCourt", tb_in 138 (by decide +kernel) rfl⟩, tyX0_ok, nmX0, rfl, by decide +kernel⟩
theorem f_X2_24 : FL RX2 24 2 0 := ⟨RX2, TX2, 12, rfl, by decide, tbin_X2, Or.inl (tb_in 174 (by decide +kernel) rfl)⟩
theorem f_X2_9 : FL RX2 9 2 1 := ⟨RX2, TX2, 12, rfl, by decide, tbin_X2, Or.inl (tb_in 175 (by decide +kernel) rfl)⟩
theorem f_X4_177 : FL RX4 177 2 1 := ⟨RX2, TX2, 12, rfl, by decide, tbin_X2, Or.inr ⟨"ChildCourt", tb_in 176 (by decide +kernel) rfl⟩⟩
theorem f_X2_15 : FL RX2 15 2 2 := ⟨RX2, TX2, 12, rfl, by decide, tbin_X2, Or.inl (tb_in 177 (by decide +kernel) rfl)⟩
theorem f_X4_241 : FL RX4 241 2 2 := ⟨RX2, TX2, 12, rfl, by decide, tbin_X2, Or.inr ⟨"ChildCourt", tb_in 178 (by decide +kernel) rfl⟩⟩
theorem f_X2_18 : FL RX2 18 2 3 := ⟨RX2, TX2, 12, rfl, by decide, tbin_X2, Or.inl (tb_in 179 (by decide +kernel) rfl)⟩
theorem f_X4_127 : FL RX4 127 2 3 := ⟨RX2, TX2, 12, rfl, by decide, tbin_X2, Or.inr ⟨"ChildCourt", tb_in 180 (by decide +kernel) rfl⟩⟩
theorem f_X2_21 : FL RX2 21 2 4 := ⟨RX2, TX2, 12, rfl, by decide, tbin_X2, Or.inl (tb_in 181 (by decide +kernel) rfl)⟩
theorem f_X2_53 : FL RX2 53 2 5 := ⟨RX2, TX2, 12, rfl, by decide, tbin_X2, Or.inl (tb_in 182 (by decide +kernel) rfl)⟩
theorem p_X2_53 : FP RX2 53 2 5 .int := ⟨RX2, TX2, 12, tyX2, rfl, by decide, tbin_X2, Or.inl (tb_in 182 (by decide +kernel) rfl), tyX2_ok, nmX2, rfl, by decide +kernel⟩
theorem f_X2_41 : FL RX2 41 2 6 := ⟨RX2, TX2, 12, rfl, by decide, tbin_X2, Or.inl (tb_in 183 (by decide +kernel) rfl)⟩
theorem p_X2_41 : FP RX2 41 2 6 .int := ⟨RX2, TX2, 12, tyX2, rfl, by decide, tbin_X2, Or.inl (tb_in 183 (by decide +kernel) rfl), tyX2_ok, nmX2, rfl, by decide +kernel⟩
theorem f_X4_169 : FL RX4 169 2 6 := ⟨RX2, TX2, 12, rfl, by decide, tbin_X2, Or.inr ⟨"ChildCourt", tb_in 184 (by decide +kernel) rfl⟩⟩
theorem p_X4_169 : FP RX4 169 2 6 .int := ⟨RX2, TX2, 12, tyX2, rfl, by decide, tbin_X2, Or.inr ⟨"ChildCourt", tb_in 184 (by decide +kernel) rfl⟩, tyX2_ok, nmX2, rfl, by decide +kernel⟩
theorem f_X2_45 : FL RX2 45 2 7 := ⟨RX2, TX2, 12, rfl, by decide, tbin_X2, Or.inl (tb_in 185 (by decide +kernel) rfl)⟩
theorem p_X2_45 : FP RX2 45 2 7 .int := ⟨RX2, TX2, 12, tyX2, rfl, by decide, tbin_X2, Or.inl (tb_in 185 (by decide +kernel) rfl), tyX2_ok, nmX2, rfl, by decide +kernel⟩
theorem f_X4_178 : FL RX4 178 2 7 := ⟨RX2, TX2, 12, rfl, by decide, tbin_X2, Or.inr ⟨"ChildCourt", tb_in 186 (by decide +kernel) rfl⟩⟩
theorem p_X4_178 : FP RX4 178 2 7 .int := ⟨RX2, TX2, 12, tyX2, rfl, by decide, tbin_X2, Or.inr ⟨"ChildCourt", tb_in 186 (by decide +kernel) rfl⟩, tyX2_ok, nmX2, rfl, by decide +kernel⟩
theorem f_X2_49 : FL RX2 49 2 8 := ⟨RX2, TX2, 12, rfl, by decide, tbin_X2, Or.inl (tb_in 187 (by decide +kernel) rfl)⟩
theorem p_X2_49 : FP RX2 49 2 8 .int := ⟨RX2, TX2, 12, tyX2, rfl, by decide, tbin_X2, Or.inl (tb_in 187 (by decide +kernel) rfl), tyX2_ok, nmX2, rfl, by decide +kernel⟩
theorem f_X4_181 : FL RX4 181 2 8 := ⟨RX2, TX2, 12, rfl, by decide, tbin_X2, Or.inr ⟨"ChildCourt", tb_in 188 (by decide +kernel) rfl⟩⟩
theorem p_X4_181 : FP RX4 181 2 8 .int := ⟨RX2, TX2, 12, tyX2, rfl, by decide, tbin_X2, Or.inr ⟨"ChildCourt", tb_in 188 (by decide +kernel) rfl⟩, tyX2_ok, nmX2, rfl, by decide +kernel⟩
theorem f_X2_50 : FL RX2 50 2 9 := ⟨RX2, TX2, 12, rfl, by decide, tbin_X2, Or.inl (tb_in 189 (by decide +kernel) rfl)⟩
theorem p_X2_50 : FP RX2 50 2 9 .int := ⟨RX2, TX2, 12, tyX2, rfl, by decide, tbin_X2, Or.inl (tb_in 189 (by decide +kernel) rfl), tyX2_ok, nmX2, rfl, by decide +kernel⟩
theorem f_X2_66 : FL RX2 66 2 10 := ⟨RX2, TX2, 12, rfl, by decide, tbin_X2, Or.inl (tb_in 190 (by decide +kernel) rfl)⟩
theorem p_X2_66 : FP RX2 66 2 10 .int := ⟨RX2, TX2, 12, tyX2, rfl, by decide, tbin_X2, Or.inl (tb_in 190 (by decide +kernel) rfl), tyX2_ok, nmX2, rfl, by decide +kernel⟩
theorem f_X4_133 : FL RX4 133 2 10 := ⟨RX2, TX2, 12, rfl, by decide, tbin_X2, Or.inr ⟨"ChildCourt", tb_in 191 (by decide +kernel) rfl⟩⟩
theorem p_X4_133 : FP RX4 133 2 10 .int := ⟨RX2, TX2, 12, tyX2, rfl, by decide, tbin_X2, Or.inr ⟨"ChildCourt", tb_in 191 (by decide +kernel) rfl⟩, tyX2_ok, nmX2, rfl, by decide +kernel⟩
theorem f_X2_69 : FL RX2 69 2 11 := ⟨RX2, TX2, 12, rfl, by decide, tbin_X2, Or.inl (tb_in 192 (by decide +kernel) rfl)⟩
theorem p_X2_69 : FP RX2 69 2 11 .int := ⟨RX2, TX2, 12, tyX2, rfl, by decide, tbin_X2, Or.inl (tb_in 192 (by decide +kernel) rfl), tyX2_ok, nmX2, rfl, by decide +kernel⟩
theorem f_X4_130 : FL RX4 130 2 11 := ⟨RX2, TX2, 12, rfl, by decide, tbin_X2, Or.inr ⟨"ChildCourt", tb_in 193 (by decide +kernel) rfl⟩⟩
theorem p_X4_130 : FP RX4 130 2 11 .int := ⟨RX2, TX2, 12, tyX2, rfl, by decide, tbin_X2, Or.inr ⟨"ChildCourt", tb_in 193 (by decide +kernel) rfl⟩, tyX2_ok, nmX2, rfl, by decide +kernel⟩
theorem f_X1_9 : FL RX1 9 1 0 := ⟨RX1, TX1, 4, rfl, by decide, tbin_X1, Or.inl (tb_in 224 (by decide +kernel) rfl)⟩
theorem f_X3_15 : FL RX3 15 1 0 := ⟨RX1, TX1, 4, rfl, by decide, tbin_X1, Or.inr ⟨"ChildCourt", tb_in 225 (by decide +kernel) rfl⟩⟩
theorem f_X4_193 : FL RX4 193 1 0 := ⟨RX1, TX1, 4, rfl, by decide, tbin_X1, Or.inr ⟨"ChildCourt", tb_in 226 (by decide +kernel) rfl⟩⟩
theorem f_X1_21 : FL RX1 21 1 1 := ⟨RX1, TX1, 4, rfl, by decide, tbin_X1, Or.inl (tb_in 227 (by decide +kernel) rfl)⟩
theorem p_X1_21 : FP RX1 21 1 1 .boolean := ⟨RX1, TX1, 4, tyX1, rfl, by decide, tbin_X1, Or.inl (tb_in 227 (by decide +kernel) rfl), tyX1_ok, nmX1, rfl, by decide +kernel⟩
theorem f_X4_186 : FL RX4 186 1 1 := ⟨RX1, TX1, 4, rfl, by decide, tbin_X1, Or.inr ⟨"ChildCourt", tb_in 228 (by decide +kernel) rfl⟩⟩
theorem p_X4_186 : FP RX4 186 1 1 .boolean := ⟨RX1, TX1, 4, tyX1, rfl, by decide, tbin_X1, Or.inr ⟨"ChildCourt", tb_in 228 (by decide +kernel) rfl⟩, tyX1_ok, nmX1, rfl, by decide +kernel⟩
theorem f_X1_25 : FL RX1 25 1 2 := ⟨RX1, TX1, 4, rfl, by decide, tbin_X1, Or.inl (tb_in 229 (by decide +kernel) rfl)⟩
theorem p_X1_25 : FP RX1 25 1 2 .int := ⟨RX1, TX1, 4, tyX1, rfl, by decide, tbin_X1, Or.inl (tb_in 229 (by decide +kernel) rfl), tyX1_ok, nmX1, rfl, by decide +kernel⟩
theorem f_X4_202 : FL RX4 202 1 2 := ⟨RX1, TX1, 4, rfl, by decide, tbin_X1, Or.inr ⟨"ChildCourt", tb_in 230 (by decide +kernel) rfl⟩⟩
theorem p_X4_202 : FP RX4 202 1 2 .int := ⟨RX1, TX1, 4, tyX1, rfl, by decide, tbin_X1, Or.inr ⟨"ChildCourt", tb_in 230 (by decide +kernel) rfl⟩, tyX1_ok, nmX1, rfl, by decide +kernel⟩
theorem f_X1_29 : FL RX1 29 1 3 := ⟨RX1, TX1, 4, rfl, by decide, tbin_X1, Or.inl (tb_in 231 (by decide +kernel) rfl)⟩
theorem p_X1_29 : FP RX1 29 1 3 .int := ⟨RX1, TX1, 4, tyX1, rfl, by decide, tbin_X1, Or.inl (tb_in 231 (by decide +kernel) rfl), tyX1_ok, nmX1, rfl, by decide +kernel⟩
theorem f_X4_13 : FL RX4 13 4 0 := ⟨RX4, TX4, 7, rfl, by decide, tbin_X4, Or.inl (tb_in 241 (by decide +kernel) rfl)⟩
theorem f_X4_20 : FL RX4 20 4 1 := ⟨RX4, TX4, 7, rfl, by decide, tbin_X4, Or.inl (tb_in 242 (by decide +kernel) rfl)⟩
theorem f_X4_27 : FL RX4 27 4 2 := ⟨RX4, TX4, 7, rfl, by decide, tbin_X4, Or.inl (tb_in 243 (by decide +kernel) rfl)⟩
theorem f_X4_36 : FL RX4 36 4 3 := ⟨RX4, TX4, 7, rfl, by decide, tbin_X4, Or.inl (tb_in 244 (by decide +kernel) rfl)⟩
theorem f_X4_40 : FL RX4 40 4 4 := ⟨RX4, TX4, 7, rfl, by decide, tbin_X4, Or.inl (tb_in 245 (by decide +kernel) rfl)⟩
theorem f_X4_227 : FL RX4 227 4 5 := ⟨RX4, TX4, 7, rfl, by decide, tbin_X4, Or.inl (tb_in 246 (by decide +kernel) rfl)⟩
theorem p_X4_227 : FP RX4 227 4 5 .int := ⟨RX4, TX4, 7, tyX4, rfl, by decide, tbin_X4, Or.inl (tb_in 246 (by decide +kernel) rfl), tyX4_ok, nmX4, rfl, by decide +kernel⟩
theorem f_X4_45 : FL RX4 45 4 6 := ⟨RX4, TX4, 7, rfl, by decide, tbin_X4, Or.inl (tb_in 247 (by decide +kernel) rfl)⟩
theorem p_X4_45 : FP RX4 45 4 6 .int := ⟨RX4, TX4, 7, tyX4, rfl, by decide, tbin_X4, Or.inl (tb_in 247 (by decide +kernel) rfl), tyX4_ok, nmX4, rfl, by decide +kernel⟩
theorem f_X5_68 : FL RX5 68 5 0 := ⟨RX5, TX5, 33, rfl, by decide, tbin_X5, Or.inl (tb_in 621 (by decide +kernel) rfl)⟩
theorem p_X5_68 : FP RX5 68 5 0 .int := ⟨RX5, TX5, 33, tyX5, rfl, by decide, tbin_X5, Or.inl (tb_in 621 (by decide +kernel) rfl), tyX5_ok, nmX5, rfl, by decide +kernel⟩
theorem f_X5_234 : FL RX5 234 5 1 := ⟨RX5, TX5, 33, rfl, by decide, tbin_X5, Or.inl (tb_in 622 (by decide +kernel) rfl)⟩
theorem p_X5_234 : FP RX5 234 5 1 .int := ⟨RX5, TX5, 33, tyX5, rfl, by decide, tbin_X5, Or.inl (tb_in 622 (by decide +kernel) rfl), tyX5_ok, nmX5, rfl, by decide +kernel⟩
theorem f_X5_9 : FL RX5 9 5 2 := ⟨RX5, TX5, 33, rfl, by decide, tbin_X5, Or.inl (tb_in 623 (by decide +kernel) rfl)⟩
theorem f_X5_13 : FL RX5 13 5 3 := ⟨RX5, TX5, 33, rfl, by decide, tbin_X5, Or.inl (tb_in 624 (by decide +kernel) rfl)⟩
theorem f_X5_16 : FL RX5 16 5 4 := ⟨RX5, TX5, 33, rfl, by decide, tbin_X5, Or.inl (tb_in 625 (by decide +kernel) rfl)⟩
theorem f_X5_108 : FL RX5 108 5 5 := ⟨RX5, TX5, 33, rfl, by decide, tbin_X5, Or.inl (tb_in 626 (by decide +kernel) rfl)⟩
theorem p_X5_108 : FP RX5 108 5 5 .int := ⟨RX5, TX5, 33, tyX5, rfl, by decide, tbin_X5, Or.inl (tb_in 626 (by decide +kernel) rfl), tyX5_ok, nmX5, rfl, by decide +kernel⟩
theorem f_X5_78 : FL RX5 78 5 6 := ⟨RX5, TX5, 33, rfl, by decide, tbin_X5, Or.inl (tb_in 627 (by decide +kernel) rfl)⟩
theorem p_X5_78 : FP RX5 78 5 6 .int := ⟨RX5, TX5, 33, tyX5, rfl, by decide, tbin_X5, Or.inl (tb_in 627 (by decide +kernel) rfl), tyX5_ok, nmX5, rfl, by decide +kernel⟩
theorem f_X5_81 : FL RX5 81 5 7 := ⟨RX5, TX5, 33, rfl, by decide, tbin_X5, Or.inl (tb_in 628 (by decide +kernel) rfl)⟩
theorem p_X5_81 : FP RX5 81 5 7 .int := ⟨RX5, TX5, 33, tyX5, rfl, by decide, tbin_X5, Or.inl (tb_in 628 (by decide +kernel) rfl), tyX5_ok, nmX5, rfl, by decide +kernel⟩
theorem f_X5_117 : FL RX5 117 5 8 := ⟨RX5, TX5, 33, rfl, by decide, tbin_X5, Or.inl (tb_in 629 (by decide +kernel) rfl)⟩
theorem p_X5_117 : FP RX5 117 5 8 .int := ⟨RX5, TX5, 33, tyX5, rfl, by decide, tbin_X5, Or.inl (tb_in 629 (by decide +kernel) rfl), tyX5_ok, nmX5, rfl, by decide +kernel⟩
theorem f_X5_19 : FL RX5 19 5 9 := ⟨RX5, TX5, 33, rfl, by decide, tbin_X5, Or.inl (tb_in 630 (by decide +kernel) rfl)⟩
theorem f_X5_22 : FL RX5 22 5 10 := ⟨RX5, TX5, 33, rfl, by decide, tbin_X5, Or.inl (tb_in 631 (by decide +kernel) rfl)⟩
theorem f_X5_25 : FL RX5 25 5 11 := ⟨RX5, TX5, 33, rfl, by decide, tbin_X5, Or.inl (tb_in 632 (by decide +kernel) rfl)⟩
theorem f_X5_29 : FL RX5 29 5 12 := ⟨RX5, TX5, 33, rfl, by decide, tbin_X5, Or.inl (tb_in 633 (by decide +kernel) rfl)⟩
theorem f_X5_32 : FL RX5 32 5 13 := ⟨RX5, TX5, 33, rfl, by decide, tbin_X5, Or.inl (tb_in 634 (by decide +kernel) rfl)⟩
theorem f_X5_35 : FL RX5 35 5 14 := ⟨RX5, TX5, 33, rfl, by decide, tbin_X5, Or.inl (tb_in 635 (by decide +kernel) rfl)⟩
theorem f_X5_38 : FL RX5 38 5 15 := ⟨RX5, TX5, 33, rfl, by decide, tbin_X5, Or.inl (tb_in 636 (by decide +kernel) rfl)⟩
theorem f_X5_84 : FL RX5 84 5 16 := ⟨RX5, TX5, 33, rfl, by decide, tbin_X5, Or.inl (tb_in 637 (by decide +kernel) rfl)⟩
theorem p_X5_84 : FP RX5 84 5 16 .int := ⟨RX5, TX5, 33, tyX5, rfl, by decide, tbin_X5, Or.inl (tb_in 637 (by decide +kernel) rfl), tyX5_ok, nmX5, rfl, by decide +kernel⟩
theorem f_X5_105 : FL RX5 105 5 17 := ⟨RX5, TX5, 33, rfl, by decide, tbin_X5, Or.inl (tb_in 638 (by decide +kernel) rfl)⟩
theorem p_X5_105 : FP RX5 105 5 17 .int := ⟨RX5, TX5, 33, tyX5, rfl, by decide, tbin_X5, Or.inl (tb_in 638 (by decide +kernel) rfl), tyX5_ok, nmX5, rfl, by decide +kernel⟩
theorem f_X5_111 : FL RX5 111 5 18 := ⟨RX5, TX5, 33, rfl, by decide, tbin_X5, Or.inl (tb_in 639 (by decide +kernel) rfl)⟩
theorem p_X5_111 : FP RX5 111 5 18 .int := ⟨RX5, TX5, 33, tyX5, rfl, by decide, tbin_X5, Or.inl (tb_in 639 (by decide +kernel) rfl), tyX5_ok, nmX5, rfl, by decide +kernel⟩
theorem f_X5_114 : FL RX5 114 5 19 := ⟨RX5, TX5, 33, rfl, by decide, tbin_X5, Or.inl (tb_in 640 (by decide +kernel) rfl)⟩
theorem p_X5_114 : FP RX5 114 5 19 .int := ⟨RX5, TX5, 33, tyX5, rfl, by decide, tbin_X5, Or.inl (tb_in 640 (by decide +kernel) rfl), tyX5_ok, nmX5, rfl, by decide +kernel⟩
theorem f_X5_41 : FL RX5 41 5 20 := ⟨RX5, TX5, 33, rfl, by decide, tbin_X5, Or.inl (tb_in 641 (by decide +kernel) rfl)⟩
theorem f_X5_44 : FL RX5 44 5 21 := ⟨RX5, TX5, 33, rfl, by decide, tbin_X5, Or.inl (tb_in 642 (by decide +kernel) rfl)⟩
theorem f_X5_146 : FL RX5 146 5 22 := ⟨RX5, TX5, 33, rfl, by decide, tbin_X5, Or.inl (tb_in 643 (by decide +kernel) rfl)⟩
theorem p_X5_146 : FP RX5 146 5 22 .int := ⟨RX5, TX5, 33, tyX5, rfl, by decide, tbin_X5, Or.inl (tb_in 643 (by decide +kernel) rfl), tyX5_ok, nmX5, rfl, by decide +kernel⟩
theorem f_X5_149 : FL RX5 149 5 23 := ⟨RX5, TX5, 33, rfl, by decide, tbin_X5, Or.inl (tb_in 644 (by decide +kernel) rfl)⟩
theorem p_X5_149 : FP RX5 149 5 23 .boolean := ⟨RX5, TX5, 33, tyX5, rfl, by decide, tbin_X5, Or.inl (tb_in 644 (by decide +kernel) rfl), tyX5_ok, nmX5, rfl, by decide +kernel⟩
theorem f_X5_47 : FL RX5 47 5 24 := ⟨RX5, TX5, 33, rfl, by decide, tbin_X5, Or.inl (tb_in 645 (by decide +kernel) rfl)⟩
theorem f_X5_50 : FL RX5 50 5 25 := ⟨RX5, TX5, 33, rfl, by decide, tbin_X5, Or.inl (tb_in 646 (by decide +kernel) rfl)⟩
theorem f_X5_53 : FL RX5 53 5 26 := ⟨RX5, TX5, 33, rfl, by decide, tbin_X5, Or.inl (tb_in 647 (by decide +kernel) rfl)⟩
theorem f_X5_166 : FL RX5 166 5 27 := ⟨RX5, TX5, 33, rfl, by decide, tbin_X5, Or.inl (tb_in 648 (by decide +kernel) rfl)⟩
theorem p_X5_166 : FP RX5 166 5 27 .int := ⟨RX5, TX5, 33, tyX5, rfl, by decide, tbin_X5, Or.inl (tb_in 648 (by decide +kernel) rfl), tyX5_ok, nmX5, rfl, by decide +kernel⟩
theorem f_X5_56 : FL RX5 56 5 28 := ⟨RX5, TX5, 33, rfl, by decide, tbin_X5, Or.inl (tb_in 649 (by decide +kernel) rfl)⟩
theorem f_X5_59 : FL RX5 59 5 29 := ⟨RX5, TX5, 33, rfl, by decide, tbin_X5, Or.inl (tb_in 650 (by decide +kernel) rfl)⟩
theorem f_X5_120 : FL RX5 120 5 30 := ⟨RX5, TX5, 33, rfl, by decide, tbin_X5, Or.inl (tb_in 651 (by decide +kernel) rfl)⟩
theorem p_X5_120 : FP RX5 120 5 30 .int := ⟨RX5, TX5, 33, tyX5, rfl, by decide, tbin_X5, Or.inl (tb_in 651 (by decide +kernel) rfl), tyX5_ok, nmX5, rfl, by decide +kernel⟩
theorem f_X5_62 : FL RX5 62 5 31 := ⟨RX5, TX5, 33, rfl, by decide, tbin_X5, Or.inl (tb_in 652 (by decide +kernel) rfl)⟩
theorem f_X5_65 : FL RX5 65 5 32 := ⟨RX5, TX5, 33, rfl, by decide, tbin_X5, Or.inl (tb_in 653 (by decide +kernel) rfl)⟩
set_option maxRecDepth 100000 in
theorem l_L_13 : LkV RL 13 RX4 yX4_court cX4_court 8 (some .int) 4 := ⟨Or.inl (tb_in 263 (by decide +kernel) rfl), tb_in 264 (by decide +kernel) rfl, tb_in 265 (by decide +kernel) rfl, tb_in 58 (by decide +kernel) rfl, tb_in 266 rfl rfl, by decide +kernel, by decide +kernel, by decide +kernel⟩
set_option maxRecDepth 100000 in
theorem l_X4_49 : LkS RX4 49 yX4_isSheet cX4_isSheet 1 (some .boolean) 1 := ⟨Or.inl (tb_in 267 (by decide +kernel) rfl), tb_in 268 (by decide +kernel) rfl, tb_in 58 (by decide +kernel) rfl, tb_in 269 rfl rfl, by decide +kernel, by decide +kernel, by decide +kernel⟩
set_option maxRecDepth 100000 in
theorem l_X4_53 : LkS RX4 53 yX4_isLane cX4_isLane 1 (some .boolean) 1 := ⟨Or.inl (tb_in 270 (by decide +kernel) rfl), tb_in 271 (by decide +kernel) rfl, tb_in 58 (by decide +kernel) rfl, tb_in 272 rfl rfl, by decide +kernel, by decide +kernel, by decide +kernel⟩
set_option maxRecDepth 100000 in
theorem l_X4_56 : LkV RX4 56 RX1 yX1_faultOfCells cX1_faultOfCells 5 (some .int) 3 := ⟨Or.inl (tb_in 273 (by decide +kernel) rfl), tb_in 274 (by decide +kernel) rfl, tb_in 275 (by decide +kernel) rfl, tb_in 62 (by decide +kernel) rfl, tb_in 276 rfl rfl, by decide +kernel, by decide +kernel, by decide +kernel⟩
set_option maxRecDepth 100000 in
theorem l_X1_32 : LkV RX1 32 RX1 yX1_faultOfLane cX1_faultOfLane 2 (some .int) 1 := ⟨Or.inl (tb_in 277 (by decide +kernel) rfl), tb_in 278 (by decide +kernel) rfl, tb_in 279 (by decide +kernel) rfl, tb_in 62 (by decide +kernel) rfl, tb_in 280 rfl rfl, by decide +kernel, by decide +kernel, by decide +kernel⟩
set_option maxRecDepth 100000 in
theorem l_X1_36 : LkV RX1 36 RX1 yX1_hasCells cX1_hasCells 3 (some .boolean) 2 := ⟨Or.inl (tb_in 281 (by decide +kernel) rfl), tb_in 282 (by decide +kernel) rfl, tb_in 283 (by decide +kernel) rfl, tb_in 62 (by decide +kernel) rfl, tb_in 284 rfl rfl, by decide +kernel, by decide +kernel, by decide +kernel⟩
set_option maxRecDepth 100000 in
theorem l_X4_60 : LkV RX4 60 RX4 yX4_faulty cX4_faulty 2 (some .int) 1 := ⟨Or.inl (tb_in 285 (by decide +kernel) rfl), tb_in 287 (by decide +kernel) rfl, tb_in 0 (by decide +kernel) rfl, tb_in 58 (by decide +kernel) rfl, tb_in 288 rfl rfl, by decide +kernel, by decide +kernel, by decide +kernel⟩
set_option maxRecDepth 100000 in
theorem l_X4_64 : LkV RX4 64 RX3 yX3_firstFault cX3_firstFault 5 (some .int) 3 := ⟨Or.inl (tb_in 289 (by decide +kernel) rfl), tb_in 290 (by decide +kernel) rfl, tb_in 291 (by decide +kernel) rfl, tb_in 59 (by decide +kernel) rfl, tb_in 292 rfl rfl, by decide +kernel, by decide +kernel, by decide +kernel⟩
set_option maxRecDepth 100000 in
theorem l_X3_33 : LkV RX3 33 RX3 yX3_goesOn cX3_goesOn 2 (some .boolean) 1 := ⟨Or.inl (tb_in 296 (by decide +kernel) rfl), tb_in 298 (by decide +kernel) rfl, tb_in 1 (by decide +kernel) rfl, tb_in 59 (by decide +kernel) rfl, tb_in 299 rfl rfl, by decide +kernel, by decide +kernel, by decide +kernel⟩
set_option maxRecDepth 100000 in
theorem l_X3_41 : LkV RX3 41 RX3 yX3_goesOnInMinutes cX3_goesOnInMinutes 2 (some .boolean) 1 := ⟨Or.inl (tb_in 300 (by decide +kernel) rfl), tb_in 302 (by decide +kernel) rfl, tb_in 2 (by decide +kernel) rfl, tb_in 59 (by decide +kernel) rfl, tb_in 303 rfl rfl, by decide +kernel, by decide +kernel, by decide +kernel⟩
set_option maxRecDepth 100000 in
theorem l_X3_50 : LkV RX3 50 RX3 yX3_isDigit cX3_isDigit 4 (some .boolean) 3 := ⟨Or.inl (tb_in 304 (by decide +kernel) rfl), tb_in 306 (by decide +kernel) rfl, tb_in 3 (by decide +kernel) rfl, tb_in 59 (by decide +kernel) rfl, tb_in 307 rfl rfl, by decide +kernel, by decide +kernel, by decide +kernel⟩
set_option maxRecDepth 100000 in
theorem l_X3_54 : LkV RX3 54 RX3 yX3_toldMinutes cX3_toldMinutes 1 (some .int) 0 := ⟨Or.inl (tb_in 308 (by decide +kernel) rfl), tb_in 309 (by decide +kernel) rfl, tb_in 310 (by decide +kernel) rfl, tb_in 59 (by decide +kernel) rfl, tb_in 311 rfl rfl, by decide +kernel, by decide +kernel, by decide +kernel⟩
set_option maxRecDepth 100000 in
theorem l_X3_62 : LkV RX3 62 RX3 yX3_digit cX3_digit 2 (some .int) 1 := ⟨Or.inl (tb_in 312 (by decide +kernel) rfl), tb_in 314 (by decide +kernel) rfl, tb_in 4 (by decide +kernel) rfl, tb_in 59 (by decide +kernel) rfl, tb_in 315 rfl rfl, by decide +kernel, by decide +kernel, by decide +kernel⟩
set_option maxRecDepth 100000 in
theorem l_X3_44 : LkV RX3 44 RX3 yX3_goesOnInJurors cX3_goesOnInJurors 3 (some .boolean) 1 := ⟨Or.inl (tb_in 316 (by decide +kernel) rfl), tb_in 318 (by decide +kernel) rfl, tb_in 5 (by decide +kernel) rfl, tb_in 59 (by decide +kernel) rfl, tb_in 319 rfl rfl, by decide +kernel, by decide +kernel, by decide +kernel⟩
set_option maxRecDepth 100000 in
theorem l_X3_58 : LkV RX3 58 RX3 yX3_kindAt cX3_kindAt 2 (some .int) 1 := ⟨Or.inl (tb_in 320 (by decide +kernel) rfl), tb_in 322 (by decide +kernel) rfl, tb_in 6 (by decide +kernel) rfl, tb_in 59 (by decide +kernel) rfl, tb_in 323 rfl rfl, by decide +kernel, by decide +kernel, by decide +kernel⟩
set_option maxRecDepth 100000 in
theorem l_X3_47 : LkV RX3 47 RX3 yX3_goesOnInCases cX3_goesOnInCases 3 (some .boolean) 1 := ⟨Or.inl (tb_in 324 (by decide +kernel) rfl), tb_in 326 (by decide +kernel) rfl, tb_in 7 (by decide +kernel) rfl, tb_in 59 (by decide +kernel) rfl, tb_in 327 rfl rfl, by decide +kernel, by decide +kernel, by decide +kernel⟩
set_option maxRecDepth 100000 in
theorem l_X3_37 : LkV RX3 37 RX3 yX3_isWhole cX3_isWhole 1 (some .boolean) 0 := ⟨Or.inl (tb_in 328 (by decide +kernel) rfl), tb_in 330 (by decide +kernel) rfl, tb_in 8 (by decide +kernel) rfl, tb_in 59 (by decide +kernel) rfl, tb_in 331 rfl rfl, by decide +kernel, by decide +kernel, by decide +kernel⟩
set_option maxRecDepth 100000 in
theorem l_X4_68 : LkV RX4 68 RX0 yX0_makeAnew cX0_makeAnew 3 none 1 := ⟨Or.inl (tb_in 332 (by decide +kernel) rfl), tb_in 333 (by decide +kernel) rfl, tb_in 334 (by decide +kernel) rfl, tb_in 60 (by decide +kernel) rfl, tb_in 335 rfl rfl, by decide +kernel, by decide +kernel, by decide +kernel⟩
set_option maxRecDepth 100000 in
theorem l_X0_40 : LkV RX0 40 RX3 yX3_toldMinutes cX3_toldMinutes 1 (some .int) 0 := ⟨Or.inl (tb_in 336 (by decide +kernel) rfl), tb_in 309 (by decide +kernel) rfl, tb_in 310 (by decide +kernel) rfl, tb_in 59 (by decide +kernel) rfl, tb_in 311 rfl rfl, by decide +kernel, by decide +kernel, by decide +kernel⟩
set_option maxRecDepth 100000 in
theorem l_X0_49 : LkV RX0 49 RX3 yX3_toldJurors cX3_toldJurors 1 (some .int) 0 := ⟨Or.inl (tb_in 337 (by decide +kernel) rfl), tb_in 338 (by decide +kernel) rfl, tb_in 339 (by decide +kernel) rfl, tb_in 59 (by decide +kernel) rfl, tb_in 340 rfl rfl, by decide +kernel, by decide +kernel, by decide +kernel⟩
set_option maxRecDepth 100000 in
theorem l_X0_52 : LkV RX0 52 RX3 yX3_toldKind cX3_toldKind 2 (some .int) 1 := ⟨Or.inl (tb_in 341 (by decide +kernel) rfl), tb_in 342 (by decide +kernel) rfl, tb_in 343 (by decide +kernel) rfl, tb_in 59 (by decide +kernel) rfl, tb_in 344 rfl rfl, by decide +kernel, by decide +kernel, by decide +kernel⟩
set_option maxRecDepth 100000 in
theorem l_X0_56 : LkV RX0 56 RX3 yX3_toldAge cX3_toldAge 2 (some .int) 1 := ⟨Or.inl (tb_in 345 (by decide +kernel) rfl), tb_in 346 (by decide +kernel) rfl, tb_in 347 (by decide +kernel) rfl, tb_in 59 (by decide +kernel) rfl, tb_in 348 rfl rfl, by decide +kernel, by decide +kernel, by decide +kernel⟩
set_option maxRecDepth 100000 in
theorem l_X0_59 : LkV RX0 59 RX3 yX3_toldCases cX3_toldCases 1 (some .int) 0 := ⟨Or.inl (tb_in 349 (by decide +kernel) rfl), tb_in 350 (by decide +kernel) rfl, tb_in 351 (by decide +kernel) rfl, tb_in 59 (by decide +kernel) rfl, tb_in 352 rfl rfl, by decide +kernel, by decide +kernel, by decide +kernel⟩
set_option maxRecDepth 100000 in
theorem l_X0_62 : LkV RX0 62 RX3 yX3_toldOfCase cX3_toldOfCase 3 (some .int) 2 := ⟨Or.inl (tb_in 353 (by decide +kernel) rfl), tb_in 354 (by decide +kernel) rfl, tb_in 355 (by decide +kernel) rfl, tb_in 59 (by decide +kernel) rfl, tb_in 356 rfl rfl, by decide +kernel, by decide +kernel, by decide +kernel⟩
set_option maxRecDepth 100000 in
theorem l_L_18 : LkV RL 18 RX4 yX4_ofJuror cX4_ofJuror 3 (some .int) 2 := ⟨Or.inl (tb_in 357 (by decide +kernel) rfl), tb_in 358 (by decide +kernel) rfl, tb_in 359 (by decide +kernel) rfl, tb_in 58 (by decide +kernel) rfl, tb_in 360 rfl rfl, by decide +kernel, by decide +kernel, by decide +kernel⟩
set_option maxRecDepth 100000 in
theorem l_X4_75 : LkV RX4 75 RX0 yX0_isJuror cX0_isJuror 2 (some .boolean) 1 := ⟨Or.inl (tb_in 361 (by decide +kernel) rfl), tb_in 362 (by decide +kernel) rfl, tb_in 363 (by decide +kernel) rfl, tb_in 60 (by decide +kernel) rfl, tb_in 364 rfl rfl, by decide +kernel, by decide +kernel, by decide +kernel⟩
set_option maxRecDepth 100000 in
theorem l_X4_87 : LkS RX4 87 yX4_bitOf cX4_bitOf 2 (some .int) 2 := ⟨Or.inl (tb_in 365 (by decide +kernel) rfl), tb_in 366 (by decide +kernel) rfl, tb_in 58 (by decide +kernel) rfl, tb_in 367 rfl rfl, by decide +kernel, by decide +kernel, by decide +kernel⟩
set_option maxRecDepth 100000 in
theorem l_L_23 : LkV RL 23 RX4 yX4_ofCase cX4_ofCase 3 (some .int) 2 := ⟨Or.inl (tb_in 368 (by decide +kernel) rfl), tb_in 369 (by decide +kernel) rfl, tb_in 370 (by decide +kernel) rfl, tb_in 58 (by decide +kernel) rfl, tb_in 371 rfl rfl, by decide +kernel, by decide +kernel, by decide +kernel⟩
set_option maxRecDepth 100000 in
theorem l_X4_94 : LkV RX4 94 RX0 yX0_isCase cX0_isCase 2 (some .boolean) 1 := ⟨Or.inl (tb_in 372 (by decide +kernel) rfl), tb_in 373 (by decide +kernel) rfl, tb_in 374 (by decide +kernel) rfl, tb_in 60 (by decide +kernel) rfl, tb_in 375 rfl rfl, by decide +kernel, by decide +kernel, by decide +kernel⟩
set_option maxRecDepth 100000 in
theorem l_L_27 : LkV RL 27 RX4 yX4_chalk cX4_chalk 3 (some .int) 1 := ⟨Or.inl (tb_in 376 (by decide +kernel) rfl), tb_in 377 (by decide +kernel) rfl, tb_in 378 (by decide +kernel) rfl, tb_in 58 (by decide +kernel) rfl, tb_in 379 rfl rfl, by decide +kernel, by decide +kernel, by decide +kernel⟩
set_option maxRecDepth 100000 in
theorem l_X4_106 : LkV RX4 106 RX0 yX0_stands cX0_stands 1 (some .boolean) 0 := ⟨Or.inl (tb_in 380 (by decide +kernel) rfl), tb_in 381 (by decide +kernel) rfl, tb_in 382 (by decide +kernel) rfl, tb_in 60 (by decide +kernel) rfl, tb_in 383 rfl rfl, by decide +kernel, by decide +kernel, by decide +kernel⟩
set_option maxRecDepth 100000 in
theorem l_L_32 : LkV RL 32 RX4 yX4_treat cX4_treat 4 (some .int) 2 := ⟨Or.inl (tb_in 384 (by decide +kernel) rfl), tb_in 385 (by decide +kernel) rfl, tb_in 386 (by decide +kernel) rfl, tb_in 58 (by decide +kernel) rfl, tb_in 387 rfl rfl, by decide +kernel, by decide +kernel, by decide +kernel⟩
set_option maxRecDepth 100000 in
theorem l_X4_113 : LkS RX4 113 yX4_withBit cX4_withBit 3 (some .int) 3 := ⟨Or.inl (tb_in 388 (by decide +kernel) rfl), tb_in 389 (by decide +kernel) rfl, tb_in 58 (by decide +kernel) rfl, tb_in 390 rfl rfl, by decide +kernel, by decide +kernel, by decide +kernel⟩
set_option maxRecDepth 100000 in
theorem l_L_37 : LkV RL 37 RX4 yX4_strike cX4_strike 4 (some .int) 2 := ⟨Or.inl (tb_in 391 (by decide +kernel) rfl), tb_in 392 (by decide +kernel) rfl, tb_in 393 (by decide +kernel) rfl, tb_in 58 (by decide +kernel) rfl, tb_in 394 rfl rfl, by decide +kernel, by decide +kernel, by decide +kernel⟩
set_option maxRecDepth 100000 in
theorem l_L_41 : LkV RL 41 RX4 yX4_minutes cX4_minutes 3 (some .int) 1 := ⟨Or.inl (tb_in 395 (by decide +kernel) rfl), tb_in 396 (by decide +kernel) rfl, tb_in 397 (by decide +kernel) rfl, tb_in 58 (by decide +kernel) rfl, tb_in 398 rfl rfl, by decide +kernel, by decide +kernel, by decide +kernel⟩
set_option maxRecDepth 100000 in
theorem l_L_45 : LkV RL 45 RX4 yX4_sitting cX4_sitting 8 (some .int) 5 := ⟨Or.inl (tb_in 399 (by decide +kernel) rfl), tb_in 400 (by decide +kernel) rfl, tb_in 401 (by decide +kernel) rfl, tb_in 58 (by decide +kernel) rfl, tb_in 402 rfl rfl, by decide +kernel, by decide +kernel, by decide +kernel⟩
set_option maxRecDepth 100000 in
theorem l_X4_120 : LkV RX4 120 RX4 yX4_takeOrder cX4_takeOrder 9 (some .int) 4 := ⟨Or.inl (tb_in 403 (by decide +kernel) rfl), tb_in 405 (by decide +kernel) rfl, tb_in 9 (by decide +kernel) rfl, tb_in 58 (by decide +kernel) rfl, tb_in 406 rfl rfl, by decide +kernel, by decide +kernel, by decide +kernel⟩
set_option maxRecDepth 100000 in
theorem l_X4_136 : LkV RX4 136 RX2 yX2_prepare cX2_prepare 1 none 0 := ⟨Or.inl (tb_in 407 (by decide +kernel) rfl), tb_in 408 (by decide +kernel) rfl, tb_in 409 (by decide +kernel) rfl, tb_in 61 (by decide +kernel) rfl, tb_in 410 rfl rfl, by decide +kernel, by decide +kernel, by decide +kernel⟩
set_option maxRecDepth 100000 in
theorem l_X4_235 : LkV RX4 235 RX2 yX2_addToOrder cX2_addToOrder 2 none 1 := ⟨Or.inl (tb_in 412 (by decide +kernel) rfl), tb_in 413 (by decide +kernel) rfl, tb_in 414 (by decide +kernel) rfl, tb_in 61 (by decide +kernel) rfl, tb_in 415 rfl rfl, by decide +kernel, by decide +kernel, by decide +kernel⟩
set_option maxRecDepth 100000 in
theorem l_X4_124 : LkV RX4 124 RX2 yX2_hold cX2_hold 6 none 0 := ⟨Or.inl (tb_in 416 (by decide +kernel) rfl), tb_in 417 (by decide +kernel) rfl, tb_in 418 (by decide +kernel) rfl, tb_in 61 (by decide +kernel) rfl, tb_in 419 rfl rfl, by decide +kernel, by decide +kernel, by decide +kernel⟩
set_option maxRecDepth 100000 in
theorem l_X2_60 : LkS RX2 60 yJ7_fill_53178 cJ7_fill_53178 4 none 2 := ⟨Or.inl (tb_in 420 (by decide +kernel) rfl), tb_in 421 (by decide +kernel) rfl, tb_in 65 (by decide +kernel) rfl, tb_in 422 rfl rfl, by decide +kernel, by decide +kernel, by decide +kernel⟩
set_option maxRecDepth 100000 in
theorem l_X2_81 : LkV RX2 81 RX2 yX2_judge cX2_judge 5 none 2 := ⟨Or.inl (tb_in 423 (by decide +kernel) rfl), tb_in 425 (by decide +kernel) rfl, tb_in 10 (by decide +kernel) rfl, tb_in 61 (by decide +kernel) rfl, tb_in 426 rfl rfl, by decide +kernel, by decide +kernel, by decide +kernel⟩
set_option maxRecDepth 100000 in
theorem l_X2_85 : LkV RX2 85 RX2 yX2_guiltyVotes cX2_guiltyVotes 7 (some .int) 2 := ⟨Or.inl (tb_in 427 (by decide +kernel) rfl), tb_in 428 (by decide +kernel) rfl, tb_in 429 (by decide +kernel) rfl, tb_in 61 (by decide +kernel) rfl, tb_in 430 rfl rfl, by decide +kernel, by decide +kernel, by decide +kernel⟩
set_option maxRecDepth 100000 in
theorem l_X2_105 : LkS RX2 105 yX4_bitOf cX4_bitOf 2 (some .int) 2 := ⟨Or.inr ⟨"ChildCourt", tb_in 431 (by decide +kernel) rfl⟩, tb_in 366 (by decide +kernel) rfl, tb_in 58 (by decide +kernel) rfl, tb_in 367 rfl rfl, by decide +kernel, by decide +kernel, by decide +kernel⟩
set_option maxRecDepth 100000 in
theorem l_X2_95 : LkV RX2 95 RX2 yX2_voters cX2_voters 2 (some .int) 0 := ⟨Or.inl (tb_in 432 (by decide +kernel) rfl), tb_in 434 (by decide +kernel) rfl, tb_in 11 (by decide +kernel) rfl, tb_in 61 (by decide +kernel) rfl, tb_in 435 rfl rfl, by decide +kernel, by decide +kernel, by decide +kernel⟩
set_option maxRecDepth 100000 in
theorem l_X2_108 : LkV RX2 108 RX2 yX2_votesGuilty cX2_votesGuilty 4 (some .boolean) 3 := ⟨Or.inl (tb_in 436 (by decide +kernel) rfl), tb_in 438 (by decide +kernel) rfl, tb_in 12 (by decide +kernel) rfl, tb_in 61 (by decide +kernel) rfl, tb_in 439 rfl rfl, by decide +kernel, by decide +kernel, by decide +kernel⟩
set_option maxRecDepth 100000 in
theorem l_X2_89 : LkS RX2 89 yJ6_bitCount_0f7a4 cJ6_bitCount_0f7a4 1 (some .int) 1 := ⟨Or.inl (tb_in 440 (by decide +kernel) rfl), tb_in 441 (by decide +kernel) rfl, tb_in 66 (by decide +kernel) rfl, tb_in 442 rfl rfl, by decide +kernel, by decide +kernel, by decide +kernel⟩
set_option maxRecDepth 100000 in
theorem l_L_50 : LkV RL 50 RX4 yX4_votes cX4_votes 3 (some .int) 2 := ⟨Or.inl (tb_in 446 (by decide +kernel) rfl), tb_in 447 (by decide +kernel) rfl, tb_in 448 (by decide +kernel) rfl, tb_in 58 (by decide +kernel) rfl, tb_in 449 rfl rfl, by decide +kernel, by decide +kernel, by decide +kernel⟩
set_option maxRecDepth 100000 in
theorem l_X4_139 : LkV RX4 139 RX2 yX2_guiltyVotes cX2_guiltyVotes 7 (some .int) 2 := ⟨Or.inl (tb_in 450 (by decide +kernel) rfl), tb_in 428 (by decide +kernel) rfl, tb_in 429 (by decide +kernel) rfl, tb_in 61 (by decide +kernel) rfl, tb_in 430 rfl rfl, by decide +kernel, by decide +kernel, by decide +kernel⟩
set_option maxRecDepth 100000 in
theorem l_L_54 : LkV RL 54 RX4 yX4_most cX4_most 2 (some .int) 1 := ⟨Or.inl (tb_in 451 (by decide +kernel) rfl), tb_in 452 (by decide +kernel) rfl, tb_in 453 (by decide +kernel) rfl, tb_in 58 (by decide +kernel) rfl, tb_in 454 rfl rfl, by decide +kernel, by decide +kernel, by decide +kernel⟩
set_option maxRecDepth 100000 in
theorem l_X4_142 : LkV RX4 142 RX4 yX4_byOrderOfHighest cX4_byOrderOfHighest 4 (some .int) 2 := ⟨Or.inl (tb_in 455 (by decide +kernel) rfl), tb_in 457 (by decide +kernel) rfl, tb_in 13 (by decide +kernel) rfl, tb_in 58 (by decide +kernel) rfl, tb_in 458 rfl rfl, by decide +kernel, by decide +kernel, by decide +kernel⟩
set_option maxRecDepth 100000 in
theorem l_X4_238 : LkV RX4 238 RX4 yX4_findOrderOfHighest cX4_findOrderOfHighest 5 (some .int) 1 := ⟨Or.inl (tb_in 459 (by decide +kernel) rfl), tb_in 461 (by decide +kernel) rfl, tb_in 14 (by decide +kernel) rfl, tb_in 58 (by decide +kernel) rfl, tb_in 462 rfl rfl, by decide +kernel, by decide +kernel, by decide +kernel⟩
set_option maxRecDepth 100000 in
theorem l_X4_148 : LkV RX4 148 RX4 yX4_prepareByNumbers cX4_prepareByNumbers 2 none 0 := ⟨Or.inl (tb_in 463 (by decide +kernel) rfl), tb_in 465 (by decide +kernel) rfl, tb_in 15 (by decide +kernel) rfl, tb_in 58 (by decide +kernel) rfl, tb_in 466 rfl rfl, by decide +kernel, by decide +kernel, by decide +kernel⟩
set_option maxRecDepth 100000 in
theorem l_X4_244 : LkV RX4 244 RX2 yX2_goToNextOrder cX2_goToNextOrder 5 (some .boolean) 0 := ⟨Or.inl (tb_in 468 (by decide +kernel) rfl), tb_in 469 (by decide +kernel) rfl, tb_in 470 (by decide +kernel) rfl, tb_in 61 (by decide +kernel) rfl, tb_in 471 rfl rfl, by decide +kernel, by decide +kernel, by decide +kernel⟩
set_option maxRecDepth 100000 in
theorem l_X2_56 : LkV RX2 56 RX2 yX2_swapInOrder cX2_swapInOrder 4 none 2 := ⟨Or.inl (tb_in 472 (by decide +kernel) rfl), tb_in 474 (by decide +kernel) rfl, tb_in 16 (by decide +kernel) rfl, tb_in 61 (by decide +kernel) rfl, tb_in 475 rfl rfl, by decide +kernel, by decide +kernel, by decide +kernel⟩
set_option maxRecDepth 100000 in
theorem l_L_58 : LkV RL 58 RX4 yX4_delay cX4_delay 2 (some .int) 1 := ⟨Or.inl (tb_in 476 (by decide +kernel) rfl), tb_in 477 (by decide +kernel) rfl, tb_in 478 (by decide +kernel) rfl, tb_in 58 (by decide +kernel) rfl, tb_in 479 rfl rfl, by decide +kernel, by decide +kernel, by decide +kernel⟩
set_option maxRecDepth 100000 in
theorem l_L_62 : LkV RL 62 RX4 yX4_bribe cX4_bribe 7 (some .int) 5 := ⟨Or.inl (tb_in 480 (by decide +kernel) rfl), tb_in 481 (by decide +kernel) rfl, tb_in 482 (by decide +kernel) rfl, tb_in 58 (by decide +kernel) rfl, tb_in 483 rfl rfl, by decide +kernel, by decide +kernel, by decide +kernel⟩
set_option maxRecDepth 100000 in
theorem l_X4_145 : LkV RX4 145 RX4 yX4_fewestSweets cX4_fewestSweets 5 (some .int) 1 := ⟨Or.inl (tb_in 484 (by decide +kernel) rfl), tb_in 486 (by decide +kernel) rfl, tb_in 17 (by decide +kernel) rfl, tb_in 58 (by decide +kernel) rfl, tb_in 487 rfl rfl, by decide +kernel, by decide +kernel, by decide +kernel⟩
set_option maxRecDepth 100000 in
theorem l_X4_173 : LkS RX4 173 yX4_hasFewer cX4_hasFewer 2 (some .boolean) 2 := ⟨Or.inl (tb_in 488 (by decide +kernel) rfl), tb_in 489 (by decide +kernel) rfl, tb_in 58 (by decide +kernel) rfl, tb_in 490 rfl rfl, by decide +kernel, by decide +kernel, by decide +kernel⟩
set_option maxRecDepth 100000 in
theorem l_X4_230 : LkS RX4 230 yJ6_bitCount_0f7a4 cJ6_bitCount_0f7a4 1 (some .int) 1 := ⟨Or.inl (tb_in 491 (by decide +kernel) rfl), tb_in 441 (by decide +kernel) rfl, tb_in 66 (by decide +kernel) rfl, tb_in 442 rfl rfl, by decide +kernel, by decide +kernel, by decide +kernel⟩
set_option maxRecDepth 100000 in
theorem l_L_66 : LkV RL 66 RX4 yX4_strikes cX4_strikes 6 (some .int) 1 := ⟨Or.inl (tb_in 492 (by decide +kernel) rfl), tb_in 493 (by decide +kernel) rfl, tb_in 494 (by decide +kernel) rfl, tb_in 58 (by decide +kernel) rfl, tb_in 495 rfl rfl, by decide +kernel, by decide +kernel, by decide +kernel⟩
set_option maxRecDepth 100000 in
theorem l_X4_154 : LkV RX4 154 RX4 yX4_mostByCourtsStrike cX4_mostByCourtsStrike 4 (some .int) 1 := ⟨Or.inl (tb_in 496 (by decide +kernel) rfl), tb_in 498 (by decide +kernel) rfl, tb_in 18 (by decide +kernel) rfl, tb_in 58 (by decide +kernel) rfl, tb_in 499 rfl rfl, by decide +kernel, by decide +kernel, by decide +kernel⟩
set_option maxRecDepth 100000 in
theorem l_X4_157 : LkV RX4 157 RX4 yX4_sentencedIfStruck cX4_sentencedIfStruck 2 (some .int) 1 := ⟨Or.inl (tb_in 500 (by decide +kernel) rfl), tb_in 502 (by decide +kernel) rfl, tb_in 19 (by decide +kernel) rfl, tb_in 58 (by decide +kernel) rfl, tb_in 503 rfl rfl, by decide +kernel, by decide +kernel, by decide +kernel⟩
set_option maxRecDepth 100000 in
theorem l_X4_247 : LkS RX4 247 yJ9_max_7cf53 cJ9_max_7cf53 2 (some .int) 2 := ⟨Or.inl (tb_in 504 (by decide +kernel) rfl), tb_in 505 (by decide +kernel) rfl, tb_in 67 (by decide +kernel) rfl, tb_in 506 rfl rfl, by decide +kernel, by decide +kernel, by decide +kernel⟩
set_option maxRecDepth 100000 in
theorem l_L_70 : LkV RL 70 RX4 yX4_worth cX4_worth 4 (some .int) 1 := ⟨Or.inl (tb_in 507 (by decide +kernel) rfl), tb_in 508 (by decide +kernel) rfl, tb_in 509 (by decide +kernel) rfl, tb_in 58 (by decide +kernel) rfl, tb_in 510 rfl rfl, by decide +kernel, by decide +kernel, by decide +kernel⟩
set_option maxRecDepth 100000 in
theorem l_L_74 : LkV RL 74 RX4 yX4_reading cX4_reading 4 (some .int) 2 := ⟨Or.inl (tb_in 511 (by decide +kernel) rfl), tb_in 512 (by decide +kernel) rfl, tb_in 513 (by decide +kernel) rfl, tb_in 58 (by decide +kernel) rfl, tb_in 514 rfl rfl, by decide +kernel, by decide +kernel, by decide +kernel⟩
set_option maxRecDepth 100000 in
theorem l_L_78 : LkV RL 78 RX4 yX4_back cX4_back 2 (some .int) 1 := ⟨Or.inl (tb_in 515 (by decide +kernel) rfl), tb_in 516 (by decide +kernel) rfl, tb_in 517 (by decide +kernel) rfl, tb_in 58 (by decide +kernel) rfl, tb_in 518 rfl rfl, by decide +kernel, by decide +kernel, by decide +kernel⟩
set_option maxRecDepth 100000 in
theorem l_L_82 : LkV RL 82 RX4 yX4_codes cX4_codes 6 (some .int) 1 := ⟨Or.inl (tb_in 519 (by decide +kernel) rfl), tb_in 520 (by decide +kernel) rfl, tb_in 521 (by decide +kernel) rfl, tb_in 58 (by decide +kernel) rfl, tb_in 522 rfl rfl, by decide +kernel, by decide +kernel, by decide +kernel⟩
set_option maxRecDepth 100000 in
theorem l_X4_170 : LkV RX4 170 RX4 yX4_isAsRead cX4_isAsRead 2 (some .boolean) 0 := ⟨Or.inl (tb_in 523 (by decide +kernel) rfl), tb_in 525 (by decide +kernel) rfl, tb_in 20 (by decide +kernel) rfl, tb_in 58 (by decide +kernel) rfl, tb_in 526 rfl rfl, by decide +kernel, by decide +kernel, by decide +kernel⟩
set_option maxRecDepth 100000 in
theorem l_L_86 : LkV RL 86 RX4 yX4_kinds cX4_kinds 4 (some .int) 1 := ⟨Or.inl (tb_in 527 (by decide +kernel) rfl), tb_in 528 (by decide +kernel) rfl, tb_in 529 (by decide +kernel) rfl, tb_in 58 (by decide +kernel) rfl, tb_in 530 rfl rfl, by decide +kernel, by decide +kernel, by decide +kernel⟩
set_option maxRecDepth 100000 in
theorem l_L_90 : LkV RL 90 RX4 yX4_treated cX4_treated 3 (some .int) 0 := ⟨Or.inl (tb_in 531 (by decide +kernel) rfl), tb_in 532 (by decide +kernel) rfl, tb_in 533 (by decide +kernel) rfl, tb_in 58 (by decide +kernel) rfl, tb_in 534 rfl rfl, by decide +kernel, by decide +kernel, by decide +kernel⟩
set_option maxRecDepth 100000 in
theorem l_L_95 : LkV RL 95 RX4 yX4_odds cX4_odds 6 (some .long) 2 := ⟨Or.inl (tb_in 535 (by decide +kernel) rfl), tb_in 536 (by decide +kernel) rfl, tb_in 537 (by decide +kernel) rfl, tb_in 58 (by decide +kernel) rfl, tb_in 538 rfl rfl, by decide +kernel, by decide +kernel, by decide +kernel⟩
set_option maxRecDepth 100000 in
theorem l_L_100 : LkV RL 100 RX4 yX4_sheet cX4_sheet 4 (some .int) 3 := ⟨Or.inl (tb_in 540 (by decide +kernel) rfl), tb_in 541 (by decide +kernel) rfl, tb_in 542 (by decide +kernel) rfl, tb_in 58 (by decide +kernel) rfl, tb_in 543 rfl rfl, by decide +kernel, by decide +kernel, by decide +kernel⟩
set_option maxRecDepth 100000 in
theorem l_X4_182 : LkV RX4 182 RX1 yX1_renew cX1_renew 3 none 2 := ⟨Or.inl (tb_in 544 (by decide +kernel) rfl), tb_in 545 (by decide +kernel) rfl, tb_in 546 (by decide +kernel) rfl, tb_in 62 (by decide +kernel) rfl, tb_in 547 rfl rfl, by decide +kernel, by decide +kernel, by decide +kernel⟩
set_option maxRecDepth 100000 in
theorem l_X1_15 : LkS RX1 15 yJ7_fill_53178 cJ7_fill_53178 4 none 2 := ⟨Or.inl (tb_in 548 (by decide +kernel) rfl), tb_in 421 (by decide +kernel) rfl, tb_in 65 (by decide +kernel) rfl, tb_in 422 rfl rfl, by decide +kernel, by decide +kernel, by decide +kernel⟩
set_option maxRecDepth 100000 in
theorem l_L_105 : LkV RL 105 RX4 yX4_lose cX4_lose 3 (some .int) 1 := ⟨Or.inl (tb_in 549 (by decide +kernel) rfl), tb_in 550 (by decide +kernel) rfl, tb_in 551 (by decide +kernel) rfl, tb_in 58 (by decide +kernel) rfl, tb_in 552 rfl rfl, by decide +kernel, by decide +kernel, by decide +kernel⟩
set_option maxRecDepth 100000 in
theorem l_L_109 : LkV RL 109 RX4 yX4_put cX4_put 5 (some .int) 3 := ⟨Or.inl (tb_in 553 (by decide +kernel) rfl), tb_in 554 (by decide +kernel) rfl, tb_in 555 (by decide +kernel) rfl, tb_in 58 (by decide +kernel) rfl, tb_in 556 rfl rfl, by decide +kernel, by decide +kernel, by decide +kernel⟩
set_option maxRecDepth 100000 in
theorem l_X4_190 : LkV RX4 190 RX1 yX1_isPlace cX1_isPlace 2 (some .boolean) 1 := ⟨Or.inl (tb_in 557 (by decide +kernel) rfl), tb_in 558 (by decide +kernel) rfl, tb_in 559 (by decide +kernel) rfl, tb_in 62 (by decide +kernel) rfl, tb_in 560 rfl rfl, by decide +kernel, by decide +kernel, by decide +kernel⟩
set_option maxRecDepth 100000 in
theorem l_X4_196 : LkV RX4 196 RX1 yX1_cut cX1_cut 2 (some .int) 1 := ⟨Or.inl (tb_in 561 (by decide +kernel) rfl), tb_in 562 (by decide +kernel) rfl, tb_in 563 (by decide +kernel) rfl, tb_in 62 (by decide +kernel) rfl, tb_in 564 rfl rfl, by decide +kernel, by decide +kernel, by decide +kernel⟩
set_option maxRecDepth 100000 in
theorem l_L_113 : LkV RL 113 RX4 yX4_cell cX4_cell 6 (some .long) 3 := ⟨Or.inl (tb_in 565 (by decide +kernel) rfl), tb_in 566 (by decide +kernel) rfl, tb_in 567 (by decide +kernel) rfl, tb_in 58 (by decide +kernel) rfl, tb_in 568 rfl rfl, by decide +kernel, by decide +kernel, by decide +kernel⟩
set_option maxRecDepth 100000 in
theorem l_X4_199 : LkV RX4 199 RX1 yX1_faultOfLane cX1_faultOfLane 2 (some .int) 1 := ⟨Or.inl (tb_in 569 (by decide +kernel) rfl), tb_in 278 (by decide +kernel) rfl, tb_in 279 (by decide +kernel) rfl, tb_in 62 (by decide +kernel) rfl, tb_in 280 rfl rfl, by decide +kernel, by decide +kernel, by decide +kernel⟩
set_option maxRecDepth 100000 in
theorem l_L_118 : LkV RL 118 RX4 yX4_copy cX4_copy 8 (some .int) 5 := ⟨Or.inl (tb_in 570 (by decide +kernel) rfl), tb_in 571 (by decide +kernel) rfl, tb_in 572 (by decide +kernel) rfl, tb_in 58 (by decide +kernel) rfl, tb_in 573 rfl rfl, by decide +kernel, by decide +kernel, by decide +kernel⟩
set_option maxRecDepth 100000 in
theorem l_X4_205 : LkV RX4 205 RX1 yX1_hasCells cX1_hasCells 3 (some .boolean) 2 := ⟨Or.inl (tb_in 574 (by decide +kernel) rfl), tb_in 282 (by decide +kernel) rfl, tb_in 283 (by decide +kernel) rfl, tb_in 62 (by decide +kernel) rfl, tb_in 284 rfl rfl, by decide +kernel, by decide +kernel, by decide +kernel⟩
set_option maxRecDepth 100000 in
theorem l_L_122 : LkV RL 122 RX4 yX4_tell cX4_tell 2 (some .int) 1 := ⟨Or.inl (tb_in 575 (by decide +kernel) rfl), tb_in 576 (by decide +kernel) rfl, tb_in 577 (by decide +kernel) rfl, tb_in 58 (by decide +kernel) rfl, tb_in 578 rfl rfl, by decide +kernel, by decide +kernel, by decide +kernel⟩
set_option maxRecDepth 100000 in
theorem l_X4_214 : LkV RX4 214 RX4 yX4_sweetTelling cX4_sweetTelling 2 (some .int) 1 := ⟨Or.inl (tb_in 579 (by decide +kernel) rfl), tb_in 581 (by decide +kernel) rfl, tb_in 21 (by decide +kernel) rfl, tb_in 58 (by decide +kernel) rfl, tb_in 582 rfl rfl, by decide +kernel, by decide +kernel, by decide +kernel⟩
set_option maxRecDepth 100000 in
theorem l_X4_223 : LkV RX4 223 RX4 yX4_leaveInTrace cX4_leaveInTrace 2 none 1 := ⟨Or.inl (tb_in 583 (by decide +kernel) rfl), tb_in 585 (by decide +kernel) rfl, tb_in 22 (by decide +kernel) rfl, tb_in 58 (by decide +kernel) rfl, tb_in 586 rfl rfl, by decide +kernel, by decide +kernel, by decide +kernel⟩
set_option maxRecDepth 100000 in
theorem l_X4_217 : LkV RX4 217 RX4 yX4_hungryTelling cX4_hungryTelling 2 (some .int) 1 := ⟨Or.inl (tb_in 587 (by decide +kernel) rfl), tb_in 589 (by decide +kernel) rfl, tb_in 23 (by decide +kernel) rfl, tb_in 58 (by decide +kernel) rfl, tb_in 590 rfl rfl, by decide +kernel, by decide +kernel, by decide +kernel⟩
set_option maxRecDepth 100000 in
theorem l_X4_220 : LkV RX4 220 RX4 yX4_childTelling cX4_childTelling 2 (some .int) 1 := ⟨Or.inl (tb_in 591 (by decide +kernel) rfl), tb_in 593 (by decide +kernel) rfl, tb_in 24 (by decide +kernel) rfl, tb_in 58 (by decide +kernel) rfl, tb_in 594 rfl rfl, by decide +kernel, by decide +kernel, by decide +kernel⟩
set_option maxRecDepth 100000 in
theorem l_L_126 : LkV RL 126 RX4 yX4_hush cX4_hush 2 (some .int) 1 := ⟨Or.inl (tb_in 595 (by decide +kernel) rfl), tb_in 596 (by decide +kernel) rfl, tb_in 597 (by decide +kernel) rfl, tb_in 58 (by decide +kernel) rfl, tb_in 598 rfl rfl, by decide +kernel, by decide +kernel, by decide +kernel⟩
set_option maxRecDepth 100000 in
theorem l_L_130 : LkV RL 130 RX4 yX4_as cX4_as 3 (some .int) 2 := ⟨Or.inl (tb_in 599 (by decide +kernel) rfl), tb_in 600 (by decide +kernel) rfl, tb_in 601 (by decide +kernel) rfl, tb_in 58 (by decide +kernel) rfl, tb_in 602 rfl rfl, by decide +kernel, by decide +kernel, by decide +kernel⟩
set_option maxRecDepth 100000 in
theorem l_L_134 : LkV RL 134 RX4 yX4_trace cX4_trace 1 (some .int) 0 := ⟨Or.inl (tb_in 603 (by decide +kernel) rfl), tb_in 604 (by decide +kernel) rfl, tb_in 605 (by decide +kernel) rfl, tb_in 58 (by decide +kernel) rfl, tb_in 606 rfl rfl, by decide +kernel, by decide +kernel, by decide +kernel⟩
set_option maxRecDepth 100000 in
theorem l_L_138 : LkV RL 138 RX4 yX4_fault cX4_fault 1 (some .int) 0 := ⟨Or.inl (tb_in 607 (by decide +kernel) rfl), tb_in 608 (by decide +kernel) rfl, tb_in 609 (by decide +kernel) rfl, tb_in 58 (by decide +kernel) rfl, tb_in 610 rfl rfl, by decide +kernel, by decide +kernel, by decide +kernel⟩
set_option maxRecDepth 100000 in
theorem l_L_142 : LkV RL 142 RX4 yX4_many cX4_many 2 (some .int) 1 := ⟨Or.inl (tb_in 611 (by decide +kernel) rfl), tb_in 612 (by decide +kernel) rfl, tb_in 613 (by decide +kernel) rfl, tb_in 58 (by decide +kernel) rfl, tb_in 614 rfl rfl, by decide +kernel, by decide +kernel, by decide +kernel⟩
set_option maxRecDepth 100000 in
theorem l_L_17 : LkV RL 17 RX5 yX5_court cX5_court 8 (some .int) 4 := ⟨Or.inl (tb_in 722 (by decide +kernel) rfl), tb_in 723 (by decide +kernel) rfl, tb_in 724 (by decide +kernel) rfl, tb_in 63 (by decide +kernel) rfl, tb_in 725 rfl rfl, by decide +kernel, by decide +kernel, by decide +kernel⟩
set_option maxRecDepth 100000 in
theorem l_X5_87 : LkS RX5 87 yX5_isSheet cX5_isSheet 1 (some .boolean) 1 := ⟨Or.inl (tb_in 726 (by decide +kernel) rfl), tb_in 727 (by decide +kernel) rfl, tb_in 63 (by decide +kernel) rfl, tb_in 728 rfl rfl, by decide +kernel, by decide +kernel, by decide +kernel⟩
set_option maxRecDepth 100000 in
theorem l_X5_74 : LkS RX5 74 yX5_within cX5_within 3 (some .boolean) 3 := ⟨Or.inl (tb_in 729 (by decide +kernel) rfl), tb_in 730 (by decide +kernel) rfl, tb_in 63 (by decide +kernel) rfl, tb_in 731 rfl rfl, by decide +kernel, by decide +kernel, by decide +kernel⟩
set_option maxRecDepth 100000 in
theorem l_X5_91 : LkS RX5 91 yX5_isSort cX5_isSort 1 (some .boolean) 1 := ⟨Or.inl (tb_in 732 (by decide +kernel) rfl), tb_in 733 (by decide +kernel) rfl, tb_in 63 (by decide +kernel) rfl, tb_in 734 rfl rfl, by decide +kernel, by decide +kernel, by decide +kernel⟩
set_option maxRecDepth 100000 in
theorem l_X5_94 : LkV RX5 94 RX5 yX5_against cX5_against 5 (some .int) 4 := ⟨Or.inl (tb_in 735 (by decide +kernel) rfl), tb_in 737 (by decide +kernel) rfl, tb_in 25 (by decide +kernel) rfl, tb_in 63 (by decide +kernel) rfl, tb_in 738 rfl rfl, by decide +kernel, by decide +kernel, by decide +kernel⟩
set_option maxRecDepth 100000 in
theorem l_X5_98 : LkV RX5 98 RX5 yX5_fails cX5_fails 2 (some .int) 1 := ⟨Or.inl (tb_in 739 (by decide +kernel) rfl), tb_in 741 (by decide +kernel) rfl, tb_in 26 (by decide +kernel) rfl, tb_in 63 (by decide +kernel) rfl, tb_in 742 rfl rfl, by decide +kernel, by decide +kernel, by decide +kernel⟩
set_option maxRecDepth 100000 in
theorem l_X5_102 : LkV RX5 102 RX5 yX5_readCourt cX5_readCourt 2 (some .boolean) 1 := ⟨Or.inl (tb_in 743 (by decide +kernel) rfl), tb_in 745 (by decide +kernel) rfl, tb_in 27 (by decide +kernel) rfl, tb_in 63 (by decide +kernel) rfl, tb_in 746 rfl rfl, by decide +kernel, by decide +kernel, by decide +kernel⟩
set_option maxRecDepth 100000 in
theorem l_X5_123 : LkV RX5 123 RX5 yX5_isSign cX5_isSign 3 (some .boolean) 2 := ⟨Or.inl (tb_in 747 (by decide +kernel) rfl), tb_in 749 (by decide +kernel) rfl, tb_in 28 (by decide +kernel) rfl, tb_in 63 (by decide +kernel) rfl, tb_in 750 rfl rfl, by decide +kernel, by decide +kernel, by decide +kernel⟩
set_option maxRecDepth 100000 in
theorem l_X5_127 : LkV RX5 127 RX5 yX5_readTheMinutes cX5_readTheMinutes 4 (some .boolean) 1 := ⟨Or.inl (tb_in 751 (by decide +kernel) rfl), tb_in 753 (by decide +kernel) rfl, tb_in 29 (by decide +kernel) rfl, tb_in 63 (by decide +kernel) rfl, tb_in 754 rfl rfl, by decide +kernel, by decide +kernel, by decide +kernel⟩
set_option maxRecDepth 100000 in
theorem l_X5_136 : LkV RX5 136 RX5 yX5_digit cX5_digit 4 (some .int) 3 := ⟨Or.inl (tb_in 755 (by decide +kernel) rfl), tb_in 757 (by decide +kernel) rfl, tb_in 30 (by decide +kernel) rfl, tb_in 63 (by decide +kernel) rfl, tb_in 758 rfl rfl, by decide +kernel, by decide +kernel, by decide +kernel⟩
set_option maxRecDepth 100000 in
theorem l_X5_130 : LkV RX5 130 RX5 yX5_readOneJuror cX5_readOneJuror 4 (some .boolean) 1 := ⟨Or.inl (tb_in 759 (by decide +kernel) rfl), tb_in 761 (by decide +kernel) rfl, tb_in 31 (by decide +kernel) rfl, tb_in 63 (by decide +kernel) rfl, tb_in 762 rfl rfl, by decide +kernel, by decide +kernel, by decide +kernel⟩
set_option maxRecDepth 100000 in
theorem l_X5_133 : LkV RX5 133 RX5 yX5_readOneCase cX5_readOneCase 4 (some .boolean) 1 := ⟨Or.inl (tb_in 763 (by decide +kernel) rfl), tb_in 765 (by decide +kernel) rfl, tb_in 32 (by decide +kernel) rfl, tb_in 63 (by decide +kernel) rfl, tb_in 766 rfl rfl, by decide +kernel, by decide +kernel, by decide +kernel⟩
set_option maxRecDepth 100000 in
theorem l_L_22 : LkV RL 22 RX5 yX5_ofJuror cX5_ofJuror 3 (some .int) 2 := ⟨Or.inl (tb_in 767 (by decide +kernel) rfl), tb_in 768 (by decide +kernel) rfl, tb_in 769 (by decide +kernel) rfl, tb_in 63 (by decide +kernel) rfl, tb_in 770 rfl rfl, by decide +kernel, by decide +kernel, by decide +kernel⟩
set_option maxRecDepth 100000 in
theorem l_X5_140 : LkV RX5 140 RX5 yX5_isJuror cX5_isJuror 2 (some .boolean) 1 := ⟨Or.inl (tb_in 771 (by decide +kernel) rfl), tb_in 773 (by decide +kernel) rfl, tb_in 33 (by decide +kernel) rfl, tb_in 63 (by decide +kernel) rfl, tb_in 774 rfl rfl, by decide +kernel, by decide +kernel, by decide +kernel⟩
set_option maxRecDepth 100000 in
theorem l_L_26 : LkV RL 26 RX5 yX5_ofCase cX5_ofCase 3 (some .int) 2 := ⟨Or.inl (tb_in 775 (by decide +kernel) rfl), tb_in 776 (by decide +kernel) rfl, tb_in 777 (by decide +kernel) rfl, tb_in 63 (by decide +kernel) rfl, tb_in 778 rfl rfl, by decide +kernel, by decide +kernel, by decide +kernel⟩
set_option maxRecDepth 100000 in
theorem l_X5_143 : LkV RX5 143 RX5 yX5_isCase cX5_isCase 2 (some .boolean) 1 := ⟨Or.inl (tb_in 779 (by decide +kernel) rfl), tb_in 781 (by decide +kernel) rfl, tb_in 34 (by decide +kernel) rfl, tb_in 63 (by decide +kernel) rfl, tb_in 782 rfl rfl, by decide +kernel, by decide +kernel, by decide +kernel⟩
set_option maxRecDepth 100000 in
theorem l_L_31 : LkV RL 31 RX5 yX5_chalk cX5_chalk 3 (some .int) 1 := ⟨Or.inl (tb_in 783 (by decide +kernel) rfl), tb_in 784 (by decide +kernel) rfl, tb_in 785 (by decide +kernel) rfl, tb_in 63 (by decide +kernel) rfl, tb_in 786 rfl rfl, by decide +kernel, by decide +kernel, by decide +kernel⟩
set_option maxRecDepth 100000 in
theorem l_L_36 : LkV RL 36 RX5 yX5_treat cX5_treat 4 (some .int) 2 := ⟨Or.inl (tb_in 787 (by decide +kernel) rfl), tb_in 788 (by decide +kernel) rfl, tb_in 789 (by decide +kernel) rfl, tb_in 63 (by decide +kernel) rfl, tb_in 790 rfl rfl, by decide +kernel, by decide +kernel, by decide +kernel⟩
set_option maxRecDepth 100000 in
theorem l_L_40 : LkV RL 40 RX5 yX5_strike cX5_strike 4 (some .int) 2 := ⟨Or.inl (tb_in 791 (by decide +kernel) rfl), tb_in 792 (by decide +kernel) rfl, tb_in 793 (by decide +kernel) rfl, tb_in 63 (by decide +kernel) rfl, tb_in 794 rfl rfl, by decide +kernel, by decide +kernel, by decide +kernel⟩
set_option maxRecDepth 100000 in
theorem l_L_44 : LkV RL 44 RX5 yX5_minutes cX5_minutes 3 (some .int) 1 := ⟨Or.inl (tb_in 795 (by decide +kernel) rfl), tb_in 796 (by decide +kernel) rfl, tb_in 797 (by decide +kernel) rfl, tb_in 63 (by decide +kernel) rfl, tb_in 798 rfl rfl, by decide +kernel, by decide +kernel, by decide +kernel⟩
set_option maxRecDepth 100000 in
theorem l_L_49 : LkV RL 49 RX5 yX5_sitting cX5_sitting 7 (some .int) 5 := ⟨Or.inl (tb_in 799 (by decide +kernel) rfl), tb_in 800 (by decide +kernel) rfl, tb_in 801 (by decide +kernel) rfl, tb_in 63 (by decide +kernel) rfl, tb_in 802 rfl rfl, by decide +kernel, by decide +kernel, by decide +kernel⟩
set_option maxRecDepth 100000 in
theorem l_X5_183 : LkV RX5 183 RX5 yX5_layRow cX5_layRow 10 (some .int) 4 := ⟨Or.inl (tb_in 803 (by decide +kernel) rfl), tb_in 805 (by decide +kernel) rfl, tb_in 35 (by decide +kernel) rfl, tb_in 63 (by decide +kernel) rfl, tb_in 806 rfl rfl, by decide +kernel, by decide +kernel, by decide +kernel⟩
set_option maxRecDepth 100000 in
theorem l_X5_176 : LkV RX5 176 RX5 yX5_goRow cX5_goRow 2 none 0 := ⟨Or.inl (tb_in 807 (by decide +kernel) rfl), tb_in 809 (by decide +kernel) rfl, tb_in 36 (by decide +kernel) rfl, tb_in 63 (by decide +kernel) rfl, tb_in 810 rfl rfl, by decide +kernel, by decide +kernel, by decide +kernel⟩
set_option maxRecDepth 100000 in
theorem l_X5_163 : LkV RX5 163 RX5 yX5_begin cX5_begin 2 none 0 := ⟨Or.inl (tb_in 811 (by decide +kernel) rfl), tb_in 813 (by decide +kernel) rfl, tb_in 37 (by decide +kernel) rfl, tb_in 63 (by decide +kernel) rfl, tb_in 814 rfl rfl, by decide +kernel, by decide +kernel, by decide +kernel⟩
set_option maxRecDepth 100000 in
theorem l_X5_169 : LkV RX5 169 RX5 yX5_tryCase cX5_tryCase 4 none 1 := ⟨Or.inl (tb_in 815 (by decide +kernel) rfl), tb_in 817 (by decide +kernel) rfl, tb_in 38 (by decide +kernel) rfl, tb_in 63 (by decide +kernel) rfl, tb_in 818 rfl rfl, by decide +kernel, by decide +kernel, by decide +kernel⟩
set_option maxRecDepth 100000 in
theorem l_X5_160 : LkV RX5 160 RX5 yX5_verdictOf cX5_verdictOf 5 (some .int) 1 := ⟨Or.inl (tb_in 819 (by decide +kernel) rfl), tb_in 821 (by decide +kernel) rfl, tb_in 39 (by decide +kernel) rfl, tb_in 63 (by decide +kernel) rfl, tb_in 822 rfl rfl, by decide +kernel, by decide +kernel, by decide +kernel⟩
set_option maxRecDepth 100000 in
theorem l_X5_156 : LkV RX5 156 RX5 yX5_isAgainst cX5_isAgainst 5 (some .boolean) 4 := ⟨Or.inl (tb_in 823 (by decide +kernel) rfl), tb_in 825 (by decide +kernel) rfl, tb_in 40 (by decide +kernel) rfl, tb_in 63 (by decide +kernel) rfl, tb_in 826 rfl rfl, by decide +kernel, by decide +kernel, by decide +kernel⟩
set_option maxRecDepth 100000 in
theorem l_X5_153 : LkV RX5 153 RX5 yX5_isCrime cX5_isCrime 2 (some .boolean) 1 := ⟨Or.inl (tb_in 827 (by decide +kernel) rfl), tb_in 829 (by decide +kernel) rfl, tb_in 41 (by decide +kernel) rfl, tb_in 63 (by decide +kernel) rfl, tb_in 830 rfl rfl, by decide +kernel, by decide +kernel, by decide +kernel⟩
set_option maxRecDepth 100000 in
theorem l_X5_179 : LkV RX5 179 RX5 yX5_sentenced cX5_sentenced 3 (some .int) 0 := ⟨Or.inl (tb_in 831 (by decide +kernel) rfl), tb_in 833 (by decide +kernel) rfl, tb_in 42 (by decide +kernel) rfl, tb_in 63 (by decide +kernel) rfl, tb_in 834 rfl rfl, by decide +kernel, by decide +kernel, by decide +kernel⟩
set_option maxRecDepth 100000 in
theorem l_L_53 : LkV RL 53 RX5 yX5_votes cX5_votes 5 (some .int) 2 := ⟨Or.inl (tb_in 835 (by decide +kernel) rfl), tb_in 836 (by decide +kernel) rfl, tb_in 837 (by decide +kernel) rfl, tb_in 63 (by decide +kernel) rfl, tb_in 838 rfl rfl, by decide +kernel, by decide +kernel, by decide +kernel⟩
set_option maxRecDepth 100000 in
theorem l_L_57 : LkV RL 57 RX5 yX5_most cX5_most 2 (some .int) 1 := ⟨Or.inl (tb_in 839 (by decide +kernel) rfl), tb_in 840 (by decide +kernel) rfl, tb_in 841 (by decide +kernel) rfl, tb_in 63 (by decide +kernel) rfl, tb_in 842 rfl rfl, by decide +kernel, by decide +kernel, by decide +kernel⟩
set_option maxRecDepth 100000 in
theorem l_X5_198 : LkV RX5 198 RX5 yX5_order cX5_order 4 (some .int) 2 := ⟨Or.inl (tb_in 843 (by decide +kernel) rfl), tb_in 845 (by decide +kernel) rfl, tb_in 43 (by decide +kernel) rfl, tb_in 63 (by decide +kernel) rfl, tb_in 846 rfl rfl, by decide +kernel, by decide +kernel, by decide +kernel⟩
set_option maxRecDepth 100000 in
theorem l_X5_194 : LkV RX5 194 RX5 yX5_findOrder cX5_findOrder 7 (some .int) 1 := ⟨Or.inl (tb_in 847 (by decide +kernel) rfl), tb_in 849 (by decide +kernel) rfl, tb_in 44 (by decide +kernel) rfl, tb_in 63 (by decide +kernel) rfl, tb_in 850 rfl rfl, by decide +kernel, by decide +kernel, by decide +kernel⟩
set_option maxRecDepth 100000 in
theorem l_X5_173 : LkV RX5 173 RX5 yX5_layNumbers cX5_layNumbers 2 none 0 := ⟨Or.inl (tb_in 851 (by decide +kernel) rfl), tb_in 853 (by decide +kernel) rfl, tb_in 45 (by decide +kernel) rfl, tb_in 63 (by decide +kernel) rfl, tb_in 854 rfl rfl, by decide +kernel, by decide +kernel, by decide +kernel⟩
set_option maxRecDepth 100000 in
theorem l_X5_190 : LkV RX5 190 RX5 yX5_nextRow cX5_nextRow 5 (some .boolean) 0 := ⟨Or.inl (tb_in 855 (by decide +kernel) rfl), tb_in 857 (by decide +kernel) rfl, tb_in 46 (by decide +kernel) rfl, tb_in 63 (by decide +kernel) rfl, tb_in 858 rfl rfl, by decide +kernel, by decide +kernel, by decide +kernel⟩
set_option maxRecDepth 100000 in
theorem l_X5_186 : LkV RX5 186 RX5 yX5_swap cX5_swap 4 none 2 := ⟨Or.inl (tb_in 859 (by decide +kernel) rfl), tb_in 861 (by decide +kernel) rfl, tb_in 47 (by decide +kernel) rfl, tb_in 63 (by decide +kernel) rfl, tb_in 862 rfl rfl, by decide +kernel, by decide +kernel, by decide +kernel⟩
set_option maxRecDepth 100000 in
theorem l_L_61 : LkV RL 61 RX5 yX5_delay cX5_delay 2 (some .int) 1 := ⟨Or.inl (tb_in 863 (by decide +kernel) rfl), tb_in 864 (by decide +kernel) rfl, tb_in 865 (by decide +kernel) rfl, tb_in 63 (by decide +kernel) rfl, tb_in 866 rfl rfl, by decide +kernel, by decide +kernel, by decide +kernel⟩
set_option maxRecDepth 100000 in
theorem l_L_65 : LkV RL 65 RX5 yX5_bribe cX5_bribe 10 (some .int) 5 := ⟨Or.inl (tb_in 867 (by decide +kernel) rfl), tb_in 868 (by decide +kernel) rfl, tb_in 869 (by decide +kernel) rfl, tb_in 63 (by decide +kernel) rfl, tb_in 870 rfl rfl, by decide +kernel, by decide +kernel, by decide +kernel⟩
set_option maxRecDepth 100000 in
theorem l_X5_202 : LkV RX5 202 RX5 yX5_sweets cX5_sweets 3 (some .int) 0 := ⟨Or.inl (tb_in 871 (by decide +kernel) rfl), tb_in 873 (by decide +kernel) rfl, tb_in 48 (by decide +kernel) rfl, tb_in 63 (by decide +kernel) rfl, tb_in 874 rfl rfl, by decide +kernel, by decide +kernel, by decide +kernel⟩
set_option maxRecDepth 100000 in
theorem l_X5_205 : LkS RX5 205 yX5_size cX5_size 3 (some .int) 1 := ⟨Or.inl (tb_in 875 (by decide +kernel) rfl), tb_in 876 (by decide +kernel) rfl, tb_in 63 (by decide +kernel) rfl, tb_in 877 rfl rfl, by decide +kernel, by decide +kernel, by decide +kernel⟩
set_option maxRecDepth 100000 in
theorem l_X5_208 : LkV RX5 208 RX5 yX5_laySweets cX5_laySweets 3 none 1 := ⟨Or.inl (tb_in 878 (by decide +kernel) rfl), tb_in 880 (by decide +kernel) rfl, tb_in 49 (by decide +kernel) rfl, tb_in 63 (by decide +kernel) rfl, tb_in 881 rfl rfl, by decide +kernel, by decide +kernel, by decide +kernel⟩
set_option maxRecDepth 100000 in
theorem l_L_69 : LkV RL 69 RX5 yX5_strikes cX5_strikes 6 (some .int) 1 := ⟨Or.inl (tb_in 882 (by decide +kernel) rfl), tb_in 883 (by decide +kernel) rfl, tb_in 884 (by decide +kernel) rfl, tb_in 63 (by decide +kernel) rfl, tb_in 885 rfl rfl, by decide +kernel, by decide +kernel, by decide +kernel⟩
set_option maxRecDepth 100000 in
theorem l_X5_211 : LkV RX5 211 RX5 yX5_byNumbers cX5_byNumbers 1 (some .int) 0 := ⟨Or.inl (tb_in 886 (by decide +kernel) rfl), tb_in 888 (by decide +kernel) rfl, tb_in 50 (by decide +kernel) rfl, tb_in 63 (by decide +kernel) rfl, tb_in 889 rfl rfl, by decide +kernel, by decide +kernel, by decide +kernel⟩
set_option maxRecDepth 100000 in
theorem l_X5_214 : LkV RX5 214 RX5 yX5_mostByCourt cX5_mostByCourt 4 (some .int) 0 := ⟨Or.inl (tb_in 890 (by decide +kernel) rfl), tb_in 892 (by decide +kernel) rfl, tb_in 51 (by decide +kernel) rfl, tb_in 63 (by decide +kernel) rfl, tb_in 893 rfl rfl, by decide +kernel, by decide +kernel, by decide +kernel⟩
set_option maxRecDepth 100000 in
theorem l_L_73 : LkV RL 73 RX5 yX5_worth cX5_worth 5 (some .int) 1 := ⟨Or.inl (tb_in 894 (by decide +kernel) rfl), tb_in 895 (by decide +kernel) rfl, tb_in 896 (by decide +kernel) rfl, tb_in 63 (by decide +kernel) rfl, tb_in 897 rfl rfl, by decide +kernel, by decide +kernel, by decide +kernel⟩
set_option maxRecDepth 100000 in
theorem l_L_77 : LkV RL 77 RX5 yX5_reading cX5_reading 3 (some .int) 2 := ⟨Or.inl (tb_in 898 (by decide +kernel) rfl), tb_in 899 (by decide +kernel) rfl, tb_in 900 (by decide +kernel) rfl, tb_in 63 (by decide +kernel) rfl, tb_in 901 rfl rfl, by decide +kernel, by decide +kernel, by decide +kernel⟩
set_option maxRecDepth 100000 in
theorem l_L_81 : LkV RL 81 RX5 yX5_back cX5_back 2 (some .int) 1 := ⟨Or.inl (tb_in 902 (by decide +kernel) rfl), tb_in 903 (by decide +kernel) rfl, tb_in 904 (by decide +kernel) rfl, tb_in 63 (by decide +kernel) rfl, tb_in 905 rfl rfl, by decide +kernel, by decide +kernel, by decide +kernel⟩
set_option maxRecDepth 100000 in
theorem l_L_85 : LkV RL 85 RX5 yX5_codes cX5_codes 7 (some .int) 1 := ⟨Or.inl (tb_in 906 (by decide +kernel) rfl), tb_in 907 (by decide +kernel) rfl, tb_in 908 (by decide +kernel) rfl, tb_in 63 (by decide +kernel) rfl, tb_in 909 rfl rfl, by decide +kernel, by decide +kernel, by decide +kernel⟩
set_option maxRecDepth 100000 in
theorem l_X5_217 : LkV RX5 217 RX5 yX5_areSo cX5_areSo 2 (some .boolean) 0 := ⟨Or.inl (tb_in 910 (by decide +kernel) rfl), tb_in 912 (by decide +kernel) rfl, tb_in 52 (by decide +kernel) rfl, tb_in 63 (by decide +kernel) rfl, tb_in 913 rfl rfl, by decide +kernel, by decide +kernel, by decide +kernel⟩
set_option maxRecDepth 100000 in
theorem l_L_89 : LkV RL 89 RX5 yX5_kinds cX5_kinds 5 (some .int) 1 := ⟨Or.inl (tb_in 914 (by decide +kernel) rfl), tb_in 915 (by decide +kernel) rfl, tb_in 916 (by decide +kernel) rfl, tb_in 63 (by decide +kernel) rfl, tb_in 917 rfl rfl, by decide +kernel, by decide +kernel, by decide +kernel⟩
set_option maxRecDepth 100000 in
theorem l_L_94 : LkV RL 94 RX5 yX5_treated cX5_treated 4 (some .int) 0 := ⟨Or.inl (tb_in 918 (by decide +kernel) rfl), tb_in 919 (by decide +kernel) rfl, tb_in 920 (by decide +kernel) rfl, tb_in 63 (by decide +kernel) rfl, tb_in 921 rfl rfl, by decide +kernel, by decide +kernel, by decide +kernel⟩
set_option maxRecDepth 100000 in
theorem l_L_99 : LkV RL 99 RX5 yX5_odds cX5_odds 6 (some .long) 2 := ⟨Or.inl (tb_in 922 (by decide +kernel) rfl), tb_in 923 (by decide +kernel) rfl, tb_in 924 (by decide +kernel) rfl, tb_in 63 (by decide +kernel) rfl, tb_in 925 rfl rfl, by decide +kernel, by decide +kernel, by decide +kernel⟩
set_option maxRecDepth 100000 in
theorem l_X5_220 : LkV RX5 220 RX5 yX5_struck cX5_struck 3 (some .int) 0 := ⟨Or.inl (tb_in 927 (by decide +kernel) rfl), tb_in 929 (by decide +kernel) rfl, tb_in 53 (by decide +kernel) rfl, tb_in 63 (by decide +kernel) rfl, tb_in 930 rfl rfl, by decide +kernel, by decide +kernel, by decide +kernel⟩
set_option maxRecDepth 100000 in
theorem l_X5_223 : LkV RX5 223 RX5 yX5_layStruck cX5_layStruck 3 none 1 := ⟨Or.inl (tb_in 931 (by decide +kernel) rfl), tb_in 933 (by decide +kernel) rfl, tb_in 54 (by decide +kernel) rfl, tb_in 63 (by decide +kernel) rfl, tb_in 934 rfl rfl, by decide +kernel, by decide +kernel, by decide +kernel⟩
set_option maxRecDepth 100000 in
theorem l_X5_226 : LkS RX5 226 yX5_inLeastTerms cX5_inLeastTerms 11 (some .long) 3 := ⟨Or.inl (tb_in 935 (by decide +kernel) rfl), tb_in 936 (by decide +kernel) rfl, tb_in 63 (by decide +kernel) rfl, tb_in 937 rfl rfl, by decide +kernel, by decide +kernel, by decide +kernel⟩
set_option maxRecDepth 100000 in
theorem l_L_104 : LkV RL 104 RX5 yX5_sheet cX5_sheet 5 (some .int) 3 := ⟨Or.inl (tb_in 938 (by decide +kernel) rfl), tb_in 939 (by decide +kernel) rfl, tb_in 940 (by decide +kernel) rfl, tb_in 63 (by decide +kernel) rfl, tb_in 941 rfl rfl, by decide +kernel, by decide +kernel, by decide +kernel⟩
set_option maxRecDepth 100000 in
theorem l_L_108 : LkV RL 108 RX5 yX5_lose cX5_lose 3 (some .int) 1 := ⟨Or.inl (tb_in 942 (by decide +kernel) rfl), tb_in 943 (by decide +kernel) rfl, tb_in 944 (by decide +kernel) rfl, tb_in 63 (by decide +kernel) rfl, tb_in 945 rfl rfl, by decide +kernel, by decide +kernel, by decide +kernel⟩
set_option maxRecDepth 100000 in
theorem l_L_112 : LkV RL 112 RX5 yX5_put cX5_put 4 (some .int) 3 := ⟨Or.inl (tb_in 946 (by decide +kernel) rfl), tb_in 947 (by decide +kernel) rfl, tb_in 948 (by decide +kernel) rfl, tb_in 63 (by decide +kernel) rfl, tb_in 949 rfl rfl, by decide +kernel, by decide +kernel, by decide +kernel⟩
set_option maxRecDepth 100000 in
theorem l_L_117 : LkV RL 117 RX5 yX5_cell cX5_cell 4 (some .long) 3 := ⟨Or.inl (tb_in 950 (by decide +kernel) rfl), tb_in 951 (by decide +kernel) rfl, tb_in 952 (by decide +kernel) rfl, tb_in 63 (by decide +kernel) rfl, tb_in 953 rfl rfl, by decide +kernel, by decide +kernel, by decide +kernel⟩
set_option maxRecDepth 100000 in
theorem l_X5_230 : LkV RX5 230 RX5 yX5_lost cX5_lost 2 (some .long) 1 := ⟨Or.inl (tb_in 954 (by decide +kernel) rfl), tb_in 956 (by decide +kernel) rfl, tb_in 55 (by decide +kernel) rfl, tb_in 63 (by decide +kernel) rfl, tb_in 957 rfl rfl, by decide +kernel, by decide +kernel, by decide +kernel⟩
set_option maxRecDepth 100000 in
theorem l_L_121 : LkV RL 121 RX5 yX5_copy cX5_copy 10 (some .int) 5 := ⟨Or.inl (tb_in 958 (by decide +kernel) rfl), tb_in 959 (by decide +kernel) rfl, tb_in 960 (by decide +kernel) rfl, tb_in 63 (by decide +kernel) rfl, tb_in 961 rfl rfl, by decide +kernel, by decide +kernel, by decide +kernel⟩
set_option maxRecDepth 100000 in
theorem l_L_125 : LkV RL 125 RX5 yX5_tell cX5_tell 3 (some .int) 1 := ⟨Or.inl (tb_in 962 (by decide +kernel) rfl), tb_in 963 (by decide +kernel) rfl, tb_in 964 (by decide +kernel) rfl, tb_in 63 (by decide +kernel) rfl, tb_in 965 rfl rfl, by decide +kernel, by decide +kernel, by decide +kernel⟩
set_option maxRecDepth 100000 in
theorem l_X5_237 : LkV RX5 237 RX5 yX5_begins cX5_begins 2 none 1 := ⟨Or.inl (tb_in 966 (by decide +kernel) rfl), tb_in 968 (by decide +kernel) rfl, tb_in 56 (by decide +kernel) rfl, tb_in 63 (by decide +kernel) rfl, tb_in 969 rfl rfl, by decide +kernel, by decide +kernel, by decide +kernel⟩
set_option maxRecDepth 100000 in
theorem l_L_129 : LkV RL 129 RX5 yX5_hush cX5_hush 2 (some .int) 1 := ⟨Or.inl (tb_in 970 (by decide +kernel) rfl), tb_in 971 (by decide +kernel) rfl, tb_in 972 (by decide +kernel) rfl, tb_in 63 (by decide +kernel) rfl, tb_in 973 rfl rfl, by decide +kernel, by decide +kernel, by decide +kernel⟩
set_option maxRecDepth 100000 in
theorem l_L_133 : LkV RL 133 RX5 yX5_as cX5_as 3 (some .int) 2 := ⟨Or.inl (tb_in 974 (by decide +kernel) rfl), tb_in 975 (by decide +kernel) rfl, tb_in 976 (by decide +kernel) rfl, tb_in 63 (by decide +kernel) rfl, tb_in 977 rfl rfl, by decide +kernel, by decide +kernel, by decide +kernel⟩
set_option maxRecDepth 100000 in
theorem l_L_137 : LkV RL 137 RX5 yX5_trace cX5_trace 1 (some .int) 0 := ⟨Or.inl (tb_in 978 (by decide +kernel) rfl), tb_in 979 (by decide +kernel) rfl, tb_in 980 (by decide +kernel) rfl, tb_in 63 (by decide +kernel) rfl, tb_in 981 rfl rfl, by decide +kernel, by decide +kernel, by decide +kernel⟩
set_option maxRecDepth 100000 in
theorem l_L_141 : LkV RL 141 RX5 yX5_fault cX5_fault 1 (some .int) 0 := ⟨Or.inl (tb_in 982 (by decide +kernel) rfl), tb_in 983 (by decide +kernel) rfl, tb_in 984 (by decide +kernel) rfl, tb_in 63 (by decide +kernel) rfl, tb_in 985 rfl rfl, by decide +kernel, by decide +kernel, by decide +kernel⟩
set_option maxRecDepth 100000 in
theorem l_L_145 : LkV RL 145 RX5 yX5_many cX5_many 2 (some .int) 1 := ⟨Or.inl (tb_in 986 (by decide +kernel) rfl), tb_in 987 (by decide +kernel) rfl, tb_in 988 (by decide +kernel) rfl, tb_in 63 (by decide +kernel) rfl, tb_in 989 rfl rfl, by decide +kernel, by decide +kernel, by decide +kernel⟩
theorem lc_X3_20 : Cond.methodLink RX3 20 arraycopyName ∈ tbl := tb_in 293 (by decide +kernel) rfl
theorem lc_X2_31 : Cond.methodLink RX2 31 arraycopyName ∈ tbl := tb_in 411 (by decide +kernel) rfl
theorem lc_X4_208 : Cond.methodLink RX4 208 arraycopyName ∈ tbl := tb_in 467 (by decide +kernel) rfl
theorem lc_nat : Cond.native arraycopyName ∈ tbl := tb_in 295 (by decide +kernel) rfl
theorem lc_sta : Cond.static arraycopyName ∈ tbl := tb_in 294 (by decide +kernel) rfl
theorem lc_ini : Cond.initialized "java/lang/System" ∈ tbl := tb_in 64 (by decide +kernel) rfl
theorem k_J6_265 : Cond.constant RJ6 265 1431655765 ∈ tbl := tb_in 443 (by decide +kernel) rfl
theorem k_J6_266 : Cond.constant RJ6 266 858993459 ∈ tbl := tb_in 444 (by decide +kernel) rfl
theorem k_J6_267 : Cond.constant RJ6 267 252645135 ∈ tbl := tb_in 445 (by decide +kernel) rfl
theorem k_X4_179 : Cond.constantLong RX4 179 (-9223372036854775808) ∈ tbl := tb_in 539 (by decide +kernel) rfl
theorem k_X5_72 : Cond.constantLong RX5 72 (-9223372036854775808) ∈ tbl := tb_in 926 (by decide +kernel) rfl
set_option maxRecDepth 100000 in
theorem lm_X4_247 : Cond.methodLink RX4 247 yJ9_max_7cf53 ∈ tbl ∧ Cond.static yJ9_max_7cf53 ∈ tbl ∧ Cond.initialized "java/lang/Math" ∈ tbl ∧ Cond.code yJ9_max_7cf53 cJ9_max_7cf53 2 (some .int) ∈ tbl := ⟨tb_in 504 (by decide +kernel) rfl, tb_in 505 (by decide +kernel) rfl, tb_in 67 (by decide +kernel) rfl, tb_in 506 rfl rfl⟩
