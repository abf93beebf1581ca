/-! what the tables say: methods (m.., yo.., yv.., ys..), fields (f..), links (l..), by their places -/
theorem inX2 : ∀ w ∈ u_ws RX2 TX2 3, w ∈ zTs := by decide +kernel
theorem gg2 : zG 0 tyX2 := ⟨RX2, TX2, 3, rfl, tyX2_ok, nmX2⟩
theorem fin2_0 : zFin 0 0 true := by
  intro C T N h
  have h : some (RX2, TX2, 3) = some (C, T, N) := h
  cases h
  rfl
theorem dcl2_0 : zDecl 0 0 RX2 := by
  intro C T N h
  have h : some (RX2, TX2, 3) = some (C, T, N) := h
  cases h
  rfl
theorem fin2_1 : zFin 0 1 false := by
  intro C T N h
  have h : some (RX2, TX2, 3) = some (C, T, N) := h
  cases h
  rfl
theorem fin2_2 : zFin 0 2 false := by
  intro C T N h
  have h : some (RX2, TX2, 3) = some (C, T, N) := h
  cases h
  rfl
theorem inX3 : ∀ w ∈ u_ws RX3 TX3 6, w ∈ zTs := by decide +kernel
theorem gg3 : zG 1 tyX3 := ⟨RX3, TX3, 6, rfl, tyX3_ok, nmX3⟩
theorem fin3_0 : zFin 1 0 true := by
  intro C T N h
  have h : some (RX3, TX3, 6) = some (C, T, N) := h
  cases h
  rfl
theorem dcl3_0 : zDecl 1 0 RX3 := by
  intro C T N h
  have h : some (RX3, TX3, 6) = some (C, T, N) := h
  cases h
  rfl
theorem fin3_1 : zFin 1 1 false := by
  intro C T N h
  have h : some (RX3, TX3, 6) = some (C, T, N) := h
  cases h
  rfl
theorem fin3_2 : zFin 1 2 false := by
  intro C T N h
  have h : some (RX3, TX3, 6) = some (C, T, N) := h
  cases h
  rfl
theorem fin3_3 : zFin 1 3 false := by
  intro C T N h
  have h : some (RX3, TX3, 6) = some (C, T, N) := h
  cases h
  rfl
theorem fin3_4 : zFin 1 4 false := by
  intro C T N h
  have h : some (RX3, TX3, 6) = some (C, T, N) := h
  cases h
  rfl
theorem fin3_5 : zFin 1 5 false := by
  intro C T N h
  have h : some (RX3, TX3, 6) = some (C, T, N) := h
  cases h
  rfl
theorem inX4 : ∀ w ∈ u_ws RX4 TX4 2, w ∈ zTs := by decide +kernel
theorem gg4 : zG 2 tyX4 := ⟨RX4, TX4, 2, rfl, tyX4_ok, nmX4⟩
theorem fin4_0 : zFin 2 0 true := by
  intro C T N h
  have h : some (RX4, TX4, 2) = some (C, T, N) := h
  cases h
  rfl
theorem dcl4_0 : zDecl 2 0 RX4 := by
  intro C T N h
  have h : some (RX4, TX4, 2) = some (C, T, N) := h
  cases h
  rfl
theorem fin4_1 : zFin 2 1 false := by
  intro C T N h
  have h : some (RX4, TX4, 2) = some (C, T, N) := h
  cases h
  rfl
theorem inX5 : ∀ w ∈ u_ws RX5 TX5 12, w ∈ zTs := by decide +kernel
theorem gg5 : zG 3 tyX5 := ⟨RX5, TX5, 12, rfl, tyX5_ok, nmX5⟩
theorem fin5_0 : zFin 3 0 true := by
  intro C T N h
  have h : some (RX5, TX5, 12) = some (C, T, N) := h
  cases h
  rfl
theorem dcl5_0 : zDecl 3 0 RX5 := by
  intro C T N h
  have h : some (RX5, TX5, 12) = some (C, T, N) := h
  cases h
  rfl
theorem fin5_1 : zFin 3 1 true := by
  intro C T N h
  have h : some (RX5, TX5, 12) = some (C, T, N) := h
  cases h
  rfl
theorem dcl5_1 : zDecl 3 1 RX5 := by
  intro C T N h
  have h : some (RX5, TX5, 12) = some (C, T, N) := h
  cases h
  rfl
theorem fin5_2 : zFin 3 2 true := by
  intro C T N h
  have h : some (RX5, TX5, 12) = some (C, T, N) := h
  cases h
  rfl
theorem dcl5_2 : zDecl 3 2 RX5 := by
  intro C T N h
  have h : some (RX5, TX5, 12) = some (C, T, N) := h
  cases h
  rfl
theorem fin5_3 : zFin 3 3 true := by
  intro C T N h
  have h : some (RX5, TX5, 12) = some (C, T, N) := h
  cases h
  rfl
theorem dcl5_3 : zDecl 3 3 RX5 := by
  intro C T N h
  have h : some (RX5, TX5, 12) = some (C, T, N) := h
  cases h
  rfl
theorem fin5_4 : zFin 3 4 true := by
  intro C T N h
  have h : some (RX5, TX5, 12) = some (C, T, N) := h
  cases h
  rfl
theorem dcl5_4 : zDecl 3 4 RX5 := by
  intro C T N h
  have h : some (RX5, TX5, 12) = some (C, T, N) := h
  cases h
  rfl
theorem fin5_5 : zFin 3 5 false := by
  intro C T N h
  have h : some (RX5, TX5, 12) = some (C, T, N) := h
  cases h
  rfl
theorem fin5_6 : zFin 3 6 false := by
  intro C T N h
  have h : some (RX5, TX5, 12) = some (C, T, N) := h
  cases h
  rfl
theorem fin5_7 : zFin 3 7 false := by
  intro C T N h
  have h : some (RX5, TX5, 12) = some (C, T, N) := h
  cases h
  rfl
theorem fin5_8 : zFin 3 8 false := by
  intro C T N h
  have h : some (RX5, TX5, 12) = some (C, T, N) := h
  cases h
  rfl
theorem fin5_9 : zFin 3 9 false := by
  intro C T N h
  have h : some (RX5, TX5, 12) = some (C, T, N) := h
  cases h
  rfl
theorem fin5_10 : zFin 3 10 false := by
  intro C T N h
  have h : some (RX5, TX5, 12) = some (C, T, N) := h
  cases h
  rfl
theorem fin5_11 : zFin 3 11 false := by
  intro C T N h
  have h : some (RX5, TX5, 12) = some (C, T, N) := h
  cases h
  rfl
theorem inX6 : ∀ w ∈ u_ws RX6 TX6 16, w ∈ zTs := by decide +kernel
theorem gg6 : zG 4 tyX6 := ⟨RX6, TX6, 16, rfl, tyX6_ok, nmX6⟩
theorem fin6_0 : zFin 4 0 true := by
  intro C T N h
  have h : some (RX6, TX6, 16) = some (C, T, N) := h
  cases h
  rfl
theorem dcl6_0 : zDecl 4 0 RX6 := by
  intro C T N h
  have h : some (RX6, TX6, 16) = some (C, T, N) := h
  cases h
  rfl
theorem fin6_1 : zFin 4 1 true := by
  intro C T N h
  have h : some (RX6, TX6, 16) = some (C, T, N) := h
  cases h
  rfl
theorem dcl6_1 : zDecl 4 1 RX6 := by
  intro C T N h
  have h : some (RX6, TX6, 16) = some (C, T, N) := h
  cases h
  rfl
theorem fin6_2 : zFin 4 2 true := by
  intro C T N h
  have h : some (RX6, TX6, 16) = some (C, T, N) := h
  cases h
  rfl
theorem dcl6_2 : zDecl 4 2 RX6 := by
  intro C T N h
  have h : some (RX6, TX6, 16) = some (C, T, N) := h
  cases h
  rfl
theorem fin6_3 : zFin 4 3 true := by
  intro C T N h
  have h : some (RX6, TX6, 16) = some (C, T, N) := h
  cases h
  rfl
theorem dcl6_3 : zDecl 4 3 RX6 := by
  intro C T N h
  have h : some (RX6, TX6, 16) = some (C, T, N) := h
  cases h
  rfl
theorem fin6_4 : zFin 4 4 true := by
  intro C T N h
  have h : some (RX6, TX6, 16) = some (C, T, N) := h
  cases h
  rfl
theorem dcl6_4 : zDecl 4 4 RX6 := by
  intro C T N h
  have h : some (RX6, TX6, 16) = some (C, T, N) := h
  cases h
  rfl
theorem fin6_5 : zFin 4 5 false := by
  intro C T N h
  have h : some (RX6, TX6, 16) = some (C, T, N) := h
  cases h
  rfl
theorem fin6_6 : zFin 4 6 false := by
  intro C T N h
  have h : some (RX6, TX6, 16) = some (C, T, N) := h
  cases h
  rfl
theorem fin6_7 : zFin 4 7 false := by
  intro C T N h
  have h : some (RX6, TX6, 16) = some (C, T, N) := h
  cases h
  rfl
theorem fin6_8 : zFin 4 8 false := by
  intro C T N h
  have h : some (RX6, TX6, 16) = some (C, T, N) := h
  cases h
  rfl
theorem fin6_9 : zFin 4 9 false := by
  intro C T N h
  have h : some (RX6, TX6, 16) = some (C, T, N) := h
  cases h
  rfl
theorem fin6_10 : zFin 4 10 false := by
  intro C T N h
  have h : some (RX6, TX6, 16) = some (C, T, N) := h
  cases h
  rfl
theorem fin6_11 : zFin 4 11 false := by
  intro C T N h
  have h : some (RX6, TX6, 16) = some (C, T, N) := h
  cases h
  rfl
theorem fin6_12 : zFin 4 12 false := by
  intro C T N h
  have h : some (RX6, TX6, 16) = some (C, T, N) := h
  cases h
  rfl
theorem fin6_13 : zFin 4 13 false := by
  intro C T N h
  have h : some (RX6, TX6, 16) = some (C, T, N) := h
  cases h
  rfl
theorem fin6_14 : zFin 4 14 false := by
  intro C T N h
  have h : some (RX6, TX6, 16) = some (C, T, N) := h
  cases h
  rfl
theorem fin6_15 : zFin 4 15 false := by
  intro C T N h
  have h : some (RX6, TX6, 16) = some (C, T, N) := h
  cases h
  rfl
theorem inX7 : ∀ w ∈ u_ws RX7 TX7 8, w ∈ zTs := by decide +kernel
theorem gg7 : zG 5 tyX7 := ⟨RX7, TX7, 8, rfl, tyX7_ok, nmX7⟩
theorem fin7_0 : zFin 5 0 true := by
  intro C T N h
  have h : some (RX7, TX7, 8) = some (C, T, N) := h
  cases h
  rfl
theorem dcl7_0 : zDecl 5 0 RX7 := by
  intro C T N h
  have h : some (RX7, TX7, 8) = some (C, T, N) := h
  cases h
  rfl
theorem fin7_1 : zFin 5 1 true := by
  intro C T N h
  have h : some (RX7, TX7, 8) = some (C, T, N) := h
  cases h
  rfl
theorem dcl7_1 : zDecl 5 1 RX7 := by
  intro C T N h
  have h : some (RX7, TX7, 8) = some (C, T, N) := h
  cases h
  rfl
theorem fin7_2 : zFin 5 2 true := by
  intro C T N h
  have h : some (RX7, TX7, 8) = some (C, T, N) := h
  cases h
  rfl
theorem dcl7_2 : zDecl 5 2 RX7 := by
  intro C T N h
  have h : some (RX7, TX7, 8) = some (C, T, N) := h
  cases h
  rfl
theorem fin7_3 : zFin 5 3 true := by
  intro C T N h
  have h : some (RX7, TX7, 8) = some (C, T, N) := h
  cases h
  rfl
theorem dcl7_3 : zDecl 5 3 RX7 := by
  intro C T N h
  have h : some (RX7, TX7, 8) = some (C, T, N) := h
  cases h
  rfl
theorem fin7_4 : zFin 5 4 true := by
  intro C T N h
  have h : some (RX7, TX7, 8) = some (C, T, N) := h
  cases h
  rfl
theorem dcl7_4 : zDecl 5 4 RX7 := by
  intro C T N h
  have h : some (RX7, TX7, 8) = some (C, T, N) := h
  cases h
  rfl
theorem fin7_5 : zFin 5 5 false := by
  intro C T N h
  have h : some (RX7, TX7, 8) = some (C, T, N) := h
  cases h
  rfl
theorem fin7_6 : zFin 5 6 true := by
  intro C T N h
  have h : some (RX7, TX7, 8) = some (C, T, N) := h
  cases h
  rfl
theorem dcl7_6 : zDecl 5 6 RX7 := by
  intro C T N h
  have h : some (RX7, TX7, 8) = some (C, T, N) := h
  cases h
  rfl
theorem fin7_7 : zFin 5 7 true := by
  intro C T N h
  have h : some (RX7, TX7, 8) = some (C, T, N) := h
  cases h
  rfl
theorem dcl7_7 : zDecl 5 7 RX7 := by
  intro C T N h
  have h : some (RX7, TX7, 8) = some (C, T, N) := h
  cases h
  rfl
theorem inX8 : ∀ w ∈ u_ws RX8 TX8 27, w ∈ zTs := by decide +kernel
theorem gg8 : zG 6 tyX8 := ⟨RX8, TX8, 27, rfl, tyX8_ok, nmX8⟩
theorem fin8_0 : zFin 6 0 true := by
  intro C T N h
  have h : some (RX8, TX8, 27) = some (C, T, N) := h
  cases h
  rfl
theorem dcl8_0 : zDecl 6 0 RX8 := by
  intro C T N h
  have h : some (RX8, TX8, 27) = some (C, T, N) := h
  cases h
  rfl
theorem fin8_1 : zFin 6 1 true := by
  intro C T N h
  have h : some (RX8, TX8, 27) = some (C, T, N) := h
  cases h
  rfl
theorem dcl8_1 : zDecl 6 1 RX8 := by
  intro C T N h
  have h : some (RX8, TX8, 27) = some (C, T, N) := h
  cases h
  rfl
theorem fin8_2 : zFin 6 2 true := by
  intro C T N h
  have h : some (RX8, TX8, 27) = some (C, T, N) := h
  cases h
  rfl
theorem dcl8_2 : zDecl 6 2 RX8 := by
  intro C T N h
  have h : some (RX8, TX8, 27) = some (C, T, N) := h
  cases h
  rfl
theorem fin8_3 : zFin 6 3 true := by
  intro C T N h
  have h : some (RX8, TX8, 27) = some (C, T, N) := h
  cases h
  rfl
theorem dcl8_3 : zDecl 6 3 RX8 := by
  intro C T N h
  have h : some (RX8, TX8, 27) = some (C, T, N) := h
  cases h
  rfl
theorem fin8_4 : zFin 6 4 true := by
  intro C T N h
  have h : some (RX8, TX8, 27) = some (C, T, N) := h
  cases h
  rfl
theorem dcl8_4 : zDecl 6 4 RX8 := by
  intro C T N h
  have h : some (RX8, TX8, 27) = some (C, T, N) := h
  cases h
  rfl
theorem fin8_5 : zFin 6 5 true := by
  intro C T N h
  have h : some (RX8, TX8, 27) = some (C, T, N) := h
  cases h
  rfl
theorem dcl8_5 : zDecl 6 5 RX8 := by
  intro C T N h
  have h : some (RX8, TX8, 27) = some (C, T, N) := h
  cases h
  rfl
theorem fin8_6 : zFin 6 6 true := by
  intro C T N h
  have h : some (RX8, TX8, 27) = some (C, T, N) := h
  cases h
  rfl
theorem dcl8_6 : zDecl 6 6 RX8 := by
  intro C T N h
  have h : some (RX8, TX8, 27) = some (C, T, N) := h
  cases h
  rfl
theorem fin8_7 : zFin 6 7 true := by
  intro C T N h
  have h : some (RX8, TX8, 27) = some (C, T, N) := h
  cases h
  rfl
theorem dcl8_7 : zDecl 6 7 RX8 := by
  intro C T N h
  have h : some (RX8, TX8, 27) = some (C, T, N) := h
  cases h
  rfl
theorem fin8_8 : zFin 6 8 true := by
  intro C T N h
  have h : some (RX8, TX8, 27) = some (C, T, N) := h
  cases h
  rfl
theorem dcl8_8 : zDecl 6 8 RX8 := by
  intro C T N h
  have h : some (RX8, TX8, 27) = some (C, T, N) := h
  cases h
  rfl
theorem fin8_9 : zFin 6 9 false := by
  intro C T N h
  have h : some (RX8, TX8, 27) = some (C, T, N) := h
  cases h
  rfl
theorem fin8_10 : zFin 6 10 false := by
  intro C T N h
  have h : some (RX8, TX8, 27) = some (C, T, N) := h
  cases h
  rfl
theorem fin8_11 : zFin 6 11 false := by
  intro C T N h
  have h : some (RX8, TX8, 27) = some (C, T, N) := h
  cases h
  rfl
theorem fin8_12 : zFin 6 12 true := by
  intro C T N h
  have h : some (RX8, TX8, 27) = some (C, T, N) := h
  cases h
  rfl
theorem dcl8_12 : zDecl 6 12 RX8 := by
  intro C T N h
  have h : some (RX8, TX8, 27) = some (C, T, N) := h
  cases h
  rfl
theorem fin8_13 : zFin 6 13 true := by
  intro C T N h
  have h : some (RX8, TX8, 27) = some (C, T, N) := h
  cases h
  rfl
theorem dcl8_13 : zDecl 6 13 RX8 := by
  intro C T N h
  have h : some (RX8, TX8, 27) = some (C, T, N) := h
  cases h
  rfl
theorem fin8_14 : zFin 6 14 false := by
  intro C T N h
  have h : some (RX8, TX8, 27) = some (C, T, N) := h
  cases h
  rfl
theorem fin8_15 : zFin 6 15 false := by
  intro C T N h
  have h : some (RX8, TX8, 27) = some (C, T, N) := h
  cases h
  rfl
theorem fin8_16 : zFin 6 16 false := by
  intro C T N h
  have h : some (RX8, TX8, 27) = some (C, T, N) := h
  cases h
  rfl
theorem fin8_17 : zFin 6 17 false := by
  intro C T N h
  have h : some (RX8, TX8, 27) = some (C, T, N) := h
  cases h
  rfl
theorem fin8_18 : zFin 6 18 true := by
  intro C T N h
  have h : some (RX8, TX8, 27) = some (C, T, N) := h
  cases h
  rfl
theorem dcl8_18 : zDecl 6 18 RX8 := by
  intro C T N h
  have h : some (RX8, TX8, 27) = some (C, T, N) := h
  cases h
  rfl
theorem fin8_19 : zFin 6 19 false := by
  intro C T N h
  have h : some (RX8, TX8, 27) = some (C, T, N) := h
  cases h
  rfl
theorem fin8_20 : zFin 6 20 false := by
  intro C T N h
  have h : some (RX8, TX8, 27) = some (C, T, N) := h
  cases h
  rfl
theorem fin8_21 : zFin 6 21 false := by
  intro C T N h
  have h : some (RX8, TX8, 27) = some (C, T, N) := h
  cases h
  rfl
theorem fin8_22 : zFin 6 22 false := by
  intro C T N h
  have h : some (RX8, TX8, 27) = some (C, T, N) := h
  cases h
  rfl
theorem fin8_23 : zFin 6 23 false := by
  intro C T N h
  have h : some (RX8, TX8, 27) = some (C, T, N) := h
  cases h
  rfl
theorem fin8_24 : zFin 6 24 false := by
  intro C T N h
  have h : some (RX8, TX8, 27) = some (C, T, N) := h
  cases h
  rfl
theorem fin8_25 : zFin 6 25 false := by
  intro C T N h
  have h : some (RX8, TX8, 27) = some (C, T, N) := h
  cases h
  rfl
theorem fin8_26 : zFin 6 26 true := by
  intro C T N h
  have h : some (RX8, TX8, 27) = some (C, T, N) := h
  cases h
  rfl
theorem dcl8_26 : zDecl 6 26 RX8 := by
  intro C T N h
  have h : some (RX8, TX8, 27) = some (C, T, N) := h
  cases h
  rfl
abbrev mX7_init : zM := (yX7_init, cX7_init, 1, none, [])
theorem yoX7_init : zY mX7_init 0 := ⟨by decide +kernel, zIn 124 (by decide +kernel) (by decide +kernel), zIn 96 (by decide +kernel) (by decide +kernel), by decide +kernel⟩
theorem yiX7_init : Cond.instanceMethod yX7_init ∈ zTs := zIn 123 (by decide +kernel) (by decide +kernel)
abbrev mX3_init : zM := (yX3_init, cX3_init, 1, none, [])
theorem yoX3_init : zY mX3_init 0 := ⟨by decide +kernel, zIn 132 (by decide +kernel) (by decide +kernel), zIn 97 (by decide +kernel) (by decide +kernel), by decide +kernel⟩
theorem yiX3_init : Cond.instanceMethod yX3_init ∈ zTs := zIn 131 (by decide +kernel) (by decide +kernel)
abbrev mX5_init : zM := (yX5_init, cX5_init, 2, none, [])
theorem yoX5_init : zY mX5_init 1 := ⟨by decide +kernel, zIn 163 (by decide +kernel) (by decide +kernel), zIn 98 (by decide +kernel) (by decide +kernel), by decide +kernel⟩
theorem yiX5_init : Cond.instanceMethod yX5_init ∈ zTs := zIn 162 (by decide +kernel) (by decide +kernel)
abbrev mX6_init : zM := (yX6_init, cX6_init, 1, none, [])
theorem yoX6_init : zY mX6_init 0 := ⟨by decide +kernel, zIn 169 (by decide +kernel) (by decide +kernel), zIn 99 (by decide +kernel) (by decide +kernel), by decide +kernel⟩
theorem yiX6_init : Cond.instanceMethod yX6_init ∈ zTs := zIn 168 (by decide +kernel) (by decide +kernel)
abbrev mX6_begin : zM := (yX6_begin, cX6_begin, 4, none, [])
theorem yoX6_begin : zY mX6_begin 3 := ⟨by decide +kernel, zIn 174 (by decide +kernel) (by decide +kernel), zIn 99 (by decide +kernel) (by decide +kernel), by decide +kernel⟩
theorem yiX6_begin : Cond.instanceMethod yX6_begin ∈ zTs := zIn 172 (by decide +kernel) (by decide +kernel)
theorem yvX6_begin : zYv mX6_begin := ⟨yiX6_begin, zIn 173 (by decide +kernel) (by decide +kernel)⟩
abbrev mX6_empty : zM := (yX6_empty, cX6_empty, 3, none, [])
theorem yoX6_empty : zY mX6_empty 1 := ⟨by decide +kernel, zIn 178 (by decide +kernel) (by decide +kernel), zIn 99 (by decide +kernel) (by decide +kernel), by decide +kernel⟩
theorem yiX6_empty : Cond.instanceMethod yX6_empty ∈ zTs := zIn 177 (by decide +kernel) (by decide +kernel)
theorem yvX6_empty : zYv mX6_empty := ⟨yiX6_empty, zIn 0 (by decide +kernel) (by decide +kernel)⟩
abbrev mX2_init : zM := (yX2_init, cX2_init, 2, none, [])
theorem yoX2_init : zY mX2_init 0 := ⟨by decide +kernel, zIn 286 (by decide +kernel) (by decide +kernel), zIn 100 (by decide +kernel) (by decide +kernel), by decide +kernel⟩
theorem yiX2_init : Cond.instanceMethod yX2_init ∈ zTs := zIn 285 (by decide +kernel) (by decide +kernel)
abbrev mX4_init : zM := (yX4_init, cX4_init, 1, none, [])
theorem yoX4_init : zY mX4_init 0 := ⟨by decide +kernel, zIn 306 (by decide +kernel) (by decide +kernel), zIn 101 (by decide +kernel) (by decide +kernel), by decide +kernel⟩
theorem yiX4_init : Cond.instanceMethod yX4_init ∈ zTs := zIn 305 (by decide +kernel) (by decide +kernel)
abbrev mX6_insert : zM := (yX6_insert, cX6_insert, 5, some .int, [])
theorem yoX6_insert : zY mX6_insert 2 := ⟨by decide +kernel, zIn 320 (by decide +kernel) (by decide +kernel), zIn 99 (by decide +kernel) (by decide +kernel), by decide +kernel⟩
theorem yiX6_insert : Cond.instanceMethod yX6_insert ∈ zTs := zIn 318 (by decide +kernel) (by decide +kernel)
theorem yvX6_insert : zYv mX6_insert := ⟨yiX6_insert, zIn 319 (by decide +kernel) (by decide +kernel)⟩
abbrev mX6_queueAll : zM := (yX6_queueAll, cX6_queueAll, 2, none, [])
theorem yoX6_queueAll : zY mX6_queueAll 0 := ⟨by decide +kernel, zIn 324 (by decide +kernel) (by decide +kernel), zIn 99 (by decide +kernel) (by decide +kernel), by decide +kernel⟩
theorem yiX6_queueAll : Cond.instanceMethod yX6_queueAll ∈ zTs := zIn 323 (by decide +kernel) (by decide +kernel)
theorem yvX6_queueAll : zYv mX6_queueAll := ⟨yiX6_queueAll, zIn 1 (by decide +kernel) (by decide +kernel)⟩
abbrev mX6_place : zM := (yX6_place, cX6_place, 7, some .int, [])
theorem yoX6_place : zY mX6_place 2 := ⟨by decide +kernel, zIn 328 (by decide +kernel) (by decide +kernel), zIn 99 (by decide +kernel) (by decide +kernel), by decide +kernel⟩
theorem yiX6_place : Cond.instanceMethod yX6_place ∈ zTs := zIn 327 (by decide +kernel) (by decide +kernel)
theorem yvX6_place : zYv mX6_place := ⟨yiX6_place, zIn 2 (by decide +kernel) (by decide +kernel)⟩
abbrev mX6_homeFor : zM := (yX6_homeFor, cX6_homeFor, 2, some .int, [])
theorem yoX6_homeFor : zY mX6_homeFor 1 := ⟨by decide +kernel, zIn 332 (by decide +kernel) (by decide +kernel), zIn 99 (by decide +kernel) (by decide +kernel), by decide +kernel⟩
theorem yiX6_homeFor : Cond.instanceMethod yX6_homeFor ∈ zTs := zIn 330 (by decide +kernel) (by decide +kernel)
theorem yvX6_homeFor : zYv mX6_homeFor := ⟨yiX6_homeFor, zIn 331 (by decide +kernel) (by decide +kernel)⟩
abbrev mX6_stepsToFree : zM := (yX6_stepsToFree, cX6_stepsToFree, 3, some .int, [])
theorem yoX6_stepsToFree : zY mX6_stepsToFree 1 := ⟨by decide +kernel, zIn 336 (by decide +kernel) (by decide +kernel), zIn 99 (by decide +kernel) (by decide +kernel), by decide +kernel⟩
theorem yiX6_stepsToFree : Cond.instanceMethod yX6_stepsToFree ∈ zTs := zIn 334 (by decide +kernel) (by decide +kernel)
theorem yvX6_stepsToFree : zYv mX6_stepsToFree := ⟨yiX6_stepsToFree, zIn 335 (by decide +kernel) (by decide +kernel)⟩
abbrev mX6_keyIn : zM := (yX6_keyIn, cX6_keyIn, 2, some .int, [])
theorem yoX6_keyIn : zY mX6_keyIn 1 := ⟨by decide +kernel, zIn 340 (by decide +kernel) (by decide +kernel), zIn 99 (by decide +kernel) (by decide +kernel), by decide +kernel⟩
theorem yiX6_keyIn : Cond.instanceMethod yX6_keyIn ∈ zTs := zIn 338 (by decide +kernel) (by decide +kernel)
theorem yvX6_keyIn : zYv mX6_keyIn := ⟨yiX6_keyIn, zIn 339 (by decide +kernel) (by decide +kernel)⟩
abbrev mX6_displaceInto : zM := (yX6_displaceInto, cX6_displaceInto, 5, some .int, [])
theorem yoX6_displaceInto : zY mX6_displaceInto 1 := ⟨by decide +kernel, zIn 344 (by decide +kernel) (by decide +kernel), zIn 99 (by decide +kernel) (by decide +kernel), by decide +kernel⟩
theorem yiX6_displaceInto : Cond.instanceMethod yX6_displaceInto ∈ zTs := zIn 343 (by decide +kernel) (by decide +kernel)
theorem yvX6_displaceInto : zYv mX6_displaceInto := ⟨yiX6_displaceInto, zIn 3 (by decide +kernel) (by decide +kernel)⟩
abbrev mX6_hopsIn : zM := (yX6_hopsIn, cX6_hopsIn, 2, some .int, [])
theorem yoX6_hopsIn : zY mX6_hopsIn 1 := ⟨by decide +kernel, zIn 348 (by decide +kernel) (by decide +kernel), zIn 99 (by decide +kernel) (by decide +kernel), by decide +kernel⟩
theorem yiX6_hopsIn : Cond.instanceMethod yX6_hopsIn ∈ zTs := zIn 346 (by decide +kernel) (by decide +kernel)
theorem yvX6_hopsIn : zYv mX6_hopsIn := ⟨yiX6_hopsIn, zIn 347 (by decide +kernel) (by decide +kernel)⟩
abbrev mX6_shift : zM := (yX6_shift, cX6_shift, 6, none, [])
theorem yoX6_shift : zY mX6_shift 3 := ⟨by decide +kernel, zIn 352 (by decide +kernel) (by decide +kernel), zIn 99 (by decide +kernel) (by decide +kernel), by decide +kernel⟩
theorem yiX6_shift : Cond.instanceMethod yX6_shift ∈ zTs := zIn 351 (by decide +kernel) (by decide +kernel)
theorem yvX6_shift : zYv mX6_shift := ⟨yiX6_shift, zIn 4 (by decide +kernel) (by decide +kernel)⟩
abbrev mX6_hasBucket : zM := (yX6_hasBucket, cX6_hasBucket, 2, some .boolean, [])
theorem yoX6_hasBucket : zY mX6_hasBucket 1 := ⟨by decide +kernel, zIn 356 (by decide +kernel) (by decide +kernel), zIn 99 (by decide +kernel) (by decide +kernel), by decide +kernel⟩
theorem yiX6_hasBucket : Cond.instanceMethod yX6_hasBucket ∈ zTs := zIn 354 (by decide +kernel) (by decide +kernel)
theorem yvX6_hasBucket : zYv mX6_hasBucket := ⟨yiX6_hasBucket, zIn 355 (by decide +kernel) (by decide +kernel)⟩
abbrev mX6_build : zM := (yX6_build, cX6_build, 3, some .boolean, [])
theorem yoX6_build : zY mX6_build 1 := ⟨by decide +kernel, zIn 360 (by decide +kernel) (by decide +kernel), zIn 99 (by decide +kernel) (by decide +kernel), by decide +kernel⟩
theorem yiX6_build : Cond.instanceMethod yX6_build ∈ zTs := zIn 359 (by decide +kernel) (by decide +kernel)
theorem yvX6_build : zYv mX6_build := ⟨yiX6_build, zIn 5 (by decide +kernel) (by decide +kernel)⟩
abbrev mX6_take : zM := (yX6_take, cX6_take, 5, some .int, [])
theorem yoX6_take : zY mX6_take 1 := ⟨by decide +kernel, zIn 364 (by decide +kernel) (by decide +kernel), zIn 99 (by decide +kernel) (by decide +kernel), by decide +kernel⟩
theorem yiX6_take : Cond.instanceMethod yX6_take ∈ zTs := zIn 362 (by decide +kernel) (by decide +kernel)
theorem yvX6_take : zYv mX6_take := ⟨yiX6_take, zIn 363 (by decide +kernel) (by decide +kernel)⟩
abbrev mX6_bucketWith : zM := (yX6_bucketWith, cX6_bucketWith, 5, some .int, [])
theorem yoX6_bucketWith : zY mX6_bucketWith 1 := ⟨by decide +kernel, zIn 368 (by decide +kernel) (by decide +kernel), zIn 99 (by decide +kernel) (by decide +kernel), by decide +kernel⟩
theorem yiX6_bucketWith : Cond.instanceMethod yX6_bucketWith ∈ zTs := zIn 366 (by decide +kernel) (by decide +kernel)
theorem yvX6_bucketWith : zYv mX6_bucketWith := ⟨yiX6_bucketWith, zIn 367 (by decide +kernel) (by decide +kernel)⟩
abbrev mX6_stepsFromHome : zM := (yX6_stepsFromHome, cX6_stepsFromHome, 3, some .int, [])
theorem yoX6_stepsFromHome : zY mX6_stepsFromHome 1 := ⟨by decide +kernel, zIn 372 (by decide +kernel) (by decide +kernel), zIn 99 (by decide +kernel) (by decide +kernel), by decide +kernel⟩
theorem yiX6_stepsFromHome : Cond.instanceMethod yX6_stepsFromHome ∈ zTs := zIn 370 (by decide +kernel) (by decide +kernel)
theorem yvX6_stepsFromHome : zYv mX6_stepsFromHome := ⟨yiX6_stepsFromHome, zIn 371 (by decide +kernel) (by decide +kernel)⟩
abbrev mX6_pullFrom : zM := (yX6_pullFrom, cX6_pullFrom, 5, none, [])
theorem yoX6_pullFrom : zY mX6_pullFrom 1 := ⟨by decide +kernel, zIn 376 (by decide +kernel) (by decide +kernel), zIn 99 (by decide +kernel) (by decide +kernel), by decide +kernel⟩
theorem yiX6_pullFrom : Cond.instanceMethod yX6_pullFrom ∈ zTs := zIn 375 (by decide +kernel) (by decide +kernel)
theorem yvX6_pullFrom : zYv mX6_pullFrom := ⟨yiX6_pullFrom, zIn 6 (by decide +kernel) (by decide +kernel)⟩
abbrev mX6_pullInto : zM := (yX6_pullInto, cX6_pullInto, 5, some .int, [])
theorem yoX6_pullInto : zY mX6_pullInto 1 := ⟨by decide +kernel, zIn 380 (by decide +kernel) (by decide +kernel), zIn 99 (by decide +kernel) (by decide +kernel), by decide +kernel⟩
theorem yiX6_pullInto : Cond.instanceMethod yX6_pullInto ∈ zTs := zIn 379 (by decide +kernel) (by decide +kernel)
theorem yvX6_pullInto : zYv mX6_pullInto := ⟨yiX6_pullInto, zIn 7 (by decide +kernel) (by decide +kernel)⟩
abbrev mX7_append : zM := (yX7_append, cX7_append, 6, some .int, [])
theorem yoX7_append : zY mX7_append 5 := ⟨by decide +kernel, zIn 409 (by decide +kernel) (by decide +kernel), zIn 96 (by decide +kernel) (by decide +kernel), by decide +kernel⟩
theorem yiX7_append : Cond.instanceMethod yX7_append ∈ zTs := zIn 407 (by decide +kernel) (by decide +kernel)
theorem yvX7_append : zYv mX7_append := ⟨yiX7_append, zIn 408 (by decide +kernel) (by decide +kernel)⟩
abbrev mX3_addFourBytes : zM := (yX3_addFourBytes, cX3_addFourBytes, 3, none, [])
theorem yoX3_addFourBytes : zY mX3_addFourBytes 1 := ⟨by decide +kernel, zIn 413 (by decide +kernel) (by decide +kernel), zIn 97 (by decide +kernel) (by decide +kernel), by decide +kernel⟩
theorem yiX3_addFourBytes : Cond.instanceMethod yX3_addFourBytes ∈ zTs := zIn 411 (by decide +kernel) (by decide +kernel)
theorem yvX3_addFourBytes : zYv mX3_addFourBytes := ⟨yiX3_addFourBytes, zIn 412 (by decide +kernel) (by decide +kernel)⟩
abbrev mX7_runScript : zM := (yX7_runScript, cX7_runScript, 2, some .int, [])
theorem yoX7_runScript : zY mX7_runScript 0 := ⟨by decide +kernel, zIn 417 (by decide +kernel) (by decide +kernel), zIn 96 (by decide +kernel) (by decide +kernel), by decide +kernel⟩
theorem yiX7_runScript : Cond.instanceMethod yX7_runScript ∈ zTs := zIn 415 (by decide +kernel) (by decide +kernel)
theorem yvX7_runScript : zYv mX7_runScript := ⟨yiX7_runScript, zIn 416 (by decide +kernel) (by decide +kernel)⟩
abbrev mX5_begin : zM := (yX5_begin, cX5_begin, 1, none, [])
theorem yoX5_begin : zY mX5_begin 0 := ⟨by decide +kernel, zIn 421 (by decide +kernel) (by decide +kernel), zIn 98 (by decide +kernel) (by decide +kernel), by decide +kernel⟩
theorem yiX5_begin : Cond.instanceMethod yX5_begin ∈ zTs := zIn 419 (by decide +kernel) (by decide +kernel)
theorem yvX5_begin : zYv mX5_begin := ⟨yiX5_begin, zIn 420 (by decide +kernel) (by decide +kernel)⟩
abbrev mX5_goesOn : zM := (yX5_goesOn, cX5_goesOn, 1, some .boolean, [])
theorem yoX5_goesOn : zY mX5_goesOn 0 := ⟨by decide +kernel, zIn 426 (by decide +kernel) (by decide +kernel), zIn 98 (by decide +kernel) (by decide +kernel), by decide +kernel⟩
theorem yiX5_goesOn : Cond.instanceMethod yX5_goesOn ∈ zTs := zIn 424 (by decide +kernel) (by decide +kernel)
theorem yvX5_goesOn : zYv mX5_goesOn := ⟨yiX5_goesOn, zIn 425 (by decide +kernel) (by decide +kernel)⟩
abbrev mX5_readStatement : zM := (yX5_readStatement, cX5_readStatement, 1, none, [])
theorem yoX5_readStatement : zY mX5_readStatement 0 := ⟨by decide +kernel, zIn 430 (by decide +kernel) (by decide +kernel), zIn 98 (by decide +kernel) (by decide +kernel), by decide +kernel⟩
theorem yiX5_readStatement : Cond.instanceMethod yX5_readStatement ∈ zTs := zIn 428 (by decide +kernel) (by decide +kernel)
theorem yvX5_readStatement : zYv mX5_readStatement := ⟨yiX5_readStatement, zIn 429 (by decide +kernel) (by decide +kernel)⟩
abbrev mX3_nextToken : zM := (yX3_nextToken, cX3_nextToken, 2, none, [])
theorem yoX3_nextToken : zY mX3_nextToken 0 := ⟨by decide +kernel, zIn 434 (by decide +kernel) (by decide +kernel), zIn 97 (by decide +kernel) (by decide +kernel), by decide +kernel⟩
theorem yiX3_nextToken : Cond.instanceMethod yX3_nextToken ∈ zTs := zIn 432 (by decide +kernel) (by decide +kernel)
theorem yvX3_nextToken : zYv mX3_nextToken := ⟨yiX3_nextToken, zIn 433 (by decide +kernel) (by decide +kernel)⟩
abbrev mX3_byteAt : zM := (yX3_byteAt, cX3_byteAt, 2, some .int, [])
theorem yoX3_byteAt : zY mX3_byteAt 1 := ⟨by decide +kernel, zIn 438 (by decide +kernel) (by decide +kernel), zIn 97 (by decide +kernel) (by decide +kernel), by decide +kernel⟩
theorem yiX3_byteAt : Cond.instanceMethod yX3_byteAt ∈ zTs := zIn 437 (by decide +kernel) (by decide +kernel)
theorem yvX3_byteAt : zYv mX3_byteAt := ⟨yiX3_byteAt, zIn 8 (by decide +kernel) (by decide +kernel)⟩
abbrev mX3_isBlank : zM := (yX3_isBlank, cX3_isBlank, 1, some .boolean, [])
theorem yoX3_isBlank : zY mX3_isBlank 1 := ⟨by decide +kernel, zIn 441 (by decide +kernel) (by decide +kernel), zIn 97 (by decide +kernel) (by decide +kernel), by decide +kernel⟩
theorem ysX3_isBlank : Cond.static yX3_isBlank ∈ zTs := zIn 440 (by decide +kernel) (by decide +kernel)
abbrev mX3_isLetter : zM := (yX3_isLetter, cX3_isLetter, 1, some .boolean, [])
theorem yoX3_isLetter : zY mX3_isLetter 1 := ⟨by decide +kernel, zIn 444 (by decide +kernel) (by decide +kernel), zIn 97 (by decide +kernel) (by decide +kernel), by decide +kernel⟩
theorem ysX3_isLetter : Cond.static yX3_isLetter ∈ zTs := zIn 443 (by decide +kernel) (by decide +kernel)
abbrev mX3_passWord : zM := (yX3_passWord, cX3_passWord, 1, none, [])
theorem yoX3_passWord : zY mX3_passWord 0 := ⟨by decide +kernel, zIn 448 (by decide +kernel) (by decide +kernel), zIn 97 (by decide +kernel) (by decide +kernel), by decide +kernel⟩
theorem yiX3_passWord : Cond.instanceMethod yX3_passWord ∈ zTs := zIn 447 (by decide +kernel) (by decide +kernel)
theorem yvX3_passWord : zYv mX3_passWord := ⟨yiX3_passWord, zIn 9 (by decide +kernel) (by decide +kernel)⟩
abbrev mX3_isDigit : zM := (yX3_isDigit, cX3_isDigit, 1, some .boolean, [])
theorem yoX3_isDigit : zY mX3_isDigit 1 := ⟨by decide +kernel, zIn 451 (by decide +kernel) (by decide +kernel), zIn 97 (by decide +kernel) (by decide +kernel), by decide +kernel⟩
theorem ysX3_isDigit : Cond.static yX3_isDigit ∈ zTs := zIn 450 (by decide +kernel) (by decide +kernel)
abbrev mX3_passNumber : zM := (yX3_passNumber, cX3_passNumber, 1, none, [])
theorem yoX3_passNumber : zY mX3_passNumber 0 := ⟨by decide +kernel, zIn 455 (by decide +kernel) (by decide +kernel), zIn 97 (by decide +kernel) (by decide +kernel), by decide +kernel⟩
theorem yiX3_passNumber : Cond.instanceMethod yX3_passNumber ∈ zTs := zIn 454 (by decide +kernel) (by decide +kernel)
theorem yvX3_passNumber : zYv mX3_passNumber := ⟨yiX3_passNumber, zIn 10 (by decide +kernel) (by decide +kernel)⟩
abbrev mX5_readOpening : zM := (yX5_readOpening, cX5_readOpening, 2, none, [])
theorem yoX5_readOpening : zY mX5_readOpening 0 := ⟨by decide +kernel, zIn 459 (by decide +kernel) (by decide +kernel), zIn 98 (by decide +kernel) (by decide +kernel), by decide +kernel⟩
theorem yiX5_readOpening : Cond.instanceMethod yX5_readOpening ∈ zTs := zIn 458 (by decide +kernel) (by decide +kernel)
theorem yvX5_readOpening : zYv mX5_readOpening := ⟨yiX5_readOpening, zIn 11 (by decide +kernel) (by decide +kernel)⟩
abbrev mX3_isWord : zM := (yX3_isWord, cX3_isWord, 3, some .boolean, [])
theorem yoX3_isWord : zY mX3_isWord 1 := ⟨by decide +kernel, zIn 464 (by decide +kernel) (by decide +kernel), zIn 97 (by decide +kernel) (by decide +kernel), by decide +kernel⟩
theorem yiX3_isWord : Cond.instanceMethod yX3_isWord ∈ zTs := zIn 462 (by decide +kernel) (by decide +kernel)
theorem yvX3_isWord : zYv mX3_isWord := ⟨yiX3_isWord, zIn 463 (by decide +kernel) (by decide +kernel)⟩
abbrev mJ0_length_8abf5 : zM := (yJ0_length_8abf5, cJ0_length_8abf5, 1, some .int, [])
theorem yoJ0_length_8abf5 : zY mJ0_length_8abf5 0 := ⟨by decide +kernel, zIn 468 (by decide +kernel) (by decide +kernel), zIn 103 (by decide +kernel) (by decide +kernel), by decide +kernel⟩
theorem yiJ0_length_8abf5 : Cond.instanceMethod yJ0_length_8abf5 ∈ zTs := zIn 466 (by decide +kernel) (by decide +kernel)
theorem yvJ0_length_8abf5 : zYv mJ0_length_8abf5 := ⟨yiJ0_length_8abf5, zIn 467 (by decide +kernel) (by decide +kernel)⟩
abbrev mJ0_coder_7d493 : zM := (yJ0_coder_7d493, cJ0_coder_7d493, 1, some .byte, [])
theorem yoJ0_coder_7d493 : zY mJ0_coder_7d493 0 := ⟨by decide +kernel, zIn 472 (by decide +kernel) (by decide +kernel), zIn 103 (by decide +kernel) (by decide +kernel), by decide +kernel⟩
theorem yiJ0_coder_7d493 : Cond.instanceMethod yJ0_coder_7d493 ∈ zTs := zIn 470 (by decide +kernel) (by decide +kernel)
theorem yvJ0_coder_7d493 : zYv mJ0_coder_7d493 := ⟨yiJ0_coder_7d493, zIn 471 (by decide +kernel) (by decide +kernel)⟩
abbrev mJ0_charAt_5068e : zM := (yJ0_charAt_5068e, cJ0_charAt_5068e, 2, some .char, [])
theorem yoJ0_charAt_5068e : zY mJ0_charAt_5068e 1 := ⟨by decide +kernel, zIn 478 (by decide +kernel) (by decide +kernel), zIn 103 (by decide +kernel) (by decide +kernel), by decide +kernel⟩
theorem yiJ0_charAt_5068e : Cond.instanceMethod yJ0_charAt_5068e ∈ zTs := zIn 476 (by decide +kernel) (by decide +kernel)
theorem yvJ0_charAt_5068e : zYv mJ0_charAt_5068e := ⟨yiJ0_charAt_5068e, zIn 477 (by decide +kernel) (by decide +kernel)⟩
abbrev mJ0_isLatin1_aae02 : zM := (yJ0_isLatin1_aae02, cJ0_isLatin1_aae02, 1, some .boolean, [])
theorem yoJ0_isLatin1_aae02 : zY mJ0_isLatin1_aae02 0 := ⟨by decide +kernel, zIn 482 (by decide +kernel) (by decide +kernel), zIn 103 (by decide +kernel) (by decide +kernel), by decide +kernel⟩
theorem yiJ0_isLatin1_aae02 : Cond.instanceMethod yJ0_isLatin1_aae02 ∈ zTs := zIn 480 (by decide +kernel) (by decide +kernel)
theorem yvJ0_isLatin1_aae02 : zYv mJ0_isLatin1_aae02 := ⟨yiJ0_isLatin1_aae02, zIn 481 (by decide +kernel) (by decide +kernel)⟩
abbrev mJ1_charAt_3b067 : zM := (yJ1_charAt_3b067, cJ1_charAt_3b067, 2, some .char, [])
theorem yoJ1_charAt_3b067 : zY mJ1_charAt_3b067 2 := ⟨by decide +kernel, zIn 485 (by decide +kernel) (by decide +kernel), zIn 104 (by decide +kernel) (by decide +kernel), by decide +kernel⟩
theorem ysJ1_charAt_3b067 : Cond.static yJ1_charAt_3b067 ∈ zTs := zIn 484 (by decide +kernel) (by decide +kernel)
abbrev mJ0_checkIndex_df160 : zM := (yJ0_checkIndex_df160, cJ0_checkIndex_df160, 2, none, [])
theorem yoJ0_checkIndex_df160 : zY mJ0_checkIndex_df160 2 := ⟨by decide +kernel, zIn 488 (by decide +kernel) (by decide +kernel), zIn 103 (by decide +kernel) (by decide +kernel), by decide +kernel⟩
theorem ysJ0_checkIndex_df160 : Cond.static yJ0_checkIndex_df160 ∈ zTs := zIn 487 (by decide +kernel) (by decide +kernel)
abbrev mJ3_checkIndex_8e157 : zM := (yJ3_checkIndex_8e157, cJ3_checkIndex_8e157, 3, some .int, [])
theorem yoJ3_checkIndex_8e157 : zY mJ3_checkIndex_8e157 3 := ⟨by decide +kernel, zIn 493 (by decide +kernel) (by decide +kernel), zIn 105 (by decide +kernel) (by decide +kernel), by decide +kernel⟩
theorem ysJ3_checkIndex_8e157 : Cond.static yJ3_checkIndex_8e157 ∈ zTs := zIn 492 (by decide +kernel) (by decide +kernel)
abbrev mJ2_charAt_3b067 : zM := (yJ2_charAt_3b067, cJ2_charAt_3b067, 2, some .char, [])
theorem yoJ2_charAt_3b067 : zY mJ2_charAt_3b067 2 := ⟨by decide +kernel, zIn 496 (by decide +kernel) (by decide +kernel), zIn 106 (by decide +kernel) (by decide +kernel), by decide +kernel⟩
theorem ysJ2_charAt_3b067 : Cond.static yJ2_charAt_3b067 ∈ zTs := zIn 495 (by decide +kernel) (by decide +kernel)
abbrev mJ2_checkIndex_2214a : zM := (yJ2_checkIndex_2214a, cJ2_checkIndex_2214a, 2, none, [])
theorem yoJ2_checkIndex_2214a : zY mJ2_checkIndex_2214a 2 := ⟨by decide +kernel, zIn 499 (by decide +kernel) (by decide +kernel), zIn 106 (by decide +kernel) (by decide +kernel), by decide +kernel⟩
theorem ysJ2_checkIndex_2214a : Cond.static yJ2_checkIndex_2214a ∈ zTs := zIn 498 (by decide +kernel) (by decide +kernel)
abbrev mJ2_length_9d52b : zM := (yJ2_length_9d52b, cJ2_length_9d52b, 1, some .int, [])
theorem yoJ2_length_9d52b : zY mJ2_length_9d52b 1 := ⟨by decide +kernel, zIn 502 (by decide +kernel) (by decide +kernel), zIn 106 (by decide +kernel) (by decide +kernel), by decide +kernel⟩
theorem ysJ2_length_9d52b : Cond.static yJ2_length_9d52b ∈ zTs := zIn 501 (by decide +kernel) (by decide +kernel)
abbrev mJ2_getChar_3b067 : zM := (yJ2_getChar_3b067, cJ2_getChar_3b067, 2, some .char, [])
theorem yoJ2_getChar_3b067 : zY mJ2_getChar_3b067 2 := ⟨by decide +kernel, zIn 506 (by decide +kernel) (by decide +kernel), zIn 106 (by decide +kernel) (by decide +kernel), by decide +kernel⟩
theorem ysJ2_getChar_3b067 : Cond.static yJ2_getChar_3b067 ∈ zTs := zIn 505 (by decide +kernel) (by decide +kernel)
abbrev mX5_fail : zM := (yX5_fail, cX5_fail, 2, none, [])
theorem yoX5_fail : zY mX5_fail 1 := ⟨by decide +kernel, zIn 516 (by decide +kernel) (by decide +kernel), zIn 98 (by decide +kernel) (by decide +kernel), by decide +kernel⟩
theorem yiX5_fail : Cond.instanceMethod yX5_fail ∈ zTs := zIn 515 (by decide +kernel) (by decide +kernel)
theorem yvX5_fail : zYv mX5_fail := ⟨yiX5_fail, zIn 12 (by decide +kernel) (by decide +kernel)⟩
abbrev mX5_readNumber : zM := (yX5_readNumber, cX5_readNumber, 1, some .int, [])
theorem yoX5_readNumber : zY mX5_readNumber 0 := ⟨by decide +kernel, zIn 520 (by decide +kernel) (by decide +kernel), zIn 98 (by decide +kernel) (by decide +kernel), by decide +kernel⟩
theorem yiX5_readNumber : Cond.instanceMethod yX5_readNumber ∈ zTs := zIn 519 (by decide +kernel) (by decide +kernel)
theorem yvX5_readNumber : zYv mX5_readNumber := ⟨yiX5_readNumber, zIn 13 (by decide +kernel) (by decide +kernel)⟩
abbrev mX5_expect : zM := (yX5_expect, cX5_expect, 2, none, [])
theorem yoX5_expect : zY mX5_expect 1 := ⟨by decide +kernel, zIn 524 (by decide +kernel) (by decide +kernel), zIn 98 (by decide +kernel) (by decide +kernel), by decide +kernel⟩
theorem yiX5_expect : Cond.instanceMethod yX5_expect ∈ zTs := zIn 523 (by decide +kernel) (by decide +kernel)
theorem yvX5_expect : zYv mX5_expect := ⟨yiX5_expect, zIn 14 (by decide +kernel) (by decide +kernel)⟩
abbrev mX5_fitsOpening : zM := (yX5_fitsOpening, cX5_fitsOpening, 2, some .boolean, [])
theorem yoX5_fitsOpening : zY mX5_fitsOpening 2 := ⟨by decide +kernel, zIn 527 (by decide +kernel) (by decide +kernel), zIn 98 (by decide +kernel) (by decide +kernel), by decide +kernel⟩
theorem ysX5_fitsOpening : Cond.static yX5_fitsOpening ∈ zTs := zIn 526 (by decide +kernel) (by decide +kernel)
abbrev mX7_isBucketNumber : zM := (yX7_isBucketNumber, cX7_isBucketNumber, 1, some .boolean, [])
theorem yoX7_isBucketNumber : zY mX7_isBucketNumber 1 := ⟨by decide +kernel, zIn 530 (by decide +kernel) (by decide +kernel), zIn 96 (by decide +kernel) (by decide +kernel), by decide +kernel⟩
theorem ysX7_isBucketNumber : Cond.static yX7_isBucketNumber ∈ zTs := zIn 529 (by decide +kernel) (by decide +kernel)
abbrev mX7_isNear : zM := (yX7_isNear, cX7_isNear, 1, some .boolean, [])
theorem yoX7_isNear : zY mX7_isNear 1 := ⟨by decide +kernel, zIn 533 (by decide +kernel) (by decide +kernel), zIn 96 (by decide +kernel) (by decide +kernel), by decide +kernel⟩
theorem ysX7_isNear : Cond.static yX7_isNear ∈ zTs := zIn 532 (by decide +kernel) (by decide +kernel)
abbrev mX7_isTimes : zM := (yX7_isTimes, cX7_isTimes, 1, some .boolean, [])
theorem yoX7_isTimes : zY mX7_isTimes 1 := ⟨by decide +kernel, zIn 536 (by decide +kernel) (by decide +kernel), zIn 96 (by decide +kernel) (by decide +kernel), by decide +kernel⟩
theorem ysX7_isTimes : Cond.static yX7_isTimes ∈ zTs := zIn 535 (by decide +kernel) (by decide +kernel)
abbrev mX5_endBody : zM := (yX5_endBody, cX5_endBody, 2, none, [])
theorem yoX5_endBody : zY mX5_endBody 0 := ⟨by decide +kernel, zIn 541 (by decide +kernel) (by decide +kernel), zIn 98 (by decide +kernel) (by decide +kernel), by decide +kernel⟩
theorem yiX5_endBody : Cond.instanceMethod yX5_endBody ∈ zTs := zIn 540 (by decide +kernel) (by decide +kernel)
theorem yvX5_endBody : zYv mX5_endBody := ⟨yiX5_endBody, zIn 15 (by decide +kernel) (by decide +kernel)⟩
abbrev mX5_readRepeat : zM := (yX5_readRepeat, cX5_readRepeat, 2, none, [])
theorem yoX5_readRepeat : zY mX5_readRepeat 0 := ⟨by decide +kernel, zIn 546 (by decide +kernel) (by decide +kernel), zIn 98 (by decide +kernel) (by decide +kernel), by decide +kernel⟩
theorem yiX5_readRepeat : Cond.instanceMethod yX5_readRepeat ∈ zTs := zIn 545 (by decide +kernel) (by decide +kernel)
theorem yvX5_readRepeat : zYv mX5_readRepeat := ⟨yiX5_readRepeat, zIn 16 (by decide +kernel) (by decide +kernel)⟩
abbrev mX5_readCommand : zM := (yX5_readCommand, cX5_readCommand, 3, none, [])
theorem yoX5_readCommand : zY mX5_readCommand 0 := ⟨by decide +kernel, zIn 550 (by decide +kernel) (by decide +kernel), zIn 98 (by decide +kernel) (by decide +kernel), by decide +kernel⟩
theorem yiX5_readCommand : Cond.instanceMethod yX5_readCommand ∈ zTs := zIn 549 (by decide +kernel) (by decide +kernel)
theorem yvX5_readCommand : zYv mX5_readCommand := ⟨yiX5_readCommand, zIn 17 (by decide +kernel) (by decide +kernel)⟩
abbrev mX5_fits : zM := (yX5_fits, cX5_fits, 4, some .boolean, [])
theorem yoX5_fits : zY mX5_fits 2 := ⟨by decide +kernel, zIn 556 (by decide +kernel) (by decide +kernel), zIn 98 (by decide +kernel) (by decide +kernel), by decide +kernel⟩
theorem yiX5_fits : Cond.instanceMethod yX5_fits ∈ zTs := zIn 555 (by decide +kernel) (by decide +kernel)
theorem yvX5_fits : zYv mX5_fits := ⟨yiX5_fits, zIn 18 (by decide +kernel) (by decide +kernel)⟩
abbrev mJx29ce0_ordinal_8abf5 : zM := (yJx29ce0_ordinal_8abf5, cJx29ce0_ordinal_8abf5, 1, some .int, [])
theorem yoJx29ce0_ordinal_8abf5 : zY mJx29ce0_ordinal_8abf5 0 := ⟨by decide +kernel, zIn 564 (by decide +kernel) (by decide +kernel), zIn 113 (by decide +kernel) (by decide +kernel), by decide +kernel⟩
theorem yiJx29ce0_ordinal_8abf5 : Cond.instanceMethod yJx29ce0_ordinal_8abf5 ∈ zTs := zIn 563 (by decide +kernel) (by decide +kernel)
abbrev mX7_isKey : zM := (yX7_isKey, cX7_isKey, 1, some .boolean, [])
theorem yoX7_isKey : zY mX7_isKey 1 := ⟨by decide +kernel, zIn 567 (by decide +kernel) (by decide +kernel), zIn 96 (by decide +kernel) (by decide +kernel), by decide +kernel⟩
theorem ysX7_isKey : Cond.static yX7_isKey ∈ zTs := zIn 566 (by decide +kernel) (by decide +kernel)
abbrev mX7_isValue : zM := (yX7_isValue, cX7_isValue, 1, some .boolean, [])
theorem yoX7_isValue : zY mX7_isValue 1 := ⟨by decide +kernel, zIn 570 (by decide +kernel) (by decide +kernel), zIn 96 (by decide +kernel) (by decide +kernel), by decide +kernel⟩
theorem ysX7_isValue : Cond.static yX7_isValue ∈ zTs := zIn 569 (by decide +kernel) (by decide +kernel)
abbrev mX7_isStep : zM := (yX7_isStep, cX7_isStep, 1, some .boolean, [])
theorem yoX7_isStep : zY mX7_isStep 1 := ⟨by decide +kernel, zIn 573 (by decide +kernel) (by decide +kernel), zIn 96 (by decide +kernel) (by decide +kernel), by decide +kernel⟩
theorem ysX7_isStep : Cond.static yX7_isStep ∈ zTs := zIn 572 (by decide +kernel) (by decide +kernel)
abbrev mX7_isRow : zM := (yX7_isRow, cX7_isRow, 3, some .boolean, [])
theorem yoX7_isRow : zY mX7_isRow 3 := ⟨by decide +kernel, zIn 576 (by decide +kernel) (by decide +kernel), zIn 96 (by decide +kernel) (by decide +kernel), by decide +kernel⟩
theorem ysX7_isRow : Cond.static yX7_isRow ∈ zTs := zIn 575 (by decide +kernel) (by decide +kernel)
abbrev mX5_perform : zM := (yX5_perform, cX5_perform, 4, none, [])
theorem yoX5_perform : zY mX5_perform 0 := ⟨by decide +kernel, zIn 582 (by decide +kernel) (by decide +kernel), zIn 98 (by decide +kernel) (by decide +kernel), by decide +kernel⟩
theorem yiX5_perform : Cond.instanceMethod yX5_perform ∈ zTs := zIn 580 (by decide +kernel) (by decide +kernel)
theorem yvX5_perform : zYv mX5_perform := ⟨yiX5_perform, zIn 581 (by decide +kernel) (by decide +kernel)⟩
abbrev mX6_store : zM := (yX6_store, cX6_store, 4, some .boolean, [])
theorem yoX6_store : zY mX6_store 2 := ⟨by decide +kernel, zIn 587 (by decide +kernel) (by decide +kernel), zIn 99 (by decide +kernel) (by decide +kernel), by decide +kernel⟩
theorem yiX6_store : Cond.instanceMethod yX6_store ∈ zTs := zIn 585 (by decide +kernel) (by decide +kernel)
theorem yvX6_store : zYv mX6_store := ⟨yiX6_store, zIn 586 (by decide +kernel) (by decide +kernel)⟩
abbrev mX6_insertRow : zM := (yX6_insertRow, cX6_insertRow, 7, some .int, [])
theorem yoX6_insertRow : zY mX6_insertRow 3 := ⟨by decide +kernel, zIn 592 (by decide +kernel) (by decide +kernel), zIn 99 (by decide +kernel) (by decide +kernel), by decide +kernel⟩
theorem yiX6_insertRow : Cond.instanceMethod yX6_insertRow ∈ zTs := zIn 590 (by decide +kernel) (by decide +kernel)
theorem yvX6_insertRow : zYv mX6_insertRow := ⟨yiX6_insertRow, zIn 591 (by decide +kernel) (by decide +kernel)⟩
abbrev mX6_changeNear : zM := (yX6_changeNear, cX6_changeNear, 2, some .boolean, [])
theorem yoX6_changeNear : zY mX6_changeNear 1 := ⟨by decide +kernel, zIn 597 (by decide +kernel) (by decide +kernel), zIn 99 (by decide +kernel) (by decide +kernel), by decide +kernel⟩
theorem yiX6_changeNear : Cond.instanceMethod yX6_changeNear ∈ zTs := zIn 595 (by decide +kernel) (by decide +kernel)
theorem yvX6_changeNear : zYv mX6_changeNear := ⟨yiX6_changeNear, zIn 596 (by decide +kernel) (by decide +kernel)⟩
abbrev mX6_buildAnew : zM := (yX6_buildAnew, cX6_buildAnew, 3, some .boolean, [])
theorem yoX6_buildAnew : zY mX6_buildAnew 1 := ⟨by decide +kernel, zIn 601 (by decide +kernel) (by decide +kernel), zIn 99 (by decide +kernel) (by decide +kernel), by decide +kernel⟩
theorem yiX6_buildAnew : Cond.instanceMethod yX6_buildAnew ∈ zTs := zIn 599 (by decide +kernel) (by decide +kernel)
theorem yvX6_buildAnew : zYv mX6_buildAnew := ⟨yiX6_buildAnew, zIn 600 (by decide +kernel) (by decide +kernel)⟩
abbrev mX6_changeTimes : zM := (yX6_changeTimes, cX6_changeTimes, 2, some .boolean, [])
theorem yoX6_changeTimes : zY mX6_changeTimes 1 := ⟨by decide +kernel, zIn 605 (by decide +kernel) (by decide +kernel), zIn 99 (by decide +kernel) (by decide +kernel), by decide +kernel⟩
theorem yiX6_changeTimes : Cond.instanceMethod yX6_changeTimes ∈ zTs := zIn 603 (by decide +kernel) (by decide +kernel)
theorem yvX6_changeTimes : zYv mX6_changeTimes := ⟨yiX6_changeTimes, zIn 604 (by decide +kernel) (by decide +kernel)⟩
abbrev mX6_dropAll : zM := (yX6_dropAll, cX6_dropAll, 2, some .int, [])
theorem yoX6_dropAll : zY mX6_dropAll 0 := ⟨by decide +kernel, zIn 610 (by decide +kernel) (by decide +kernel), zIn 99 (by decide +kernel) (by decide +kernel), by decide +kernel⟩
theorem yiX6_dropAll : Cond.instanceMethod yX6_dropAll ∈ zTs := zIn 608 (by decide +kernel) (by decide +kernel)
theorem yvX6_dropAll : zYv mX6_dropAll := ⟨yiX6_dropAll, zIn 609 (by decide +kernel) (by decide +kernel)⟩
abbrev mX2_mark : zM := (yX2_mark, cX2_mark, 3, none, [])
theorem yoX2_mark : zY mX2_mark 1 := ⟨by decide +kernel, zIn 616 (by decide +kernel) (by decide +kernel), zIn 100 (by decide +kernel) (by decide +kernel), by decide +kernel⟩
theorem yiX2_mark : Cond.instanceMethod yX2_mark ∈ zTs := zIn 614 (by decide +kernel) (by decide +kernel)
theorem yvX2_mark : zYv mX2_mark := ⟨yiX2_mark, zIn 615 (by decide +kernel) (by decide +kernel)⟩
abbrev mX2_nextPlace : zM := (yX2_nextPlace, cX2_nextPlace, 1, some (.object "NeighbourHash$Table"), [])
theorem yoX2_nextPlace : zY mX2_nextPlace 0 := ⟨by decide +kernel, zIn 620 (by decide +kernel) (by decide +kernel), zIn 100 (by decide +kernel) (by decide +kernel), by decide +kernel⟩
theorem yiX2_nextPlace : Cond.instanceMethod yX2_nextPlace ∈ zTs := zIn 619 (by decide +kernel) (by decide +kernel)
theorem yvX2_nextPlace : zYv mX2_nextPlace := ⟨yiX2_nextPlace, zIn 19 (by decide +kernel) (by decide +kernel)⟩
abbrev mX6_copyFrom : zM := (yX6_copyFrom, cX6_copyFrom, 2, none, [])
theorem yoX6_copyFrom : zY mX6_copyFrom 1 := ⟨by decide +kernel, zIn 624 (by decide +kernel) (by decide +kernel), zIn 99 (by decide +kernel) (by decide +kernel), by decide +kernel⟩
theorem yiX6_copyFrom : Cond.instanceMethod yX6_copyFrom ∈ zTs := zIn 622 (by decide +kernel) (by decide +kernel)
theorem yvX6_copyFrom : zYv mX6_copyFrom := ⟨yiX6_copyFrom, zIn 623 (by decide +kernel) (by decide +kernel)⟩
abbrev mX2_keep : zM := (yX2_keep, cX2_keep, 1, none, [])
theorem yoX2_keep : zY mX2_keep 0 := ⟨by decide +kernel, zIn 632 (by decide +kernel) (by decide +kernel), zIn 100 (by decide +kernel) (by decide +kernel), by decide +kernel⟩
theorem yiX2_keep : Cond.instanceMethod yX2_keep ∈ zTs := zIn 630 (by decide +kernel) (by decide +kernel)
theorem yvX2_keep : zYv mX2_keep := ⟨yiX2_keep, zIn 631 (by decide +kernel) (by decide +kernel)⟩
abbrev mX7_setPulling : zM := (yX7_setPulling, cX7_setPulling, 3, some .boolean, [])
theorem yoX7_setPulling : zY mX7_setPulling 1 := ⟨by decide +kernel, zIn 640 (by decide +kernel) (by decide +kernel), zIn 96 (by decide +kernel) (by decide +kernel), by decide +kernel⟩
theorem yiX7_setPulling : Cond.instanceMethod yX7_setPulling ∈ zTs := zIn 638 (by decide +kernel) (by decide +kernel)
theorem yvX7_setPulling : zYv mX7_setPulling := ⟨yiX7_setPulling, zIn 639 (by decide +kernel) (by decide +kernel)⟩
abbrev mX7_clear : zM := (yX7_clear, cX7_clear, 2, some .int, [])
theorem yoX7_clear : zY mX7_clear 0 := ⟨by decide +kernel, zIn 644 (by decide +kernel) (by decide +kernel), zIn 96 (by decide +kernel) (by decide +kernel), by decide +kernel⟩
theorem yiX7_clear : Cond.instanceMethod yX7_clear ∈ zTs := zIn 642 (by decide +kernel) (by decide +kernel)
theorem yvX7_clear : zYv mX7_clear := ⟨yiX7_clear, zIn 643 (by decide +kernel) (by decide +kernel)⟩
abbrev mX7_undo : zM := (yX7_undo, cX7_undo, 1, some .int, [])
theorem yoX7_undo : zY mX7_undo 0 := ⟨by decide +kernel, zIn 649 (by decide +kernel) (by decide +kernel), zIn 96 (by decide +kernel) (by decide +kernel), by decide +kernel⟩
theorem yiX7_undo : Cond.instanceMethod yX7_undo ∈ zTs := zIn 647 (by decide +kernel) (by decide +kernel)
theorem yvX7_undo : zYv mX7_undo := ⟨yiX7_undo, zIn 648 (by decide +kernel) (by decide +kernel)⟩
abbrev mX2_goBack : zM := (yX2_goBack, cX2_goBack, 2, none, [])
theorem yoX2_goBack : zY mX2_goBack 1 := ⟨by decide +kernel, zIn 653 (by decide +kernel) (by decide +kernel), zIn 100 (by decide +kernel) (by decide +kernel), by decide +kernel⟩
theorem yiX2_goBack : Cond.instanceMethod yX2_goBack ∈ zTs := zIn 651 (by decide +kernel) (by decide +kernel)
theorem yvX2_goBack : zYv mX2_goBack := ⟨yiX2_goBack, zIn 652 (by decide +kernel) (by decide +kernel)⟩
abbrev mX2_takeBack : zM := (yX2_takeBack, cX2_takeBack, 3, none, [])
theorem yoX2_takeBack : zY mX2_takeBack 1 := ⟨by decide +kernel, zIn 657 (by decide +kernel) (by decide +kernel), zIn 100 (by decide +kernel) (by decide +kernel), by decide +kernel⟩
theorem yiX2_takeBack : Cond.instanceMethod yX2_takeBack ∈ zTs := zIn 655 (by decide +kernel) (by decide +kernel)
theorem yvX2_takeBack : zYv mX2_takeBack := ⟨yiX2_takeBack, zIn 656 (by decide +kernel) (by decide +kernel)⟩
abbrev mX7_undoCount : zM := (yX7_undoCount, cX7_undoCount, 1, some .int, [])
theorem yoX7_undoCount : zY mX7_undoCount 0 := ⟨by decide +kernel, zIn 661 (by decide +kernel) (by decide +kernel), zIn 96 (by decide +kernel) (by decide +kernel), by decide +kernel⟩
theorem yiX7_undoCount : Cond.instanceMethod yX7_undoCount ∈ zTs := zIn 659 (by decide +kernel) (by decide +kernel)
theorem yvX7_undoCount : zYv mX7_undoCount := ⟨yiX7_undoCount, zIn 660 (by decide +kernel) (by decide +kernel)⟩
abbrev mX7_saveSnapshot : zM := (yX7_saveSnapshot, cX7_saveSnapshot, 1, some .int, [])
theorem yoX7_saveSnapshot : zY mX7_saveSnapshot 0 := ⟨by decide +kernel, zIn 665 (by decide +kernel) (by decide +kernel), zIn 96 (by decide +kernel) (by decide +kernel), by decide +kernel⟩
theorem yiX7_saveSnapshot : Cond.instanceMethod yX7_saveSnapshot ∈ zTs := zIn 663 (by decide +kernel) (by decide +kernel)
theorem yvX7_saveSnapshot : zYv mX7_saveSnapshot := ⟨yiX7_saveSnapshot, zIn 664 (by decide +kernel) (by decide +kernel)⟩
abbrev mX7_scriptErrorKind : zM := (yX7_scriptErrorKind, cX7_scriptErrorKind, 1, some .int, [])
theorem yoX7_scriptErrorKind : zY mX7_scriptErrorKind 0 := ⟨by decide +kernel, zIn 669 (by decide +kernel) (by decide +kernel), zIn 96 (by decide +kernel) (by decide +kernel), by decide +kernel⟩
theorem yiX7_scriptErrorKind : Cond.instanceMethod yX7_scriptErrorKind ∈ zTs := zIn 667 (by decide +kernel) (by decide +kernel)
theorem yvX7_scriptErrorKind : zYv mX7_scriptErrorKind := ⟨yiX7_scriptErrorKind, zIn 668 (by decide +kernel) (by decide +kernel)⟩
abbrev mX7_scriptErrorOffset : zM := (yX7_scriptErrorOffset, cX7_scriptErrorOffset, 1, some .int, [])
theorem yoX7_scriptErrorOffset : zY mX7_scriptErrorOffset 0 := ⟨by decide +kernel, zIn 673 (by decide +kernel) (by decide +kernel), zIn 96 (by decide +kernel) (by decide +kernel), by decide +kernel⟩
theorem yiX7_scriptErrorOffset : Cond.instanceMethod yX7_scriptErrorOffset ∈ zTs := zIn 671 (by decide +kernel) (by decide +kernel)
theorem yvX7_scriptErrorOffset : zYv mX7_scriptErrorOffset := ⟨yiX7_scriptErrorOffset, zIn 672 (by decide +kernel) (by decide +kernel)⟩
abbrev mX7_bucketCount : zM := (yX7_bucketCount, cX7_bucketCount, 1, some .int, [])
theorem yoX7_bucketCount : zY mX7_bucketCount 0 := ⟨by decide +kernel, zIn 677 (by decide +kernel) (by decide +kernel), zIn 96 (by decide +kernel) (by decide +kernel), by decide +kernel⟩
theorem yiX7_bucketCount : Cond.instanceMethod yX7_bucketCount ∈ zTs := zIn 675 (by decide +kernel) (by decide +kernel)
theorem yvX7_bucketCount : zYv mX7_bucketCount := ⟨yiX7_bucketCount, zIn 676 (by decide +kernel) (by decide +kernel)⟩
abbrev mX7_entryCount : zM := (yX7_entryCount, cX7_entryCount, 1, some .int, [])
theorem yoX7_entryCount : zY mX7_entryCount 0 := ⟨by decide +kernel, zIn 681 (by decide +kernel) (by decide +kernel), zIn 96 (by decide +kernel) (by decide +kernel), by decide +kernel⟩
theorem yiX7_entryCount : Cond.instanceMethod yX7_entryCount ∈ zTs := zIn 679 (by decide +kernel) (by decide +kernel)
theorem yvX7_entryCount : zYv mX7_entryCount := ⟨yiX7_entryCount, zIn 680 (by decide +kernel) (by decide +kernel)⟩
abbrev mX7_neighbourhood : zM := (yX7_neighbourhood, cX7_neighbourhood, 1, some .int, [])
theorem yoX7_neighbourhood : zY mX7_neighbourhood 0 := ⟨by decide +kernel, zIn 685 (by decide +kernel) (by decide +kernel), zIn 96 (by decide +kernel) (by decide +kernel), by decide +kernel⟩
theorem yiX7_neighbourhood : Cond.instanceMethod yX7_neighbourhood ∈ zTs := zIn 683 (by decide +kernel) (by decide +kernel)
theorem yvX7_neighbourhood : zYv mX7_neighbourhood := ⟨yiX7_neighbourhood, zIn 684 (by decide +kernel) (by decide +kernel)⟩
abbrev mX7_multiplier : zM := (yX7_multiplier, cX7_multiplier, 1, some .int, [])
theorem yoX7_multiplier : zY mX7_multiplier 0 := ⟨by decide +kernel, zIn 689 (by decide +kernel) (by decide +kernel), zIn 96 (by decide +kernel) (by decide +kernel), by decide +kernel⟩
theorem yiX7_multiplier : Cond.instanceMethod yX7_multiplier ∈ zTs := zIn 687 (by decide +kernel) (by decide +kernel)
theorem yvX7_multiplier : zYv mX7_multiplier := ⟨yiX7_multiplier, zIn 688 (by decide +kernel) (by decide +kernel)⟩
abbrev mX7_isPulling : zM := (yX7_isPulling, cX7_isPulling, 1, some .boolean, [])
theorem yoX7_isPulling : zY mX7_isPulling 0 := ⟨by decide +kernel, zIn 693 (by decide +kernel) (by decide +kernel), zIn 96 (by decide +kernel) (by decide +kernel), by decide +kernel⟩
theorem yiX7_isPulling : Cond.instanceMethod yX7_isPulling ∈ zTs := zIn 691 (by decide +kernel) (by decide +kernel)
theorem yvX7_isPulling : zYv mX7_isPulling := ⟨yiX7_isPulling, zIn 692 (by decide +kernel) (by decide +kernel)⟩
abbrev mX7_longestRun : zM := (yX7_longestRun, cX7_longestRun, 1, some .int, [])
theorem yoX7_longestRun : zY mX7_longestRun 0 := ⟨by decide +kernel, zIn 697 (by decide +kernel) (by decide +kernel), zIn 96 (by decide +kernel) (by decide +kernel), by decide +kernel⟩
theorem yiX7_longestRun : Cond.instanceMethod yX7_longestRun ∈ zTs := zIn 695 (by decide +kernel) (by decide +kernel)
theorem yvX7_longestRun : zYv mX7_longestRun := ⟨yiX7_longestRun, zIn 696 (by decide +kernel) (by decide +kernel)⟩
abbrev mX6_longestFull : zM := (yX6_longestFull, cX6_longestFull, 4, some .int, [])
theorem yoX6_longestFull : zY mX6_longestFull 0 := ⟨by decide +kernel, zIn 701 (by decide +kernel) (by decide +kernel), zIn 99 (by decide +kernel) (by decide +kernel), by decide +kernel⟩
theorem yiX6_longestFull : Cond.instanceMethod yX6_longestFull ∈ zTs := zIn 699 (by decide +kernel) (by decide +kernel)
theorem yvX6_longestFull : zYv mX6_longestFull := ⟨yiX6_longestFull, zIn 700 (by decide +kernel) (by decide +kernel)⟩
abbrev mX7_fullestHome : zM := (yX7_fullestHome, cX7_fullestHome, 1, some .int, [])
theorem yoX7_fullestHome : zY mX7_fullestHome 0 := ⟨by decide +kernel, zIn 709 (by decide +kernel) (by decide +kernel), zIn 96 (by decide +kernel) (by decide +kernel), by decide +kernel⟩
theorem yiX7_fullestHome : Cond.instanceMethod yX7_fullestHome ∈ zTs := zIn 707 (by decide +kernel) (by decide +kernel)
theorem yvX7_fullestHome : zYv mX7_fullestHome := ⟨yiX7_fullestHome, zIn 708 (by decide +kernel) (by decide +kernel)⟩
abbrev mX6_fullest : zM := (yX6_fullest, cX6_fullest, 5, some .int, [])
theorem yoX6_fullest : zY mX6_fullest 0 := ⟨by decide +kernel, zIn 713 (by decide +kernel) (by decide +kernel), zIn 99 (by decide +kernel) (by decide +kernel), by decide +kernel⟩
theorem yiX6_fullest : Cond.instanceMethod yX6_fullest ∈ zTs := zIn 711 (by decide +kernel) (by decide +kernel)
theorem yvX6_fullest : zYv mX6_fullest := ⟨yiX6_fullest, zIn 712 (by decide +kernel) (by decide +kernel)⟩
abbrev mJ6_bitCount_0f7a4 : zM := (yJ6_bitCount_0f7a4, cJ6_bitCount_0f7a4, 1, some .int, [])
theorem yoJ6_bitCount_0f7a4 : zY mJ6_bitCount_0f7a4 1 := ⟨by decide +kernel, zIn 716 (by decide +kernel) (by decide +kernel), zIn 119 (by decide +kernel) (by decide +kernel), by decide +kernel⟩
theorem ysJ6_bitCount_0f7a4 : Cond.static yJ6_bitCount_0f7a4 ∈ zTs := zIn 715 (by decide +kernel) (by decide +kernel)
abbrev mX7_longestDistance : zM := (yX7_longestDistance, cX7_longestDistance, 1, some .int, [])
theorem yoX7_longestDistance : zY mX7_longestDistance 0 := ⟨by decide +kernel, zIn 723 (by decide +kernel) (by decide +kernel), zIn 96 (by decide +kernel) (by decide +kernel), by decide +kernel⟩
theorem yiX7_longestDistance : Cond.instanceMethod yX7_longestDistance ∈ zTs := zIn 721 (by decide +kernel) (by decide +kernel)
theorem yvX7_longestDistance : zYv mX7_longestDistance := ⟨yiX7_longestDistance, zIn 722 (by decide +kernel) (by decide +kernel)⟩
abbrev mX6_mostSteps : zM := (yX6_mostSteps, cX6_mostSteps, 3, some .int, [])
theorem yoX6_mostSteps : zY mX6_mostSteps 0 := ⟨by decide +kernel, zIn 727 (by decide +kernel) (by decide +kernel), zIn 99 (by decide +kernel) (by decide +kernel), by decide +kernel⟩
theorem yiX6_mostSteps : Cond.instanceMethod yX6_mostSteps ∈ zTs := zIn 725 (by decide +kernel) (by decide +kernel)
theorem yvX6_mostSteps : zYv mX6_mostSteps := ⟨yiX6_mostSteps, zIn 726 (by decide +kernel) (by decide +kernel)⟩
abbrev mX7_sumOfDistances : zM := (yX7_sumOfDistances, cX7_sumOfDistances, 1, some .int, [])
theorem yoX7_sumOfDistances : zY mX7_sumOfDistances 0 := ⟨by decide +kernel, zIn 731 (by decide +kernel) (by decide +kernel), zIn 96 (by decide +kernel) (by decide +kernel), by decide +kernel⟩
theorem yiX7_sumOfDistances : Cond.instanceMethod yX7_sumOfDistances ∈ zTs := zIn 729 (by decide +kernel) (by decide +kernel)
theorem yvX7_sumOfDistances : zYv mX7_sumOfDistances := ⟨yiX7_sumOfDistances, zIn 730 (by decide +kernel) (by decide +kernel)⟩
abbrev mX6_sumOfSteps : zM := (yX6_sumOfSteps, cX6_sumOfSteps, 3, some .int, [])
theorem yoX6_sumOfSteps : zY mX6_sumOfSteps 0 := ⟨by decide +kernel, zIn 735 (by decide +kernel) (by decide +kernel), zIn 99 (by decide +kernel) (by decide +kernel), by decide +kernel⟩
theorem yiX6_sumOfSteps : Cond.instanceMethod yX6_sumOfSteps ∈ zTs := zIn 733 (by decide +kernel) (by decide +kernel)
theorem yvX6_sumOfSteps : zYv mX6_sumOfSteps := ⟨yiX6_sumOfSteps, zIn 734 (by decide +kernel) (by decide +kernel)⟩
abbrev mX7_moves : zM := (yX7_moves, cX7_moves, 1, some .int, [])
theorem yoX7_moves : zY mX7_moves 0 := ⟨by decide +kernel, zIn 739 (by decide +kernel) (by decide +kernel), zIn 96 (by decide +kernel) (by decide +kernel), by decide +kernel⟩
theorem yiX7_moves : Cond.instanceMethod yX7_moves ∈ zTs := zIn 737 (by decide +kernel) (by decide +kernel)
theorem yvX7_moves : zYv mX7_moves := ⟨yiX7_moves, zIn 738 (by decide +kernel) (by decide +kernel)⟩
abbrev mX7_pulls : zM := (yX7_pulls, cX7_pulls, 1, some .int, [])
theorem yoX7_pulls : zY mX7_pulls 0 := ⟨by decide +kernel, zIn 743 (by decide +kernel) (by decide +kernel), zIn 96 (by decide +kernel) (by decide +kernel), by decide +kernel⟩
theorem yiX7_pulls : Cond.instanceMethod yX7_pulls ∈ zTs := zIn 741 (by decide +kernel) (by decide +kernel)
theorem yvX7_pulls : zYv mX7_pulls := ⟨yiX7_pulls, zIn 742 (by decide +kernel) (by decide +kernel)⟩
abbrev mX7_growths : zM := (yX7_growths, cX7_growths, 1, some .int, [])
theorem yoX7_growths : zY mX7_growths 0 := ⟨by decide +kernel, zIn 747 (by decide +kernel) (by decide +kernel), zIn 96 (by decide +kernel) (by decide +kernel), by decide +kernel⟩
theorem yiX7_growths : Cond.instanceMethod yX7_growths ∈ zTs := zIn 745 (by decide +kernel) (by decide +kernel)
theorem yvX7_growths : zYv mX7_growths := ⟨yiX7_growths, zIn 746 (by decide +kernel) (by decide +kernel)⟩
abbrev mX7_addedCount : zM := (yX7_addedCount, cX7_addedCount, 1, some .int, [])
theorem yoX7_addedCount : zY mX7_addedCount 0 := ⟨by decide +kernel, zIn 751 (by decide +kernel) (by decide +kernel), zIn 96 (by decide +kernel) (by decide +kernel), by decide +kernel⟩
theorem yiX7_addedCount : Cond.instanceMethod yX7_addedCount ∈ zTs := zIn 749 (by decide +kernel) (by decide +kernel)
theorem yvX7_addedCount : zYv mX7_addedCount := ⟨yiX7_addedCount, zIn 750 (by decide +kernel) (by decide +kernel)⟩
abbrev mX7_removedCount : zM := (yX7_removedCount, cX7_removedCount, 1, some .int, [])
theorem yoX7_removedCount : zY mX7_removedCount 0 := ⟨by decide +kernel, zIn 755 (by decide +kernel) (by decide +kernel), zIn 96 (by decide +kernel) (by decide +kernel), by decide +kernel⟩
theorem yiX7_removedCount : Cond.instanceMethod yX7_removedCount ∈ zTs := zIn 753 (by decide +kernel) (by decide +kernel)
theorem yvX7_removedCount : zYv mX7_removedCount := ⟨yiX7_removedCount, zIn 754 (by decide +kernel) (by decide +kernel)⟩
abbrev mX7_meanDistance : zM := (yX7_meanDistance, cX7_meanDistance, 1, some .double, [])
theorem yoX7_meanDistance : zY mX7_meanDistance 0 := ⟨by decide +kernel, zIn 759 (by decide +kernel) (by decide +kernel), zIn 96 (by decide +kernel) (by decide +kernel), by decide +kernel⟩
theorem yiX7_meanDistance : Cond.instanceMethod yX7_meanDistance ∈ zTs := zIn 757 (by decide +kernel) (by decide +kernel)
theorem yvX7_meanDistance : zYv mX7_meanDistance := ⟨yiX7_meanDistance, zIn 758 (by decide +kernel) (by decide +kernel)⟩
abbrev mX7_load : zM := (yX7_load, cX7_load, 1, some .float, [])
theorem yoX7_load : zY mX7_load 0 := ⟨by decide +kernel, zIn 763 (by decide +kernel) (by decide +kernel), zIn 96 (by decide +kernel) (by decide +kernel), by decide +kernel⟩
theorem yiX7_load : Cond.instanceMethod yX7_load ∈ zTs := zIn 761 (by decide +kernel) (by decide +kernel)
theorem yvX7_load : zYv mX7_load := ⟨yiX7_load, zIn 762 (by decide +kernel) (by decide +kernel)⟩
abbrev mX7_violations : zM := (yX7_violations, cX7_violations, 2, some .int, [])
theorem yoX7_violations : zY mX7_violations 0 := ⟨by decide +kernel, zIn 767 (by decide +kernel) (by decide +kernel), zIn 96 (by decide +kernel) (by decide +kernel), by decide +kernel⟩
theorem yiX7_violations : Cond.instanceMethod yX7_violations ∈ zTs := zIn 765 (by decide +kernel) (by decide +kernel)
theorem yvX7_violations : zYv mX7_violations := ⟨yiX7_violations, zIn 766 (by decide +kernel) (by decide +kernel)⟩
abbrev mX6_strayEntries : zM := (yX6_strayEntries, cX6_strayEntries, 3, some .int, [])
theorem yoX6_strayEntries : zY mX6_strayEntries 0 := ⟨by decide +kernel, zIn 774 (by decide +kernel) (by decide +kernel), zIn 99 (by decide +kernel) (by decide +kernel), by decide +kernel⟩
theorem yiX6_strayEntries : Cond.instanceMethod yX6_strayEntries ∈ zTs := zIn 772 (by decide +kernel) (by decide +kernel)
theorem yvX6_strayEntries : zYv mX6_strayEntries := ⟨yiX6_strayEntries, zIn 773 (by decide +kernel) (by decide +kernel)⟩
abbrev mX6_wrongHops : zM := (yX6_wrongHops, cX6_wrongHops, 7, some .int, [])
theorem yoX6_wrongHops : zY mX6_wrongHops 0 := ⟨by decide +kernel, zIn 778 (by decide +kernel) (by decide +kernel), zIn 99 (by decide +kernel) (by decide +kernel), by decide +kernel⟩
theorem yiX6_wrongHops : Cond.instanceMethod yX6_wrongHops ∈ zTs := zIn 776 (by decide +kernel) (by decide +kernel)
theorem yvX6_wrongHops : zYv mX6_wrongHops := ⟨yiX6_wrongHops, zIn 777 (by decide +kernel) (by decide +kernel)⟩
abbrev mX6_twins : zM := (yX6_twins, cX6_twins, 4, some .int, [])
theorem yoX6_twins : zY mX6_twins 0 := ⟨by decide +kernel, zIn 782 (by decide +kernel) (by decide +kernel), zIn 99 (by decide +kernel) (by decide +kernel), by decide +kernel⟩
theorem yiX6_twins : Cond.instanceMethod yX6_twins ∈ zTs := zIn 780 (by decide +kernel) (by decide +kernel)
theorem yvX6_twins : zYv mX6_twins := ⟨yiX6_twins, zIn 781 (by decide +kernel) (by decide +kernel)⟩
abbrev mX7_writeTable : zM := (yX7_writeTable, cX7_writeTable, 3, some .int, [])
theorem yoX7_writeTable : zY mX7_writeTable 0 := ⟨by decide +kernel, zIn 786 (by decide +kernel) (by decide +kernel), zIn 96 (by decide +kernel) (by decide +kernel), by decide +kernel⟩
theorem yiX7_writeTable : Cond.instanceMethod yX7_writeTable ∈ zTs := zIn 784 (by decide +kernel) (by decide +kernel)
theorem yvX7_writeTable : zYv mX7_writeTable := ⟨yiX7_writeTable, zIn 785 (by decide +kernel) (by decide +kernel)⟩
abbrev mX4_begin : zM := (yX4_begin, cX4_begin, 1, none, [])
theorem yoX4_begin : zY mX4_begin 0 := ⟨by decide +kernel, zIn 790 (by decide +kernel) (by decide +kernel), zIn 101 (by decide +kernel) (by decide +kernel), by decide +kernel⟩
theorem yiX4_begin : Cond.instanceMethod yX4_begin ∈ zTs := zIn 788 (by decide +kernel) (by decide +kernel)
theorem yvX4_begin : zYv mX4_begin := ⟨yiX4_begin, zIn 789 (by decide +kernel) (by decide +kernel)⟩
abbrev mX4_addSign : zM := (yX4_addSign, cX4_addSign, 2, none, [])
theorem yoX4_addSign : zY mX4_addSign 1 := ⟨by decide +kernel, zIn 794 (by decide +kernel) (by decide +kernel), zIn 101 (by decide +kernel) (by decide +kernel), by decide +kernel⟩
theorem yiX4_addSign : Cond.instanceMethod yX4_addSign ∈ zTs := zIn 792 (by decide +kernel) (by decide +kernel)
theorem yvX4_addSign : zYv mX4_addSign := ⟨yiX4_addSign, zIn 793 (by decide +kernel) (by decide +kernel)⟩
abbrev mX4_addNumber : zM := (yX4_addNumber, cX4_addNumber, 3, none, [])
theorem yoX4_addNumber : zY mX4_addNumber 1 := ⟨by decide +kernel, zIn 799 (by decide +kernel) (by decide +kernel), zIn 101 (by decide +kernel) (by decide +kernel), by decide +kernel⟩
theorem yiX4_addNumber : Cond.instanceMethod yX4_addNumber ∈ zTs := zIn 797 (by decide +kernel) (by decide +kernel)
theorem yvX4_addNumber : zYv mX4_addNumber := ⟨yiX4_addNumber, zIn 798 (by decide +kernel) (by decide +kernel)⟩
abbrev mX7_reportByte : zM := (yX7_reportByte, cX7_reportByte, 2, some .int, [])
theorem yoX7_reportByte : zY mX7_reportByte 1 := ⟨by decide +kernel, zIn 805 (by decide +kernel) (by decide +kernel), zIn 96 (by decide +kernel) (by decide +kernel), by decide +kernel⟩
theorem yiX7_reportByte : Cond.instanceMethod yX7_reportByte ∈ zTs := zIn 803 (by decide +kernel) (by decide +kernel)
theorem yvX7_reportByte : zYv mX7_reportByte := ⟨yiX7_reportByte, zIn 804 (by decide +kernel) (by decide +kernel)⟩
abbrev mX4_signAt : zM := (yX4_signAt, cX4_signAt, 2, some .int, [])
theorem yoX4_signAt : zY mX4_signAt 1 := ⟨by decide +kernel, zIn 809 (by decide +kernel) (by decide +kernel), zIn 101 (by decide +kernel) (by decide +kernel), by decide +kernel⟩
theorem yiX4_signAt : Cond.instanceMethod yX4_signAt ∈ zTs := zIn 807 (by decide +kernel) (by decide +kernel)
theorem yvX4_signAt : zYv mX4_signAt := ⟨yiX4_signAt, zIn 808 (by decide +kernel) (by decide +kernel)⟩
abbrev mL_truncateInput : zM := (yL_truncateInput, cL_truncateInput, 4, some .int, [(0, 9, 12, 13)])
theorem yoL_truncateInput : zY mL_truncateInput 3 := ⟨by decide +kernel, zIn 812 (by decide +kernel) (by decide +kernel), zIn 95 (by decide +kernel) (by decide +kernel), by decide +kernel⟩
theorem ysL_truncateInput : Cond.static yL_truncateInput ∈ zTs := zIn 811 (by decide +kernel) (by decide +kernel)
abbrev mX7_truncateInput : zM := (yX7_truncateInput, cX7_truncateInput, 2, some .int, [])
theorem yoX7_truncateInput : zY mX7_truncateInput 1 := ⟨by decide +kernel, zIn 817 (by decide +kernel) (by decide +kernel), zIn 96 (by decide +kernel) (by decide +kernel), by decide +kernel⟩
theorem yiX7_truncateInput : Cond.instanceMethod yX7_truncateInput ∈ zTs := zIn 815 (by decide +kernel) (by decide +kernel)
theorem yvX7_truncateInput : zYv mX7_truncateInput := ⟨yiX7_truncateInput, zIn 816 (by decide +kernel) (by decide +kernel)⟩
abbrev mL_add : zM := (yL_add, cL_add, 5, some .int, [(0, 10, 13, 13), (0, 10, 17, 19)])
theorem yoL_add : zY mL_add 4 := ⟨by decide +kernel, zIn 888 (by decide +kernel) (by decide +kernel), zIn 95 (by decide +kernel) (by decide +kernel), by decide +kernel⟩
theorem ysL_add : Cond.static yL_add ∈ zTs := zIn 887 (by decide +kernel) (by decide +kernel)
abbrev mX7_add : zM := (yX7_add, cX7_add, 4, some .int, [])
theorem yoX7_add : zY mX7_add 2 := ⟨by decide +kernel, zIn 893 (by decide +kernel) (by decide +kernel), zIn 96 (by decide +kernel) (by decide +kernel), by decide +kernel⟩
theorem yiX7_add : Cond.instanceMethod yX7_add ∈ zTs := zIn 891 (by decide +kernel) (by decide +kernel)
theorem yvX7_add : zYv mX7_add := ⟨yiX7_add, zIn 892 (by decide +kernel) (by decide +kernel)⟩
abbrev mX7_needKey : zM := (yX7_needKey, cX7_needKey, 1, none, [])
theorem yoX7_needKey : zY mX7_needKey 1 := ⟨by decide +kernel, zIn 896 (by decide +kernel) (by decide +kernel), zIn 96 (by decide +kernel) (by decide +kernel), by decide +kernel⟩
theorem ysX7_needKey : Cond.static yX7_needKey ∈ zTs := zIn 895 (by decide +kernel) (by decide +kernel)
abbrev mX7_needValue : zM := (yX7_needValue, cX7_needValue, 1, none, [])
theorem yoX7_needValue : zY mX7_needValue 1 := ⟨by decide +kernel, zIn 900 (by decide +kernel) (by decide +kernel), zIn 96 (by decide +kernel) (by decide +kernel), by decide +kernel⟩
theorem ysX7_needValue : Cond.static yX7_needValue ∈ zTs := zIn 899 (by decide +kernel) (by decide +kernel)
abbrev mL_put : zM := (yL_put, cL_put, 5, some .int, [(0, 10, 13, 13), (0, 10, 17, 19)])
theorem yoL_put : zY mL_put 4 := ⟨by decide +kernel, zIn 924 (by decide +kernel) (by decide +kernel), zIn 95 (by decide +kernel) (by decide +kernel), by decide +kernel⟩
theorem ysL_put : Cond.static yL_put ∈ zTs := zIn 923 (by decide +kernel) (by decide +kernel)
abbrev mX7_put : zM := (yX7_put, cX7_put, 4, some .int, [])
theorem yoX7_put : zY mX7_put 2 := ⟨by decide +kernel, zIn 928 (by decide +kernel) (by decide +kernel), zIn 96 (by decide +kernel) (by decide +kernel), by decide +kernel⟩
theorem yiX7_put : Cond.instanceMethod yX7_put ∈ zTs := zIn 926 (by decide +kernel) (by decide +kernel)
theorem yvX7_put : zYv mX7_put := ⟨yiX7_put, zIn 927 (by decide +kernel) (by decide +kernel)⟩
abbrev mX6_valueIn : zM := (yX6_valueIn, cX6_valueIn, 2, some .int, [])
theorem yoX6_valueIn : zY mX6_valueIn 1 := ⟨by decide +kernel, zIn 932 (by decide +kernel) (by decide +kernel), zIn 99 (by decide +kernel) (by decide +kernel), by decide +kernel⟩
theorem yiX6_valueIn : Cond.instanceMethod yX6_valueIn ∈ zTs := zIn 930 (by decide +kernel) (by decide +kernel)
theorem yvX6_valueIn : zYv mX6_valueIn := ⟨yiX6_valueIn, zIn 931 (by decide +kernel) (by decide +kernel)⟩
abbrev mL_addRow : zM := (yL_addRow, cL_addRow, 6, some .int, [(0, 12, 15, 13), (0, 12, 19, 19)])
theorem yoL_addRow : zY mL_addRow 5 := ⟨by decide +kernel, zIn 936 (by decide +kernel) (by decide +kernel), zIn 95 (by decide +kernel) (by decide +kernel), by decide +kernel⟩
theorem ysL_addRow : Cond.static yL_addRow ∈ zTs := zIn 935 (by decide +kernel) (by decide +kernel)
abbrev mX7_addRow : zM := (yX7_addRow, cX7_addRow, 5, some .int, [])
theorem yoX7_addRow : zY mX7_addRow 3 := ⟨by decide +kernel, zIn 940 (by decide +kernel) (by decide +kernel), zIn 96 (by decide +kernel) (by decide +kernel), by decide +kernel⟩
theorem yiX7_addRow : Cond.instanceMethod yX7_addRow ∈ zTs := zIn 938 (by decide +kernel) (by decide +kernel)
theorem yvX7_addRow : zYv mX7_addRow := ⟨yiX7_addRow, zIn 939 (by decide +kernel) (by decide +kernel)⟩
abbrev mL_remove : zM := (yL_remove, cL_remove, 4, some .int, [(0, 9, 12, 31)])
theorem yoL_remove : zY mL_remove 3 := ⟨by decide +kernel, zIn 948 (by decide +kernel) (by decide +kernel), zIn 95 (by decide +kernel) (by decide +kernel), by decide +kernel⟩
theorem ysL_remove : Cond.static yL_remove ∈ zTs := zIn 947 (by decide +kernel) (by decide +kernel)
abbrev mX7_remove : zM := (yX7_remove, cX7_remove, 3, some .int, [])
theorem yoX7_remove : zY mX7_remove 1 := ⟨by decide +kernel, zIn 953 (by decide +kernel) (by decide +kernel), zIn 96 (by decide +kernel) (by decide +kernel), by decide +kernel⟩
theorem yiX7_remove : Cond.instanceMethod yX7_remove ∈ zTs := zIn 951 (by decide +kernel) (by decide +kernel)
theorem yvX7_remove : zYv mX7_remove := ⟨yiX7_remove, zIn 952 (by decide +kernel) (by decide +kernel)⟩
abbrev mL_setNeighbourhood : zM := (yL_setNeighbourhood, cL_setNeighbourhood, 4, some .int, [(0, 9, 12, 13), (0, 9, 15, 19)])
theorem yoL_setNeighbourhood : zY mL_setNeighbourhood 3 := ⟨by decide +kernel, zIn 972 (by decide +kernel) (by decide +kernel), zIn 95 (by decide +kernel) (by decide +kernel), by decide +kernel⟩
theorem ysL_setNeighbourhood : Cond.static yL_setNeighbourhood ∈ zTs := zIn 971 (by decide +kernel) (by decide +kernel)
abbrev mX7_setNeighbourhood : zM := (yX7_setNeighbourhood, cX7_setNeighbourhood, 2, some .int, [])
theorem yoX7_setNeighbourhood : zY mX7_setNeighbourhood 1 := ⟨by decide +kernel, zIn 976 (by decide +kernel) (by decide +kernel), zIn 96 (by decide +kernel) (by decide +kernel), by decide +kernel⟩
theorem yiX7_setNeighbourhood : Cond.instanceMethod yX7_setNeighbourhood ∈ zTs := zIn 974 (by decide +kernel) (by decide +kernel)
theorem yvX7_setNeighbourhood : zYv mX7_setNeighbourhood := ⟨yiX7_setNeighbourhood, zIn 975 (by decide +kernel) (by decide +kernel)⟩
abbrev mL_setMultiplier : zM := (yL_setMultiplier, cL_setMultiplier, 4, some .int, [(0, 9, 12, 13), (0, 9, 15, 19)])
theorem yoL_setMultiplier : zY mL_setMultiplier 3 := ⟨by decide +kernel, zIn 983 (by decide +kernel) (by decide +kernel), zIn 95 (by decide +kernel) (by decide +kernel), by decide +kernel⟩
theorem ysL_setMultiplier : Cond.static yL_setMultiplier ∈ zTs := zIn 982 (by decide +kernel) (by decide +kernel)
abbrev mX7_setMultiplier : zM := (yX7_setMultiplier, cX7_setMultiplier, 2, some .int, [])
theorem yoX7_setMultiplier : zY mX7_setMultiplier 1 := ⟨by decide +kernel, zIn 987 (by decide +kernel) (by decide +kernel), zIn 96 (by decide +kernel) (by decide +kernel), by decide +kernel⟩
theorem yiX7_setMultiplier : Cond.instanceMethod yX7_setMultiplier ∈ zTs := zIn 985 (by decide +kernel) (by decide +kernel)
theorem yvX7_setMultiplier : zYv mX7_setMultiplier := ⟨yiX7_setMultiplier, zIn 986 (by decide +kernel) (by decide +kernel)⟩
abbrev mL_grow : zM := (yL_grow, cL_grow, 3, some .int, [(0, 8, 11, 19)])
theorem yoL_grow : zY mL_grow 2 := ⟨by decide +kernel, zIn 993 (by decide +kernel) (by decide +kernel), zIn 95 (by decide +kernel) (by decide +kernel), by decide +kernel⟩
theorem ysL_grow : Cond.static yL_grow ∈ zTs := zIn 992 (by decide +kernel) (by decide +kernel)
abbrev mX7_grow : zM := (yX7_grow, cX7_grow, 1, some .int, [])
theorem yoX7_grow : zY mX7_grow 0 := ⟨by decide +kernel, zIn 997 (by decide +kernel) (by decide +kernel), zIn 96 (by decide +kernel) (by decide +kernel), by decide +kernel⟩
theorem yiX7_grow : Cond.instanceMethod yX7_grow ∈ zTs := zIn 995 (by decide +kernel) (by decide +kernel)
theorem yvX7_grow : zYv mX7_grow := ⟨yiX7_grow, zIn 996 (by decide +kernel) (by decide +kernel)⟩
abbrev mL_restoreSnapshot : zM := (yL_restoreSnapshot, cL_restoreSnapshot, 3, some .int, [(0, 8, 11, 31)])
theorem yoL_restoreSnapshot : zY mL_restoreSnapshot 2 := ⟨by decide +kernel, zIn 1001 (by decide +kernel) (by decide +kernel), zIn 95 (by decide +kernel) (by decide +kernel), by decide +kernel⟩
theorem ysL_restoreSnapshot : Cond.static yL_restoreSnapshot ∈ zTs := zIn 1000 (by decide +kernel) (by decide +kernel)
abbrev mX7_restoreSnapshot : zM := (yX7_restoreSnapshot, cX7_restoreSnapshot, 1, some .int, [])
theorem yoX7_restoreSnapshot : zY mX7_restoreSnapshot 0 := ⟨by decide +kernel, zIn 1005 (by decide +kernel) (by decide +kernel), zIn 96 (by decide +kernel) (by decide +kernel), by decide +kernel⟩
theorem yiX7_restoreSnapshot : Cond.instanceMethod yX7_restoreSnapshot ∈ zTs := zIn 1003 (by decide +kernel) (by decide +kernel)
theorem yvX7_restoreSnapshot : zYv mX7_restoreSnapshot := ⟨yiX7_restoreSnapshot, zIn 1004 (by decide +kernel) (by decide +kernel)⟩
abbrev mL_keyAt : zM := (yL_keyAt, cL_keyAt, 4, some .int, [(0, 9, 12, 49)])
theorem yoL_keyAt : zY mL_keyAt 3 := ⟨by decide +kernel, zIn 1009 (by decide +kernel) (by decide +kernel), zIn 95 (by decide +kernel) (by decide +kernel), by decide +kernel⟩
theorem ysL_keyAt : Cond.static yL_keyAt ∈ zTs := zIn 1008 (by decide +kernel) (by decide +kernel)
abbrev mX7_keyAt : zM := (yX7_keyAt, cX7_keyAt, 2, some .int, [])
theorem yoX7_keyAt : zY mX7_keyAt 1 := ⟨by decide +kernel, zIn 1014 (by decide +kernel) (by decide +kernel), zIn 96 (by decide +kernel) (by decide +kernel), by decide +kernel⟩
theorem yiX7_keyAt : Cond.instanceMethod yX7_keyAt ∈ zTs := zIn 1012 (by decide +kernel) (by decide +kernel)
theorem yvX7_keyAt : zYv mX7_keyAt := ⟨yiX7_keyAt, zIn 1013 (by decide +kernel) (by decide +kernel)⟩
abbrev mX7_needBucket : zM := (yX7_needBucket, cX7_needBucket, 2, none, [])
theorem yoX7_needBucket : zY mX7_needBucket 1 := ⟨by decide +kernel, zIn 1018 (by decide +kernel) (by decide +kernel), zIn 96 (by decide +kernel) (by decide +kernel), by decide +kernel⟩
theorem yiX7_needBucket : Cond.instanceMethod yX7_needBucket ∈ zTs := zIn 1017 (by decide +kernel) (by decide +kernel)
theorem yvX7_needBucket : zYv mX7_needBucket := ⟨yiX7_needBucket, zIn 21 (by decide +kernel) (by decide +kernel)⟩
abbrev mL_valueAt : zM := (yL_valueAt, cL_valueAt, 4, some .int, [(0, 9, 12, 49)])
theorem yoL_valueAt : zY mL_valueAt 3 := ⟨by decide +kernel, zIn 1038 (by decide +kernel) (by decide +kernel), zIn 95 (by decide +kernel) (by decide +kernel), by decide +kernel⟩
theorem ysL_valueAt : Cond.static yL_valueAt ∈ zTs := zIn 1037 (by decide +kernel) (by decide +kernel)
abbrev mX7_valueAt : zM := (yX7_valueAt, cX7_valueAt, 2, some .int, [])
theorem yoX7_valueAt : zY mX7_valueAt 1 := ⟨by decide +kernel, zIn 1042 (by decide +kernel) (by decide +kernel), zIn 96 (by decide +kernel) (by decide +kernel), by decide +kernel⟩
theorem yiX7_valueAt : Cond.instanceMethod yX7_valueAt ∈ zTs := zIn 1040 (by decide +kernel) (by decide +kernel)
theorem yvX7_valueAt : zYv mX7_valueAt := ⟨yiX7_valueAt, zIn 1041 (by decide +kernel) (by decide +kernel)⟩
abbrev mL_hopBits : zM := (yL_hopBits, cL_hopBits, 4, some .int, [(0, 9, 12, 49)])
theorem yoL_hopBits : zY mL_hopBits 3 := ⟨by decide +kernel, zIn 1045 (by decide +kernel) (by decide +kernel), zIn 95 (by decide +kernel) (by decide +kernel), by decide +kernel⟩
theorem ysL_hopBits : Cond.static yL_hopBits ∈ zTs := zIn 1044 (by decide +kernel) (by decide +kernel)
abbrev mX7_hopBits : zM := (yX7_hopBits, cX7_hopBits, 2, some .int, [])
theorem yoX7_hopBits : zY mX7_hopBits 1 := ⟨by decide +kernel, zIn 1049 (by decide +kernel) (by decide +kernel), zIn 96 (by decide +kernel) (by decide +kernel), by decide +kernel⟩
theorem yiX7_hopBits : Cond.instanceMethod yX7_hopBits ∈ zTs := zIn 1047 (by decide +kernel) (by decide +kernel)
theorem yvX7_hopBits : zYv mX7_hopBits := ⟨yiX7_hopBits, zIn 1048 (by decide +kernel) (by decide +kernel)⟩
abbrev mL_entriesOf : zM := (yL_entriesOf, cL_entriesOf, 4, some .int, [(0, 9, 12, 49)])
theorem yoL_entriesOf : zY mL_entriesOf 3 := ⟨by decide +kernel, zIn 1053 (by decide +kernel) (by decide +kernel), zIn 95 (by decide +kernel) (by decide +kernel), by decide +kernel⟩
theorem ysL_entriesOf : Cond.static yL_entriesOf ∈ zTs := zIn 1052 (by decide +kernel) (by decide +kernel)
abbrev mX7_entriesOf : zM := (yX7_entriesOf, cX7_entriesOf, 2, some .int, [])
theorem yoX7_entriesOf : zY mX7_entriesOf 1 := ⟨by decide +kernel, zIn 1057 (by decide +kernel) (by decide +kernel), zIn 96 (by decide +kernel) (by decide +kernel), by decide +kernel⟩
theorem yiX7_entriesOf : Cond.instanceMethod yX7_entriesOf ∈ zTs := zIn 1055 (by decide +kernel) (by decide +kernel)
theorem yvX7_entriesOf : zYv mX7_entriesOf := ⟨yiX7_entriesOf, zIn 1056 (by decide +kernel) (by decide +kernel)⟩
abbrev mL_freeDistance : zM := (yL_freeDistance, cL_freeDistance, 4, some .int, [(0, 9, 12, 49)])
theorem yoL_freeDistance : zY mL_freeDistance 3 := ⟨by decide +kernel, zIn 1061 (by decide +kernel) (by decide +kernel), zIn 95 (by decide +kernel) (by decide +kernel), by decide +kernel⟩
theorem ysL_freeDistance : Cond.static yL_freeDistance ∈ zTs := zIn 1060 (by decide +kernel) (by decide +kernel)
abbrev mX7_freeDistance : zM := (yX7_freeDistance, cX7_freeDistance, 2, some .int, [])
theorem yoX7_freeDistance : zY mX7_freeDistance 1 := ⟨by decide +kernel, zIn 1065 (by decide +kernel) (by decide +kernel), zIn 96 (by decide +kernel) (by decide +kernel), by decide +kernel⟩
theorem yiX7_freeDistance : Cond.instanceMethod yX7_freeDistance ∈ zTs := zIn 1063 (by decide +kernel) (by decide +kernel)
theorem yvX7_freeDistance : zYv mX7_freeDistance := ⟨yiX7_freeDistance, zIn 1064 (by decide +kernel) (by decide +kernel)⟩
abbrev mL_homeOf : zM := (yL_homeOf, cL_homeOf, 4, some .int, [(0, 9, 12, 13)])
theorem yoL_homeOf : zY mL_homeOf 3 := ⟨by decide +kernel, zIn 1069 (by decide +kernel) (by decide +kernel), zIn 95 (by decide +kernel) (by decide +kernel), by decide +kernel⟩
theorem ysL_homeOf : Cond.static yL_homeOf ∈ zTs := zIn 1068 (by decide +kernel) (by decide +kernel)
abbrev mX7_homeOf : zM := (yX7_homeOf, cX7_homeOf, 2, some .int, [])
theorem yoX7_homeOf : zY mX7_homeOf 1 := ⟨by decide +kernel, zIn 1073 (by decide +kernel) (by decide +kernel), zIn 96 (by decide +kernel) (by decide +kernel), by decide +kernel⟩
theorem yiX7_homeOf : Cond.instanceMethod yX7_homeOf ∈ zTs := zIn 1071 (by decide +kernel) (by decide +kernel)
theorem yvX7_homeOf : zYv mX7_homeOf := ⟨yiX7_homeOf, zIn 1072 (by decide +kernel) (by decide +kernel)⟩
abbrev mL_bucketOf : zM := (yL_bucketOf, cL_bucketOf, 4, some .int, [(0, 9, 12, 13)])
theorem yoL_bucketOf : zY mL_bucketOf 3 := ⟨by decide +kernel, zIn 1077 (by decide +kernel) (by decide +kernel), zIn 95 (by decide +kernel) (by decide +kernel), by decide +kernel⟩
theorem ysL_bucketOf : Cond.static yL_bucketOf ∈ zTs := zIn 1076 (by decide +kernel) (by decide +kernel)
abbrev mX7_bucketOf : zM := (yX7_bucketOf, cX7_bucketOf, 2, some .int, [])
theorem yoX7_bucketOf : zY mX7_bucketOf 1 := ⟨by decide +kernel, zIn 1081 (by decide +kernel) (by decide +kernel), zIn 96 (by decide +kernel) (by decide +kernel), by decide +kernel⟩
theorem yiX7_bucketOf : Cond.instanceMethod yX7_bucketOf ∈ zTs := zIn 1079 (by decide +kernel) (by decide +kernel)
theorem yvX7_bucketOf : zYv mX7_bucketOf := ⟨yiX7_bucketOf, zIn 1080 (by decide +kernel) (by decide +kernel)⟩
abbrev mL_valueOf : zM := (yL_valueOf, cL_valueOf, 4, some .int, [(0, 9, 12, 13)])
theorem yoL_valueOf : zY mL_valueOf 3 := ⟨by decide +kernel, zIn 1084 (by decide +kernel) (by decide +kernel), zIn 95 (by decide +kernel) (by decide +kernel), by decide +kernel⟩
theorem ysL_valueOf : Cond.static yL_valueOf ∈ zTs := zIn 1083 (by decide +kernel) (by decide +kernel)
abbrev mX7_valueOf : zM := (yX7_valueOf, cX7_valueOf, 2, some .int, [])
theorem yoX7_valueOf : zY mX7_valueOf 1 := ⟨by decide +kernel, zIn 1088 (by decide +kernel) (by decide +kernel), zIn 96 (by decide +kernel) (by decide +kernel), by decide +kernel⟩
theorem yiX7_valueOf : Cond.instanceMethod yX7_valueOf ∈ zTs := zIn 1086 (by decide +kernel) (by decide +kernel)
theorem yvX7_valueOf : zYv mX7_valueOf := ⟨yiX7_valueOf, zIn 1087 (by decide +kernel) (by decide +kernel)⟩
abbrev mL_distanceOf : zM := (yL_distanceOf, cL_distanceOf, 4, some .int, [(0, 9, 12, 13)])
theorem yoL_distanceOf : zY mL_distanceOf 3 := ⟨by decide +kernel, zIn 1091 (by decide +kernel) (by decide +kernel), zIn 95 (by decide +kernel) (by decide +kernel), by decide +kernel⟩
theorem ysL_distanceOf : Cond.static yL_distanceOf ∈ zTs := zIn 1090 (by decide +kernel) (by decide +kernel)
abbrev mX7_distanceOf : zM := (yX7_distanceOf, cX7_distanceOf, 2, some .int, [])
theorem yoX7_distanceOf : zY mX7_distanceOf 1 := ⟨by decide +kernel, zIn 1095 (by decide +kernel) (by decide +kernel), zIn 96 (by decide +kernel) (by decide +kernel), by decide +kernel⟩
theorem yiX7_distanceOf : Cond.instanceMethod yX7_distanceOf ∈ zTs := zIn 1093 (by decide +kernel) (by decide +kernel)
theorem yvX7_distanceOf : zYv mX7_distanceOf := ⟨yiX7_distanceOf, zIn 1094 (by decide +kernel) (by decide +kernel)⟩
abbrev mL_looksFor : zM := (yL_looksFor, cL_looksFor, 4, some .int, [(0, 9, 12, 13)])
theorem yoL_looksFor : zY mL_looksFor 3 := ⟨by decide +kernel, zIn 1098 (by decide +kernel) (by decide +kernel), zIn 95 (by decide +kernel) (by decide +kernel), by decide +kernel⟩
theorem ysL_looksFor : Cond.static yL_looksFor ∈ zTs := zIn 1097 (by decide +kernel) (by decide +kernel)
abbrev mX7_looksFor : zM := (yX7_looksFor, cX7_looksFor, 2, some .int, [])
theorem yoX7_looksFor : zY mX7_looksFor 1 := ⟨by decide +kernel, zIn 1102 (by decide +kernel) (by decide +kernel), zIn 96 (by decide +kernel) (by decide +kernel), by decide +kernel⟩
theorem yiX7_looksFor : Cond.instanceMethod yX7_looksFor ∈ zTs := zIn 1100 (by decide +kernel) (by decide +kernel)
theorem yvX7_looksFor : zYv mX7_looksFor := ⟨yiX7_looksFor, zIn 1101 (by decide +kernel) (by decide +kernel)⟩
abbrev mX6_looksUntil : zM := (yX6_looksUntil, cX6_looksUntil, 5, some .int, [])
theorem yoX6_looksUntil : zY mX6_looksUntil 1 := ⟨by decide +kernel, zIn 1106 (by decide +kernel) (by decide +kernel), zIn 99 (by decide +kernel) (by decide +kernel), by decide +kernel⟩
theorem yiX6_looksUntil : Cond.instanceMethod yX6_looksUntil ∈ zTs := zIn 1104 (by decide +kernel) (by decide +kernel)
theorem yvX6_looksUntil : zYv mX6_looksUntil := ⟨yiX6_looksUntil, zIn 1105 (by decide +kernel) (by decide +kernel)⟩
abbrev mL_rank : zM := (yL_rank, cL_rank, 4, some .int, [(0, 9, 12, 13)])
theorem yoL_rank : zY mL_rank 3 := ⟨by decide +kernel, zIn 1109 (by decide +kernel) (by decide +kernel), zIn 95 (by decide +kernel) (by decide +kernel), by decide +kernel⟩
theorem ysL_rank : Cond.static yL_rank ∈ zTs := zIn 1108 (by decide +kernel) (by decide +kernel)
abbrev mX7_rank : zM := (yX7_rank, cX7_rank, 2, some .int, [])
theorem yoX7_rank : zY mX7_rank 1 := ⟨by decide +kernel, zIn 1113 (by decide +kernel) (by decide +kernel), zIn 96 (by decide +kernel) (by decide +kernel), by decide +kernel⟩
theorem yiX7_rank : Cond.instanceMethod yX7_rank ∈ zTs := zIn 1111 (by decide +kernel) (by decide +kernel)
theorem yvX7_rank : zYv mX7_rank := ⟨yiX7_rank, zIn 1112 (by decide +kernel) (by decide +kernel)⟩
abbrev mX6_countBelow : zM := (yX6_countBelow, cX6_countBelow, 4, some .int, [])
theorem yoX6_countBelow : zY mX6_countBelow 1 := ⟨by decide +kernel, zIn 1117 (by decide +kernel) (by decide +kernel), zIn 99 (by decide +kernel) (by decide +kernel), by decide +kernel⟩
theorem yiX6_countBelow : Cond.instanceMethod yX6_countBelow ∈ zTs := zIn 1115 (by decide +kernel) (by decide +kernel)
theorem yvX6_countBelow : zYv mX6_countBelow := ⟨yiX6_countBelow, zIn 1116 (by decide +kernel) (by decide +kernel)⟩
abbrev mL_whyNoAdd : zM := (yL_whyNoAdd, cL_whyNoAdd, 4, some .int, [(0, 9, 12, 13)])
theorem yoL_whyNoAdd : zY mL_whyNoAdd 3 := ⟨by decide +kernel, zIn 1120 (by decide +kernel) (by decide +kernel), zIn 95 (by decide +kernel) (by decide +kernel), by decide +kernel⟩
theorem ysL_whyNoAdd : Cond.static yL_whyNoAdd ∈ zTs := zIn 1119 (by decide +kernel) (by decide +kernel)
abbrev mX7_whyNoAdd : zM := (yX7_whyNoAdd, cX7_whyNoAdd, 2, some .int, [])
theorem yoX7_whyNoAdd : zY mX7_whyNoAdd 1 := ⟨by decide +kernel, zIn 1124 (by decide +kernel) (by decide +kernel), zIn 96 (by decide +kernel) (by decide +kernel), by decide +kernel⟩
theorem yiX7_whyNoAdd : Cond.instanceMethod yX7_whyNoAdd ∈ zTs := zIn 1122 (by decide +kernel) (by decide +kernel)
theorem yvX7_whyNoAdd : zYv mX7_whyNoAdd := ⟨yiX7_whyNoAdd, zIn 1123 (by decide +kernel) (by decide +kernel)⟩
abbrev mX7_tryToInsert : zM := (yX7_tryToInsert, cX7_tryToInsert, 2, some .int, [])
theorem yoX7_tryToInsert : zY mX7_tryToInsert 1 := ⟨by decide +kernel, zIn 1128 (by decide +kernel) (by decide +kernel), zIn 96 (by decide +kernel) (by decide +kernel), by decide +kernel⟩
theorem yiX7_tryToInsert : Cond.instanceMethod yX7_tryToInsert ∈ zTs := zIn 1127 (by decide +kernel) (by decide +kernel)
theorem yvX7_tryToInsert : zYv mX7_tryToInsert := ⟨yiX7_tryToInsert, zIn 22 (by decide +kernel) (by decide +kernel)⟩
abbrev mL_placeFor : zM := (yL_placeFor, cL_placeFor, 4, some .int, [(0, 9, 12, 13)])
theorem yoL_placeFor : zY mL_placeFor 3 := ⟨by decide +kernel, zIn 1131 (by decide +kernel) (by decide +kernel), zIn 95 (by decide +kernel) (by decide +kernel), by decide +kernel⟩
theorem ysL_placeFor : Cond.static yL_placeFor ∈ zTs := zIn 1130 (by decide +kernel) (by decide +kernel)
abbrev mX7_placeFor : zM := (yX7_placeFor, cX7_placeFor, 2, some .int, [])
theorem yoX7_placeFor : zY mX7_placeFor 1 := ⟨by decide +kernel, zIn 1135 (by decide +kernel) (by decide +kernel), zIn 96 (by decide +kernel) (by decide +kernel), by decide +kernel⟩
theorem yiX7_placeFor : Cond.instanceMethod yX7_placeFor ∈ zTs := zIn 1133 (by decide +kernel) (by decide +kernel)
theorem yvX7_placeFor : zYv mX7_placeFor := ⟨yiX7_placeFor, zIn 1134 (by decide +kernel) (by decide +kernel)⟩
abbrev mL_movesFor : zM := (yL_movesFor, cL_movesFor, 4, some .int, [(0, 9, 12, 13)])
theorem yoL_movesFor : zY mL_movesFor 3 := ⟨by decide +kernel, zIn 1138 (by decide +kernel) (by decide +kernel), zIn 95 (by decide +kernel) (by decide +kernel), by decide +kernel⟩
theorem ysL_movesFor : Cond.static yL_movesFor ∈ zTs := zIn 1137 (by decide +kernel) (by decide +kernel)
abbrev mX7_movesFor : zM := (yX7_movesFor, cX7_movesFor, 2, some .int, [])
theorem yoX7_movesFor : zY mX7_movesFor 1 := ⟨by decide +kernel, zIn 1142 (by decide +kernel) (by decide +kernel), zIn 96 (by decide +kernel) (by decide +kernel), by decide +kernel⟩
theorem yiX7_movesFor : Cond.instanceMethod yX7_movesFor ∈ zTs := zIn 1140 (by decide +kernel) (by decide +kernel)
theorem yvX7_movesFor : zYv mX7_movesFor := ⟨yiX7_movesFor, zIn 1141 (by decide +kernel) (by decide +kernel)⟩
abbrev mL_bucketsAfter : zM := (yL_bucketsAfter, cL_bucketsAfter, 4, some .int, [(0, 9, 12, 13)])
theorem yoL_bucketsAfter : zY mL_bucketsAfter 3 := ⟨by decide +kernel, zIn 1145 (by decide +kernel) (by decide +kernel), zIn 95 (by decide +kernel) (by decide +kernel), by decide +kernel⟩
theorem ysL_bucketsAfter : Cond.static yL_bucketsAfter ∈ zTs := zIn 1144 (by decide +kernel) (by decide +kernel)
abbrev mX7_bucketsAfter : zM := (yX7_bucketsAfter, cX7_bucketsAfter, 2, some .int, [])
theorem yoX7_bucketsAfter : zY mX7_bucketsAfter 1 := ⟨by decide +kernel, zIn 1149 (by decide +kernel) (by decide +kernel), zIn 96 (by decide +kernel) (by decide +kernel), by decide +kernel⟩
theorem yiX7_bucketsAfter : Cond.instanceMethod yX7_bucketsAfter ∈ zTs := zIn 1147 (by decide +kernel) (by decide +kernel)
theorem yvX7_bucketsAfter : zYv mX7_bucketsAfter := ⟨yiX7_bucketsAfter, zIn 1148 (by decide +kernel) (by decide +kernel)⟩
abbrev mL_pullsFor : zM := (yL_pullsFor, cL_pullsFor, 4, some .int, [(0, 9, 12, 13)])
theorem yoL_pullsFor : zY mL_pullsFor 3 := ⟨by decide +kernel, zIn 1152 (by decide +kernel) (by decide +kernel), zIn 95 (by decide +kernel) (by decide +kernel), by decide +kernel⟩
theorem ysL_pullsFor : Cond.static yL_pullsFor ∈ zTs := zIn 1151 (by decide +kernel) (by decide +kernel)
abbrev mX7_pullsFor : zM := (yX7_pullsFor, cX7_pullsFor, 2, some .int, [])
theorem yoX7_pullsFor : zY mX7_pullsFor 1 := ⟨by decide +kernel, zIn 1156 (by decide +kernel) (by decide +kernel), zIn 96 (by decide +kernel) (by decide +kernel), by decide +kernel⟩
theorem yiX7_pullsFor : Cond.instanceMethod yX7_pullsFor ∈ zTs := zIn 1154 (by decide +kernel) (by decide +kernel)
theorem yvX7_pullsFor : zYv mX7_pullsFor := ⟨yiX7_pullsFor, zIn 1155 (by decide +kernel) (by decide +kernel)⟩
abbrev mL_bucketsWith : zM := (yL_bucketsWith, cL_bucketsWith, 4, some .int, [(0, 9, 12, 13)])
theorem yoL_bucketsWith : zY mL_bucketsWith 3 := ⟨by decide +kernel, zIn 1159 (by decide +kernel) (by decide +kernel), zIn 95 (by decide +kernel) (by decide +kernel), by decide +kernel⟩
theorem ysL_bucketsWith : Cond.static yL_bucketsWith ∈ zTs := zIn 1158 (by decide +kernel) (by decide +kernel)
abbrev mX7_bucketsWith : zM := (yX7_bucketsWith, cX7_bucketsWith, 2, some .int, [])
theorem yoX7_bucketsWith : zY mX7_bucketsWith 1 := ⟨by decide +kernel, zIn 1163 (by decide +kernel) (by decide +kernel), zIn 96 (by decide +kernel) (by decide +kernel), by decide +kernel⟩
theorem yiX7_bucketsWith : Cond.instanceMethod yX7_bucketsWith ∈ zTs := zIn 1161 (by decide +kernel) (by decide +kernel)
theorem yvX7_bucketsWith : zYv mX7_bucketsWith := ⟨yiX7_bucketsWith, zIn 1162 (by decide +kernel) (by decide +kernel)⟩
abbrev mL_bestMultiplier : zM := (yL_bestMultiplier, cL_bestMultiplier, 4, some .int, [(0, 9, 12, 13)])
theorem yoL_bestMultiplier : zY mL_bestMultiplier 3 := ⟨by decide +kernel, zIn 1166 (by decide +kernel) (by decide +kernel), zIn 95 (by decide +kernel) (by decide +kernel), by decide +kernel⟩
theorem ysL_bestMultiplier : Cond.static yL_bestMultiplier ∈ zTs := zIn 1165 (by decide +kernel) (by decide +kernel)
abbrev mX7_bestMultiplier : zM := (yX7_bestMultiplier, cX7_bestMultiplier, 6, some .int, [])
theorem yoX7_bestMultiplier : zY mX7_bestMultiplier 1 := ⟨by decide +kernel, zIn 1170 (by decide +kernel) (by decide +kernel), zIn 96 (by decide +kernel) (by decide +kernel), by decide +kernel⟩
theorem yiX7_bestMultiplier : Cond.instanceMethod yX7_bestMultiplier ∈ zTs := zIn 1168 (by decide +kernel) (by decide +kernel)
theorem yvX7_bestMultiplier : zYv mX7_bestMultiplier := ⟨yiX7_bestMultiplier, zIn 1169 (by decide +kernel) (by decide +kernel)⟩
abbrev mX8_init : zM := (yX8_init, cX8_init, 1, none, [])
theorem yoX8_init : zY mX8_init 0 := ⟨by decide +kernel, zIn 1176 (by decide +kernel) (by decide +kernel), zIn 102 (by decide +kernel) (by decide +kernel), by decide +kernel⟩
theorem yiX8_init : Cond.instanceMethod yX8_init ∈ zTs := zIn 1175 (by decide +kernel) (by decide +kernel)
abbrev mX8_tell : zM := (yX8_tell, cX8_tell, 3, none, [])
theorem yoX8_tell : zY mX8_tell 1 := ⟨by decide +kernel, zIn 1182 (by decide +kernel) (by decide +kernel), zIn 102 (by decide +kernel) (by decide +kernel), by decide +kernel⟩
theorem yiX8_tell : Cond.instanceMethod yX8_tell ∈ zTs := zIn 1181 (by decide +kernel) (by decide +kernel)
theorem yvX8_tell : zYv mX8_tell := ⟨yiX8_tell, zIn 23 (by decide +kernel) (by decide +kernel)⟩
abbrev mX8_parses : zM := (yX8_parses, cX8_parses, 2, some .boolean, [])
theorem yoX8_parses : zY mX8_parses 0 := ⟨by decide +kernel, zIn 1188 (by decide +kernel) (by decide +kernel), zIn 102 (by decide +kernel) (by decide +kernel), by decide +kernel⟩
theorem yiX8_parses : Cond.instanceMethod yX8_parses ∈ zTs := zIn 1187 (by decide +kernel) (by decide +kernel)
theorem yvX8_parses : zYv mX8_parses := ⟨yiX8_parses, zIn 24 (by decide +kernel) (by decide +kernel)⟩
abbrev mX8_next : zM := (yX8_next, cX8_next, 2, none, [])
theorem yoX8_next : zY mX8_next 0 := ⟨by decide +kernel, zIn 1192 (by decide +kernel) (by decide +kernel), zIn 102 (by decide +kernel) (by decide +kernel), by decide +kernel⟩
theorem yiX8_next : Cond.instanceMethod yX8_next ∈ zTs := zIn 1191 (by decide +kernel) (by decide +kernel)
theorem yvX8_next : zYv mX8_next := ⟨yiX8_next, zIn 25 (by decide +kernel) (by decide +kernel)⟩
abbrev mX8_sortOf : zM := (yX8_sortOf, cX8_sortOf, 1, some .int, [])
theorem yoX8_sortOf : zY mX8_sortOf 1 := ⟨by decide +kernel, zIn 1195 (by decide +kernel) (by decide +kernel), zIn 102 (by decide +kernel) (by decide +kernel), by decide +kernel⟩
theorem ysX8_sortOf : Cond.static yX8_sortOf ∈ zTs := zIn 1194 (by decide +kernel) (by decide +kernel)
abbrev mX8_readsAll : zM := (yX8_readsAll, cX8_readsAll, 1, some .boolean, [])
theorem yoX8_readsAll : zY mX8_readsAll 0 := ⟨by decide +kernel, zIn 1199 (by decide +kernel) (by decide +kernel), zIn 102 (by decide +kernel) (by decide +kernel), by decide +kernel⟩
theorem yiX8_readsAll : Cond.instanceMethod yX8_readsAll ∈ zTs := zIn 1198 (by decide +kernel) (by decide +kernel)
theorem yvX8_readsAll : zYv mX8_readsAll := ⟨yiX8_readsAll, zIn 26 (by decide +kernel) (by decide +kernel)⟩
abbrev mX8_readsHead : zM := (yX8_readsHead, cX8_readsHead, 1, some .boolean, [])
theorem yoX8_readsHead : zY mX8_readsHead 0 := ⟨by decide +kernel, zIn 1203 (by decide +kernel) (by decide +kernel), zIn 102 (by decide +kernel) (by decide +kernel), by decide +kernel⟩
theorem yiX8_readsHead : Cond.instanceMethod yX8_readsHead ∈ zTs := zIn 1202 (by decide +kernel) (by decide +kernel)
theorem yvX8_readsHead : zYv mX8_readsHead := ⟨yiX8_readsHead, zIn 27 (by decide +kernel) (by decide +kernel)⟩
abbrev mX8_says : zM := (yX8_says, cX8_says, 3, some .boolean, [])
theorem yoX8_says : zY mX8_says 1 := ⟨by decide +kernel, zIn 1208 (by decide +kernel) (by decide +kernel), zIn 102 (by decide +kernel) (by decide +kernel), by decide +kernel⟩
theorem yiX8_says : Cond.instanceMethod yX8_says ∈ zTs := zIn 1207 (by decide +kernel) (by decide +kernel)
theorem yvX8_says : zYv mX8_says := ⟨yiX8_says, zIn 28 (by decide +kernel) (by decide +kernel)⟩
abbrev mX8_fail : zM := (yX8_fail, cX8_fail, 2, some .boolean, [])
theorem yoX8_fail : zY mX8_fail 1 := ⟨by decide +kernel, zIn 1212 (by decide +kernel) (by decide +kernel), zIn 102 (by decide +kernel) (by decide +kernel), by decide +kernel⟩
theorem yiX8_fail : Cond.instanceMethod yX8_fail ∈ zTs := zIn 1211 (by decide +kernel) (by decide +kernel)
theorem yvX8_fail : zYv mX8_fail := ⟨yiX8_fail, zIn 29 (by decide +kernel) (by decide +kernel)⟩
abbrev mX8_isSize : zM := (yX8_isSize, cX8_isSize, 1, some .boolean, [])
theorem yoX8_isSize : zY mX8_isSize 1 := ⟨by decide +kernel, zIn 1215 (by decide +kernel) (by decide +kernel), zIn 102 (by decide +kernel) (by decide +kernel), by decide +kernel⟩
theorem ysX8_isSize : Cond.static yX8_isSize ∈ zTs := zIn 1214 (by decide +kernel) (by decide +kernel)
abbrev mX8_number : zM := (yX8_number, cX8_number, 4, some .boolean, [])
theorem yoX8_number : zY mX8_number 3 := ⟨by decide +kernel, zIn 1219 (by decide +kernel) (by decide +kernel), zIn 102 (by decide +kernel) (by decide +kernel), by decide +kernel⟩
theorem yiX8_number : Cond.instanceMethod yX8_number ∈ zTs := zIn 1218 (by decide +kernel) (by decide +kernel)
theorem yvX8_number : zYv mX8_number := ⟨yiX8_number, zIn 30 (by decide +kernel) (by decide +kernel)⟩
abbrev mX8_is : zM := (yX8_is, cX8_is, 2, some .boolean, [])
theorem yoX8_is : zY mX8_is 1 := ⟨by decide +kernel, zIn 1223 (by decide +kernel) (by decide +kernel), zIn 102 (by decide +kernel) (by decide +kernel), by decide +kernel⟩
theorem yiX8_is : Cond.instanceMethod yX8_is ∈ zTs := zIn 1222 (by decide +kernel) (by decide +kernel)
theorem yvX8_is : zYv mX8_is := ⟨yiX8_is, zIn 31 (by decide +kernel) (by decide +kernel)⟩
abbrev mX8_in : zM := (yX8_in, cX8_in, 3, some .boolean, [])
theorem yoX8_in : zY mX8_in 3 := ⟨by decide +kernel, zIn 1226 (by decide +kernel) (by decide +kernel), zIn 102 (by decide +kernel) (by decide +kernel), by decide +kernel⟩
theorem ysX8_in : Cond.static yX8_in ∈ zTs := zIn 1225 (by decide +kernel) (by decide +kernel)
abbrev mX8_readsCommand : zM := (yX8_readsCommand, cX8_readsCommand, 3, some .boolean, [])
theorem yoX8_readsCommand : zY mX8_readsCommand 1 := ⟨by decide +kernel, zIn 1230 (by decide +kernel) (by decide +kernel), zIn 102 (by decide +kernel) (by decide +kernel), by decide +kernel⟩
theorem yiX8_readsCommand : Cond.instanceMethod yX8_readsCommand ∈ zTs := zIn 1229 (by decide +kernel) (by decide +kernel)
theorem yvX8_readsCommand : zYv mX8_readsCommand := ⟨yiX8_readsCommand, zIn 32 (by decide +kernel) (by decide +kernel)⟩
abbrev mX8_wordAhead : zM := (yX8_wordAhead, cX8_wordAhead, 1, some .int, [])
theorem yoX8_wordAhead : zY mX8_wordAhead 0 := ⟨by decide +kernel, zIn 1234 (by decide +kernel) (by decide +kernel), zIn 102 (by decide +kernel) (by decide +kernel), by decide +kernel⟩
theorem yiX8_wordAhead : Cond.instanceMethod yX8_wordAhead ∈ zTs := zIn 1233 (by decide +kernel) (by decide +kernel)
theorem yvX8_wordAhead : zYv mX8_wordAhead := ⟨yiX8_wordAhead, zIn 33 (by decide +kernel) (by decide +kernel)⟩
abbrev mX8_laterWord : zM := (yX8_laterWord, cX8_laterWord, 1, some .int, [])
theorem yoX8_laterWord : zY mX8_laterWord 0 := ⟨by decide +kernel, zIn 1244 (by decide +kernel) (by decide +kernel), zIn 102 (by decide +kernel) (by decide +kernel), by decide +kernel⟩
theorem yiX8_laterWord : Cond.instanceMethod yX8_laterWord ∈ zTs := zIn 1243 (by decide +kernel) (by decide +kernel)
theorem yvX8_laterWord : zYv mX8_laterWord := ⟨yiX8_laterWord, zIn 34 (by decide +kernel) (by decide +kernel)⟩
abbrev mX8_readsRepeat : zM := (yX8_readsRepeat, cX8_readsRepeat, 5, some .boolean, [])
theorem yoX8_readsRepeat : zY mX8_readsRepeat 1 := ⟨by decide +kernel, zIn 1253 (by decide +kernel) (by decide +kernel), zIn 102 (by decide +kernel) (by decide +kernel), by decide +kernel⟩
theorem yiX8_readsRepeat : Cond.instanceMethod yX8_readsRepeat ∈ zTs := zIn 1252 (by decide +kernel) (by decide +kernel)
theorem yvX8_readsRepeat : zYv mX8_readsRepeat := ⟨yiX8_readsRepeat, zIn 35 (by decide +kernel) (by decide +kernel)⟩
abbrev mX8_readsWord : zM := (yX8_readsWord, cX8_readsWord, 2, some .boolean, [])
theorem yoX8_readsWord : zY mX8_readsWord 1 := ⟨by decide +kernel, zIn 1257 (by decide +kernel) (by decide +kernel), zIn 102 (by decide +kernel) (by decide +kernel), by decide +kernel⟩
theorem yiX8_readsWord : Cond.instanceMethod yX8_readsWord ∈ zTs := zIn 1256 (by decide +kernel) (by decide +kernel)
theorem yvX8_readsWord : zYv mX8_readsWord := ⟨yiX8_readsWord, zIn 36 (by decide +kernel) (by decide +kernel)⟩
abbrev mX8_readsAdd : zM := (yX8_readsAdd, cX8_readsAdd, 1, some .boolean, [])
theorem yoX8_readsAdd : zY mX8_readsAdd 0 := ⟨by decide +kernel, zIn 1261 (by decide +kernel) (by decide +kernel), zIn 102 (by decide +kernel) (by decide +kernel), by decide +kernel⟩
theorem yiX8_readsAdd : Cond.instanceMethod yX8_readsAdd ∈ zTs := zIn 1260 (by decide +kernel) (by decide +kernel)
theorem yvX8_readsAdd : zYv mX8_readsAdd := ⟨yiX8_readsAdd, zIn 37 (by decide +kernel) (by decide +kernel)⟩
abbrev mX8_readsEntry : zM := (yX8_readsEntry, cX8_readsEntry, 1, some .boolean, [])
theorem yoX8_readsEntry : zY mX8_readsEntry 0 := ⟨by decide +kernel, zIn 1265 (by decide +kernel) (by decide +kernel), zIn 102 (by decide +kernel) (by decide +kernel), by decide +kernel⟩
theorem yiX8_readsEntry : Cond.instanceMethod yX8_readsEntry ∈ zTs := zIn 1264 (by decide +kernel) (by decide +kernel)
theorem yvX8_readsEntry : zYv mX8_readsEntry := ⟨yiX8_readsEntry, zIn 38 (by decide +kernel) (by decide +kernel)⟩
abbrev mX8_whyOut : zM := (yX8_whyOut, cX8_whyOut, 3, some .int, [])
theorem yoX8_whyOut : zY mX8_whyOut 1 := ⟨by decide +kernel, zIn 1269 (by decide +kernel) (by decide +kernel), zIn 102 (by decide +kernel) (by decide +kernel), by decide +kernel⟩
theorem yiX8_whyOut : Cond.instanceMethod yX8_whyOut ∈ zTs := zIn 1268 (by decide +kernel) (by decide +kernel)
theorem yvX8_whyOut : zYv mX8_whyOut := ⟨yiX8_whyOut, zIn 39 (by decide +kernel) (by decide +kernel)⟩
abbrev mX8_bucketWith : zM := (yX8_bucketWith, cX8_bucketWith, 3, some .int, [])
theorem yoX8_bucketWith : zY mX8_bucketWith 1 := ⟨by decide +kernel, zIn 1273 (by decide +kernel) (by decide +kernel), zIn 102 (by decide +kernel) (by decide +kernel), by decide +kernel⟩
theorem yiX8_bucketWith : Cond.instanceMethod yX8_bucketWith ∈ zTs := zIn 1272 (by decide +kernel) (by decide +kernel)
theorem yvX8_bucketWith : zYv mX8_bucketWith := ⟨yiX8_bucketWith, zIn 40 (by decide +kernel) (by decide +kernel)⟩
abbrev mX8_key : zM := (yX8_key, cX8_key, 2, some .int, [])
theorem yoX8_key : zY mX8_key 1 := ⟨by decide +kernel, zIn 1277 (by decide +kernel) (by decide +kernel), zIn 102 (by decide +kernel) (by decide +kernel), by decide +kernel⟩
theorem yiX8_key : Cond.instanceMethod yX8_key ∈ zTs := zIn 1276 (by decide +kernel) (by decide +kernel)
theorem yvX8_key : zYv mX8_key := ⟨yiX8_key, zIn 41 (by decide +kernel) (by decide +kernel)⟩
abbrev mX8_copies : zM := (yX8_copies, cX8_copies, 4, none, [])
theorem yoX8_copies : zY mX8_copies 2 := ⟨by decide +kernel, zIn 1281 (by decide +kernel) (by decide +kernel), zIn 102 (by decide +kernel) (by decide +kernel), by decide +kernel⟩
theorem yiX8_copies : Cond.instanceMethod yX8_copies ∈ zTs := zIn 1280 (by decide +kernel) (by decide +kernel)
theorem yvX8_copies : zYv mX8_copies := ⟨yiX8_copies, zIn 42 (by decide +kernel) (by decide +kernel)⟩
abbrev mX8_adds : zM := (yX8_adds, cX8_adds, 6, some .int, [])
theorem yoX8_adds : zY mX8_adds 2 := ⟨by decide +kernel, zIn 1285 (by decide +kernel) (by decide +kernel), zIn 102 (by decide +kernel) (by decide +kernel), by decide +kernel⟩
theorem yiX8_adds : Cond.instanceMethod yX8_adds ∈ zTs := zIn 1284 (by decide +kernel) (by decide +kernel)
theorem yvX8_adds : zYv mX8_adds := ⟨yiX8_adds, zIn 43 (by decide +kernel) (by decide +kernel)⟩
abbrev mX8_lays : zM := (yX8_lays, cX8_lays, 7, some .int, [])
theorem yoX8_lays : zY mX8_lays 2 := ⟨by decide +kernel, zIn 1289 (by decide +kernel) (by decide +kernel), zIn 102 (by decide +kernel) (by decide +kernel), by decide +kernel⟩
theorem yiX8_lays : Cond.instanceMethod yX8_lays ∈ zTs := zIn 1288 (by decide +kernel) (by decide +kernel)
theorem yvX8_lays : zYv mX8_lays := ⟨yiX8_lays, zIn 44 (by decide +kernel) (by decide +kernel)⟩
abbrev mX8_home : zM := (yX8_home, cX8_home, 2, some .int, [])
theorem yoX8_home : zY mX8_home 1 := ⟨by decide +kernel, zIn 1293 (by decide +kernel) (by decide +kernel), zIn 102 (by decide +kernel) (by decide +kernel), by decide +kernel⟩
theorem yiX8_home : Cond.instanceMethod yX8_home ∈ zTs := zIn 1292 (by decide +kernel) (by decide +kernel)
theorem yvX8_home : zYv mX8_home := ⟨yiX8_home, zIn 45 (by decide +kernel) (by decide +kernel)⟩
abbrev mX8_freeFrom : zM := (yX8_freeFrom, cX8_freeFrom, 3, some .int, [])
theorem yoX8_freeFrom : zY mX8_freeFrom 1 := ⟨by decide +kernel, zIn 1297 (by decide +kernel) (by decide +kernel), zIn 102 (by decide +kernel) (by decide +kernel), by decide +kernel⟩
theorem yiX8_freeFrom : Cond.instanceMethod yX8_freeFrom ∈ zTs := zIn 1296 (by decide +kernel) (by decide +kernel)
theorem yvX8_freeFrom : zYv mX8_freeFrom := ⟨yiX8_freeFrom, zIn 46 (by decide +kernel) (by decide +kernel)⟩
abbrev mX8_behind : zM := (yX8_behind, cX8_behind, 3, some .int, [])
theorem yoX8_behind : zY mX8_behind 2 := ⟨by decide +kernel, zIn 1301 (by decide +kernel) (by decide +kernel), zIn 102 (by decide +kernel) (by decide +kernel), by decide +kernel⟩
theorem yiX8_behind : Cond.instanceMethod yX8_behind ∈ zTs := zIn 1300 (by decide +kernel) (by decide +kernel)
theorem yvX8_behind : zYv mX8_behind := ⟨yiX8_behind, zIn 47 (by decide +kernel) (by decide +kernel)⟩
abbrev mX8_isFree : zM := (yX8_isFree, cX8_isFree, 2, some .boolean, [])
theorem yoX8_isFree : zY mX8_isFree 1 := ⟨by decide +kernel, zIn 1305 (by decide +kernel) (by decide +kernel), zIn 102 (by decide +kernel) (by decide +kernel), by decide +kernel⟩
theorem yiX8_isFree : Cond.instanceMethod yX8_isFree ∈ zTs := zIn 1304 (by decide +kernel) (by decide +kernel)
theorem yvX8_isFree : zYv mX8_isFree := ⟨yiX8_isFree, zIn 48 (by decide +kernel) (by decide +kernel)⟩
abbrev mX8_distance : zM := (yX8_distance, cX8_distance, 3, some .int, [])
theorem yoX8_distance : zY mX8_distance 2 := ⟨by decide +kernel, zIn 1309 (by decide +kernel) (by decide +kernel), zIn 102 (by decide +kernel) (by decide +kernel), by decide +kernel⟩
theorem yiX8_distance : Cond.instanceMethod yX8_distance ∈ zTs := zIn 1308 (by decide +kernel) (by decide +kernel)
theorem yvX8_distance : zYv mX8_distance := ⟨yiX8_distance, zIn 49 (by decide +kernel) (by decide +kernel)⟩
abbrev mX8_mover : zM := (yX8_mover, cX8_mover, 5, some .int, [])
theorem yoX8_mover : zY mX8_mover 1 := ⟨by decide +kernel, zIn 1313 (by decide +kernel) (by decide +kernel), zIn 102 (by decide +kernel) (by decide +kernel), by decide +kernel⟩
theorem yiX8_mover : Cond.instanceMethod yX8_mover ∈ zTs := zIn 1312 (by decide +kernel) (by decide +kernel)
theorem yvX8_mover : zYv mX8_mover := ⟨yiX8_mover, zIn 50 (by decide +kernel) (by decide +kernel)⟩
abbrev mX8_isOf : zM := (yX8_isOf, cX8_isOf, 3, some .boolean, [])
theorem yoX8_isOf : zY mX8_isOf 2 := ⟨by decide +kernel, zIn 1317 (by decide +kernel) (by decide +kernel), zIn 102 (by decide +kernel) (by decide +kernel), by decide +kernel⟩
theorem yiX8_isOf : Cond.instanceMethod yX8_isOf ∈ zTs := zIn 1316 (by decide +kernel) (by decide +kernel)
theorem yvX8_isOf : zYv mX8_isOf := ⟨yiX8_isOf, zIn 51 (by decide +kernel) (by decide +kernel)⟩
abbrev mX8_moves : zM := (yX8_moves, cX8_moves, 3, none, [])
theorem yoX8_moves : zY mX8_moves 2 := ⟨by decide +kernel, zIn 1321 (by decide +kernel) (by decide +kernel), zIn 102 (by decide +kernel) (by decide +kernel), by decide +kernel⟩
theorem yiX8_moves : Cond.instanceMethod yX8_moves ∈ zTs := zIn 1320 (by decide +kernel) (by decide +kernel)
theorem yvX8_moves : zYv mX8_moves := ⟨yiX8_moves, zIn 52 (by decide +kernel) (by decide +kernel)⟩
abbrev mX8_notes : zM := (yX8_notes, cX8_notes, 2, none, [])
theorem yoX8_notes : zY mX8_notes 0 := ⟨by decide +kernel, zIn 1325 (by decide +kernel) (by decide +kernel), zIn 102 (by decide +kernel) (by decide +kernel), by decide +kernel⟩
theorem yiX8_notes : Cond.instanceMethod yX8_notes ∈ zTs := zIn 1324 (by decide +kernel) (by decide +kernel)
theorem yvX8_notes : zYv mX8_notes := ⟨yiX8_notes, zIn 53 (by decide +kernel) (by decide +kernel)⟩
abbrev mX8_builds : zM := (yX8_builds, cX8_builds, 3, some .boolean, [])
theorem yoX8_builds : zY mX8_builds 1 := ⟨by decide +kernel, zIn 1329 (by decide +kernel) (by decide +kernel), zIn 102 (by decide +kernel) (by decide +kernel), by decide +kernel⟩
theorem yiX8_builds : Cond.instanceMethod yX8_builds ∈ zTs := zIn 1328 (by decide +kernel) (by decide +kernel)
theorem yvX8_builds : zYv mX8_builds := ⟨yiX8_builds, zIn 54 (by decide +kernel) (by decide +kernel)⟩
abbrev mX8_empties : zM := (yX8_empties, cX8_empties, 2, none, [])
theorem yoX8_empties : zY mX8_empties 0 := ⟨by decide +kernel, zIn 1333 (by decide +kernel) (by decide +kernel), zIn 102 (by decide +kernel) (by decide +kernel), by decide +kernel⟩
theorem yiX8_empties : Cond.instanceMethod yX8_empties ∈ zTs := zIn 1332 (by decide +kernel) (by decide +kernel)
theorem yvX8_empties : zYv mX8_empties := ⟨yiX8_empties, zIn 55 (by decide +kernel) (by decide +kernel)⟩
abbrev mX8_counts : zM := (yX8_counts, cX8_counts, 3, none, [])
theorem yoX8_counts : zY mX8_counts 1 := ⟨by decide +kernel, zIn 1337 (by decide +kernel) (by decide +kernel), zIn 102 (by decide +kernel) (by decide +kernel), by decide +kernel⟩
theorem yiX8_counts : Cond.instanceMethod yX8_counts ∈ zTs := zIn 1336 (by decide +kernel) (by decide +kernel)
theorem yvX8_counts : zYv mX8_counts := ⟨yiX8_counts, zIn 56 (by decide +kernel) (by decide +kernel)⟩
abbrev mX8_stops : zM := (yX8_stops, cX8_stops, 2, some .boolean, [])
theorem yoX8_stops : zY mX8_stops 1 := ⟨by decide +kernel, zIn 1341 (by decide +kernel) (by decide +kernel), zIn 102 (by decide +kernel) (by decide +kernel), by decide +kernel⟩
theorem yiX8_stops : Cond.instanceMethod yX8_stops ∈ zTs := zIn 1340 (by decide +kernel) (by decide +kernel)
theorem yvX8_stops : zYv mX8_stops := ⟨yiX8_stops, zIn 57 (by decide +kernel) (by decide +kernel)⟩
abbrev mX8_readsPut : zM := (yX8_readsPut, cX8_readsPut, 1, some .boolean, [])
theorem yoX8_readsPut : zY mX8_readsPut 0 := ⟨by decide +kernel, zIn 1345 (by decide +kernel) (by decide +kernel), zIn 102 (by decide +kernel) (by decide +kernel), by decide +kernel⟩
theorem yiX8_readsPut : Cond.instanceMethod yX8_readsPut ∈ zTs := zIn 1344 (by decide +kernel) (by decide +kernel)
theorem yvX8_readsPut : zYv mX8_readsPut := ⟨yiX8_readsPut, zIn 58 (by decide +kernel) (by decide +kernel)⟩
abbrev mX8_puts : zM := (yX8_puts, cX8_puts, 5, some .int, [])
theorem yoX8_puts : zY mX8_puts 2 := ⟨by decide +kernel, zIn 1349 (by decide +kernel) (by decide +kernel), zIn 102 (by decide +kernel) (by decide +kernel), by decide +kernel⟩
theorem yiX8_puts : Cond.instanceMethod yX8_puts ∈ zTs := zIn 1348 (by decide +kernel) (by decide +kernel)
theorem yvX8_puts : zYv mX8_puts := ⟨yiX8_puts, zIn 59 (by decide +kernel) (by decide +kernel)⟩
abbrev mX8_readsRow : zM := (yX8_readsRow, cX8_readsRow, 1, some .boolean, [])
theorem yoX8_readsRow : zY mX8_readsRow 0 := ⟨by decide +kernel, zIn 1353 (by decide +kernel) (by decide +kernel), zIn 102 (by decide +kernel) (by decide +kernel), by decide +kernel⟩
theorem yiX8_readsRow : Cond.instanceMethod yX8_readsRow ∈ zTs := zIn 1352 (by decide +kernel) (by decide +kernel)
theorem yvX8_readsRow : zYv mX8_readsRow := ⟨yiX8_readsRow, zIn 60 (by decide +kernel) (by decide +kernel)⟩
abbrev mX8_canRow : zM := (yX8_canRow, cX8_canRow, 5, some .boolean, [])
theorem yoX8_canRow : zY mX8_canRow 3 := ⟨by decide +kernel, zIn 1358 (by decide +kernel) (by decide +kernel), zIn 102 (by decide +kernel) (by decide +kernel), by decide +kernel⟩
theorem yiX8_canRow : Cond.instanceMethod yX8_canRow ∈ zTs := zIn 1357 (by decide +kernel) (by decide +kernel)
theorem yvX8_canRow : zYv mX8_canRow := ⟨yiX8_canRow, zIn 61 (by decide +kernel) (by decide +kernel)⟩
abbrev mX8_rows : zM := (yX8_rows, cX8_rows, 6, some .int, [])
theorem yoX8_rows : zY mX8_rows 3 := ⟨by decide +kernel, zIn 1362 (by decide +kernel) (by decide +kernel), zIn 102 (by decide +kernel) (by decide +kernel), by decide +kernel⟩
theorem yiX8_rows : Cond.instanceMethod yX8_rows ∈ zTs := zIn 1361 (by decide +kernel) (by decide +kernel)
theorem yvX8_rows : zYv mX8_rows := ⟨yiX8_rows, zIn 62 (by decide +kernel) (by decide +kernel)⟩
abbrev mX8_readsRemove : zM := (yX8_readsRemove, cX8_readsRemove, 1, some .boolean, [])
theorem yoX8_readsRemove : zY mX8_readsRemove 0 := ⟨by decide +kernel, zIn 1366 (by decide +kernel) (by decide +kernel), zIn 102 (by decide +kernel) (by decide +kernel), by decide +kernel⟩
theorem yiX8_readsRemove : Cond.instanceMethod yX8_readsRemove ∈ zTs := zIn 1365 (by decide +kernel) (by decide +kernel)
theorem yvX8_readsRemove : zYv mX8_readsRemove := ⟨yiX8_readsRemove, zIn 63 (by decide +kernel) (by decide +kernel)⟩
abbrev mX8_takesOut : zM := (yX8_takesOut, cX8_takesOut, 5, some .int, [])
theorem yoX8_takesOut : zY mX8_takesOut 1 := ⟨by decide +kernel, zIn 1370 (by decide +kernel) (by decide +kernel), zIn 102 (by decide +kernel) (by decide +kernel), by decide +kernel⟩
theorem yiX8_takesOut : Cond.instanceMethod yX8_takesOut ∈ zTs := zIn 1369 (by decide +kernel) (by decide +kernel)
theorem yvX8_takesOut : zYv mX8_takesOut := ⟨yiX8_takesOut, zIn 64 (by decide +kernel) (by decide +kernel)⟩
abbrev mX8_pulled : zM := (yX8_pulled, cX8_pulled, 5, some .int, [])
theorem yoX8_pulled : zY mX8_pulled 1 := ⟨by decide +kernel, zIn 1374 (by decide +kernel) (by decide +kernel), zIn 102 (by decide +kernel) (by decide +kernel), by decide +kernel⟩
theorem yiX8_pulled : Cond.instanceMethod yX8_pulled ∈ zTs := zIn 1373 (by decide +kernel) (by decide +kernel)
theorem yvX8_pulled : zYv mX8_pulled := ⟨yiX8_pulled, zIn 65 (by decide +kernel) (by decide +kernel)⟩
abbrev mX8_readsSetting : zM := (yX8_readsSetting, cX8_readsSetting, 4, some .boolean, [])
theorem yoX8_readsSetting : zY mX8_readsSetting 3 := ⟨by decide +kernel, zIn 1378 (by decide +kernel) (by decide +kernel), zIn 102 (by decide +kernel) (by decide +kernel), by decide +kernel⟩
theorem yiX8_readsSetting : Cond.instanceMethod yX8_readsSetting ∈ zTs := zIn 1377 (by decide +kernel) (by decide +kernel)
theorem yvX8_readsSetting : zYv mX8_readsSetting := ⟨yiX8_readsSetting, zIn 66 (by decide +kernel) (by decide +kernel)⟩
abbrev mX8_canReset : zM := (yX8_canReset, cX8_canReset, 4, some .boolean, [])
theorem yoX8_canReset : zY mX8_canReset 2 := ⟨by decide +kernel, zIn 1382 (by decide +kernel) (by decide +kernel), zIn 102 (by decide +kernel) (by decide +kernel), by decide +kernel⟩
theorem yiX8_canReset : Cond.instanceMethod yX8_canReset ∈ zTs := zIn 1381 (by decide +kernel) (by decide +kernel)
theorem yvX8_canReset : zYv mX8_canReset := ⟨yiX8_canReset, zIn 67 (by decide +kernel) (by decide +kernel)⟩
abbrev mX8_resets : zM := (yX8_resets, cX8_resets, 3, some .boolean, [])
theorem yoX8_resets : zY mX8_resets 2 := ⟨by decide +kernel, zIn 1386 (by decide +kernel) (by decide +kernel), zIn 102 (by decide +kernel) (by decide +kernel), by decide +kernel⟩
theorem yiX8_resets : Cond.instanceMethod yX8_resets ∈ zTs := zIn 1385 (by decide +kernel) (by decide +kernel)
theorem yvX8_resets : zYv mX8_resets := ⟨yiX8_resets, zIn 68 (by decide +kernel) (by decide +kernel)⟩
abbrev mX8_rebuilds : zM := (yX8_rebuilds, cX8_rebuilds, 4, some .boolean, [])
theorem yoX8_rebuilds : zY mX8_rebuilds 1 := ⟨by decide +kernel, zIn 1390 (by decide +kernel) (by decide +kernel), zIn 102 (by decide +kernel) (by decide +kernel), by decide +kernel⟩
theorem yiX8_rebuilds : Cond.instanceMethod yX8_rebuilds ∈ zTs := zIn 1389 (by decide +kernel) (by decide +kernel)
theorem yvX8_rebuilds : zYv mX8_rebuilds := ⟨yiX8_rebuilds, zIn 69 (by decide +kernel) (by decide +kernel)⟩
abbrev mX8_readsPulling : zM := (yX8_readsPulling, cX8_readsPulling, 2, some .boolean, [])
theorem yoX8_readsPulling : zY mX8_readsPulling 1 := ⟨by decide +kernel, zIn 1394 (by decide +kernel) (by decide +kernel), zIn 102 (by decide +kernel) (by decide +kernel), by decide +kernel⟩
theorem yiX8_readsPulling : Cond.instanceMethod yX8_readsPulling ∈ zTs := zIn 1393 (by decide +kernel) (by decide +kernel)
theorem yvX8_readsPulling : zYv mX8_readsPulling := ⟨yiX8_readsPulling, zIn 70 (by decide +kernel) (by decide +kernel)⟩
abbrev mX8_readsGrow : zM := (yX8_readsGrow, cX8_readsGrow, 1, some .boolean, [])
theorem yoX8_readsGrow : zY mX8_readsGrow 0 := ⟨by decide +kernel, zIn 1398 (by decide +kernel) (by decide +kernel), zIn 102 (by decide +kernel) (by decide +kernel), by decide +kernel⟩
theorem yiX8_readsGrow : Cond.instanceMethod yX8_readsGrow ∈ zTs := zIn 1397 (by decide +kernel) (by decide +kernel)
theorem yvX8_readsGrow : zYv mX8_readsGrow := ⟨yiX8_readsGrow, zIn 71 (by decide +kernel) (by decide +kernel)⟩
abbrev mX8_canGrow : zM := (yX8_canGrow, cX8_canGrow, 2, some .boolean, [])
theorem yoX8_canGrow : zY mX8_canGrow 0 := ⟨by decide +kernel, zIn 1402 (by decide +kernel) (by decide +kernel), zIn 102 (by decide +kernel) (by decide +kernel), by decide +kernel⟩
theorem yiX8_canGrow : Cond.instanceMethod yX8_canGrow ∈ zTs := zIn 1401 (by decide +kernel) (by decide +kernel)
theorem yvX8_canGrow : zYv mX8_canGrow := ⟨yiX8_canGrow, zIn 72 (by decide +kernel) (by decide +kernel)⟩
abbrev mX8_grows : zM := (yX8_grows, cX8_grows, 1, some .int, [])
theorem yoX8_grows : zY mX8_grows 0 := ⟨by decide +kernel, zIn 1406 (by decide +kernel) (by decide +kernel), zIn 102 (by decide +kernel) (by decide +kernel), by decide +kernel⟩
theorem yiX8_grows : Cond.instanceMethod yX8_grows ∈ zTs := zIn 1405 (by decide +kernel) (by decide +kernel)
theorem yvX8_grows : zYv mX8_grows := ⟨yiX8_grows, zIn 73 (by decide +kernel) (by decide +kernel)⟩
abbrev mX8_readsClear : zM := (yX8_readsClear, cX8_readsClear, 1, some .boolean, [])
theorem yoX8_readsClear : zY mX8_readsClear 0 := ⟨by decide +kernel, zIn 1410 (by decide +kernel) (by decide +kernel), zIn 102 (by decide +kernel) (by decide +kernel), by decide +kernel⟩
theorem yiX8_readsClear : Cond.instanceMethod yX8_readsClear ∈ zTs := zIn 1409 (by decide +kernel) (by decide +kernel)
theorem yvX8_readsClear : zYv mX8_readsClear := ⟨yiX8_readsClear, zIn 74 (by decide +kernel) (by decide +kernel)⟩
abbrev mX8_clears : zM := (yX8_clears, cX8_clears, 2, some .int, [])
theorem yoX8_clears : zY mX8_clears 0 := ⟨by decide +kernel, zIn 1414 (by decide +kernel) (by decide +kernel), zIn 102 (by decide +kernel) (by decide +kernel), by decide +kernel⟩
theorem yiX8_clears : Cond.instanceMethod yX8_clears ∈ zTs := zIn 1413 (by decide +kernel) (by decide +kernel)
theorem yvX8_clears : zYv mX8_clears := ⟨yiX8_clears, zIn 75 (by decide +kernel) (by decide +kernel)⟩
abbrev mX8_entries : zM := (yX8_entries, cX8_entries, 3, some .int, [])
theorem yoX8_entries : zY mX8_entries 0 := ⟨by decide +kernel, zIn 1418 (by decide +kernel) (by decide +kernel), zIn 102 (by decide +kernel) (by decide +kernel), by decide +kernel⟩
theorem yiX8_entries : Cond.instanceMethod yX8_entries ∈ zTs := zIn 1417 (by decide +kernel) (by decide +kernel)
theorem yvX8_entries : zYv mX8_entries := ⟨yiX8_entries, zIn 76 (by decide +kernel) (by decide +kernel)⟩
abbrev mX8_thrown : zM := (yX8_thrown, cX8_thrown, 1, some .int, [])
theorem yoX8_thrown : zY mX8_thrown 0 := ⟨by decide +kernel, zIn 1505 (by decide +kernel) (by decide +kernel), zIn 102 (by decide +kernel) (by decide +kernel), by decide +kernel⟩
theorem yiX8_thrown : Cond.instanceMethod yX8_thrown ∈ zTs := zIn 1503 (by decide +kernel) (by decide +kernel)
theorem yvX8_thrown : zYv mX8_thrown := ⟨yiX8_thrown, zIn 1504 (by decide +kernel) (by decide +kernel)⟩
abbrev mX8_append : zM := (yX8_append, cX8_append, 6, some .int, [])
theorem yoX8_append : zY mX8_append 5 := ⟨by decide +kernel, zIn 1509 (by decide +kernel) (by decide +kernel), zIn 102 (by decide +kernel) (by decide +kernel), by decide +kernel⟩
theorem yiX8_append : Cond.instanceMethod yX8_append ∈ zTs := zIn 1507 (by decide +kernel) (by decide +kernel)
theorem yvX8_append : zYv mX8_append := ⟨yiX8_append, zIn 1508 (by decide +kernel) (by decide +kernel)⟩
abbrev mX8_type : zM := (yX8_type, cX8_type, 3, none, [])
theorem yoX8_type : zY mX8_type 1 := ⟨by decide +kernel, zIn 1513 (by decide +kernel) (by decide +kernel), zIn 102 (by decide +kernel) (by decide +kernel), by decide +kernel⟩
theorem yiX8_type : Cond.instanceMethod yX8_type ∈ zTs := zIn 1512 (by decide +kernel) (by decide +kernel)
theorem yvX8_type : zYv mX8_type := ⟨yiX8_type, zIn 77 (by decide +kernel) (by decide +kernel)⟩
abbrev mX8_truncateInput : zM := (yX8_truncateInput, cX8_truncateInput, 2, some .int, [])
theorem yoX8_truncateInput : zY mX8_truncateInput 1 := ⟨by decide +kernel, zIn 1517 (by decide +kernel) (by decide +kernel), zIn 102 (by decide +kernel) (by decide +kernel), by decide +kernel⟩
theorem yiX8_truncateInput : Cond.instanceMethod yX8_truncateInput ∈ zTs := zIn 1515 (by decide +kernel) (by decide +kernel)
theorem yvX8_truncateInput : zYv mX8_truncateInput := ⟨yiX8_truncateInput, zIn 1516 (by decide +kernel) (by decide +kernel)⟩
abbrev mX8_throwsOne : zM := (yX8_throwsOne, cX8_throwsOne, 2, some .boolean, [])
theorem yoX8_throwsOne : zY mX8_throwsOne 1 := ⟨by decide +kernel, zIn 1521 (by decide +kernel) (by decide +kernel), zIn 102 (by decide +kernel) (by decide +kernel), by decide +kernel⟩
theorem yiX8_throwsOne : Cond.instanceMethod yX8_throwsOne ∈ zTs := zIn 1520 (by decide +kernel) (by decide +kernel)
theorem yvX8_throwsOne : zYv mX8_throwsOne := ⟨yiX8_throwsOne, zIn 78 (by decide +kernel) (by decide +kernel)⟩
abbrev mX8_runScript : zM := (yX8_runScript, cX8_runScript, 2, some .int, [])
theorem yoX8_runScript : zY mX8_runScript 0 := ⟨by decide +kernel, zIn 1525 (by decide +kernel) (by decide +kernel), zIn 102 (by decide +kernel) (by decide +kernel), by decide +kernel⟩
theorem yiX8_runScript : Cond.instanceMethod yX8_runScript ∈ zTs := zIn 1523 (by decide +kernel) (by decide +kernel)
theorem yvX8_runScript : zYv mX8_runScript := ⟨yiX8_runScript, zIn 1524 (by decide +kernel) (by decide +kernel)⟩
abbrev mX8_begins : zM := (yX8_begins, cX8_begins, 2, none, [])
theorem yoX8_begins : zY mX8_begins 0 := ⟨by decide +kernel, zIn 1529 (by decide +kernel) (by decide +kernel), zIn 102 (by decide +kernel) (by decide +kernel), by decide +kernel⟩
theorem yiX8_begins : Cond.instanceMethod yX8_begins ∈ zTs := zIn 1528 (by decide +kernel) (by decide +kernel)
theorem yvX8_begins : zYv mX8_begins := ⟨yiX8_begins, zIn 79 (by decide +kernel) (by decide +kernel)⟩
abbrev mX8_remember : zM := (yX8_remember, cX8_remember, 3, some .int, [])
theorem yoX8_remember : zY mX8_remember 1 := ⟨by decide +kernel, zIn 1533 (by decide +kernel) (by decide +kernel), zIn 102 (by decide +kernel) (by decide +kernel), by decide +kernel⟩
theorem yiX8_remember : Cond.instanceMethod yX8_remember ∈ zTs := zIn 1532 (by decide +kernel) (by decide +kernel)
theorem yvX8_remember : zYv mX8_remember := ⟨yiX8_remember, zIn 80 (by decide +kernel) (by decide +kernel)⟩
abbrev mX8_add : zM := (yX8_add, cX8_add, 4, some .int, [])
theorem yoX8_add : zY mX8_add 2 := ⟨by decide +kernel, zIn 1537 (by decide +kernel) (by decide +kernel), zIn 102 (by decide +kernel) (by decide +kernel), by decide +kernel⟩
theorem yiX8_add : Cond.instanceMethod yX8_add ∈ zTs := zIn 1535 (by decide +kernel) (by decide +kernel)
theorem yvX8_add : zYv mX8_add := ⟨yiX8_add, zIn 1536 (by decide +kernel) (by decide +kernel)⟩
abbrev mX8_isEntry : zM := (yX8_isEntry, cX8_isEntry, 2, some .boolean, [])
theorem yoX8_isEntry : zY mX8_isEntry 2 := ⟨by decide +kernel, zIn 1540 (by decide +kernel) (by decide +kernel), zIn 102 (by decide +kernel) (by decide +kernel), by decide +kernel⟩
theorem ysX8_isEntry : Cond.static yX8_isEntry ∈ zTs := zIn 1539 (by decide +kernel) (by decide +kernel)
abbrev mX8_isKey : zM := (yX8_isKey, cX8_isKey, 1, some .boolean, [])
theorem yoX8_isKey : zY mX8_isKey 1 := ⟨by decide +kernel, zIn 1543 (by decide +kernel) (by decide +kernel), zIn 102 (by decide +kernel) (by decide +kernel), by decide +kernel⟩
theorem ysX8_isKey : Cond.static yX8_isKey ∈ zTs := zIn 1542 (by decide +kernel) (by decide +kernel)
abbrev mX8_throwsOne_ : zM := (yX8_throwsOne_, cX8_throwsOne_, 3, some .boolean, [])
theorem yoX8_throwsOne_ : zY mX8_throwsOne_ 2 := ⟨by decide +kernel, zIn 1547 (by decide +kernel) (by decide +kernel), zIn 102 (by decide +kernel) (by decide +kernel), by decide +kernel⟩
theorem yiX8_throwsOne_ : Cond.instanceMethod yX8_throwsOne_ ∈ zTs := zIn 1546 (by decide +kernel) (by decide +kernel)
theorem yvX8_throwsOne_ : zYv mX8_throwsOne_ := ⟨yiX8_throwsOne_, zIn 81 (by decide +kernel) (by decide +kernel)⟩
abbrev mX8_put : zM := (yX8_put, cX8_put, 4, some .int, [])
theorem yoX8_put : zY mX8_put 2 := ⟨by decide +kernel, zIn 1551 (by decide +kernel) (by decide +kernel), zIn 102 (by decide +kernel) (by decide +kernel), by decide +kernel⟩
theorem yiX8_put : Cond.instanceMethod yX8_put ∈ zTs := zIn 1549 (by decide +kernel) (by decide +kernel)
theorem yvX8_put : zYv mX8_put := ⟨yiX8_put, zIn 1550 (by decide +kernel) (by decide +kernel)⟩
abbrev mX8_addRow : zM := (yX8_addRow, cX8_addRow, 5, some .int, [])
theorem yoX8_addRow : zY mX8_addRow 3 := ⟨by decide +kernel, zIn 1555 (by decide +kernel) (by decide +kernel), zIn 102 (by decide +kernel) (by decide +kernel), by decide +kernel⟩
theorem yiX8_addRow : Cond.instanceMethod yX8_addRow ∈ zTs := zIn 1553 (by decide +kernel) (by decide +kernel)
theorem yvX8_addRow : zYv mX8_addRow := ⟨yiX8_addRow, zIn 1554 (by decide +kernel) (by decide +kernel)⟩
abbrev mX8_remove : zM := (yX8_remove, cX8_remove, 2, some .int, [])
theorem yoX8_remove : zY mX8_remove 1 := ⟨by decide +kernel, zIn 1559 (by decide +kernel) (by decide +kernel), zIn 102 (by decide +kernel) (by decide +kernel), by decide +kernel⟩
theorem yiX8_remove : Cond.instanceMethod yX8_remove ∈ zTs := zIn 1557 (by decide +kernel) (by decide +kernel)
theorem yvX8_remove : zYv mX8_remove := ⟨yiX8_remove, zIn 1558 (by decide +kernel) (by decide +kernel)⟩
abbrev mX8_setNeighbourhood : zM := (yX8_setNeighbourhood, cX8_setNeighbourhood, 3, some .int, [])
theorem yoX8_setNeighbourhood : zY mX8_setNeighbourhood 1 := ⟨by decide +kernel, zIn 1563 (by decide +kernel) (by decide +kernel), zIn 102 (by decide +kernel) (by decide +kernel), by decide +kernel⟩
theorem yiX8_setNeighbourhood : Cond.instanceMethod yX8_setNeighbourhood ∈ zTs := zIn 1561 (by decide +kernel) (by decide +kernel)
theorem yvX8_setNeighbourhood : zYv mX8_setNeighbourhood := ⟨yiX8_setNeighbourhood, zIn 1562 (by decide +kernel) (by decide +kernel)⟩
abbrev mX8_reset : zM := (yX8_reset, cX8_reset, 3, some .int, [])
theorem yoX8_reset : zY mX8_reset 2 := ⟨by decide +kernel, zIn 1567 (by decide +kernel) (by decide +kernel), zIn 102 (by decide +kernel) (by decide +kernel), by decide +kernel⟩
theorem yiX8_reset : Cond.instanceMethod yX8_reset ∈ zTs := zIn 1566 (by decide +kernel) (by decide +kernel)
theorem yvX8_reset : zYv mX8_reset := ⟨yiX8_reset, zIn 82 (by decide +kernel) (by decide +kernel)⟩
abbrev mX8_setMultiplier : zM := (yX8_setMultiplier, cX8_setMultiplier, 3, some .int, [])
theorem yoX8_setMultiplier : zY mX8_setMultiplier 1 := ⟨by decide +kernel, zIn 1571 (by decide +kernel) (by decide +kernel), zIn 102 (by decide +kernel) (by decide +kernel), by decide +kernel⟩
theorem yiX8_setMultiplier : Cond.instanceMethod yX8_setMultiplier ∈ zTs := zIn 1569 (by decide +kernel) (by decide +kernel)
theorem yvX8_setMultiplier : zYv mX8_setMultiplier := ⟨yiX8_setMultiplier, zIn 1570 (by decide +kernel) (by decide +kernel)⟩
abbrev mX8_setPulling : zM := (yX8_setPulling, cX8_setPulling, 3, some .boolean, [])
theorem yoX8_setPulling : zY mX8_setPulling 1 := ⟨by decide +kernel, zIn 1575 (by decide +kernel) (by decide +kernel), zIn 102 (by decide +kernel) (by decide +kernel), by decide +kernel⟩
theorem yiX8_setPulling : Cond.instanceMethod yX8_setPulling ∈ zTs := zIn 1573 (by decide +kernel) (by decide +kernel)
theorem yvX8_setPulling : zYv mX8_setPulling := ⟨yiX8_setPulling, zIn 1574 (by decide +kernel) (by decide +kernel)⟩
abbrev mX8_grow : zM := (yX8_grow, cX8_grow, 1, some .int, [])
theorem yoX8_grow : zY mX8_grow 0 := ⟨by decide +kernel, zIn 1579 (by decide +kernel) (by decide +kernel), zIn 102 (by decide +kernel) (by decide +kernel), by decide +kernel⟩
theorem yiX8_grow : Cond.instanceMethod yX8_grow ∈ zTs := zIn 1577 (by decide +kernel) (by decide +kernel)
theorem yvX8_grow : zYv mX8_grow := ⟨yiX8_grow, zIn 1578 (by decide +kernel) (by decide +kernel)⟩
abbrev mX8_clear : zM := (yX8_clear, cX8_clear, 1, some .int, [])
theorem yoX8_clear : zY mX8_clear 0 := ⟨by decide +kernel, zIn 1583 (by decide +kernel) (by decide +kernel), zIn 102 (by decide +kernel) (by decide +kernel), by decide +kernel⟩
theorem yiX8_clear : Cond.instanceMethod yX8_clear ∈ zTs := zIn 1581 (by decide +kernel) (by decide +kernel)
theorem yvX8_clear : zYv mX8_clear := ⟨yiX8_clear, zIn 1582 (by decide +kernel) (by decide +kernel)⟩
abbrev mX8_undo : zM := (yX8_undo, cX8_undo, 2, some .int, [])
theorem yoX8_undo : zY mX8_undo 0 := ⟨by decide +kernel, zIn 1587 (by decide +kernel) (by decide +kernel), zIn 102 (by decide +kernel) (by decide +kernel), by decide +kernel⟩
theorem yiX8_undo : Cond.instanceMethod yX8_undo ∈ zTs := zIn 1585 (by decide +kernel) (by decide +kernel)
theorem yvX8_undo : zYv mX8_undo := ⟨yiX8_undo, zIn 1586 (by decide +kernel) (by decide +kernel)⟩
abbrev mX8_undoCount : zM := (yX8_undoCount, cX8_undoCount, 1, some .int, [])
theorem yoX8_undoCount : zY mX8_undoCount 0 := ⟨by decide +kernel, zIn 1591 (by decide +kernel) (by decide +kernel), zIn 102 (by decide +kernel) (by decide +kernel), by decide +kernel⟩
theorem yiX8_undoCount : Cond.instanceMethod yX8_undoCount ∈ zTs := zIn 1589 (by decide +kernel) (by decide +kernel)
theorem yvX8_undoCount : zYv mX8_undoCount := ⟨yiX8_undoCount, zIn 1590 (by decide +kernel) (by decide +kernel)⟩
abbrev mX8_saveSnapshot : zM := (yX8_saveSnapshot, cX8_saveSnapshot, 2, some .int, [])
theorem yoX8_saveSnapshot : zY mX8_saveSnapshot 0 := ⟨by decide +kernel, zIn 1595 (by decide +kernel) (by decide +kernel), zIn 102 (by decide +kernel) (by decide +kernel), by decide +kernel⟩
theorem yiX8_saveSnapshot : Cond.instanceMethod yX8_saveSnapshot ∈ zTs := zIn 1593 (by decide +kernel) (by decide +kernel)
theorem yvX8_saveSnapshot : zYv mX8_saveSnapshot := ⟨yiX8_saveSnapshot, zIn 1594 (by decide +kernel) (by decide +kernel)⟩
abbrev mX8_restoreSnapshot : zM := (yX8_restoreSnapshot, cX8_restoreSnapshot, 2, some .int, [])
theorem yoX8_restoreSnapshot : zY mX8_restoreSnapshot 0 := ⟨by decide +kernel, zIn 1599 (by decide +kernel) (by decide +kernel), zIn 102 (by decide +kernel) (by decide +kernel), by decide +kernel⟩
theorem yiX8_restoreSnapshot : Cond.instanceMethod yX8_restoreSnapshot ∈ zTs := zIn 1597 (by decide +kernel) (by decide +kernel)
theorem yvX8_restoreSnapshot : zYv mX8_restoreSnapshot := ⟨yiX8_restoreSnapshot, zIn 1598 (by decide +kernel) (by decide +kernel)⟩
abbrev mX8_scriptErrorKind : zM := (yX8_scriptErrorKind, cX8_scriptErrorKind, 1, some .int, [])
theorem yoX8_scriptErrorKind : zY mX8_scriptErrorKind 0 := ⟨by decide +kernel, zIn 1603 (by decide +kernel) (by decide +kernel), zIn 102 (by decide +kernel) (by decide +kernel), by decide +kernel⟩
theorem yiX8_scriptErrorKind : Cond.instanceMethod yX8_scriptErrorKind ∈ zTs := zIn 1601 (by decide +kernel) (by decide +kernel)
theorem yvX8_scriptErrorKind : zYv mX8_scriptErrorKind := ⟨yiX8_scriptErrorKind, zIn 1602 (by decide +kernel) (by decide +kernel)⟩
abbrev mX8_scriptErrorOffset : zM := (yX8_scriptErrorOffset, cX8_scriptErrorOffset, 1, some .int, [])
theorem yoX8_scriptErrorOffset : zY mX8_scriptErrorOffset 0 := ⟨by decide +kernel, zIn 1607 (by decide +kernel) (by decide +kernel), zIn 102 (by decide +kernel) (by decide +kernel), by decide +kernel⟩
theorem yiX8_scriptErrorOffset : Cond.instanceMethod yX8_scriptErrorOffset ∈ zTs := zIn 1605 (by decide +kernel) (by decide +kernel)
theorem yvX8_scriptErrorOffset : zYv mX8_scriptErrorOffset := ⟨yiX8_scriptErrorOffset, zIn 1606 (by decide +kernel) (by decide +kernel)⟩
abbrev mX8_bucketCount : zM := (yX8_bucketCount, cX8_bucketCount, 1, some .int, [])
theorem yoX8_bucketCount : zY mX8_bucketCount 0 := ⟨by decide +kernel, zIn 1611 (by decide +kernel) (by decide +kernel), zIn 102 (by decide +kernel) (by decide +kernel), by decide +kernel⟩
theorem yiX8_bucketCount : Cond.instanceMethod yX8_bucketCount ∈ zTs := zIn 1609 (by decide +kernel) (by decide +kernel)
theorem yvX8_bucketCount : zYv mX8_bucketCount := ⟨yiX8_bucketCount, zIn 1610 (by decide +kernel) (by decide +kernel)⟩
abbrev mX8_told : zM := (yX8_told, cX8_told, 2, some .int, [])
theorem yoX8_told : zY mX8_told 1 := ⟨by decide +kernel, zIn 1615 (by decide +kernel) (by decide +kernel), zIn 102 (by decide +kernel) (by decide +kernel), by decide +kernel⟩
theorem yiX8_told : Cond.instanceMethod yX8_told ∈ zTs := zIn 1614 (by decide +kernel) (by decide +kernel)
theorem yvX8_told : zYv mX8_told := ⟨yiX8_told, zIn 83 (by decide +kernel) (by decide +kernel)⟩
abbrev mX8_entryCount : zM := (yX8_entryCount, cX8_entryCount, 1, some .int, [])
theorem yoX8_entryCount : zY mX8_entryCount 0 := ⟨by decide +kernel, zIn 1619 (by decide +kernel) (by decide +kernel), zIn 102 (by decide +kernel) (by decide +kernel), by decide +kernel⟩
theorem yiX8_entryCount : Cond.instanceMethod yX8_entryCount ∈ zTs := zIn 1617 (by decide +kernel) (by decide +kernel)
theorem yvX8_entryCount : zYv mX8_entryCount := ⟨yiX8_entryCount, zIn 1618 (by decide +kernel) (by decide +kernel)⟩
abbrev mX8_neighbourhood : zM := (yX8_neighbourhood, cX8_neighbourhood, 1, some .int, [])
theorem yoX8_neighbourhood : zY mX8_neighbourhood 0 := ⟨by decide +kernel, zIn 1623 (by decide +kernel) (by decide +kernel), zIn 102 (by decide +kernel) (by decide +kernel), by decide +kernel⟩
theorem yiX8_neighbourhood : Cond.instanceMethod yX8_neighbourhood ∈ zTs := zIn 1621 (by decide +kernel) (by decide +kernel)
theorem yvX8_neighbourhood : zYv mX8_neighbourhood := ⟨yiX8_neighbourhood, zIn 1622 (by decide +kernel) (by decide +kernel)⟩
abbrev mX8_multiplier : zM := (yX8_multiplier, cX8_multiplier, 1, some .int, [])
theorem yoX8_multiplier : zY mX8_multiplier 0 := ⟨by decide +kernel, zIn 1627 (by decide +kernel) (by decide +kernel), zIn 102 (by decide +kernel) (by decide +kernel), by decide +kernel⟩
theorem yiX8_multiplier : Cond.instanceMethod yX8_multiplier ∈ zTs := zIn 1625 (by decide +kernel) (by decide +kernel)
theorem yvX8_multiplier : zYv mX8_multiplier := ⟨yiX8_multiplier, zIn 1626 (by decide +kernel) (by decide +kernel)⟩
abbrev mX8_isPulling : zM := (yX8_isPulling, cX8_isPulling, 1, some .boolean, [])
theorem yoX8_isPulling : zY mX8_isPulling 0 := ⟨by decide +kernel, zIn 1631 (by decide +kernel) (by decide +kernel), zIn 102 (by decide +kernel) (by decide +kernel), by decide +kernel⟩
theorem yiX8_isPulling : Cond.instanceMethod yX8_isPulling ∈ zTs := zIn 1629 (by decide +kernel) (by decide +kernel)
theorem yvX8_isPulling : zYv mX8_isPulling := ⟨yiX8_isPulling, zIn 1630 (by decide +kernel) (by decide +kernel)⟩
abbrev mX8_keyAt : zM := (yX8_keyAt, cX8_keyAt, 2, some .int, [])
theorem yoX8_keyAt : zY mX8_keyAt 1 := ⟨by decide +kernel, zIn 1635 (by decide +kernel) (by decide +kernel), zIn 102 (by decide +kernel) (by decide +kernel), by decide +kernel⟩
theorem yiX8_keyAt : Cond.instanceMethod yX8_keyAt ∈ zTs := zIn 1633 (by decide +kernel) (by decide +kernel)
theorem yvX8_keyAt : zYv mX8_keyAt := ⟨yiX8_keyAt, zIn 1634 (by decide +kernel) (by decide +kernel)⟩
abbrev mX8_isBucket : zM := (yX8_isBucket, cX8_isBucket, 2, some .boolean, [])
theorem yoX8_isBucket : zY mX8_isBucket 1 := ⟨by decide +kernel, zIn 1639 (by decide +kernel) (by decide +kernel), zIn 102 (by decide +kernel) (by decide +kernel), by decide +kernel⟩
theorem yiX8_isBucket : Cond.instanceMethod yX8_isBucket ∈ zTs := zIn 1638 (by decide +kernel) (by decide +kernel)
theorem yvX8_isBucket : zYv mX8_isBucket := ⟨yiX8_isBucket, zIn 84 (by decide +kernel) (by decide +kernel)⟩
abbrev mX8_valueAt : zM := (yX8_valueAt, cX8_valueAt, 2, some .int, [])
theorem yoX8_valueAt : zY mX8_valueAt 1 := ⟨by decide +kernel, zIn 1643 (by decide +kernel) (by decide +kernel), zIn 102 (by decide +kernel) (by decide +kernel), by decide +kernel⟩
theorem yiX8_valueAt : Cond.instanceMethod yX8_valueAt ∈ zTs := zIn 1641 (by decide +kernel) (by decide +kernel)
theorem yvX8_valueAt : zYv mX8_valueAt := ⟨yiX8_valueAt, zIn 1642 (by decide +kernel) (by decide +kernel)⟩
abbrev mX8_hopBits : zM := (yX8_hopBits, cX8_hopBits, 2, some .int, [])
theorem yoX8_hopBits : zY mX8_hopBits 1 := ⟨by decide +kernel, zIn 1647 (by decide +kernel) (by decide +kernel), zIn 102 (by decide +kernel) (by decide +kernel), by decide +kernel⟩
theorem yiX8_hopBits : Cond.instanceMethod yX8_hopBits ∈ zTs := zIn 1645 (by decide +kernel) (by decide +kernel)
theorem yvX8_hopBits : zYv mX8_hopBits := ⟨yiX8_hopBits, zIn 1646 (by decide +kernel) (by decide +kernel)⟩
abbrev mX8_hops : zM := (yX8_hops, cX8_hops, 4, some .int, [])
theorem yoX8_hops : zY mX8_hops 1 := ⟨by decide +kernel, zIn 1651 (by decide +kernel) (by decide +kernel), zIn 102 (by decide +kernel) (by decide +kernel), by decide +kernel⟩
theorem yiX8_hops : Cond.instanceMethod yX8_hops ∈ zTs := zIn 1650 (by decide +kernel) (by decide +kernel)
theorem yvX8_hops : zYv mX8_hops := ⟨yiX8_hops, zIn 85 (by decide +kernel) (by decide +kernel)⟩
abbrev mX8_entriesOf : zM := (yX8_entriesOf, cX8_entriesOf, 2, some .int, [])
theorem yoX8_entriesOf : zY mX8_entriesOf 1 := ⟨by decide +kernel, zIn 1655 (by decide +kernel) (by decide +kernel), zIn 102 (by decide +kernel) (by decide +kernel), by decide +kernel⟩
theorem yiX8_entriesOf : Cond.instanceMethod yX8_entriesOf ∈ zTs := zIn 1653 (by decide +kernel) (by decide +kernel)
theorem yvX8_entriesOf : zYv mX8_entriesOf := ⟨yiX8_entriesOf, zIn 1654 (by decide +kernel) (by decide +kernel)⟩
abbrev mX8_manyOf : zM := (yX8_manyOf, cX8_manyOf, 4, some .int, [])
theorem yoX8_manyOf : zY mX8_manyOf 1 := ⟨by decide +kernel, zIn 1659 (by decide +kernel) (by decide +kernel), zIn 102 (by decide +kernel) (by decide +kernel), by decide +kernel⟩
theorem yiX8_manyOf : Cond.instanceMethod yX8_manyOf ∈ zTs := zIn 1658 (by decide +kernel) (by decide +kernel)
theorem yvX8_manyOf : zYv mX8_manyOf := ⟨yiX8_manyOf, zIn 86 (by decide +kernel) (by decide +kernel)⟩
abbrev mX8_freeDistance : zM := (yX8_freeDistance, cX8_freeDistance, 2, some .int, [])
theorem yoX8_freeDistance : zY mX8_freeDistance 1 := ⟨by decide +kernel, zIn 1663 (by decide +kernel) (by decide +kernel), zIn 102 (by decide +kernel) (by decide +kernel), by decide +kernel⟩
theorem yiX8_freeDistance : Cond.instanceMethod yX8_freeDistance ∈ zTs := zIn 1661 (by decide +kernel) (by decide +kernel)
theorem yvX8_freeDistance : zYv mX8_freeDistance := ⟨yiX8_freeDistance, zIn 1662 (by decide +kernel) (by decide +kernel)⟩
abbrev mX8_longestRun : zM := (yX8_longestRun, cX8_longestRun, 4, some .int, [])
theorem yoX8_longestRun : zY mX8_longestRun 0 := ⟨by decide +kernel, zIn 1667 (by decide +kernel) (by decide +kernel), zIn 102 (by decide +kernel) (by decide +kernel), by decide +kernel⟩
theorem yiX8_longestRun : Cond.instanceMethod yX8_longestRun ∈ zTs := zIn 1665 (by decide +kernel) (by decide +kernel)
theorem yvX8_longestRun : zYv mX8_longestRun := ⟨yiX8_longestRun, zIn 1666 (by decide +kernel) (by decide +kernel)⟩
abbrev mX8_fullestHome : zM := (yX8_fullestHome, cX8_fullestHome, 3, some .int, [])
theorem yoX8_fullestHome : zY mX8_fullestHome 0 := ⟨by decide +kernel, zIn 1672 (by decide +kernel) (by decide +kernel), zIn 102 (by decide +kernel) (by decide +kernel), by decide +kernel⟩
theorem yiX8_fullestHome : Cond.instanceMethod yX8_fullestHome ∈ zTs := zIn 1670 (by decide +kernel) (by decide +kernel)
theorem yvX8_fullestHome : zYv mX8_fullestHome := ⟨yiX8_fullestHome, zIn 1671 (by decide +kernel) (by decide +kernel)⟩
abbrev mX8_homeOf : zM := (yX8_homeOf, cX8_homeOf, 2, some .int, [])
theorem yoX8_homeOf : zY mX8_homeOf 1 := ⟨by decide +kernel, zIn 1676 (by decide +kernel) (by decide +kernel), zIn 102 (by decide +kernel) (by decide +kernel), by decide +kernel⟩
theorem yiX8_homeOf : Cond.instanceMethod yX8_homeOf ∈ zTs := zIn 1674 (by decide +kernel) (by decide +kernel)
theorem yvX8_homeOf : zYv mX8_homeOf := ⟨yiX8_homeOf, zIn 1675 (by decide +kernel) (by decide +kernel)⟩
abbrev mX8_bucketOf : zM := (yX8_bucketOf, cX8_bucketOf, 2, some .int, [])
theorem yoX8_bucketOf : zY mX8_bucketOf 1 := ⟨by decide +kernel, zIn 1680 (by decide +kernel) (by decide +kernel), zIn 102 (by decide +kernel) (by decide +kernel), by decide +kernel⟩
theorem yiX8_bucketOf : Cond.instanceMethod yX8_bucketOf ∈ zTs := zIn 1678 (by decide +kernel) (by decide +kernel)
theorem yvX8_bucketOf : zYv mX8_bucketOf := ⟨yiX8_bucketOf, zIn 1679 (by decide +kernel) (by decide +kernel)⟩
abbrev mX8_valueOf : zM := (yX8_valueOf, cX8_valueOf, 3, some .int, [])
theorem yoX8_valueOf : zY mX8_valueOf 1 := ⟨by decide +kernel, zIn 1684 (by decide +kernel) (by decide +kernel), zIn 102 (by decide +kernel) (by decide +kernel), by decide +kernel⟩
theorem yiX8_valueOf : Cond.instanceMethod yX8_valueOf ∈ zTs := zIn 1682 (by decide +kernel) (by decide +kernel)
theorem yvX8_valueOf : zYv mX8_valueOf := ⟨yiX8_valueOf, zIn 1683 (by decide +kernel) (by decide +kernel)⟩
abbrev mX8_distanceOf : zM := (yX8_distanceOf, cX8_distanceOf, 3, some .int, [])
theorem yoX8_distanceOf : zY mX8_distanceOf 1 := ⟨by decide +kernel, zIn 1688 (by decide +kernel) (by decide +kernel), zIn 102 (by decide +kernel) (by decide +kernel), by decide +kernel⟩
theorem yiX8_distanceOf : Cond.instanceMethod yX8_distanceOf ∈ zTs := zIn 1686 (by decide +kernel) (by decide +kernel)
theorem yvX8_distanceOf : zYv mX8_distanceOf := ⟨yiX8_distanceOf, zIn 1687 (by decide +kernel) (by decide +kernel)⟩
abbrev mX8_off : zM := (yX8_off, cX8_off, 2, some .int, [])
theorem yoX8_off : zY mX8_off 1 := ⟨by decide +kernel, zIn 1692 (by decide +kernel) (by decide +kernel), zIn 102 (by decide +kernel) (by decide +kernel), by decide +kernel⟩
theorem yiX8_off : Cond.instanceMethod yX8_off ∈ zTs := zIn 1691 (by decide +kernel) (by decide +kernel)
theorem yvX8_off : zYv mX8_off := ⟨yiX8_off, zIn 87 (by decide +kernel) (by decide +kernel)⟩
abbrev mX8_looksFor : zM := (yX8_looksFor, cX8_looksFor, 6, some .int, [])
theorem yoX8_looksFor : zY mX8_looksFor 1 := ⟨by decide +kernel, zIn 1696 (by decide +kernel) (by decide +kernel), zIn 102 (by decide +kernel) (by decide +kernel), by decide +kernel⟩
theorem yiX8_looksFor : Cond.instanceMethod yX8_looksFor ∈ zTs := zIn 1694 (by decide +kernel) (by decide +kernel)
theorem yvX8_looksFor : zYv mX8_looksFor := ⟨yiX8_looksFor, zIn 1695 (by decide +kernel) (by decide +kernel)⟩
abbrev mX8_longestDistance : zM := (yX8_longestDistance, cX8_longestDistance, 3, some .int, [])
theorem yoX8_longestDistance : zY mX8_longestDistance 0 := ⟨by decide +kernel, zIn 1700 (by decide +kernel) (by decide +kernel), zIn 102 (by decide +kernel) (by decide +kernel), by decide +kernel⟩
theorem yiX8_longestDistance : Cond.instanceMethod yX8_longestDistance ∈ zTs := zIn 1698 (by decide +kernel) (by decide +kernel)
theorem yvX8_longestDistance : zYv mX8_longestDistance := ⟨yiX8_longestDistance, zIn 1699 (by decide +kernel) (by decide +kernel)⟩
abbrev mX8_sumOfDistances : zM := (yX8_sumOfDistances, cX8_sumOfDistances, 1, some .int, [])
theorem yoX8_sumOfDistances : zY mX8_sumOfDistances 0 := ⟨by decide +kernel, zIn 1704 (by decide +kernel) (by decide +kernel), zIn 102 (by decide +kernel) (by decide +kernel), by decide +kernel⟩
theorem yiX8_sumOfDistances : Cond.instanceMethod yX8_sumOfDistances ∈ zTs := zIn 1702 (by decide +kernel) (by decide +kernel)
theorem yvX8_sumOfDistances : zYv mX8_sumOfDistances := ⟨yiX8_sumOfDistances, zIn 1703 (by decide +kernel) (by decide +kernel)⟩
abbrev mX8_offTogether : zM := (yX8_offTogether, cX8_offTogether, 3, some .int, [])
theorem yoX8_offTogether : zY mX8_offTogether 0 := ⟨by decide +kernel, zIn 1708 (by decide +kernel) (by decide +kernel), zIn 102 (by decide +kernel) (by decide +kernel), by decide +kernel⟩
theorem yiX8_offTogether : Cond.instanceMethod yX8_offTogether ∈ zTs := zIn 1707 (by decide +kernel) (by decide +kernel)
theorem yvX8_offTogether : zYv mX8_offTogether := ⟨yiX8_offTogether, zIn 88 (by decide +kernel) (by decide +kernel)⟩
abbrev mX8_rank : zM := (yX8_rank, cX8_rank, 4, some .int, [])
theorem yoX8_rank : zY mX8_rank 1 := ⟨by decide +kernel, zIn 1712 (by decide +kernel) (by decide +kernel), zIn 102 (by decide +kernel) (by decide +kernel), by decide +kernel⟩
theorem yiX8_rank : Cond.instanceMethod yX8_rank ∈ zTs := zIn 1710 (by decide +kernel) (by decide +kernel)
theorem yvX8_rank : zYv mX8_rank := ⟨yiX8_rank, zIn 1711 (by decide +kernel) (by decide +kernel)⟩
abbrev mX8_whyNoAdd : zM := (yX8_whyNoAdd, cX8_whyNoAdd, 2, some .int, [])
theorem yoX8_whyNoAdd : zY mX8_whyNoAdd 1 := ⟨by decide +kernel, zIn 1716 (by decide +kernel) (by decide +kernel), zIn 102 (by decide +kernel) (by decide +kernel), by decide +kernel⟩
theorem yiX8_whyNoAdd : Cond.instanceMethod yX8_whyNoAdd ∈ zTs := zIn 1714 (by decide +kernel) (by decide +kernel)
theorem yvX8_whyNoAdd : zYv mX8_whyNoAdd := ⟨yiX8_whyNoAdd, zIn 1715 (by decide +kernel) (by decide +kernel)⟩
abbrev mX8_placeFor : zM := (yX8_placeFor, cX8_placeFor, 2, some .int, [])
theorem yoX8_placeFor : zY mX8_placeFor 1 := ⟨by decide +kernel, zIn 1720 (by decide +kernel) (by decide +kernel), zIn 102 (by decide +kernel) (by decide +kernel), by decide +kernel⟩
theorem yiX8_placeFor : Cond.instanceMethod yX8_placeFor ∈ zTs := zIn 1718 (by decide +kernel) (by decide +kernel)
theorem yvX8_placeFor : zYv mX8_placeFor := ⟨yiX8_placeFor, zIn 1719 (by decide +kernel) (by decide +kernel)⟩
abbrev mX8_tries : zM := (yX8_tries, cX8_tries, 7, some .int, [])
theorem yoX8_tries : zY mX8_tries 2 := ⟨by decide +kernel, zIn 1724 (by decide +kernel) (by decide +kernel), zIn 102 (by decide +kernel) (by decide +kernel), by decide +kernel⟩
theorem yiX8_tries : Cond.instanceMethod yX8_tries ∈ zTs := zIn 1723 (by decide +kernel) (by decide +kernel)
theorem yvX8_tries : zYv mX8_tries := ⟨yiX8_tries, zIn 89 (by decide +kernel) (by decide +kernel)⟩
abbrev mX8_movesFor : zM := (yX8_movesFor, cX8_movesFor, 2, some .int, [])
theorem yoX8_movesFor : zY mX8_movesFor 1 := ⟨by decide +kernel, zIn 1728 (by decide +kernel) (by decide +kernel), zIn 102 (by decide +kernel) (by decide +kernel), by decide +kernel⟩
theorem yiX8_movesFor : Cond.instanceMethod yX8_movesFor ∈ zTs := zIn 1726 (by decide +kernel) (by decide +kernel)
theorem yvX8_movesFor : zYv mX8_movesFor := ⟨yiX8_movesFor, zIn 1727 (by decide +kernel) (by decide +kernel)⟩
abbrev mX8_bucketsAfter : zM := (yX8_bucketsAfter, cX8_bucketsAfter, 2, some .int, [])
theorem yoX8_bucketsAfter : zY mX8_bucketsAfter 1 := ⟨by decide +kernel, zIn 1732 (by decide +kernel) (by decide +kernel), zIn 102 (by decide +kernel) (by decide +kernel), by decide +kernel⟩
theorem yiX8_bucketsAfter : Cond.instanceMethod yX8_bucketsAfter ∈ zTs := zIn 1730 (by decide +kernel) (by decide +kernel)
theorem yvX8_bucketsAfter : zYv mX8_bucketsAfter := ⟨yiX8_bucketsAfter, zIn 1731 (by decide +kernel) (by decide +kernel)⟩
abbrev mX8_pullsFor : zM := (yX8_pullsFor, cX8_pullsFor, 4, some .int, [])
theorem yoX8_pullsFor : zY mX8_pullsFor 1 := ⟨by decide +kernel, zIn 1736 (by decide +kernel) (by decide +kernel), zIn 102 (by decide +kernel) (by decide +kernel), by decide +kernel⟩
theorem yiX8_pullsFor : Cond.instanceMethod yX8_pullsFor ∈ zTs := zIn 1734 (by decide +kernel) (by decide +kernel)
theorem yvX8_pullsFor : zYv mX8_pullsFor := ⟨yiX8_pullsFor, zIn 1735 (by decide +kernel) (by decide +kernel)⟩
abbrev mX8_bucketsWith : zM := (yX8_bucketsWith, cX8_bucketsWith, 3, some .int, [])
theorem yoX8_bucketsWith : zY mX8_bucketsWith 1 := ⟨by decide +kernel, zIn 1740 (by decide +kernel) (by decide +kernel), zIn 102 (by decide +kernel) (by decide +kernel), by decide +kernel⟩
theorem yiX8_bucketsWith : Cond.instanceMethod yX8_bucketsWith ∈ zTs := zIn 1738 (by decide +kernel) (by decide +kernel)
theorem yvX8_bucketsWith : zYv mX8_bucketsWith := ⟨yiX8_bucketsWith, zIn 1739 (by decide +kernel) (by decide +kernel)⟩
abbrev mX8_bestMultiplier : zM := (yX8_bestMultiplier, cX8_bestMultiplier, 6, some .int, [])
theorem yoX8_bestMultiplier : zY mX8_bestMultiplier 1 := ⟨by decide +kernel, zIn 1744 (by decide +kernel) (by decide +kernel), zIn 102 (by decide +kernel) (by decide +kernel), by decide +kernel⟩
theorem yiX8_bestMultiplier : Cond.instanceMethod yX8_bestMultiplier ∈ zTs := zIn 1742 (by decide +kernel) (by decide +kernel)
theorem yvX8_bestMultiplier : zYv mX8_bestMultiplier := ⟨yiX8_bestMultiplier, zIn 1743 (by decide +kernel) (by decide +kernel)⟩
abbrev mX8_sumWith : zM := (yX8_sumWith, cX8_sumWith, 4, some .int, [])
theorem yoX8_sumWith : zY mX8_sumWith 1 := ⟨by decide +kernel, zIn 1748 (by decide +kernel) (by decide +kernel), zIn 102 (by decide +kernel) (by decide +kernel), by decide +kernel⟩
theorem yiX8_sumWith : Cond.instanceMethod yX8_sumWith ∈ zTs := zIn 1747 (by decide +kernel) (by decide +kernel)
theorem yvX8_sumWith : zYv mX8_sumWith := ⟨yiX8_sumWith, zIn 90 (by decide +kernel) (by decide +kernel)⟩
abbrev mX8_moves_ : zM := (yX8_moves_, cX8_moves_, 1, some .int, [])
theorem yoX8_moves_ : zY mX8_moves_ 0 := ⟨by decide +kernel, zIn 1752 (by decide +kernel) (by decide +kernel), zIn 102 (by decide +kernel) (by decide +kernel), by decide +kernel⟩
theorem yiX8_moves_ : Cond.instanceMethod yX8_moves_ ∈ zTs := zIn 1750 (by decide +kernel) (by decide +kernel)
theorem yvX8_moves_ : zYv mX8_moves_ := ⟨yiX8_moves_, zIn 1751 (by decide +kernel) (by decide +kernel)⟩
abbrev mX8_pulls : zM := (yX8_pulls, cX8_pulls, 1, some .int, [])
theorem yoX8_pulls : zY mX8_pulls 0 := ⟨by decide +kernel, zIn 1756 (by decide +kernel) (by decide +kernel), zIn 102 (by decide +kernel) (by decide +kernel), by decide +kernel⟩
theorem yiX8_pulls : Cond.instanceMethod yX8_pulls ∈ zTs := zIn 1754 (by decide +kernel) (by decide +kernel)
theorem yvX8_pulls : zYv mX8_pulls := ⟨yiX8_pulls, zIn 1755 (by decide +kernel) (by decide +kernel)⟩
abbrev mX8_growths : zM := (yX8_growths, cX8_growths, 1, some .int, [])
theorem yoX8_growths : zY mX8_growths 0 := ⟨by decide +kernel, zIn 1760 (by decide +kernel) (by decide +kernel), zIn 102 (by decide +kernel) (by decide +kernel), by decide +kernel⟩
theorem yiX8_growths : Cond.instanceMethod yX8_growths ∈ zTs := zIn 1758 (by decide +kernel) (by decide +kernel)
theorem yvX8_growths : zYv mX8_growths := ⟨yiX8_growths, zIn 1759 (by decide +kernel) (by decide +kernel)⟩
abbrev mX8_addedCount : zM := (yX8_addedCount, cX8_addedCount, 1, some .int, [])
theorem yoX8_addedCount : zY mX8_addedCount 0 := ⟨by decide +kernel, zIn 1764 (by decide +kernel) (by decide +kernel), zIn 102 (by decide +kernel) (by decide +kernel), by decide +kernel⟩
theorem yiX8_addedCount : Cond.instanceMethod yX8_addedCount ∈ zTs := zIn 1762 (by decide +kernel) (by decide +kernel)
theorem yvX8_addedCount : zYv mX8_addedCount := ⟨yiX8_addedCount, zIn 1763 (by decide +kernel) (by decide +kernel)⟩
abbrev mX8_removedCount : zM := (yX8_removedCount, cX8_removedCount, 1, some .int, [])
theorem yoX8_removedCount : zY mX8_removedCount 0 := ⟨by decide +kernel, zIn 1768 (by decide +kernel) (by decide +kernel), zIn 102 (by decide +kernel) (by decide +kernel), by decide +kernel⟩
theorem yiX8_removedCount : Cond.instanceMethod yX8_removedCount ∈ zTs := zIn 1766 (by decide +kernel) (by decide +kernel)
theorem yvX8_removedCount : zYv mX8_removedCount := ⟨yiX8_removedCount, zIn 1767 (by decide +kernel) (by decide +kernel)⟩
abbrev mX8_meanDistance : zM := (yX8_meanDistance, cX8_meanDistance, 2, some .double, [])
theorem yoX8_meanDistance : zY mX8_meanDistance 0 := ⟨by decide +kernel, zIn 1772 (by decide +kernel) (by decide +kernel), zIn 102 (by decide +kernel) (by decide +kernel), by decide +kernel⟩
theorem yiX8_meanDistance : Cond.instanceMethod yX8_meanDistance ∈ zTs := zIn 1770 (by decide +kernel) (by decide +kernel)
theorem yvX8_meanDistance : zYv mX8_meanDistance := ⟨yiX8_meanDistance, zIn 1771 (by decide +kernel) (by decide +kernel)⟩
abbrev mX8_load : zM := (yX8_load, cX8_load, 1, some .float, [])
theorem yoX8_load : zY mX8_load 0 := ⟨by decide +kernel, zIn 1776 (by decide +kernel) (by decide +kernel), zIn 102 (by decide +kernel) (by decide +kernel), by decide +kernel⟩
theorem yiX8_load : Cond.instanceMethod yX8_load ∈ zTs := zIn 1774 (by decide +kernel) (by decide +kernel)
theorem yvX8_load : zYv mX8_load := ⟨yiX8_load, zIn 1775 (by decide +kernel) (by decide +kernel)⟩
abbrev mX8_violations : zM := (yX8_violations, cX8_violations, 4, some .int, [])
theorem yoX8_violations : zY mX8_violations 0 := ⟨by decide +kernel, zIn 1780 (by decide +kernel) (by decide +kernel), zIn 102 (by decide +kernel) (by decide +kernel), by decide +kernel⟩
theorem yiX8_violations : Cond.instanceMethod yX8_violations ∈ zTs := zIn 1778 (by decide +kernel) (by decide +kernel)
theorem yvX8_violations : zYv mX8_violations := ⟨yiX8_violations, zIn 1779 (by decide +kernel) (by decide +kernel)⟩
abbrev mX8_doublesOf : zM := (yX8_doublesOf, cX8_doublesOf, 4, some .int, [])
theorem yoX8_doublesOf : zY mX8_doublesOf 1 := ⟨by decide +kernel, zIn 1784 (by decide +kernel) (by decide +kernel), zIn 102 (by decide +kernel) (by decide +kernel), by decide +kernel⟩
theorem yiX8_doublesOf : Cond.instanceMethod yX8_doublesOf ∈ zTs := zIn 1783 (by decide +kernel) (by decide +kernel)
theorem yvX8_doublesOf : zYv mX8_doublesOf := ⟨yiX8_doublesOf, zIn 91 (by decide +kernel) (by decide +kernel)⟩
abbrev mX8_writeTable : zM := (yX8_writeTable, cX8_writeTable, 2, some .int, [])
theorem yoX8_writeTable : zY mX8_writeTable 0 := ⟨by decide +kernel, zIn 1788 (by decide +kernel) (by decide +kernel), zIn 102 (by decide +kernel) (by decide +kernel), by decide +kernel⟩
theorem yiX8_writeTable : Cond.instanceMethod yX8_writeTable ∈ zTs := zIn 1786 (by decide +kernel) (by decide +kernel)
theorem yvX8_writeTable : zYv mX8_writeTable := ⟨yiX8_writeTable, zIn 1787 (by decide +kernel) (by decide +kernel)⟩
abbrev mX8_write : zM := (yX8_write, cX8_write, 2, none, [])
theorem yoX8_write : zY mX8_write 1 := ⟨by decide +kernel, zIn 1792 (by decide +kernel) (by decide +kernel), zIn 102 (by decide +kernel) (by decide +kernel), by decide +kernel⟩
theorem yiX8_write : Cond.instanceMethod yX8_write ∈ zTs := zIn 1791 (by decide +kernel) (by decide +kernel)
theorem yvX8_write : zYv mX8_write := ⟨yiX8_write, zIn 92 (by decide +kernel) (by decide +kernel)⟩
abbrev mX8_writeBucket : zM := (yX8_writeBucket, cX8_writeBucket, 2, none, [])
theorem yoX8_writeBucket : zY mX8_writeBucket 1 := ⟨by decide +kernel, zIn 1796 (by decide +kernel) (by decide +kernel), zIn 102 (by decide +kernel) (by decide +kernel), by decide +kernel⟩
theorem yiX8_writeBucket : Cond.instanceMethod yX8_writeBucket ∈ zTs := zIn 1795 (by decide +kernel) (by decide +kernel)
theorem yvX8_writeBucket : zYv mX8_writeBucket := ⟨yiX8_writeBucket, zIn 93 (by decide +kernel) (by decide +kernel)⟩
abbrev mX8_writeNumber : zM := (yX8_writeNumber, cX8_writeNumber, 2, none, [])
theorem yoX8_writeNumber : zY mX8_writeNumber 1 := ⟨by decide +kernel, zIn 1800 (by decide +kernel) (by decide +kernel), zIn 102 (by decide +kernel) (by decide +kernel), by decide +kernel⟩
theorem yiX8_writeNumber : Cond.instanceMethod yX8_writeNumber ∈ zTs := zIn 1799 (by decide +kernel) (by decide +kernel)
theorem yvX8_writeNumber : zYv mX8_writeNumber := ⟨yiX8_writeNumber, zIn 94 (by decide +kernel) (by decide +kernel)⟩
abbrev mX8_reportByte : zM := (yX8_reportByte, cX8_reportByte, 2, some .int, [])
theorem yoX8_reportByte : zY mX8_reportByte 1 := ⟨by decide +kernel, zIn 1804 (by decide +kernel) (by decide +kernel), zIn 102 (by decide +kernel) (by decide +kernel), by decide +kernel⟩
theorem yiX8_reportByte : Cond.instanceMethod yX8_reportByte ∈ zTs := zIn 1802 (by decide +kernel) (by decide +kernel)
theorem yvX8_reportByte : zYv mX8_reportByte := ⟨yiX8_reportByte, zIn 1803 (by decide +kernel) (by decide +kernel)⟩
theorem lL_8 : Cond.classLink RL 8 "NeighbourHash" ∈ zTs := zIn 120 (by decide +kernel) (by decide +kernel)
theorem lL_102 : Cond.methodLink RL 102 yX7_init ∈ zTs := zIn 122 (by decide +kernel) (by decide +kernel)
theorem lX7_1 : Cond.methodLink RX7 1 ⟨"java/lang/Object", "<init>", "()V"⟩ ∈ zTs := zIn 125 (by decide +kernel) (by decide +kernel)
theorem lX7_7 : Cond.classLink RX7 7 "NeighbourHash$Input" ∈ zTs := zIn 128 (by decide +kernel) (by decide +kernel)
theorem lnX7_9 : Cond.methodLinkNest RX7 9 yX3_init "NeighbourHash" ∈ kN := by decide +kernel
theorem lX3_3 : Cond.methodLink RX3 3 ⟨"java/lang/Object", "<init>", "()V"⟩ ∈ zTs := zIn 133 (by decide +kernel) (by decide +kernel)
theorem fX3_11 : zF RX3 11 1 0 := ⟨RX3, TX3, 6, rfl, by decide, zIn 134 (by decide +kernel) (by decide +kernel), inX3⟩
theorem fX7_71 : zF RX7 71 1 1 := ⟨RX3, TX3, 6, rfl, by decide, zIn 135 (by decide +kernel) (by decide +kernel), inX3⟩
theorem fX3_15 : zF RX3 15 1 1 := ⟨RX3, TX3, 6, rfl, by decide, zIn 136 (by decide +kernel) (by decide +kernel), inX3⟩
theorem fX5_36 : zF RX5 36 1 2 := ⟨RX3, TX3, 6, rfl, by decide, zIn 137 (by decide +kernel) (by decide +kernel), inX3⟩
theorem fX3_19 : zF RX3 19 1 2 := ⟨RX3, TX3, 6, rfl, by decide, zIn 138 (by decide +kernel) (by decide +kernel), inX3⟩
theorem fX3_30 : zF RX3 30 1 3 := ⟨RX3, TX3, 6, rfl, by decide, zIn 139 (by decide +kernel) (by decide +kernel), inX3⟩
theorem fX5_194 : zF RX5 194 1 3 := ⟨RX3, TX3, 6, rfl, by decide, zIn 140 (by decide +kernel) (by decide +kernel), inX3⟩
theorem fX3_33 : zF RX3 33 1 4 := ⟨RX3, TX3, 6, rfl, by decide, zIn 141 (by decide +kernel) (by decide +kernel), inX3⟩
theorem fX5_67 : zF RX5 67 1 4 := ⟨RX3, TX3, 6, rfl, by decide, zIn 142 (by decide +kernel) (by decide +kernel), inX3⟩
theorem fX3_57 : zF RX3 57 1 5 := ⟨RX3, TX3, 6, rfl, by decide, zIn 143 (by decide +kernel) (by decide +kernel), inX3⟩
theorem fX5_191 : zF RX5 191 1 5 := ⟨RX3, TX3, 6, rfl, by decide, zIn 144 (by decide +kernel) (by decide +kernel), inX3⟩
theorem lX7_16 : Cond.classLink RX7 16 "NeighbourHash$Script" ∈ zTs := zIn 159 (by decide +kernel) (by decide +kernel)
theorem lX7_18 : Cond.methodLink RX7 18 yX5_init ∈ zTs := zIn 161 (by decide +kernel) (by decide +kernel)
theorem lX5_3 : Cond.methodLink RX5 3 ⟨"java/lang/Object", "<init>", "()V"⟩ ∈ zTs := zIn 164 (by decide +kernel) (by decide +kernel)
theorem lX5_9 : Cond.classLink RX5 9 "NeighbourHash$Table" ∈ zTs := zIn 165 (by decide +kernel) (by decide +kernel)
theorem lX5_11 : Cond.methodLink RX5 11 yX6_init ∈ zTs := zIn 167 (by decide +kernel) (by decide +kernel)
theorem lX6_3 : Cond.methodLink RX6 3 ⟨"java/lang/Object", "<init>", "()V"⟩ ∈ zTs := zIn 170 (by decide +kernel) (by decide +kernel)
theorem lX6_27 : Cond.methodLink RX6 27 yX6_begin ∈ zTs := zIn 171 (by decide +kernel) (by decide +kernel)
theorem lX6_54 : Cond.methodLink RX6 54 yX6_empty ∈ zTs := zIn 175 (by decide +kernel) (by decide +kernel)
theorem fX6_9 : zF RX6 9 4 0 := ⟨RX6, TX6, 16, rfl, by decide, zIn 179 (by decide +kernel) (by decide +kernel), inX6⟩
theorem fX6_15 : zF RX6 15 4 1 := ⟨RX6, TX6, 16, rfl, by decide, zIn 180 (by decide +kernel) (by decide +kernel), inX6⟩
theorem fX6_18 : zF RX6 18 4 2 := ⟨RX6, TX6, 16, rfl, by decide, zIn 181 (by decide +kernel) (by decide +kernel), inX6⟩
theorem fX6_21 : zF RX6 21 4 3 := ⟨RX6, TX6, 16, rfl, by decide, zIn 182 (by decide +kernel) (by decide +kernel), inX6⟩
theorem fX6_24 : zF RX6 24 4 4 := ⟨RX6, TX6, 16, rfl, by decide, zIn 183 (by decide +kernel) (by decide +kernel), inX6⟩
theorem fX6_106 : zF RX6 106 4 5 := ⟨RX6, TX6, 16, rfl, by decide, zIn 184 (by decide +kernel) (by decide +kernel), inX6⟩
theorem fX6_64 : zF RX6 64 4 6 := ⟨RX6, TX6, 16, rfl, by decide, zIn 185 (by decide +kernel) (by decide +kernel), inX6⟩
theorem fX5_122 : zF RX5 122 4 6 := ⟨RX6, TX6, 16, rfl, by decide, zIn 186 (by decide +kernel) (by decide +kernel), inX6⟩
theorem fX7_178 : zF RX7 178 4 6 := ⟨RX6, TX6, 16, rfl, by decide, zIn 187 (by decide +kernel) (by decide +kernel), inX6⟩
theorem fX6_31 : zF RX6 31 4 7 := ⟨RX6, TX6, 16, rfl, by decide, zIn 188 (by decide +kernel) (by decide +kernel), inX6⟩
theorem fX7_207 : zF RX7 207 4 7 := ⟨RX6, TX6, 16, rfl, by decide, zIn 189 (by decide +kernel) (by decide +kernel), inX6⟩
theorem fX6_35 : zF RX6 35 4 8 := ⟨RX6, TX6, 16, rfl, by decide, zIn 190 (by decide +kernel) (by decide +kernel), inX6⟩
theorem fX7_210 : zF RX7 210 4 8 := ⟨RX6, TX6, 16, rfl, by decide, zIn 191 (by decide +kernel) (by decide +kernel), inX6⟩
theorem fX7_64 : zF RX7 64 4 9 := ⟨RX6, TX6, 16, rfl, by decide, zIn 192 (by decide +kernel) (by decide +kernel), inX6⟩
theorem fX6_38 : zF RX6 38 4 9 := ⟨RX6, TX6, 16, rfl, by decide, zIn 193 (by decide +kernel) (by decide +kernel), inX6⟩
theorem fX5_134 : zF RX5 134 4 9 := ⟨RX6, TX6, 16, rfl, by decide, zIn 194 (by decide +kernel) (by decide +kernel), inX6⟩
theorem fX6_67 : zF RX6 67 4 10 := ⟨RX6, TX6, 16, rfl, by decide, zIn 195 (by decide +kernel) (by decide +kernel), inX6⟩
theorem fX7_115 : zF RX7 115 4 10 := ⟨RX6, TX6, 16, rfl, by decide, zIn 196 (by decide +kernel) (by decide +kernel), inX6⟩
theorem fX6_70 : zF RX6 70 4 11 := ⟨RX6, TX6, 16, rfl, by decide, zIn 197 (by decide +kernel) (by decide +kernel), inX6⟩
theorem fX7_257 : zF RX7 257 4 11 := ⟨RX6, TX6, 16, rfl, by decide, zIn 198 (by decide +kernel) (by decide +kernel), inX6⟩
theorem fX6_42 : zF RX6 42 4 12 := ⟨RX6, TX6, 16, rfl, by decide, zIn 199 (by decide +kernel) (by decide +kernel), inX6⟩
theorem fX7_260 : zF RX7 260 4 12 := ⟨RX6, TX6, 16, rfl, by decide, zIn 200 (by decide +kernel) (by decide +kernel), inX6⟩
theorem fX6_45 : zF RX6 45 4 13 := ⟨RX6, TX6, 16, rfl, by decide, zIn 201 (by decide +kernel) (by decide +kernel), inX6⟩
theorem fX7_265 : zF RX7 265 4 13 := ⟨RX6, TX6, 16, rfl, by decide, zIn 202 (by decide +kernel) (by decide +kernel), inX6⟩
theorem fX6_48 : zF RX6 48 4 14 := ⟨RX6, TX6, 16, rfl, by decide, zIn 203 (by decide +kernel) (by decide +kernel), inX6⟩
theorem fX7_268 : zF RX7 268 4 14 := ⟨RX6, TX6, 16, rfl, by decide, zIn 204 (by decide +kernel) (by decide +kernel), inX6⟩
theorem fX6_51 : zF RX6 51 4 15 := ⟨RX6, TX6, 16, rfl, by decide, zIn 205 (by decide +kernel) (by decide +kernel), inX6⟩
theorem fX7_271 : zF RX7 271 4 15 := ⟨RX6, TX6, 16, rfl, by decide, zIn 206 (by decide +kernel) (by decide +kernel), inX6⟩
theorem fX5_32 : zF RX5 32 3 0 := ⟨RX5, TX5, 12, rfl, by decide, zIn 240 (by decide +kernel) (by decide +kernel), inX5⟩
theorem fX5_12 : zF RX5 12 3 1 := ⟨RX5, TX5, 12, rfl, by decide, zIn 241 (by decide +kernel) (by decide +kernel), inX5⟩
theorem fX7_106 : zF RX7 106 3 1 := ⟨RX5, TX5, 12, rfl, by decide, zIn 242 (by decide +kernel) (by decide +kernel), inX5⟩
theorem fX5_18 : zF RX5 18 3 2 := ⟨RX5, TX5, 12, rfl, by decide, zIn 243 (by decide +kernel) (by decide +kernel), inX5⟩
theorem fX5_22 : zF RX5 22 3 3 := ⟨RX5, TX5, 12, rfl, by decide, zIn 244 (by decide +kernel) (by decide +kernel), inX5⟩
theorem fX5_25 : zF RX5 25 3 4 := ⟨RX5, TX5, 12, rfl, by decide, zIn 245 (by decide +kernel) (by decide +kernel), inX5⟩
theorem fX5_41 : zF RX5 41 3 5 := ⟨RX5, TX5, 12, rfl, by decide, zIn 246 (by decide +kernel) (by decide +kernel), inX5⟩
theorem fX5_44 : zF RX5 44 3 6 := ⟨RX5, TX5, 12, rfl, by decide, zIn 247 (by decide +kernel) (by decide +kernel), inX5⟩
theorem fX5_57 : zF RX5 57 3 7 := ⟨RX5, TX5, 12, rfl, by decide, zIn 248 (by decide +kernel) (by decide +kernel), inX5⟩
theorem fX5_47 : zF RX5 47 3 8 := ⟨RX5, TX5, 12, rfl, by decide, zIn 249 (by decide +kernel) (by decide +kernel), inX5⟩
theorem fX5_51 : zF RX5 51 3 9 := ⟨RX5, TX5, 12, rfl, by decide, zIn 250 (by decide +kernel) (by decide +kernel), inX5⟩
theorem fX5_54 : zF RX5 54 3 10 := ⟨RX5, TX5, 12, rfl, by decide, zIn 251 (by decide +kernel) (by decide +kernel), inX5⟩
theorem fX7_99 : zF RX7 99 3 10 := ⟨RX5, TX5, 12, rfl, by decide, zIn 252 (by decide +kernel) (by decide +kernel), inX5⟩
theorem fX5_28 : zF RX5 28 3 11 := ⟨RX5, TX5, 12, rfl, by decide, zIn 253 (by decide +kernel) (by decide +kernel), inX5⟩
theorem fX7_204 : zF RX7 204 3 11 := ⟨RX5, TX5, 12, rfl, by decide, zIn 254 (by decide +kernel) (by decide +kernel), inX5⟩
theorem lX7_25 : Cond.classLink RX7 25 "NeighbourHash$Table" ∈ zTs := zIn 280 (by decide +kernel) (by decide +kernel)
theorem lX7_27 : Cond.methodLink RX7 27 yX6_init ∈ zTs := zIn 281 (by decide +kernel) (by decide +kernel)
theorem lX7_42 : Cond.classLink RX7 42 "NeighbourHash$History" ∈ zTs := zIn 282 (by decide +kernel) (by decide +kernel)
theorem lX7_44 : Cond.methodLink RX7 44 yX2_init ∈ zTs := zIn 284 (by decide +kernel) (by decide +kernel)
theorem lX2_3 : Cond.methodLink RX2 3 ⟨"java/lang/Object", "<init>", "()V"⟩ ∈ zTs := zIn 287 (by decide +kernel) (by decide +kernel)
theorem lX2_9 : Cond.classLink RX2 9 "NeighbourHash$Table" ∈ zTs := zIn 288 (by decide +kernel) (by decide +kernel)
theorem lX2_15 : Cond.methodLink RX2 15 yX6_init ∈ zTs := zIn 290 (by decide +kernel) (by decide +kernel)
theorem fX2_11 : zF RX2 11 0 0 := ⟨RX2, TX2, 3, rfl, by decide, zIn 291 (by decide +kernel) (by decide +kernel), inX2⟩
theorem fX2_24 : zF RX2 24 0 1 := ⟨RX2, TX2, 3, rfl, by decide, zIn 292 (by decide +kernel) (by decide +kernel), inX2⟩
theorem fX2_28 : zF RX2 28 0 2 := ⟨RX2, TX2, 3, rfl, by decide, zIn 293 (by decide +kernel) (by decide +kernel), inX2⟩
theorem fX7_196 : zF RX7 196 0 2 := ⟨RX2, TX2, 3, rfl, by decide, zIn 294 (by decide +kernel) (by decide +kernel), inX2⟩
theorem lX7_49 : Cond.classLink RX7 49 "NeighbourHash$Report" ∈ zTs := zIn 302 (by decide +kernel) (by decide +kernel)
theorem lnX7_51 : Cond.methodLinkNest RX7 51 yX4_init "NeighbourHash" ∈ kN := by decide +kernel
theorem lX4_3 : Cond.methodLink RX4 3 ⟨"java/lang/Object", "<init>", "()V"⟩ ∈ zTs := zIn 307 (by decide +kernel) (by decide +kernel)
theorem fX4_9 : zF RX4 9 2 0 := ⟨RX4, TX4, 2, rfl, by decide, zIn 308 (by decide +kernel) (by decide +kernel), inX4⟩
theorem fX4_15 : zF RX4 15 2 1 := ⟨RX4, TX4, 2, rfl, by decide, zIn 309 (by decide +kernel) (by decide +kernel), inX4⟩
theorem fX7_295 : zF RX7 295 2 1 := ⟨RX4, TX4, 2, rfl, by decide, zIn 310 (by decide +kernel) (by decide +kernel), inX4⟩
theorem lX7_56 : Cond.methodLink RX7 56 yX6_begin ∈ zTs := zIn 316 (by decide +kernel) (by decide +kernel)
theorem lX7_60 : Cond.methodLink RX7 60 yX6_insert ∈ zTs := zIn 317 (by decide +kernel) (by decide +kernel)
theorem lX6_73 : Cond.methodLink RX6 73 yX6_queueAll ∈ zTs := zIn 321 (by decide +kernel) (by decide +kernel)
theorem lX6_76 : Cond.methodLink RX6 76 yX6_place ∈ zTs := zIn 325 (by decide +kernel) (by decide +kernel)
theorem lX6_94 : Cond.methodLink RX6 94 yX6_homeFor ∈ zTs := zIn 329 (by decide +kernel) (by decide +kernel)
theorem lX6_109 : Cond.methodLink RX6 109 yX6_stepsToFree ∈ zTs := zIn 333 (by decide +kernel) (by decide +kernel)
theorem lX6_124 : Cond.methodLink RX6 124 yX6_keyIn ∈ zTs := zIn 337 (by decide +kernel) (by decide +kernel)
theorem lX6_112 : Cond.methodLink RX6 112 yX6_displaceInto ∈ zTs := zIn 341 (by decide +kernel) (by decide +kernel)
theorem lX6_115 : Cond.methodLink RX6 115 yX6_hopsIn ∈ zTs := zIn 345 (by decide +kernel) (by decide +kernel)
theorem lX6_118 : Cond.methodLink RX6 118 yX6_shift ∈ zTs := zIn 349 (by decide +kernel) (by decide +kernel)
theorem lX6_91 : Cond.methodLink RX6 91 yX6_hasBucket ∈ zTs := zIn 353 (by decide +kernel) (by decide +kernel)
theorem lX6_80 : Cond.methodLink RX6 80 yX6_build ∈ zTs := zIn 357 (by decide +kernel) (by decide +kernel)
theorem lX7_67 : Cond.methodLink RX7 67 yX6_take ∈ zTs := zIn 361 (by decide +kernel) (by decide +kernel)
theorem lX6_84 : Cond.methodLink RX6 84 yX6_bucketWith ∈ zTs := zIn 365 (by decide +kernel) (by decide +kernel)
theorem lX6_97 : Cond.methodLink RX6 97 yX6_stepsFromHome ∈ zTs := zIn 369 (by decide +kernel) (by decide +kernel)
theorem lX6_100 : Cond.methodLink RX6 100 yX6_pullFrom ∈ zTs := zIn 373 (by decide +kernel) (by decide +kernel)
theorem lX6_121 : Cond.methodLink RX6 121 yX6_pullInto ∈ zTs := zIn 377 (by decide +kernel) (by decide +kernel)
theorem fX7_10 : zF RX7 10 5 0 := ⟨RX7, TX7, 8, rfl, by decide, zIn 381 (by decide +kernel) (by decide +kernel), inX7⟩
theorem fX7_21 : zF RX7 21 5 1 := ⟨RX7, TX7, 8, rfl, by decide, zIn 382 (by decide +kernel) (by decide +kernel), inX7⟩
theorem fX7_28 : zF RX7 28 5 2 := ⟨RX7, TX7, 8, rfl, by decide, zIn 383 (by decide +kernel) (by decide +kernel), inX7⟩
theorem fX7_32 : zF RX7 32 5 3 := ⟨RX7, TX7, 8, rfl, by decide, zIn 384 (by decide +kernel) (by decide +kernel), inX7⟩
theorem fX7_35 : zF RX7 35 5 4 := ⟨RX7, TX7, 8, rfl, by decide, zIn 385 (by decide +kernel) (by decide +kernel), inX7⟩
theorem fX7_38 : zF RX7 38 5 5 := ⟨RX7, TX7, 8, rfl, by decide, zIn 386 (by decide +kernel) (by decide +kernel), inX7⟩
theorem fX7_45 : zF RX7 45 5 6 := ⟨RX7, TX7, 8, rfl, by decide, zIn 387 (by decide +kernel) (by decide +kernel), inX7⟩
theorem fX7_52 : zF RX7 52 5 7 := ⟨RX7, TX7, 8, rfl, by decide, zIn 388 (by decide +kernel) (by decide +kernel), inX7⟩
theorem lL_106 : Cond.methodLink RL 106 yX7_append ∈ zTs := zIn 406 (by decide +kernel) (by decide +kernel)
theorem lX7_75 : Cond.methodLink RX7 75 yX3_addFourBytes ∈ zTs := zIn 410 (by decide +kernel) (by decide +kernel)
theorem lL_120 : Cond.methodLink RL 120 yX7_runScript ∈ zTs := zIn 414 (by decide +kernel) (by decide +kernel)
theorem lX7_86 : Cond.methodLink RX7 86 yX5_begin ∈ zTs := zIn 418 (by decide +kernel) (by decide +kernel)
theorem lX7_88 : Cond.constant RX7 88 (1000000 : Int32) ∈ zTs := zIn 422 (by decide +kernel) (by decide +kernel)
theorem lX7_89 : Cond.methodLink RX7 89 yX5_goesOn ∈ zTs := zIn 423 (by decide +kernel) (by decide +kernel)
theorem lX7_93 : Cond.methodLink RX7 93 yX5_readStatement ∈ zTs := zIn 427 (by decide +kernel) (by decide +kernel)
theorem lX5_61 : Cond.methodLink RX5 61 yX3_nextToken ∈ zTs := zIn 431 (by decide +kernel) (by decide +kernel)
theorem lX3_22 : Cond.methodLink RX3 22 yX3_byteAt ∈ zTs := zIn 435 (by decide +kernel) (by decide +kernel)
theorem lX3_26 : Cond.methodLink RX3 26 yX3_isBlank ∈ zTs := zIn 439 (by decide +kernel) (by decide +kernel)
theorem lX3_36 : Cond.methodLink RX3 36 yX3_isLetter ∈ zTs := zIn 442 (by decide +kernel) (by decide +kernel)
theorem lX3_39 : Cond.methodLink RX3 39 yX3_passWord ∈ zTs := zIn 445 (by decide +kernel) (by decide +kernel)
theorem lX3_42 : Cond.methodLink RX3 42 yX3_isDigit ∈ zTs := zIn 449 (by decide +kernel) (by decide +kernel)
theorem lX3_45 : Cond.methodLink RX3 45 yX3_passNumber ∈ zTs := zIn 452 (by decide +kernel) (by decide +kernel)
theorem lX5_64 : Cond.methodLink RX5 64 yX5_readOpening ∈ zTs := zIn 456 (by decide +kernel) (by decide +kernel)
theorem lX5_75 : Cond.methodLink RX5 75 yX3_isWord ∈ zTs := zIn 461 (by decide +kernel) (by decide +kernel)
theorem lX3_48 : Cond.methodLink RX3 48 yJ0_length_8abf5 ∈ zTs := zIn 465 (by decide +kernel) (by decide +kernel)
theorem lJ0_335 : Cond.methodLink RJ0 335 yJ0_coder_7d493 ∈ zTs := zIn 469 (by decide +kernel) (by decide +kernel)
theorem fJ0_38 : Cond.fieldLink RJ0 38 "java/lang/String" "COMPACT_STRINGS" "Z" ∈ zTs := zIn 473 (by decide +kernel) (by decide +kernel)
theorem lX3_53 : Cond.methodLink RX3 53 yJ0_charAt_5068e ∈ zTs := zIn 475 (by decide +kernel) (by decide +kernel)
theorem lJ0_492 : Cond.methodLink RJ0 492 yJ0_isLatin1_aae02 ∈ zTs := zIn 479 (by decide +kernel) (by decide +kernel)
theorem lJ0_495 : Cond.methodLink RJ0 495 yJ1_charAt_3b067 ∈ zTs := zIn 483 (by decide +kernel) (by decide +kernel)
theorem lJ1_9 : Cond.methodLink RJ1 9 yJ0_checkIndex_df160 ∈ zTs := zIn 486 (by decide +kernel) (by decide +kernel)
theorem fJ0_1053 : Cond.fieldLink RJ0 1053 "jdk/internal/util/Preconditions" "SIOOBE_FORMATTER" "Ljava/util/function/BiFunction;" ∈ zTs := zIn 489 (by decide +kernel) (by decide +kernel)
theorem lJ0_1059 : Cond.methodLink RJ0 1059 yJ3_checkIndex_8e157 ∈ zTs := zIn 491 (by decide +kernel) (by decide +kernel)
theorem lJ0_498 : Cond.methodLink RJ0 498 yJ2_charAt_3b067 ∈ zTs := zIn 494 (by decide +kernel) (by decide +kernel)
theorem lJ2_67 : Cond.methodLink RJ2 67 yJ2_checkIndex_2214a ∈ zTs := zIn 497 (by decide +kernel) (by decide +kernel)
theorem lJ2_48 : Cond.methodLink RJ2 48 yJ2_length_9d52b ∈ zTs := zIn 500 (by decide +kernel) (by decide +kernel)
theorem lJ2_414 : Cond.methodLink RJ2 414 yJ0_checkIndex_df160 ∈ zTs := zIn 503 (by decide +kernel) (by decide +kernel)
theorem lJ2_71 : Cond.methodLink RJ2 71 yJ2_getChar_3b067 ∈ zTs := zIn 504 (by decide +kernel) (by decide +kernel)
theorem fJ2_44 : Cond.fieldLink RJ2 44 "java/lang/StringUTF16" "$assertionsDisabled" "Z" ∈ zTs := zIn 507 (by decide +kernel) (by decide +kernel)
theorem fJ2_59 : Cond.fieldLink RJ2 59 "java/lang/StringUTF16" "HI_BYTE_SHIFT" "I" ∈ zTs := zIn 509 (by decide +kernel) (by decide +kernel)
theorem fJ2_63 : Cond.fieldLink RJ2 63 "java/lang/StringUTF16" "LO_BYTE_SHIFT" "I" ∈ zTs := zIn 511 (by decide +kernel) (by decide +kernel)
theorem lX5_137 : Cond.methodLink RX5 137 yX5_fail ∈ zTs := zIn 513 (by decide +kernel) (by decide +kernel)
theorem lX5_142 : Cond.methodLink RX5 142 yX5_readNumber ∈ zTs := zIn 517 (by decide +kernel) (by decide +kernel)
theorem lX5_148 : Cond.methodLink RX5 148 yX5_expect ∈ zTs := zIn 521 (by decide +kernel) (by decide +kernel)
theorem lX5_145 : Cond.methodLink RX5 145 yX5_fitsOpening ∈ zTs := zIn 525 (by decide +kernel) (by decide +kernel)
theorem lnX5_155 : Cond.methodLinkNest RX5 155 yX7_isBucketNumber "NeighbourHash" ∈ kN := by decide +kernel
theorem lnX5_158 : Cond.methodLinkNest RX5 158 yX7_isNear "NeighbourHash" ∈ kN := by decide +kernel
theorem lnX5_161 : Cond.methodLinkNest RX5 161 yX7_isTimes "NeighbourHash" ∈ kN := by decide +kernel
theorem lX5_151 : Cond.methodLink RX5 151 yX6_begin ∈ zTs := zIn 537 (by decide +kernel) (by decide +kernel)
theorem lX5_70 : Cond.methodLink RX5 70 yX5_endBody ∈ zTs := zIn 538 (by decide +kernel) (by decide +kernel)
theorem lX5_79 : Cond.methodLink RX5 79 yX5_readRepeat ∈ zTs := zIn 543 (by decide +kernel) (by decide +kernel)
theorem lX5_82 : Cond.methodLink RX5 82 yX5_readCommand ∈ zTs := zIn 547 (by decide +kernel) (by decide +kernel)
theorem lnX5_164 : Cond.fieldLinkNest RX5 164 "NeighbourHash" "COMMANDS" "[LNeighbourHash$Command;" "NeighbourHash" ∈ kN := by decide +kernel
theorem lX5_174 : Cond.methodLink RX5 174 yX5_fits ∈ zTs := zIn 553 (by decide +kernel) (by decide +kernel)
theorem fX5_85 : Cond.fieldLink RX5 85 "NeighbourHash$1" "$SwitchMap$NeighbourHash$Command" "[I" ∈ zTs := zIn 557 (by decide +kernel) (by decide +kernel)
theorem lX5_90 : Cond.methodLink RX5 90 ⟨"NeighbourHash$Command", "ordinal", "()I"⟩ ∈ zTs := zIn 559 (by decide +kernel) (by decide +kernel)
theorem lnX5_178 : Cond.methodLinkNest RX5 178 yX7_isKey "NeighbourHash" ∈ kN := by decide +kernel
theorem lnX5_181 : Cond.methodLinkNest RX5 181 yX7_isValue "NeighbourHash" ∈ kN := by decide +kernel
theorem lnX5_184 : Cond.methodLinkNest RX5 184 yX7_isStep "NeighbourHash" ∈ kN := by decide +kernel
theorem lnX5_187 : Cond.methodLinkNest RX5 187 yX7_isRow "NeighbourHash" ∈ kN := by decide +kernel
theorem lX7_144 : Cond.methodLink RX7 144 yX7_isKey ∈ zTs := zIn 577 (by decide +kernel) (by decide +kernel)
theorem lX5_96 : Cond.methodLink RX5 96 yX6_bucketWith ∈ zTs := zIn 578 (by decide +kernel) (by decide +kernel)
theorem lX7_96 : Cond.methodLink RX7 96 yX5_perform ∈ zTs := zIn 579 (by decide +kernel) (by decide +kernel)
theorem lX5_100 : Cond.methodLink RX5 100 yX6_insert ∈ zTs := zIn 583 (by decide +kernel) (by decide +kernel)
theorem lX5_104 : Cond.methodLink RX5 104 yX6_store ∈ zTs := zIn 584 (by decide +kernel) (by decide +kernel)
theorem lX6_88 : Cond.methodLink RX6 88 yX6_insert ∈ zTs := zIn 588 (by decide +kernel) (by decide +kernel)
theorem lX5_108 : Cond.methodLink RX5 108 yX6_insertRow ∈ zTs := zIn 589 (by decide +kernel) (by decide +kernel)
theorem lX5_112 : Cond.methodLink RX5 112 yX6_take ∈ zTs := zIn 593 (by decide +kernel) (by decide +kernel)
theorem lX5_115 : Cond.methodLink RX5 115 yX6_changeNear ∈ zTs := zIn 594 (by decide +kernel) (by decide +kernel)
theorem lX6_103 : Cond.methodLink RX6 103 yX6_buildAnew ∈ zTs := zIn 598 (by decide +kernel) (by decide +kernel)
theorem lX5_119 : Cond.methodLink RX5 119 yX6_changeTimes ∈ zTs := zIn 602 (by decide +kernel) (by decide +kernel)
theorem lX5_125 : Cond.methodLink RX5 125 yX6_buildAnew ∈ zTs := zIn 606 (by decide +kernel) (by decide +kernel)
theorem lX5_128 : Cond.methodLink RX5 128 yX6_dropAll ∈ zTs := zIn 607 (by decide +kernel) (by decide +kernel)
theorem fX5_131 : Cond.fieldLink RX5 131 "NeighbourHash$Command" "PULL" "LNeighbourHash$Command;" ∈ zTs := zIn 611 (by decide +kernel) (by decide +kernel)
theorem lX7_102 : Cond.methodLink RX7 102 yX2_mark ∈ zTs := zIn 613 (by decide +kernel) (by decide +kernel)
theorem lX2_16 : Cond.methodLink RX2 16 yX2_nextPlace ∈ zTs := zIn 617 (by decide +kernel) (by decide +kernel)
theorem lX2_20 : Cond.methodLink RX2 20 yX6_copyFrom ∈ zTs := zIn 621 (by decide +kernel) (by decide +kernel)
theorem lX6_58 : Cond.methodLink RX6 58 ⟨"java/lang/System", "arraycopy", "(Ljava/lang/Object;ILjava/lang/Object;II)V"⟩ ∈ zTs := zIn 625 (by decide +kernel) (by decide +kernel)
theorem lX7_109 : Cond.methodLink RX7 109 yX6_copyFrom ∈ zTs := zIn 628 (by decide +kernel) (by decide +kernel)
theorem lX7_112 : Cond.methodLink RX7 112 yX2_keep ∈ zTs := zIn 629 (by decide +kernel) (by decide +kernel)
theorem lX2_31 : Cond.methodLink RX2 31 yJ9_min_7cf53 ∈ zTs := zIn 633 (by decide +kernel) (by decide +kernel)
theorem lL_144 : Cond.methodLink RL 144 yX7_setPulling ∈ zTs := zIn 637 (by decide +kernel) (by decide +kernel)
theorem lL_153 : Cond.methodLink RL 153 yX7_clear ∈ zTs := zIn 641 (by decide +kernel) (by decide +kernel)
theorem lX7_192 : Cond.methodLink RX7 192 yX6_dropAll ∈ zTs := zIn 645 (by decide +kernel) (by decide +kernel)
theorem lL_157 : Cond.methodLink RL 157 yX7_undo ∈ zTs := zIn 646 (by decide +kernel) (by decide +kernel)
theorem lX7_199 : Cond.methodLink RX7 199 yX2_goBack ∈ zTs := zIn 650 (by decide +kernel) (by decide +kernel)
theorem lX2_37 : Cond.methodLink RX2 37 yX2_takeBack ∈ zTs := zIn 654 (by decide +kernel) (by decide +kernel)
theorem lL_161 : Cond.methodLink RL 161 yX7_undoCount ∈ zTs := zIn 658 (by decide +kernel) (by decide +kernel)
theorem lL_165 : Cond.methodLink RL 165 yX7_saveSnapshot ∈ zTs := zIn 662 (by decide +kernel) (by decide +kernel)
theorem lL_172 : Cond.methodLink RL 172 yX7_scriptErrorKind ∈ zTs := zIn 666 (by decide +kernel) (by decide +kernel)
theorem lL_176 : Cond.methodLink RL 176 yX7_scriptErrorOffset ∈ zTs := zIn 670 (by decide +kernel) (by decide +kernel)
theorem lL_180 : Cond.methodLink RL 180 yX7_bucketCount ∈ zTs := zIn 674 (by decide +kernel) (by decide +kernel)
theorem lL_184 : Cond.methodLink RL 184 yX7_entryCount ∈ zTs := zIn 678 (by decide +kernel) (by decide +kernel)
theorem lL_188 : Cond.methodLink RL 188 yX7_neighbourhood ∈ zTs := zIn 682 (by decide +kernel) (by decide +kernel)
theorem lL_192 : Cond.methodLink RL 192 yX7_multiplier ∈ zTs := zIn 686 (by decide +kernel) (by decide +kernel)
theorem lL_196 : Cond.methodLink RL 196 yX7_isPulling ∈ zTs := zIn 690 (by decide +kernel) (by decide +kernel)
theorem lL_216 : Cond.methodLink RL 216 yX7_longestRun ∈ zTs := zIn 694 (by decide +kernel) (by decide +kernel)
theorem lX7_230 : Cond.methodLink RX7 230 yX6_longestFull ∈ zTs := zIn 698 (by decide +kernel) (by decide +kernel)
theorem lX6_127 : Cond.methodLink RX6 127 yJ9_max_7cf53 ∈ zTs := zIn 702 (by decide +kernel) (by decide +kernel)
theorem lX6_132 : Cond.methodLink RX6 132 yJ9_min_7cf53 ∈ zTs := zIn 705 (by decide +kernel) (by decide +kernel)
theorem lL_220 : Cond.methodLink RL 220 yX7_fullestHome ∈ zTs := zIn 706 (by decide +kernel) (by decide +kernel)
theorem lX7_233 : Cond.methodLink RX7 233 yX6_fullest ∈ zTs := zIn 710 (by decide +kernel) (by decide +kernel)
theorem lX6_135 : Cond.methodLink RX6 135 yJ6_bitCount_0f7a4 ∈ zTs := zIn 714 (by decide +kernel) (by decide +kernel)
theorem lJ6_265 : Cond.constant RJ6 265 (1431655765 : Int32) ∈ zTs := zIn 717 (by decide +kernel) (by decide +kernel)
theorem lJ6_266 : Cond.constant RJ6 266 (858993459 : Int32) ∈ zTs := zIn 718 (by decide +kernel) (by decide +kernel)
theorem lJ6_267 : Cond.constant RJ6 267 (252645135 : Int32) ∈ zTs := zIn 719 (by decide +kernel) (by decide +kernel)
theorem lL_239 : Cond.methodLink RL 239 yX7_longestDistance ∈ zTs := zIn 720 (by decide +kernel) (by decide +kernel)
theorem lX7_245 : Cond.methodLink RX7 245 yX6_mostSteps ∈ zTs := zIn 724 (by decide +kernel) (by decide +kernel)
theorem lL_243 : Cond.methodLink RL 243 yX7_sumOfDistances ∈ zTs := zIn 728 (by decide +kernel) (by decide +kernel)
theorem lX7_248 : Cond.methodLink RX7 248 yX6_sumOfSteps ∈ zTs := zIn 732 (by decide +kernel) (by decide +kernel)
theorem lL_271 : Cond.methodLink RL 271 yX7_moves ∈ zTs := zIn 736 (by decide +kernel) (by decide +kernel)
theorem lL_275 : Cond.methodLink RL 275 yX7_pulls ∈ zTs := zIn 740 (by decide +kernel) (by decide +kernel)
theorem lL_279 : Cond.methodLink RL 279 yX7_growths ∈ zTs := zIn 744 (by decide +kernel) (by decide +kernel)
theorem lL_283 : Cond.methodLink RL 283 yX7_addedCount ∈ zTs := zIn 748 (by decide +kernel) (by decide +kernel)
theorem lL_287 : Cond.methodLink RL 287 yX7_removedCount ∈ zTs := zIn 752 (by decide +kernel) (by decide +kernel)
theorem lL_291 : Cond.methodLink RL 291 yX7_meanDistance ∈ zTs := zIn 756 (by decide +kernel) (by decide +kernel)
theorem lL_296 : Cond.methodLink RL 296 yX7_load ∈ zTs := zIn 760 (by decide +kernel) (by decide +kernel)
theorem lL_301 : Cond.methodLink RL 301 yX7_violations ∈ zTs := zIn 764 (by decide +kernel) (by decide +kernel)
theorem lX7_274 : Cond.methodLink RX7 274 yJ9_abs_0f7a4 ∈ zTs := zIn 768 (by decide +kernel) (by decide +kernel)
theorem lX7_279 : Cond.methodLink RX7 279 yX6_strayEntries ∈ zTs := zIn 771 (by decide +kernel) (by decide +kernel)
theorem lX7_282 : Cond.methodLink RX7 282 yX6_wrongHops ∈ zTs := zIn 775 (by decide +kernel) (by decide +kernel)
theorem lX7_285 : Cond.methodLink RX7 285 yX6_twins ∈ zTs := zIn 779 (by decide +kernel) (by decide +kernel)
theorem lL_305 : Cond.methodLink RL 305 yX7_writeTable ∈ zTs := zIn 783 (by decide +kernel) (by decide +kernel)
theorem lX7_288 : Cond.methodLink RX7 288 yX4_begin ∈ zTs := zIn 787 (by decide +kernel) (by decide +kernel)
theorem lX7_289 : Cond.methodLink RX7 289 yX4_addSign ∈ zTs := zIn 791 (by decide +kernel) (by decide +kernel)
theorem lX7_216 : Cond.methodLink RX7 216 yX6_keyIn ∈ zTs := zIn 795 (by decide +kernel) (by decide +kernel)
theorem lX7_292 : Cond.methodLink RX7 292 yX4_addNumber ∈ zTs := zIn 796 (by decide +kernel) (by decide +kernel)
theorem lX4_19 : Cond.methodLink RX4 19 yX4_addSign ∈ zTs := zIn 800 (by decide +kernel) (by decide +kernel)
theorem lX7_239 : Cond.methodLink RX7 239 yX6_stepsFromHome ∈ zTs := zIn 801 (by decide +kernel) (by decide +kernel)
theorem lL_309 : Cond.methodLink RL 309 yX7_reportByte ∈ zTs := zIn 802 (by decide +kernel) (by decide +kernel)
theorem lX7_296 : Cond.methodLink RX7 296 yX4_signAt ∈ zTs := zIn 806 (by decide +kernel) (by decide +kernel)
theorem lL_111 : Cond.methodLink RL 111 yL_truncateInput ∈ zTs := zIn 810 (by decide +kernel) (by decide +kernel)
theorem lL_13 : Cond.classLink RL 13 "java/lang/IllegalArgumentException" ∈ zTs := zIn 813 (by decide +kernel) (by decide +kernel)
theorem lL_7 : Cond.methodLink RL 7 yX7_truncateInput ∈ zTs := zIn 814 (by decide +kernel) (by decide +kernel)
theorem lX7_79 : Cond.classLink RX7 79 "java/lang/IllegalArgumentException" ∈ zTs := zIn 818 (by decide +kernel) (by decide +kernel)
theorem lX7_83 : Cond.methodLink RX7 83 ⟨"java/lang/IllegalArgumentException", "<init>", "(Ljava/lang/String;)V"⟩ ∈ zTs := zIn 861 (by decide +kernel) (by decide +kernel)
theorem lL_124 : Cond.methodLink RL 124 yL_add ∈ zTs := zIn 886 (by decide +kernel) (by decide +kernel)
theorem lL_19 : Cond.classLink RL 19 "java/lang/IllegalStateException" ∈ zTs := zIn 889 (by decide +kernel) (by decide +kernel)
theorem lL_15 : Cond.methodLink RL 15 yX7_add ∈ zTs := zIn 890 (by decide +kernel) (by decide +kernel)
theorem lX7_118 : Cond.methodLink RX7 118 yX7_needKey ∈ zTs := zIn 894 (by decide +kernel) (by decide +kernel)
theorem lX7_121 : Cond.methodLink RX7 121 yX7_needValue ∈ zTs := zIn 898 (by decide +kernel) (by decide +kernel)
theorem lX7_301 : Cond.methodLink RX7 301 yX7_isValue ∈ zTs := zIn 901 (by decide +kernel) (by decide +kernel)
theorem lX7_124 : Cond.methodLink RX7 124 yX6_bucketWith ∈ zTs := zIn 903 (by decide +kernel) (by decide +kernel)
theorem lX7_127 : Cond.classLink RX7 127 "java/lang/IllegalStateException" ∈ zTs := zIn 904 (by decide +kernel) (by decide +kernel)
theorem lX7_131 : Cond.methodLink RX7 131 ⟨"java/lang/IllegalStateException", "<init>", "(Ljava/lang/String;)V"⟩ ∈ zTs := zIn 914 (by decide +kernel) (by decide +kernel)
theorem lX7_132 : Cond.methodLink RX7 132 yX2_takeBack ∈ zTs := zIn 920 (by decide +kernel) (by decide +kernel)
theorem lL_128 : Cond.methodLink RL 128 yL_put ∈ zTs := zIn 922 (by decide +kernel) (by decide +kernel)
theorem lL_21 : Cond.methodLink RL 21 yX7_put ∈ zTs := zIn 925 (by decide +kernel) (by decide +kernel)
theorem lX7_137 : Cond.methodLink RX7 137 yX6_valueIn ∈ zTs := zIn 929 (by decide +kernel) (by decide +kernel)
theorem lX7_140 : Cond.methodLink RX7 140 yX6_store ∈ zTs := zIn 933 (by decide +kernel) (by decide +kernel)
theorem lL_131 : Cond.methodLink RL 131 yL_addRow ∈ zTs := zIn 934 (by decide +kernel) (by decide +kernel)
theorem lL_24 : Cond.methodLink RL 24 yX7_addRow ∈ zTs := zIn 937 (by decide +kernel) (by decide +kernel)
theorem lX7_148 : Cond.methodLink RX7 148 yX7_isStep ∈ zTs := zIn 941 (by decide +kernel) (by decide +kernel)
theorem lX7_151 : Cond.methodLink RX7 151 yX7_isRow ∈ zTs := zIn 942 (by decide +kernel) (by decide +kernel)
theorem lX7_157 : Cond.methodLink RX7 157 yX6_insertRow ∈ zTs := zIn 944 (by decide +kernel) (by decide +kernel)
theorem lL_135 : Cond.methodLink RL 135 yL_remove ∈ zTs := zIn 946 (by decide +kernel) (by decide +kernel)
theorem lL_31 : Cond.classLink RL 31 "java/util/NoSuchElementException" ∈ zTs := zIn 949 (by decide +kernel) (by decide +kernel)
theorem lL_28 : Cond.methodLink RL 28 yX7_remove ∈ zTs := zIn 950 (by decide +kernel) (by decide +kernel)
theorem lX7_163 : Cond.classLink RX7 163 "java/util/NoSuchElementException" ∈ zTs := zIn 954 (by decide +kernel) (by decide +kernel)
theorem lX7_167 : Cond.methodLink RX7 167 ⟨"java/util/NoSuchElementException", "<init>", "(Ljava/lang/String;)V"⟩ ∈ zTs := zIn 964 (by decide +kernel) (by decide +kernel)
theorem lL_138 : Cond.methodLink RL 138 yL_setNeighbourhood ∈ zTs := zIn 970 (by decide +kernel) (by decide +kernel)
theorem lL_33 : Cond.methodLink RL 33 yX7_setNeighbourhood ∈ zTs := zIn 973 (by decide +kernel) (by decide +kernel)
theorem lX7_168 : Cond.methodLink RX7 168 yX7_isNear ∈ zTs := zIn 977 (by decide +kernel) (by decide +kernel)
theorem lX7_173 : Cond.methodLink RX7 173 yX6_changeNear ∈ zTs := zIn 979 (by decide +kernel) (by decide +kernel)
theorem lL_141 : Cond.methodLink RL 141 yL_setMultiplier ∈ zTs := zIn 981 (by decide +kernel) (by decide +kernel)
theorem lL_36 : Cond.methodLink RL 36 yX7_setMultiplier ∈ zTs := zIn 984 (by decide +kernel) (by decide +kernel)
theorem lX7_181 : Cond.methodLink RX7 181 yX7_isTimes ∈ zTs := zIn 988 (by decide +kernel) (by decide +kernel)
theorem lX7_186 : Cond.methodLink RX7 186 yX6_changeTimes ∈ zTs := zIn 990 (by decide +kernel) (by decide +kernel)
theorem lL_149 : Cond.methodLink RL 149 yL_grow ∈ zTs := zIn 991 (by decide +kernel) (by decide +kernel)
theorem lL_39 : Cond.methodLink RL 39 yX7_grow ∈ zTs := zIn 994 (by decide +kernel) (by decide +kernel)
theorem lX7_189 : Cond.methodLink RX7 189 yX6_buildAnew ∈ zTs := zIn 998 (by decide +kernel) (by decide +kernel)
theorem lL_169 : Cond.methodLink RL 169 yL_restoreSnapshot ∈ zTs := zIn 999 (by decide +kernel) (by decide +kernel)
theorem lL_43 : Cond.methodLink RL 43 yX7_restoreSnapshot ∈ zTs := zIn 1002 (by decide +kernel) (by decide +kernel)
theorem lL_201 : Cond.methodLink RL 201 yL_keyAt ∈ zTs := zIn 1007 (by decide +kernel) (by decide +kernel)
theorem lL_49 : Cond.classLink RL 49 "java/lang/IndexOutOfBoundsException" ∈ zTs := zIn 1010 (by decide +kernel) (by decide +kernel)
theorem lL_46 : Cond.methodLink RL 46 yX7_keyAt ∈ zTs := zIn 1011 (by decide +kernel) (by decide +kernel)
theorem lX7_213 : Cond.methodLink RX7 213 yX7_needBucket ∈ zTs := zIn 1015 (by decide +kernel) (by decide +kernel)
theorem lX7_306 : Cond.methodLink RX7 306 yX6_hasBucket ∈ zTs := zIn 1019 (by decide +kernel) (by decide +kernel)
theorem lX7_309 : Cond.classLink RX7 309 "java/lang/IndexOutOfBoundsException" ∈ zTs := zIn 1020 (by decide +kernel) (by decide +kernel)
theorem lX7_313 : Cond.methodLink RX7 313 ⟨"java/lang/IndexOutOfBoundsException", "<init>", "(Ljava/lang/String;)V"⟩ ∈ zTs := zIn 1030 (by decide +kernel) (by decide +kernel)
theorem lL_204 : Cond.methodLink RL 204 yL_valueAt ∈ zTs := zIn 1036 (by decide +kernel) (by decide +kernel)
theorem lL_51 : Cond.methodLink RL 51 yX7_valueAt ∈ zTs := zIn 1039 (by decide +kernel) (by decide +kernel)
theorem lL_207 : Cond.methodLink RL 207 yL_hopBits ∈ zTs := zIn 1043 (by decide +kernel) (by decide +kernel)
theorem lL_54 : Cond.methodLink RL 54 yX7_hopBits ∈ zTs := zIn 1046 (by decide +kernel) (by decide +kernel)
theorem lX7_219 : Cond.methodLink RX7 219 yX6_hopsIn ∈ zTs := zIn 1050 (by decide +kernel) (by decide +kernel)
theorem lL_210 : Cond.methodLink RL 210 yL_entriesOf ∈ zTs := zIn 1051 (by decide +kernel) (by decide +kernel)
theorem lL_57 : Cond.methodLink RL 57 yX7_entriesOf ∈ zTs := zIn 1054 (by decide +kernel) (by decide +kernel)
theorem lX7_222 : Cond.methodLink RX7 222 yJ6_bitCount_0f7a4 ∈ zTs := zIn 1058 (by decide +kernel) (by decide +kernel)
theorem lL_213 : Cond.methodLink RL 213 yL_freeDistance ∈ zTs := zIn 1059 (by decide +kernel) (by decide +kernel)
theorem lL_60 : Cond.methodLink RL 60 yX7_freeDistance ∈ zTs := zIn 1062 (by decide +kernel) (by decide +kernel)
theorem lX7_227 : Cond.methodLink RX7 227 yX6_stepsToFree ∈ zTs := zIn 1066 (by decide +kernel) (by decide +kernel)
theorem lL_224 : Cond.methodLink RL 224 yL_homeOf ∈ zTs := zIn 1067 (by decide +kernel) (by decide +kernel)
theorem lL_63 : Cond.methodLink RL 63 yX7_homeOf ∈ zTs := zIn 1070 (by decide +kernel) (by decide +kernel)
theorem lX7_236 : Cond.methodLink RX7 236 yX6_homeFor ∈ zTs := zIn 1074 (by decide +kernel) (by decide +kernel)
theorem lL_227 : Cond.methodLink RL 227 yL_bucketOf ∈ zTs := zIn 1075 (by decide +kernel) (by decide +kernel)
theorem lL_66 : Cond.methodLink RL 66 yX7_bucketOf ∈ zTs := zIn 1078 (by decide +kernel) (by decide +kernel)
theorem lL_230 : Cond.methodLink RL 230 yL_valueOf ∈ zTs := zIn 1082 (by decide +kernel) (by decide +kernel)
theorem lL_69 : Cond.methodLink RL 69 yX7_valueOf ∈ zTs := zIn 1085 (by decide +kernel) (by decide +kernel)
theorem lL_233 : Cond.methodLink RL 233 yL_distanceOf ∈ zTs := zIn 1089 (by decide +kernel) (by decide +kernel)
theorem lL_72 : Cond.methodLink RL 72 yX7_distanceOf ∈ zTs := zIn 1092 (by decide +kernel) (by decide +kernel)
theorem lL_236 : Cond.methodLink RL 236 yL_looksFor ∈ zTs := zIn 1096 (by decide +kernel) (by decide +kernel)
theorem lL_75 : Cond.methodLink RL 75 yX7_looksFor ∈ zTs := zIn 1099 (by decide +kernel) (by decide +kernel)
theorem lX7_242 : Cond.methodLink RX7 242 yX6_looksUntil ∈ zTs := zIn 1103 (by decide +kernel) (by decide +kernel)
theorem lL_247 : Cond.methodLink RL 247 yL_rank ∈ zTs := zIn 1107 (by decide +kernel) (by decide +kernel)
theorem lL_78 : Cond.methodLink RL 78 yX7_rank ∈ zTs := zIn 1110 (by decide +kernel) (by decide +kernel)
theorem lX7_251 : Cond.methodLink RX7 251 yX6_countBelow ∈ zTs := zIn 1114 (by decide +kernel) (by decide +kernel)
theorem lL_250 : Cond.methodLink RL 250 yL_whyNoAdd ∈ zTs := zIn 1118 (by decide +kernel) (by decide +kernel)
theorem lL_81 : Cond.methodLink RL 81 yX7_whyNoAdd ∈ zTs := zIn 1121 (by decide +kernel) (by decide +kernel)
theorem lX7_254 : Cond.methodLink RX7 254 yX7_tryToInsert ∈ zTs := zIn 1125 (by decide +kernel) (by decide +kernel)
theorem lL_253 : Cond.methodLink RL 253 yL_placeFor ∈ zTs := zIn 1129 (by decide +kernel) (by decide +kernel)
theorem lL_84 : Cond.methodLink RL 84 yX7_placeFor ∈ zTs := zIn 1132 (by decide +kernel) (by decide +kernel)
theorem lL_256 : Cond.methodLink RL 256 yL_movesFor ∈ zTs := zIn 1136 (by decide +kernel) (by decide +kernel)
theorem lL_87 : Cond.methodLink RL 87 yX7_movesFor ∈ zTs := zIn 1139 (by decide +kernel) (by decide +kernel)
theorem lL_259 : Cond.methodLink RL 259 yL_bucketsAfter ∈ zTs := zIn 1143 (by decide +kernel) (by decide +kernel)
theorem lL_90 : Cond.methodLink RL 90 yX7_bucketsAfter ∈ zTs := zIn 1146 (by decide +kernel) (by decide +kernel)
theorem lL_262 : Cond.methodLink RL 262 yL_pullsFor ∈ zTs := zIn 1150 (by decide +kernel) (by decide +kernel)
theorem lL_93 : Cond.methodLink RL 93 yX7_pullsFor ∈ zTs := zIn 1153 (by decide +kernel) (by decide +kernel)
theorem lL_265 : Cond.methodLink RL 265 yL_bucketsWith ∈ zTs := zIn 1157 (by decide +kernel) (by decide +kernel)
theorem lL_96 : Cond.methodLink RL 96 yX7_bucketsWith ∈ zTs := zIn 1160 (by decide +kernel) (by decide +kernel)
theorem lL_268 : Cond.methodLink RL 268 yL_bestMultiplier ∈ zTs := zIn 1164 (by decide +kernel) (by decide +kernel)
theorem lL_99 : Cond.methodLink RL 99 yX7_bestMultiplier ∈ zTs := zIn 1167 (by decide +kernel) (by decide +kernel)
theorem lL_103 : Cond.classLink RL 103 "NeighbourHashModel" ∈ zTs := zIn 1172 (by decide +kernel) (by decide +kernel)
theorem lL_105 : Cond.methodLink RL 105 yX8_init ∈ zTs := zIn 1174 (by decide +kernel) (by decide +kernel)
theorem lX8_1 : Cond.methodLink RX8 1 ⟨"java/lang/Object", "<init>", "()V"⟩ ∈ zTs := zIn 1177 (by decide +kernel) (by decide +kernel)
theorem lX8_56 : Cond.methodLink RX8 56 yX8_tell ∈ zTs := zIn 1179 (by decide +kernel) (by decide +kernel)
theorem lX8_152 : Cond.methodLink RX8 152 yJ0_length_8abf5 ∈ zTs := zIn 1183 (by decide +kernel) (by decide +kernel)
theorem lX8_160 : Cond.methodLink RX8 160 yJ0_charAt_5068e ∈ zTs := zIn 1184 (by decide +kernel) (by decide +kernel)
theorem lX8_60 : Cond.methodLink RX8 60 yX8_parses ∈ zTs := zIn 1185 (by decide +kernel) (by decide +kernel)
theorem lX8_188 : Cond.methodLink RX8 188 yX8_next ∈ zTs := zIn 1189 (by decide +kernel) (by decide +kernel)
theorem lX8_173 : Cond.methodLink RX8 173 yX8_sortOf ∈ zTs := zIn 1193 (by decide +kernel) (by decide +kernel)
theorem lX8_306 : Cond.methodLink RX8 306 yX8_readsAll ∈ zTs := zIn 1196 (by decide +kernel) (by decide +kernel)
theorem lX8_303 : Cond.methodLink RX8 303 yX8_readsHead ∈ zTs := zIn 1200 (by decide +kernel) (by decide +kernel)
theorem lX8_235 : Cond.methodLink RX8 235 yX8_says ∈ zTs := zIn 1205 (by decide +kernel) (by decide +kernel)
theorem lX8_182 : Cond.methodLink RX8 182 yX8_fail ∈ zTs := zIn 1209 (by decide +kernel) (by decide +kernel)
theorem lX8_300 : Cond.methodLink RX8 300 yX8_isSize ∈ zTs := zIn 1213 (by decide +kernel) (by decide +kernel)
theorem lX8_191 : Cond.methodLink RX8 191 yX8_number ∈ zTs := zIn 1216 (by decide +kernel) (by decide +kernel)
theorem lX8_185 : Cond.methodLink RX8 185 yX8_is ∈ zTs := zIn 1220 (by decide +kernel) (by decide +kernel)
theorem lX8_67 : Cond.methodLink RX8 67 yX8_in ∈ zTs := zIn 1224 (by decide +kernel) (by decide +kernel)
theorem lX8_230 : Cond.methodLink RX8 230 yX8_readsCommand ∈ zTs := zIn 1227 (by decide +kernel) (by decide +kernel)
theorem lX8_262 : Cond.methodLink RX8 262 yX8_wordAhead ∈ zTs := zIn 1231 (by decide +kernel) (by decide +kernel)
theorem lX8_249 : Cond.methodLink RX8 249 yX8_laterWord ∈ zTs := zIn 1241 (by decide +kernel) (by decide +kernel)
theorem lX8_265 : Cond.methodLink RX8 265 yX8_readsRepeat ∈ zTs := zIn 1250 (by decide +kernel) (by decide +kernel)
theorem lX8_271 : Cond.methodLink RX8 271 yX8_readsWord ∈ zTs := zIn 1254 (by decide +kernel) (by decide +kernel)
theorem lX8_274 : Cond.methodLink RX8 274 yX8_readsAdd ∈ zTs := zIn 1258 (by decide +kernel) (by decide +kernel)
theorem lX8_194 : Cond.methodLink RX8 194 yX8_readsEntry ∈ zTs := zIn 1262 (by decide +kernel) (by decide +kernel)
theorem lX8_197 : Cond.methodLink RX8 197 yX8_whyOut ∈ zTs := zIn 1266 (by decide +kernel) (by decide +kernel)
theorem lX8_129 : Cond.methodLink RX8 129 yX8_bucketWith ∈ zTs := zIn 1270 (by decide +kernel) (by decide +kernel)
theorem lX8_71 : Cond.methodLink RX8 71 yX8_key ∈ zTs := zIn 1274 (by decide +kernel) (by decide +kernel)
theorem lX8_96 : Cond.methodLink RX8 96 yX8_copies ∈ zTs := zIn 1278 (by decide +kernel) (by decide +kernel)
theorem lX8_132 : Cond.methodLink RX8 132 yX8_adds ∈ zTs := zIn 1282 (by decide +kernel) (by decide +kernel)
theorem lX8_116 : Cond.methodLink RX8 116 yX8_lays ∈ zTs := zIn 1286 (by decide +kernel) (by decide +kernel)
theorem lX8_75 : Cond.methodLink RX8 75 yX8_home ∈ zTs := zIn 1290 (by decide +kernel) (by decide +kernel)
theorem lX8_100 : Cond.methodLink RX8 100 yX8_freeFrom ∈ zTs := zIn 1294 (by decide +kernel) (by decide +kernel)
theorem lX8_86 : Cond.methodLink RX8 86 yX8_behind ∈ zTs := zIn 1298 (by decide +kernel) (by decide +kernel)
theorem lX8_82 : Cond.methodLink RX8 82 yX8_isFree ∈ zTs := zIn 1302 (by decide +kernel) (by decide +kernel)
theorem lX8_78 : Cond.methodLink RX8 78 yX8_distance ∈ zTs := zIn 1306 (by decide +kernel) (by decide +kernel)
theorem lX8_103 : Cond.methodLink RX8 103 yX8_mover ∈ zTs := zIn 1310 (by decide +kernel) (by decide +kernel)
theorem lX8_89 : Cond.methodLink RX8 89 yX8_isOf ∈ zTs := zIn 1314 (by decide +kernel) (by decide +kernel)
theorem lX8_106 : Cond.methodLink RX8 106 yX8_moves ∈ zTs := zIn 1318 (by decide +kernel) (by decide +kernel)
theorem lX8_119 : Cond.methodLink RX8 119 yX8_notes ∈ zTs := zIn 1322 (by decide +kernel) (by decide +kernel)
theorem lX8_122 : Cond.methodLink RX8 122 yX8_builds ∈ zTs := zIn 1326 (by decide +kernel) (by decide +kernel)
theorem lX8_113 : Cond.methodLink RX8 113 yX8_empties ∈ zTs := zIn 1330 (by decide +kernel) (by decide +kernel)
theorem lX8_125 : Cond.methodLink RX8 125 yX8_counts ∈ zTs := zIn 1334 (by decide +kernel) (by decide +kernel)
theorem lX8_200 : Cond.methodLink RX8 200 yX8_stops ∈ zTs := zIn 1338 (by decide +kernel) (by decide +kernel)
theorem lX8_277 : Cond.methodLink RX8 277 yX8_readsPut ∈ zTs := zIn 1342 (by decide +kernel) (by decide +kernel)
theorem lX8_204 : Cond.methodLink RX8 204 yX8_puts ∈ zTs := zIn 1346 (by decide +kernel) (by decide +kernel)
theorem lX8_280 : Cond.methodLink RX8 280 yX8_readsRow ∈ zTs := zIn 1350 (by decide +kernel) (by decide +kernel)
theorem lX8_207 : Cond.methodLink RX8 207 yJ9_min_7cf53 ∈ zTs := zIn 1354 (by decide +kernel) (by decide +kernel)
theorem lX8_212 : Cond.methodLink RX8 212 yX8_canRow ∈ zTs := zIn 1355 (by decide +kernel) (by decide +kernel)
theorem lX8_135 : Cond.methodLink RX8 135 yX8_rows ∈ zTs := zIn 1359 (by decide +kernel) (by decide +kernel)
theorem lX8_283 : Cond.methodLink RX8 283 yX8_readsRemove ∈ zTs := zIn 1363 (by decide +kernel) (by decide +kernel)
theorem lX8_215 : Cond.methodLink RX8 215 yX8_takesOut ∈ zTs := zIn 1367 (by decide +kernel) (by decide +kernel)
theorem lX8_139 : Cond.methodLink RX8 139 yX8_pulled ∈ zTs := zIn 1371 (by decide +kernel) (by decide +kernel)
theorem lX8_286 : Cond.methodLink RX8 286 yX8_readsSetting ∈ zTs := zIn 1375 (by decide +kernel) (by decide +kernel)
theorem lX8_218 : Cond.methodLink RX8 218 yX8_canReset ∈ zTs := zIn 1379 (by decide +kernel) (by decide +kernel)
theorem lX8_145 : Cond.methodLink RX8 145 yX8_resets ∈ zTs := zIn 1383 (by decide +kernel) (by decide +kernel)
theorem lX8_142 : Cond.methodLink RX8 142 yX8_rebuilds ∈ zTs := zIn 1387 (by decide +kernel) (by decide +kernel)
theorem lX8_289 : Cond.methodLink RX8 289 yX8_readsPulling ∈ zTs := zIn 1391 (by decide +kernel) (by decide +kernel)
theorem lX8_292 : Cond.methodLink RX8 292 yX8_readsGrow ∈ zTs := zIn 1395 (by decide +kernel) (by decide +kernel)
theorem lX8_221 : Cond.methodLink RX8 221 yX8_canGrow ∈ zTs := zIn 1399 (by decide +kernel) (by decide +kernel)
theorem lX8_224 : Cond.methodLink RX8 224 yX8_grows ∈ zTs := zIn 1403 (by decide +kernel) (by decide +kernel)
theorem lX8_295 : Cond.methodLink RX8 295 yX8_readsClear ∈ zTs := zIn 1407 (by decide +kernel) (by decide +kernel)
theorem lX8_227 : Cond.methodLink RX8 227 yX8_clears ∈ zTs := zIn 1411 (by decide +kernel) (by decide +kernel)
theorem lX8_148 : Cond.methodLink RX8 148 yX8_entries ∈ zTs := zIn 1415 (by decide +kernel) (by decide +kernel)
theorem fX8_7 : zF RX8 7 6 0 := ⟨RX8, TX8, 27, rfl, by decide, zIn 1419 (by decide +kernel) (by decide +kernel), inX8⟩
theorem fX8_13 : zF RX8 13 6 1 := ⟨RX8, TX8, 27, rfl, by decide, zIn 1420 (by decide +kernel) (by decide +kernel), inX8⟩
theorem fX8_16 : zF RX8 16 6 2 := ⟨RX8, TX8, 27, rfl, by decide, zIn 1421 (by decide +kernel) (by decide +kernel), inX8⟩
theorem fX8_19 : zF RX8 19 6 3 := ⟨RX8, TX8, 27, rfl, by decide, zIn 1422 (by decide +kernel) (by decide +kernel), inX8⟩
theorem fX8_22 : zF RX8 22 6 4 := ⟨RX8, TX8, 27, rfl, by decide, zIn 1423 (by decide +kernel) (by decide +kernel), inX8⟩
theorem fX8_25 : zF RX8 25 6 5 := ⟨RX8, TX8, 27, rfl, by decide, zIn 1424 (by decide +kernel) (by decide +kernel), inX8⟩
theorem fX8_28 : zF RX8 28 6 6 := ⟨RX8, TX8, 27, rfl, by decide, zIn 1425 (by decide +kernel) (by decide +kernel), inX8⟩
theorem fX8_31 : zF RX8 31 6 7 := ⟨RX8, TX8, 27, rfl, by decide, zIn 1426 (by decide +kernel) (by decide +kernel), inX8⟩
theorem fX8_34 : zF RX8 34 6 8 := ⟨RX8, TX8, 27, rfl, by decide, zIn 1427 (by decide +kernel) (by decide +kernel), inX8⟩
theorem fX8_318 : zF RX8 318 6 9 := ⟨RX8, TX8, 27, rfl, by decide, zIn 1428 (by decide +kernel) (by decide +kernel), inX8⟩
theorem fX8_110 : zF RX8 110 6 10 := ⟨RX8, TX8, 27, rfl, by decide, zIn 1429 (by decide +kernel) (by decide +kernel), inX8⟩
theorem fX8_339 : zF RX8 339 6 11 := ⟨RX8, TX8, 27, rfl, by decide, zIn 1430 (by decide +kernel) (by decide +kernel), inX8⟩
theorem fX8_37 : zF RX8 37 6 12 := ⟨RX8, TX8, 27, rfl, by decide, zIn 1431 (by decide +kernel) (by decide +kernel), inX8⟩
theorem fX8_40 : zF RX8 40 6 13 := ⟨RX8, TX8, 27, rfl, by decide, zIn 1432 (by decide +kernel) (by decide +kernel), inX8⟩
theorem fX8_309 : zF RX8 309 6 14 := ⟨RX8, TX8, 27, rfl, by decide, zIn 1433 (by decide +kernel) (by decide +kernel), inX8⟩
theorem fX8_157 : zF RX8 157 6 15 := ⟨RX8, TX8, 27, rfl, by decide, zIn 1434 (by decide +kernel) (by decide +kernel), inX8⟩
theorem fX8_179 : zF RX8 179 6 16 := ⟨RX8, TX8, 27, rfl, by decide, zIn 1435 (by decide +kernel) (by decide +kernel), inX8⟩
theorem fX8_43 : zF RX8 43 6 17 := ⟨RX8, TX8, 27, rfl, by decide, zIn 1436 (by decide +kernel) (by decide +kernel), inX8⟩
theorem fX8_47 : zF RX8 47 6 18 := ⟨RX8, TX8, 27, rfl, by decide, zIn 1437 (by decide +kernel) (by decide +kernel), inX8⟩
theorem fX8_370 : zF RX8 370 6 19 := ⟨RX8, TX8, 27, rfl, by decide, zIn 1438 (by decide +kernel) (by decide +kernel), inX8⟩
theorem fX8_64 : zF RX8 64 6 20 := ⟨RX8, TX8, 27, rfl, by decide, zIn 1439 (by decide +kernel) (by decide +kernel), inX8⟩
theorem fX8_170 : zF RX8 170 6 21 := ⟨RX8, TX8, 27, rfl, by decide, zIn 1440 (by decide +kernel) (by decide +kernel), inX8⟩
theorem fX8_167 : zF RX8 167 6 22 := ⟨RX8, TX8, 27, rfl, by decide, zIn 1441 (by decide +kernel) (by decide +kernel), inX8⟩
theorem fX8_164 : zF RX8 164 6 23 := ⟨RX8, TX8, 27, rfl, by decide, zIn 1442 (by decide +kernel) (by decide +kernel), inX8⟩
theorem fX8_176 : zF RX8 176 6 24 := ⟨RX8, TX8, 27, rfl, by decide, zIn 1443 (by decide +kernel) (by decide +kernel), inX8⟩
theorem fX8_268 : zF RX8 268 6 25 := ⟨RX8, TX8, 27, rfl, by decide, zIn 1444 (by decide +kernel) (by decide +kernel), inX8⟩
theorem fX8_51 : zF RX8 51 6 26 := ⟨RX8, TX8, 27, rfl, by decide, zIn 1445 (by decide +kernel) (by decide +kernel), inX8⟩
theorem lL_117 : Cond.methodLink RL 117 yX8_thrown ∈ zTs := zIn 1502 (by decide +kernel) (by decide +kernel)
theorem lL_110 : Cond.methodLink RL 110 yX8_append ∈ zTs := zIn 1506 (by decide +kernel) (by decide +kernel)
theorem lX8_312 : Cond.methodLink RX8 312 yX8_type ∈ zTs := zIn 1510 (by decide +kernel) (by decide +kernel)
theorem lL_116 : Cond.methodLink RL 116 yX8_truncateInput ∈ zTs := zIn 1514 (by decide +kernel) (by decide +kernel)
theorem lX8_315 : Cond.methodLink RX8 315 yX8_throwsOne ∈ zTs := zIn 1518 (by decide +kernel) (by decide +kernel)
theorem lL_123 : Cond.methodLink RL 123 yX8_runScript ∈ zTs := zIn 1522 (by decide +kernel) (by decide +kernel)
theorem lX8_321 : Cond.methodLink RX8 321 yX8_begins ∈ zTs := zIn 1526 (by decide +kernel) (by decide +kernel)
theorem lX8_324 : Cond.methodLink RX8 324 yX8_remember ∈ zTs := zIn 1530 (by decide +kernel) (by decide +kernel)
theorem lL_127 : Cond.methodLink RL 127 yX8_add ∈ zTs := zIn 1534 (by decide +kernel) (by decide +kernel)
theorem lX8_330 : Cond.methodLink RX8 330 yX8_isEntry ∈ zTs := zIn 1538 (by decide +kernel) (by decide +kernel)
theorem lX8_327 : Cond.methodLink RX8 327 yX8_isKey ∈ zTs := zIn 1541 (by decide +kernel) (by decide +kernel)
theorem lX8_333 : Cond.methodLink RX8 333 yX8_throwsOne_ ∈ zTs := zIn 1544 (by decide +kernel) (by decide +kernel)
theorem lL_130 : Cond.methodLink RL 130 yX8_put ∈ zTs := zIn 1548 (by decide +kernel) (by decide +kernel)
theorem lL_134 : Cond.methodLink RL 134 yX8_addRow ∈ zTs := zIn 1552 (by decide +kernel) (by decide +kernel)
theorem lL_137 : Cond.methodLink RL 137 yX8_remove ∈ zTs := zIn 1556 (by decide +kernel) (by decide +kernel)
theorem lL_140 : Cond.methodLink RL 140 yX8_setNeighbourhood ∈ zTs := zIn 1560 (by decide +kernel) (by decide +kernel)
theorem lX8_336 : Cond.methodLink RX8 336 yX8_reset ∈ zTs := zIn 1564 (by decide +kernel) (by decide +kernel)
theorem lL_143 : Cond.methodLink RL 143 yX8_setMultiplier ∈ zTs := zIn 1568 (by decide +kernel) (by decide +kernel)
theorem lL_148 : Cond.methodLink RL 148 yX8_setPulling ∈ zTs := zIn 1572 (by decide +kernel) (by decide +kernel)
theorem lL_152 : Cond.methodLink RL 152 yX8_grow ∈ zTs := zIn 1576 (by decide +kernel) (by decide +kernel)
theorem lL_156 : Cond.methodLink RL 156 yX8_clear ∈ zTs := zIn 1580 (by decide +kernel) (by decide +kernel)
theorem lL_160 : Cond.methodLink RL 160 yX8_undo ∈ zTs := zIn 1584 (by decide +kernel) (by decide +kernel)
theorem lL_164 : Cond.methodLink RL 164 yX8_undoCount ∈ zTs := zIn 1588 (by decide +kernel) (by decide +kernel)
theorem lL_168 : Cond.methodLink RL 168 yX8_saveSnapshot ∈ zTs := zIn 1592 (by decide +kernel) (by decide +kernel)
theorem lL_171 : Cond.methodLink RL 171 yX8_restoreSnapshot ∈ zTs := zIn 1596 (by decide +kernel) (by decide +kernel)
theorem lL_175 : Cond.methodLink RL 175 yX8_scriptErrorKind ∈ zTs := zIn 1600 (by decide +kernel) (by decide +kernel)
theorem lL_179 : Cond.methodLink RL 179 yX8_scriptErrorOffset ∈ zTs := zIn 1604 (by decide +kernel) (by decide +kernel)
theorem lL_183 : Cond.methodLink RL 183 yX8_bucketCount ∈ zTs := zIn 1608 (by decide +kernel) (by decide +kernel)
theorem lX8_343 : Cond.methodLink RX8 343 yX8_told ∈ zTs := zIn 1612 (by decide +kernel) (by decide +kernel)
theorem lL_187 : Cond.methodLink RL 187 yX8_entryCount ∈ zTs := zIn 1616 (by decide +kernel) (by decide +kernel)
theorem lL_191 : Cond.methodLink RL 191 yX8_neighbourhood ∈ zTs := zIn 1620 (by decide +kernel) (by decide +kernel)
theorem lL_195 : Cond.methodLink RL 195 yX8_multiplier ∈ zTs := zIn 1624 (by decide +kernel) (by decide +kernel)
theorem lL_200 : Cond.methodLink RL 200 yX8_isPulling ∈ zTs := zIn 1628 (by decide +kernel) (by decide +kernel)
theorem lL_203 : Cond.methodLink RL 203 yX8_keyAt ∈ zTs := zIn 1632 (by decide +kernel) (by decide +kernel)
theorem lX8_346 : Cond.methodLink RX8 346 yX8_isBucket ∈ zTs := zIn 1636 (by decide +kernel) (by decide +kernel)
theorem lL_206 : Cond.methodLink RL 206 yX8_valueAt ∈ zTs := zIn 1640 (by decide +kernel) (by decide +kernel)
theorem lL_209 : Cond.methodLink RL 209 yX8_hopBits ∈ zTs := zIn 1644 (by decide +kernel) (by decide +kernel)
theorem lX8_349 : Cond.methodLink RX8 349 yX8_hops ∈ zTs := zIn 1648 (by decide +kernel) (by decide +kernel)
theorem lL_212 : Cond.methodLink RL 212 yX8_entriesOf ∈ zTs := zIn 1652 (by decide +kernel) (by decide +kernel)
theorem lX8_352 : Cond.methodLink RX8 352 yX8_manyOf ∈ zTs := zIn 1656 (by decide +kernel) (by decide +kernel)
theorem lL_215 : Cond.methodLink RL 215 yX8_freeDistance ∈ zTs := zIn 1660 (by decide +kernel) (by decide +kernel)
theorem lL_219 : Cond.methodLink RL 219 yX8_longestRun ∈ zTs := zIn 1664 (by decide +kernel) (by decide +kernel)
theorem lX8_355 : Cond.methodLink RX8 355 yJ9_max_7cf53 ∈ zTs := zIn 1668 (by decide +kernel) (by decide +kernel)
theorem lL_223 : Cond.methodLink RL 223 yX8_fullestHome ∈ zTs := zIn 1669 (by decide +kernel) (by decide +kernel)
theorem lL_226 : Cond.methodLink RL 226 yX8_homeOf ∈ zTs := zIn 1673 (by decide +kernel) (by decide +kernel)
theorem lL_229 : Cond.methodLink RL 229 yX8_bucketOf ∈ zTs := zIn 1677 (by decide +kernel) (by decide +kernel)
theorem lL_232 : Cond.methodLink RL 232 yX8_valueOf ∈ zTs := zIn 1681 (by decide +kernel) (by decide +kernel)
theorem lL_235 : Cond.methodLink RL 235 yX8_distanceOf ∈ zTs := zIn 1685 (by decide +kernel) (by decide +kernel)
theorem lX8_93 : Cond.methodLink RX8 93 yX8_off ∈ zTs := zIn 1689 (by decide +kernel) (by decide +kernel)
theorem lL_238 : Cond.methodLink RL 238 yX8_looksFor ∈ zTs := zIn 1693 (by decide +kernel) (by decide +kernel)
theorem lL_242 : Cond.methodLink RL 242 yX8_longestDistance ∈ zTs := zIn 1697 (by decide +kernel) (by decide +kernel)
theorem lL_246 : Cond.methodLink RL 246 yX8_sumOfDistances ∈ zTs := zIn 1701 (by decide +kernel) (by decide +kernel)
theorem lX8_358 : Cond.methodLink RX8 358 yX8_offTogether ∈ zTs := zIn 1705 (by decide +kernel) (by decide +kernel)
theorem lL_249 : Cond.methodLink RL 249 yX8_rank ∈ zTs := zIn 1709 (by decide +kernel) (by decide +kernel)
theorem lL_252 : Cond.methodLink RL 252 yX8_whyNoAdd ∈ zTs := zIn 1713 (by decide +kernel) (by decide +kernel)
theorem lL_255 : Cond.methodLink RL 255 yX8_placeFor ∈ zTs := zIn 1717 (by decide +kernel) (by decide +kernel)
theorem lX8_361 : Cond.methodLink RX8 361 yX8_tries ∈ zTs := zIn 1721 (by decide +kernel) (by decide +kernel)
theorem lL_258 : Cond.methodLink RL 258 yX8_movesFor ∈ zTs := zIn 1725 (by decide +kernel) (by decide +kernel)
theorem lL_261 : Cond.methodLink RL 261 yX8_bucketsAfter ∈ zTs := zIn 1729 (by decide +kernel) (by decide +kernel)
theorem lL_264 : Cond.methodLink RL 264 yX8_pullsFor ∈ zTs := zIn 1733 (by decide +kernel) (by decide +kernel)
theorem lL_267 : Cond.methodLink RL 267 yX8_bucketsWith ∈ zTs := zIn 1737 (by decide +kernel) (by decide +kernel)
theorem lL_270 : Cond.methodLink RL 270 yX8_bestMultiplier ∈ zTs := zIn 1741 (by decide +kernel) (by decide +kernel)
theorem lX8_364 : Cond.methodLink RX8 364 yX8_sumWith ∈ zTs := zIn 1745 (by decide +kernel) (by decide +kernel)
theorem lL_274 : Cond.methodLink RL 274 yX8_moves_ ∈ zTs := zIn 1749 (by decide +kernel) (by decide +kernel)
theorem lL_278 : Cond.methodLink RL 278 yX8_pulls ∈ zTs := zIn 1753 (by decide +kernel) (by decide +kernel)
theorem lL_282 : Cond.methodLink RL 282 yX8_growths ∈ zTs := zIn 1757 (by decide +kernel) (by decide +kernel)
theorem lL_286 : Cond.methodLink RL 286 yX8_addedCount ∈ zTs := zIn 1761 (by decide +kernel) (by decide +kernel)
theorem lL_290 : Cond.methodLink RL 290 yX8_removedCount ∈ zTs := zIn 1765 (by decide +kernel) (by decide +kernel)
theorem lL_295 : Cond.methodLink RL 295 yX8_meanDistance ∈ zTs := zIn 1769 (by decide +kernel) (by decide +kernel)
theorem lL_300 : Cond.methodLink RL 300 yX8_load ∈ zTs := zIn 1773 (by decide +kernel) (by decide +kernel)
theorem lL_304 : Cond.methodLink RL 304 yX8_violations ∈ zTs := zIn 1777 (by decide +kernel) (by decide +kernel)
theorem lX8_367 : Cond.methodLink RX8 367 yX8_doublesOf ∈ zTs := zIn 1781 (by decide +kernel) (by decide +kernel)
theorem lL_308 : Cond.methodLink RL 308 yX8_writeTable ∈ zTs := zIn 1785 (by decide +kernel) (by decide +kernel)
theorem lX8_376 : Cond.methodLink RX8 376 yX8_write ∈ zTs := zIn 1789 (by decide +kernel) (by decide +kernel)
theorem lX8_379 : Cond.methodLink RX8 379 yX8_writeBucket ∈ zTs := zIn 1793 (by decide +kernel) (by decide +kernel)
theorem lX8_373 : Cond.methodLink RX8 373 yX8_writeNumber ∈ zTs := zIn 1797 (by decide +kernel) (by decide +kernel)
theorem lL_312 : Cond.methodLink RL 312 yX8_reportByte ∈ zTs := zIn 1801 (by decide +kernel) (by decide +kernel)
theorem fJ0_9 : Cond.fieldLink RJ0 9 "java/lang/String" "value" "[B" ∈ zTs := zIn 1821 (by decide +kernel) (by decide +kernel)
theorem fJ0_15 : Cond.fieldLink RJ0 15 "java/lang/String" "coder" "B" ∈ zTs := zIn 1822 (by decide +kernel) (by decide +kernel)
theorem fX5_168 : Cond.fieldLink RX5 168 "NeighbourHash$Command" "word" "Ljava/lang/String;" ∈ zTs := zIn 1823 (by decide +kernel) (by decide +kernel)
theorem fX5_172 : Cond.fieldLink RX5 172 "NeighbourHash$Command" "numbers" "I" ∈ zTs := zIn 1824 (by decide +kernel) (by decide +kernel)
theorem fJx29ce0_7 : Cond.fieldLink RJx29ce0 7 "java/lang/Enum" "ordinal" "I" ∈ zTs := zIn 1825 (by decide +kernel) (by decide +kernel)
theorem arr_int : Cond.arrayClass .int ∈ zTs := zIn 158 (by decide +kernel) (by decide +kernel)
theorem arr_char : Cond.arrayClass .char ∈ zTs := zIn 1501 (by decide +kernel) (by decide +kernel)
theorem arr_long : Cond.arrayClass .long ∈ zTs := zIn 1805 (by decide +kernel) (by decide +kernel)
theorem ob1 : Cond.instanceMethod Lib.objectInit ∈ zTs := zIn 126 (by decide +kernel) (by decide +kernel)
theorem ob2 : Cond.code Lib.objectInit ⟨#[0xb1]⟩ 1 none ∈ zTs := zIn 127 (by decide +kernel) (by decide +kernel)
theorem mm_max1 : Cond.static Lib.Math.max.name ∈ zTs := zIn 703 (by decide +kernel) (by decide +kernel)
theorem mm_max2 : Cond.code Lib.Math.max.name Lib.Math.max.code 2 (some .int) ∈ zTs := zIn 704 (by decide +kernel) (by decide +kernel)
theorem mm_min1 : Cond.static Lib.Math.min.name ∈ zTs := zIn 634 (by decide +kernel) (by decide +kernel)
theorem mm_min2 : Cond.code Lib.Math.min.name Lib.Math.min.code 2 (some .int) ∈ zTs := zIn 635 (by decide +kernel) (by decide +kernel)
theorem mm_abs1 : Cond.static Lib.Math.abs.name ∈ zTs := zIn 769 (by decide +kernel) (by decide +kernel)
theorem mm_abs2 : Cond.code Lib.Math.abs.name Lib.Math.abs.code 1 (some .int) ∈ zTs := zIn 770 (by decide +kernel) (by decide +kernel)
theorem mm_ini : Cond.initialized "java/lang/Math" ∈ zTs := zIn 107 (by decide +kernel) (by decide +kernel)
theorem cp1 : Cond.native arraycopyName ∈ zTs := zIn 627 (by decide +kernel) (by decide +kernel)
theorem cp2 : Cond.static arraycopyName ∈ zTs := zIn 626 (by decide +kernel) (by decide +kernel)
theorem cp3 : Cond.initialized "java/lang/System" ∈ zTs := zIn 115 (by decide +kernel) (by decide +kernel)
theorem nwL_8 : zN RL 8 5 [.null, .null, .null, .null, .null, .int 0, .null, .null] := ⟨RX7, TX7, 8, tyX7, rfl, rfl, tyX7_ok, inX7, lL_8, zIn 121 (by decide +kernel) (by decide +kernel), zIn 96 (by decide +kernel) (by decide +kernel), by
  intro v hv
  simp only [List.mem_cons, List.not_mem_nil, or_false] at hv
  rcases hv with rfl | rfl | rfl | rfl | rfl | rfl | rfl | rfl <;> first | exact Or.inl rfl | exact Or.inr ⟨_, rfl⟩, by decide +kernel⟩
theorem nwX7_7 : zN RX7 7 1 [.null, .int 0, .int 0, .int 0, .int 0, .int 0] := ⟨RX3, TX3, 6, tyX3, rfl, rfl, tyX3_ok, inX3, lX7_7, zIn 129 (by decide +kernel) (by decide +kernel), zIn 97 (by decide +kernel) (by decide +kernel), by
  intro v hv
  simp only [List.mem_cons, List.not_mem_nil, or_false] at hv
  rcases hv with rfl | rfl | rfl | rfl | rfl | rfl <;> first | exact Or.inl rfl | exact Or.inr ⟨_, rfl⟩, by decide +kernel⟩
theorem nwX7_16 : zN RX7 16 3 [.null, .null, .null, .null, .null, .int 0, .int 0, .null, .int 0, .int 0, .int 0, .int 0] := ⟨RX5, TX5, 12, tyX5, rfl, rfl, tyX5_ok, inX5, lX7_16, zIn 160 (by decide +kernel) (by decide +kernel), zIn 98 (by decide +kernel) (by decide +kernel), by
  intro v hv
  simp only [List.mem_cons, List.not_mem_nil, or_false] at hv
  rcases hv with rfl | rfl | rfl | rfl | rfl | rfl | rfl | rfl | rfl | rfl | rfl | rfl <;> first | exact Or.inl rfl | exact Or.inr ⟨_, rfl⟩, by decide +kernel⟩
theorem nwX5_9 : zN RX5 9 4 [.null, .null, .null, .null, .null, .int 0, .int 0, .int 0, .int 0, .int 0, .int 0, .int 0, .int 0, .int 0, .int 0, .int 0] := ⟨RX6, TX6, 16, tyX6, rfl, rfl, tyX6_ok, inX6, lX5_9, zIn 166 (by decide +kernel) (by decide +kernel), zIn 99 (by decide +kernel) (by decide +kernel), by
  intro v hv
  simp only [List.mem_cons, List.not_mem_nil, or_false] at hv
  rcases hv with rfl | rfl | rfl | rfl | rfl | rfl | rfl | rfl | rfl | rfl | rfl | rfl | rfl | rfl | rfl | rfl <;> first | exact Or.inl rfl | exact Or.inr ⟨_, rfl⟩, by decide +kernel⟩
theorem nwX7_25 : zN RX7 25 4 [.null, .null, .null, .null, .null, .int 0, .int 0, .int 0, .int 0, .int 0, .int 0, .int 0, .int 0, .int 0, .int 0, .int 0] := ⟨RX6, TX6, 16, tyX6, rfl, rfl, tyX6_ok, inX6, lX7_25, zIn 166 (by decide +kernel) (by decide +kernel), zIn 99 (by decide +kernel) (by decide +kernel), by
  intro v hv
  simp only [List.mem_cons, List.not_mem_nil, or_false] at hv
  rcases hv with rfl | rfl | rfl | rfl | rfl | rfl | rfl | rfl | rfl | rfl | rfl | rfl | rfl | rfl | rfl | rfl <;> first | exact Or.inl rfl | exact Or.inr ⟨_, rfl⟩, by decide +kernel⟩
theorem nwX7_42 : zN RX7 42 0 [.null, .int 0, .int 0] := ⟨RX2, TX2, 3, tyX2, rfl, rfl, tyX2_ok, inX2, lX7_42, zIn 283 (by decide +kernel) (by decide +kernel), zIn 100 (by decide +kernel) (by decide +kernel), by
  intro v hv
  simp only [List.mem_cons, List.not_mem_nil, or_false] at hv
  rcases hv with rfl | rfl | rfl <;> first | exact Or.inl rfl | exact Or.inr ⟨_, rfl⟩, by decide +kernel⟩
theorem nwX2_9 : zN RX2 9 4 [.null, .null, .null, .null, .null, .int 0, .int 0, .int 0, .int 0, .int 0, .int 0, .int 0, .int 0, .int 0, .int 0, .int 0] := ⟨RX6, TX6, 16, tyX6, rfl, rfl, tyX6_ok, inX6, lX2_9, zIn 166 (by decide +kernel) (by decide +kernel), zIn 99 (by decide +kernel) (by decide +kernel), by
  intro v hv
  simp only [List.mem_cons, List.not_mem_nil, or_false] at hv
  rcases hv with rfl | rfl | rfl | rfl | rfl | rfl | rfl | rfl | rfl | rfl | rfl | rfl | rfl | rfl | rfl | rfl <;> first | exact Or.inl rfl | exact Or.inr ⟨_, rfl⟩, by decide +kernel⟩
theorem nwX7_49 : zN RX7 49 2 [.null, .int 0] := ⟨RX4, TX4, 2, tyX4, rfl, rfl, tyX4_ok, inX4, lX7_49, zIn 303 (by decide +kernel) (by decide +kernel), zIn 101 (by decide +kernel) (by decide +kernel), by
  intro v hv
  simp only [List.mem_cons, List.not_mem_nil, or_false] at hv
  rcases hv with rfl | rfl <;> first | exact Or.inl rfl | exact Or.inr ⟨_, rfl⟩, by decide +kernel⟩
theorem nwL_103 : zN RL 103 6 [.null, .null, .null, .null, .null, .null, .null, .null, .null, .int 0, .int 0, .int 0, .null, .null, .int 0, .int 0, .int 0, .int 0, .null, .int 0, .int 0, .int 0, .int 0, .int 0, .int 0, .int 0, .null] := ⟨RX8, TX8, 27, tyX8, rfl, rfl, tyX8_ok, inX8, lL_103, zIn 1173 (by decide +kernel) (by decide +kernel), zIn 102 (by decide +kernel) (by decide +kernel), by
  intro v hv
  simp only [List.mem_cons, List.not_mem_nil, or_false] at hv
  rcases hv with rfl | rfl | rfl | rfl | rfl | rfl | rfl | rfl | rfl | rfl | rfl | rfl | rfl | rfl | rfl | rfl | rfl | rfl | rfl | rfl | rfl | rfl | rfl | rfl | rfl | rfl | rfl <;> first | exact Or.inl rfl | exact Or.inr ⟨_, rfl⟩, by decide +kernel⟩
