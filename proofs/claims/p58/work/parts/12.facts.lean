/-! what the tables say: methods (m.., yo.., yv.., ys..), fields (f..), links (l..), by their places -/
theorem inX2 : ∀ w ∈ u_ws RX2 TX2 3, w ∈ zTs := by decide +kernel
theorem gg2 : zG 0 tyX2 := ⟨RX2, TX2, 3, rfl, tyX2_ok, nmX2⟩
theorem fin2_0 : zFin 0 0 true := by
  intro C T N h
  have h : some (RX2, TX2, 3) = some (C, T, N) := h
  cases h
  rfl
theorem dcl2_0 : zDecl 0 0 RX2 := by
  intro C T N h
  have h : some (RX2, TX2, 3) = some (C, T, N) := h
  cases h
  rfl
theorem fin2_1 : zFin 0 1 false := by
  intro C T N h
  have h : some (RX2, TX2, 3) = some (C, T, N) := h
  cases h
  rfl
theorem fin2_2 : zFin 0 2 false := by
  intro C T N h
  have h : some (RX2, TX2, 3) = some (C, T, N) := h
  cases h
  rfl
theorem inX3 : ∀ w ∈ u_ws RX3 TX3 6, w ∈ zTs := by decide +kernel
theorem gg3 : zG 1 tyX3 := ⟨RX3, TX3, 6, rfl, tyX3_ok, nmX3⟩
theorem fin3_0 : zFin 1 0 true := by
  intro C T N h
  have h : some (RX3, TX3, 6) = some (C, T, N) := h
  cases h
  rfl
theorem dcl3_0 : zDecl 1 0 RX3 := by
  intro C T N h
  have h : some (RX3, TX3, 6) = some (C, T, N) := h
  cases h
  rfl
theorem fin3_1 : zFin 1 1 false := by
  intro C T N h
  have h : some (RX3, TX3, 6) = some (C, T, N) := h
  cases h
  rfl
theorem fin3_2 : zFin 1 2 false := by
  intro C T N h
  have h : some (RX3, TX3, 6) = some (C, T, N) := h
  cases h
  rfl
theorem fin3_3 : zFin 1 3 false := by
  intro C T N h
  have h : some (RX3, TX3, 6) = some (C, T, N) := h
  cases h
  rfl
theorem fin3_4 : zFin 1 4 false := by
  intro C T N h
  have h : some (RX3, TX3, 6) = some (C, T, N) := h
  cases h
  rfl
theorem fin3_5 : zFin 1 5 false := by
  intro C T N h
  have h : some (RX3, TX3, 6) = some (C, T, N) := h
  cases h
  rfl
theorem inX4 : ∀ w ∈ u_ws RX4 TX4 2, w ∈ zTs := by decide +kernel
theorem gg4 : zG 2 tyX4 := ⟨RX4, TX4, 2, rfl, tyX4_ok, nmX4⟩
theorem fin4_0 : zFin 2 0 true := by
  intro C T N h
  have h : some (RX4, TX4, 2) = some (C, T, N) := h
  cases h
  rfl
theorem dcl4_0 : zDecl 2 0 RX4 := by
  intro C T N h
  have h : some (RX4, TX4, 2) = some (C, T, N) := h
  cases h
  rfl
theorem fin4_1 : zFin 2 1 false := by
  intro C T N h
  have h : some (RX4, TX4, 2) = some (C, T, N) := h
  cases h
  rfl
theorem inX5 : ∀ w ∈ u_ws RX5 TX5 12, w ∈ zTs := by decide +kernel
theorem gg5 : zG 3 tyX5 := ⟨RX5, TX5, 12, rfl, tyX5_ok, nmX5⟩
theorem fin5_0 : zFin 3 0 true := by
  intro C T N h
  have h : some (RX5, TX5, 12) = some (C, T, N) := h
  cases h
  rfl
theorem dcl5_0 : zDecl 3 0 RX5 := by
  intro C T N h
  have h : some (RX5, TX5, 12) = some (C, T, N) := h
  cases h
  rfl
theorem fin5_1 : zFin 3 1 true := by
  intro C T N h
  have h : some (RX5, TX5, 12) = some (C, T, N) := h
  cases h
  rfl
theorem dcl5_1 : zDecl 3 1 RX5 := by
  intro C T N h
  have h : some (RX5, TX5, 12) = some (C, T, N) := h
  cases h
  rfl
theorem fin5_2 : zFin 3 2 true := by
  intro C T N h
  have h : some (RX5, TX5, 12) = some (C, T, N) := h
  cases h
  rfl
theorem dcl5_2 : zDecl 3 2 RX5 := by
  intro C T N h
  have h : some (RX5, TX5, 12) = some (C, T, N) := h
  cases h
  rfl
theorem fin5_3 : zFin 3 3 true := by
  intro C T N h
  have h : some (RX5, TX5, 12) = some (C, T, N) := h
  cases h
  rfl
theorem dcl5_3 : zDecl 3 3 RX5 := by
  intro C T N h
  have h : some (RX5, TX5, 12) = some (C, T, N) := h
  cases h
  rfl
theorem fin5_4 : zFin 3 4 true := by
  intro C T N h
  have h : some (RX5, TX5, 12) = some (C, T, N) := h
  cases h
  rfl
theorem dcl5_4 : zDecl 3 4 RX5 := by
  intro C T N h
  have h : some (RX5, TX5, 12) = some (C, T, N) := h
  cases h
  rfl
theorem fin5_5 : zFin 3 5 false := by
  intro C T N h
  have h : some (RX5, TX5, 12) = some (C, T, N) := h
  cases h
  rfl
theorem fin5_6 : zFin 3 6 false := by
  intro C T N h
  have h : some (RX5, TX5, 12) = some (C, T, N) := h
  cases h
  rfl
theorem fin5_7 : zFin 3 7 false := by
  intro C T N h
  have h : some (RX5, TX5, 12) = some (C, T, N) := h
  cases h
  rfl
theorem fin5_8 : zFin 3 8 false := by
  intro C T N h
  have h : some (RX5, TX5, 12) = some (C, T, N) := h
  cases h
  rfl
theorem fin5_9 : zFin 3 9 false := by
  intro C T N h
  have h : some (RX5, TX5, 12) = some (C, T, N) := h
  cases h
  rfl
theorem fin5_10 : zFin 3 10 false := by
  intro C T N h
  have h : some (RX5, TX5, 12) = some (C, T, N) := h
  cases h
  rfl
theorem fin5_11 : zFin 3 11 false := by
  intro C T N h
  have h : some (RX5, TX5, 12) = some (C, T, N) := h
  cases h
  rfl
theorem inX6 : ∀ w ∈ u_ws RX6 TX6 16, w ∈ zTs := by decide +kernel
theorem gg6 : zG 4 tyX6 := ⟨RX6, TX6, 16, rfl, tyX6_ok, nmX6⟩
theorem fin6_0 : zFin 4 0 true := by
  intro C T N h
  have h : some (RX6, TX6, 16) = some (C, T, N) := h
  cases h
  rfl
theorem dcl6_0 : zDecl 4 0 RX6 := by
  intro C T N h
  have h : some (RX6, TX6, 16) = some (C, T, N) := h
  cases h
  rfl
theorem fin6_1 : zFin 4 1 true := by
  intro C T N h
  have h : some (RX6, TX6, 16) = some (C, T, N) := h
  cases h
  rfl
theorem dcl6_1 : zDecl 4 1 RX6 := by
  intro C T N h
  have h : some (RX6, TX6, 16) = some (C, T, N) := h
  cases h
  rfl
theorem fin6_2 : zFin 4 2 true := by
  intro C T N h
  have h : some (RX6, TX6, 16) = some (C, T, N) := h
  cases h
  rfl
theorem dcl6_2 : zDecl 4 2 RX6 := by
  intro C T N h
  have h : some (RX6, TX6, 16) = some (C, T, N) := h
  cases h
  rfl
theorem fin6_3 : zFin 4 3 true := by
  intro C T N h
  have h : some (RX6, TX6, 16) = some (C, T, N) := h
  cases h
  rfl
theorem dcl6_3 : zDecl 4 3 RX6 := by
  intro C T N h
  have h : some (RX6, TX6, 16) = some (C, T, N) := h
  cases h
  rfl
theorem fin6_4 : zFin 4 4 true := by
  intro C T N h
  have h : some (RX6, TX6, 16) = some (C, T, N) := h
  cases h
  rfl
theorem dcl6_4 : zDecl 4 4 RX6 := by
  intro C T N h
  have h : some (RX6, TX6, 16) = some (C, T, N) := h
  cases h
  rfl
theorem fin6_5 : zFin 4 5 false := by
  intro C T N h
  have h : some (RX6, TX6, 16) = some (C, T, N) := h
  cases h
  rfl
theorem fin6_6 : zFin 4 6 false := by
  intro C T N h
  have h : some (RX6, TX6, 16) = some (C, T, N) := h
  cases h
  rfl
theorem fin6_7 : zFin 4 7 false := by
  intro C T N h
  have h : some (RX6, TX6, 16) = some (C, T, N) := h
  cases h
  rfl
theorem fin6_8 : zFin 4 8 false := by
  intro C T N h
  have h : some (RX6, TX6, 16) = some (C, T, N) := h
  cases h
  rfl
theorem fin6_9 : zFin 4 9 false := by
  intro C T N h
  have h : some (RX6, TX6, 16) = some (C, T, N) := h
  cases h
  rfl
theorem fin6_10 : zFin 4 10 false := by
  intro C T N h
  have h : some (RX6, TX6, 16) = some (C, T, N) := h
  cases h
  rfl
theorem fin6_11 : zFin 4 11 false := by
  intro C T N h
  have h : some (RX6, TX6, 16) = some (C, T, N) := h
  cases h
  rfl
theorem fin6_12 : zFin 4 12 false := by
  intro C T N h
  have h : some (RX6, TX6, 16) = some (C, T, N) := h
  cases h
  rfl
theorem fin6_13 : zFin 4 13 false := by
  intro C T N h
  have h : some (RX6, TX6, 16) = some (C, T, N) := h
  cases h
  rfl
theorem fin6_14 : zFin 4 14 false := by
  intro C T N h
  have h : some (RX6, TX6, 16) = some (C, T, N) := h
  cases h
  rfl
theorem fin6_15 : zFin 4 15 false := by
  intro C T N h
  have h : some (RX6, TX6, 16) = some (C, T, N) := h
  cases h
  rfl
theorem inX7 : ∀ w ∈ u_ws RX7 TX7 8, w ∈ zTs := by decide +kernel
theorem gg7 : zG 5 tyX7 := ⟨RX7, TX7, 8, rfl, tyX7_ok, nmX7⟩
theorem fin7_0 : zFin 5 0 true := by
  intro C T N h
  have h : some (RX7, TX7, 8) = some (C, T, N) := h
  cases h
  rfl
theorem dcl7_0 : zDecl 5 0 RX7 := by
  intro C T N h
  have h : some (RX7, TX7, 8) = some (C, T, N) := h
  cases h
  rfl
theorem fin7_1 : zFin 5 1 true := by
  intro C T N h
  have h : some (RX7, TX7, 8) = some (C, T, N) := h
  cases h
  rfl
theorem dcl7_1 : zDecl 5 1 RX7 := by
  intro C T N h
  have h : some (RX7, TX7, 8) = some (C, T, N) := h
  cases h
  rfl
theorem fin7_2 : zFin 5 2 true := by
  intro C T N h
  have h : some (RX7, TX7, 8) = some (C, T, N) := h
  cases h
  rfl
theorem dcl7_2 : zDecl 5 2 RX7 := by
  intro C T N h
  have h : some (RX7, TX7, 8) = some (C, T, N) := h
  cases h
  rfl
theorem fin7_3 : zFin 5 3 true := by
  intro C T N h
  have h : some (RX7, TX7, 8) = some (C, T, N) := h
  cases h
  rfl
theorem dcl7_3 : zDecl 5 3 RX7 := by
  intro C T N h
  have h : some (RX7, TX7, 8) = some (C, T, N) := h
  cases h
  rfl
theorem fin7_4 : zFin 5 4 true := by
  intro C T N h
  have h : some (RX7, TX7, 8) = some (C, T, N) := h
  cases h
  rfl
theorem dcl7_4 : zDecl 5 4 RX7 := by
  intro C T N h
  have h : some (RX7, TX7, 8) = some (C, T, N) := h
  cases h
  rfl
theorem fin7_5 : zFin 5 5 false := by
  intro C T N h
  have h : some (RX7, TX7, 8) = some (C, T, N) := h
  cases h
  rfl
theorem fin7_6 : zFin 5 6 true := by
  intro C T N h
  have h : some (RX7, TX7, 8) = some (C, T, N) := h
  cases h
  rfl
theorem dcl7_6 : zDecl 5 6 RX7 := by
  intro C T N h
  have h : some (RX7, TX7, 8) = some (C, T, N) := h
  cases h
  rfl
theorem fin7_7 : zFin 5 7 true := by
  intro C T N h
  have h : some (RX7, TX7, 8) = some (C, T, N) := h
  cases h
  rfl
theorem dcl7_7 : zDecl 5 7 RX7 := by
  intro C T N h
  have h : some (RX7, TX7, 8) = some (C, T, N) := h
  cases h
  rfl
abbrev mX7_init : zM := (yX7_init, cX7_init, 1, none, [])
theorem yoX7_init : zY mX7_init 0 := ⟨by decide +kernel, zIn 33 (by decide +kernel) (by decide +kernel), zIn 13 (by decide +kernel) (by decide +kernel), by decide +kernel⟩
theorem yiX7_init : Cond.instanceMethod yX7_init ∈ zTs := zIn 32 (by decide +kernel) (by decide +kernel)
abbrev mX3_init : zM := (yX3_init, cX3_init, 1, none, [])
theorem yoX3_init : zY mX3_init 0 := ⟨by decide +kernel, zIn 41 (by decide +kernel) (by decide +kernel), zIn 14 (by decide +kernel) (by decide +kernel), by decide +kernel⟩
theorem yiX3_init : Cond.instanceMethod yX3_init ∈ zTs := zIn 40 (by decide +kernel) (by decide +kernel)
abbrev mX5_init : zM := (yX5_init, cX5_init, 2, none, [])
theorem yoX5_init : zY mX5_init 1 := ⟨by decide +kernel, zIn 62 (by decide +kernel) (by decide +kernel), zIn 15 (by decide +kernel) (by decide +kernel), by decide +kernel⟩
theorem yiX5_init : Cond.instanceMethod yX5_init ∈ zTs := zIn 61 (by decide +kernel) (by decide +kernel)
abbrev mX6_init : zM := (yX6_init, cX6_init, 1, none, [])
theorem yoX6_init : zY mX6_init 0 := ⟨by decide +kernel, zIn 68 (by decide +kernel) (by decide +kernel), zIn 16 (by decide +kernel) (by decide +kernel), by decide +kernel⟩
theorem yiX6_init : Cond.instanceMethod yX6_init ∈ zTs := zIn 67 (by decide +kernel) (by decide +kernel)
abbrev mX6_begin : zM := (yX6_begin, cX6_begin, 4, none, [])
theorem yoX6_begin : zY mX6_begin 3 := ⟨by decide +kernel, zIn 73 (by decide +kernel) (by decide +kernel), zIn 16 (by decide +kernel) (by decide +kernel), by decide +kernel⟩
theorem yiX6_begin : Cond.instanceMethod yX6_begin ∈ zTs := zIn 71 (by decide +kernel) (by decide +kernel)
theorem yvX6_begin : zYv mX6_begin := ⟨yiX6_begin, zIn 72 (by decide +kernel) (by decide +kernel)⟩
abbrev mX6_empty : zM := (yX6_empty, cX6_empty, 3, none, [])
theorem yoX6_empty : zY mX6_empty 1 := ⟨by decide +kernel, zIn 77 (by decide +kernel) (by decide +kernel), zIn 16 (by decide +kernel) (by decide +kernel), by decide +kernel⟩
theorem yiX6_empty : Cond.instanceMethod yX6_empty ∈ zTs := zIn 76 (by decide +kernel) (by decide +kernel)
theorem yvX6_empty : zYv mX6_empty := ⟨yiX6_empty, zIn 0 (by decide +kernel) (by decide +kernel)⟩
abbrev mX2_init : zM := (yX2_init, cX2_init, 2, none, [])
theorem yoX2_init : zY mX2_init 0 := ⟨by decide +kernel, zIn 174 (by decide +kernel) (by decide +kernel), zIn 17 (by decide +kernel) (by decide +kernel), by decide +kernel⟩
theorem yiX2_init : Cond.instanceMethod yX2_init ∈ zTs := zIn 173 (by decide +kernel) (by decide +kernel)
abbrev mX4_init : zM := (yX4_init, cX4_init, 1, none, [])
theorem yoX4_init : zY mX4_init 0 := ⟨by decide +kernel, zIn 194 (by decide +kernel) (by decide +kernel), zIn 18 (by decide +kernel) (by decide +kernel), by decide +kernel⟩
theorem yiX4_init : Cond.instanceMethod yX4_init ∈ zTs := zIn 193 (by decide +kernel) (by decide +kernel)
abbrev mX6_insert : zM := (yX6_insert, cX6_insert, 5, some .int, [])
theorem yoX6_insert : zY mX6_insert 2 := ⟨by decide +kernel, zIn 206 (by decide +kernel) (by decide +kernel), zIn 16 (by decide +kernel) (by decide +kernel), by decide +kernel⟩
theorem yiX6_insert : Cond.instanceMethod yX6_insert ∈ zTs := zIn 204 (by decide +kernel) (by decide +kernel)
theorem yvX6_insert : zYv mX6_insert := ⟨yiX6_insert, zIn 205 (by decide +kernel) (by decide +kernel)⟩
abbrev mX6_queueAll : zM := (yX6_queueAll, cX6_queueAll, 2, none, [])
theorem yoX6_queueAll : zY mX6_queueAll 0 := ⟨by decide +kernel, zIn 210 (by decide +kernel) (by decide +kernel), zIn 16 (by decide +kernel) (by decide +kernel), by decide +kernel⟩
theorem yiX6_queueAll : Cond.instanceMethod yX6_queueAll ∈ zTs := zIn 209 (by decide +kernel) (by decide +kernel)
theorem yvX6_queueAll : zYv mX6_queueAll := ⟨yiX6_queueAll, zIn 1 (by decide +kernel) (by decide +kernel)⟩
abbrev mX6_place : zM := (yX6_place, cX6_place, 7, some .int, [])
theorem yoX6_place : zY mX6_place 2 := ⟨by decide +kernel, zIn 214 (by decide +kernel) (by decide +kernel), zIn 16 (by decide +kernel) (by decide +kernel), by decide +kernel⟩
theorem yiX6_place : Cond.instanceMethod yX6_place ∈ zTs := zIn 213 (by decide +kernel) (by decide +kernel)
theorem yvX6_place : zYv mX6_place := ⟨yiX6_place, zIn 2 (by decide +kernel) (by decide +kernel)⟩
abbrev mX6_homeFor : zM := (yX6_homeFor, cX6_homeFor, 2, some .int, [])
theorem yoX6_homeFor : zY mX6_homeFor 1 := ⟨by decide +kernel, zIn 218 (by decide +kernel) (by decide +kernel), zIn 16 (by decide +kernel) (by decide +kernel), by decide +kernel⟩
theorem yiX6_homeFor : Cond.instanceMethod yX6_homeFor ∈ zTs := zIn 216 (by decide +kernel) (by decide +kernel)
theorem yvX6_homeFor : zYv mX6_homeFor := ⟨yiX6_homeFor, zIn 217 (by decide +kernel) (by decide +kernel)⟩
abbrev mX6_stepsToFree : zM := (yX6_stepsToFree, cX6_stepsToFree, 3, some .int, [])
theorem yoX6_stepsToFree : zY mX6_stepsToFree 1 := ⟨by decide +kernel, zIn 222 (by decide +kernel) (by decide +kernel), zIn 16 (by decide +kernel) (by decide +kernel), by decide +kernel⟩
theorem yiX6_stepsToFree : Cond.instanceMethod yX6_stepsToFree ∈ zTs := zIn 220 (by decide +kernel) (by decide +kernel)
theorem yvX6_stepsToFree : zYv mX6_stepsToFree := ⟨yiX6_stepsToFree, zIn 221 (by decide +kernel) (by decide +kernel)⟩
abbrev mX6_keyIn : zM := (yX6_keyIn, cX6_keyIn, 2, some .int, [])
theorem yoX6_keyIn : zY mX6_keyIn 1 := ⟨by decide +kernel, zIn 226 (by decide +kernel) (by decide +kernel), zIn 16 (by decide +kernel) (by decide +kernel), by decide +kernel⟩
theorem yiX6_keyIn : Cond.instanceMethod yX6_keyIn ∈ zTs := zIn 224 (by decide +kernel) (by decide +kernel)
theorem yvX6_keyIn : zYv mX6_keyIn := ⟨yiX6_keyIn, zIn 225 (by decide +kernel) (by decide +kernel)⟩
abbrev mX6_displaceInto : zM := (yX6_displaceInto, cX6_displaceInto, 5, some .int, [])
theorem yoX6_displaceInto : zY mX6_displaceInto 1 := ⟨by decide +kernel, zIn 230 (by decide +kernel) (by decide +kernel), zIn 16 (by decide +kernel) (by decide +kernel), by decide +kernel⟩
theorem yiX6_displaceInto : Cond.instanceMethod yX6_displaceInto ∈ zTs := zIn 229 (by decide +kernel) (by decide +kernel)
theorem yvX6_displaceInto : zYv mX6_displaceInto := ⟨yiX6_displaceInto, zIn 3 (by decide +kernel) (by decide +kernel)⟩
abbrev mX6_hopsIn : zM := (yX6_hopsIn, cX6_hopsIn, 2, some .int, [])
theorem yoX6_hopsIn : zY mX6_hopsIn 1 := ⟨by decide +kernel, zIn 234 (by decide +kernel) (by decide +kernel), zIn 16 (by decide +kernel) (by decide +kernel), by decide +kernel⟩
theorem yiX6_hopsIn : Cond.instanceMethod yX6_hopsIn ∈ zTs := zIn 232 (by decide +kernel) (by decide +kernel)
theorem yvX6_hopsIn : zYv mX6_hopsIn := ⟨yiX6_hopsIn, zIn 233 (by decide +kernel) (by decide +kernel)⟩
abbrev mX6_shift : zM := (yX6_shift, cX6_shift, 6, none, [])
theorem yoX6_shift : zY mX6_shift 3 := ⟨by decide +kernel, zIn 238 (by decide +kernel) (by decide +kernel), zIn 16 (by decide +kernel) (by decide +kernel), by decide +kernel⟩
theorem yiX6_shift : Cond.instanceMethod yX6_shift ∈ zTs := zIn 237 (by decide +kernel) (by decide +kernel)
theorem yvX6_shift : zYv mX6_shift := ⟨yiX6_shift, zIn 4 (by decide +kernel) (by decide +kernel)⟩
abbrev mX6_hasBucket : zM := (yX6_hasBucket, cX6_hasBucket, 2, some .boolean, [])
theorem yoX6_hasBucket : zY mX6_hasBucket 1 := ⟨by decide +kernel, zIn 242 (by decide +kernel) (by decide +kernel), zIn 16 (by decide +kernel) (by decide +kernel), by decide +kernel⟩
theorem yiX6_hasBucket : Cond.instanceMethod yX6_hasBucket ∈ zTs := zIn 240 (by decide +kernel) (by decide +kernel)
theorem yvX6_hasBucket : zYv mX6_hasBucket := ⟨yiX6_hasBucket, zIn 241 (by decide +kernel) (by decide +kernel)⟩
abbrev mX6_build : zM := (yX6_build, cX6_build, 3, some .boolean, [])
theorem yoX6_build : zY mX6_build 1 := ⟨by decide +kernel, zIn 246 (by decide +kernel) (by decide +kernel), zIn 16 (by decide +kernel) (by decide +kernel), by decide +kernel⟩
theorem yiX6_build : Cond.instanceMethod yX6_build ∈ zTs := zIn 245 (by decide +kernel) (by decide +kernel)
theorem yvX6_build : zYv mX6_build := ⟨yiX6_build, zIn 5 (by decide +kernel) (by decide +kernel)⟩
abbrev mX6_take : zM := (yX6_take, cX6_take, 5, some .int, [])
theorem yoX6_take : zY mX6_take 1 := ⟨by decide +kernel, zIn 250 (by decide +kernel) (by decide +kernel), zIn 16 (by decide +kernel) (by decide +kernel), by decide +kernel⟩
theorem yiX6_take : Cond.instanceMethod yX6_take ∈ zTs := zIn 248 (by decide +kernel) (by decide +kernel)
theorem yvX6_take : zYv mX6_take := ⟨yiX6_take, zIn 249 (by decide +kernel) (by decide +kernel)⟩
abbrev mX6_bucketWith : zM := (yX6_bucketWith, cX6_bucketWith, 5, some .int, [])
theorem yoX6_bucketWith : zY mX6_bucketWith 1 := ⟨by decide +kernel, zIn 254 (by decide +kernel) (by decide +kernel), zIn 16 (by decide +kernel) (by decide +kernel), by decide +kernel⟩
theorem yiX6_bucketWith : Cond.instanceMethod yX6_bucketWith ∈ zTs := zIn 252 (by decide +kernel) (by decide +kernel)
theorem yvX6_bucketWith : zYv mX6_bucketWith := ⟨yiX6_bucketWith, zIn 253 (by decide +kernel) (by decide +kernel)⟩
abbrev mX6_stepsFromHome : zM := (yX6_stepsFromHome, cX6_stepsFromHome, 3, some .int, [])
theorem yoX6_stepsFromHome : zY mX6_stepsFromHome 1 := ⟨by decide +kernel, zIn 258 (by decide +kernel) (by decide +kernel), zIn 16 (by decide +kernel) (by decide +kernel), by decide +kernel⟩
theorem yiX6_stepsFromHome : Cond.instanceMethod yX6_stepsFromHome ∈ zTs := zIn 256 (by decide +kernel) (by decide +kernel)
theorem yvX6_stepsFromHome : zYv mX6_stepsFromHome := ⟨yiX6_stepsFromHome, zIn 257 (by decide +kernel) (by decide +kernel)⟩
abbrev mX6_pullFrom : zM := (yX6_pullFrom, cX6_pullFrom, 5, none, [])
theorem yoX6_pullFrom : zY mX6_pullFrom 1 := ⟨by decide +kernel, zIn 262 (by decide +kernel) (by decide +kernel), zIn 16 (by decide +kernel) (by decide +kernel), by decide +kernel⟩
theorem yiX6_pullFrom : Cond.instanceMethod yX6_pullFrom ∈ zTs := zIn 261 (by decide +kernel) (by decide +kernel)
theorem yvX6_pullFrom : zYv mX6_pullFrom := ⟨yiX6_pullFrom, zIn 6 (by decide +kernel) (by decide +kernel)⟩
abbrev mX6_pullInto : zM := (yX6_pullInto, cX6_pullInto, 5, some .int, [])
theorem yoX6_pullInto : zY mX6_pullInto 1 := ⟨by decide +kernel, zIn 266 (by decide +kernel) (by decide +kernel), zIn 16 (by decide +kernel) (by decide +kernel), by decide +kernel⟩
theorem yiX6_pullInto : Cond.instanceMethod yX6_pullInto ∈ zTs := zIn 265 (by decide +kernel) (by decide +kernel)
theorem yvX6_pullInto : zYv mX6_pullInto := ⟨yiX6_pullInto, zIn 7 (by decide +kernel) (by decide +kernel)⟩
abbrev mX7_undo : zM := (yX7_undo, cX7_undo, 1, some .int, [])
theorem yoX7_undo : zY mX7_undo 0 := ⟨by decide +kernel, zIn 295 (by decide +kernel) (by decide +kernel), zIn 13 (by decide +kernel) (by decide +kernel), by decide +kernel⟩
theorem yiX7_undo : Cond.instanceMethod yX7_undo ∈ zTs := zIn 293 (by decide +kernel) (by decide +kernel)
theorem yvX7_undo : zYv mX7_undo := ⟨yiX7_undo, zIn 294 (by decide +kernel) (by decide +kernel)⟩
abbrev mX2_goBack : zM := (yX2_goBack, cX2_goBack, 2, none, [])
theorem yoX2_goBack : zY mX2_goBack 1 := ⟨by decide +kernel, zIn 299 (by decide +kernel) (by decide +kernel), zIn 17 (by decide +kernel) (by decide +kernel), by decide +kernel⟩
theorem yiX2_goBack : Cond.instanceMethod yX2_goBack ∈ zTs := zIn 297 (by decide +kernel) (by decide +kernel)
theorem yvX2_goBack : zYv mX2_goBack := ⟨yiX2_goBack, zIn 298 (by decide +kernel) (by decide +kernel)⟩
abbrev mX2_takeBack : zM := (yX2_takeBack, cX2_takeBack, 3, none, [])
theorem yoX2_takeBack : zY mX2_takeBack 1 := ⟨by decide +kernel, zIn 303 (by decide +kernel) (by decide +kernel), zIn 17 (by decide +kernel) (by decide +kernel), by decide +kernel⟩
theorem yiX2_takeBack : Cond.instanceMethod yX2_takeBack ∈ zTs := zIn 301 (by decide +kernel) (by decide +kernel)
theorem yvX2_takeBack : zYv mX2_takeBack := ⟨yiX2_takeBack, zIn 302 (by decide +kernel) (by decide +kernel)⟩
abbrev mX2_nextPlace : zM := (yX2_nextPlace, cX2_nextPlace, 1, some (.object "NeighbourHash$Table"), [])
theorem yoX2_nextPlace : zY mX2_nextPlace 0 := ⟨by decide +kernel, zIn 307 (by decide +kernel) (by decide +kernel), zIn 17 (by decide +kernel) (by decide +kernel), by decide +kernel⟩
theorem yiX2_nextPlace : Cond.instanceMethod yX2_nextPlace ∈ zTs := zIn 306 (by decide +kernel) (by decide +kernel)
theorem yvX2_nextPlace : zYv mX2_nextPlace := ⟨yiX2_nextPlace, zIn 8 (by decide +kernel) (by decide +kernel)⟩
abbrev mX6_copyFrom : zM := (yX6_copyFrom, cX6_copyFrom, 2, none, [])
theorem yoX6_copyFrom : zY mX6_copyFrom 1 := ⟨by decide +kernel, zIn 311 (by decide +kernel) (by decide +kernel), zIn 16 (by decide +kernel) (by decide +kernel), by decide +kernel⟩
theorem yiX6_copyFrom : Cond.instanceMethod yX6_copyFrom ∈ zTs := zIn 309 (by decide +kernel) (by decide +kernel)
theorem yvX6_copyFrom : zYv mX6_copyFrom := ⟨yiX6_copyFrom, zIn 310 (by decide +kernel) (by decide +kernel)⟩
abbrev mX7_undoCount : zM := (yX7_undoCount, cX7_undoCount, 1, some .int, [])
theorem yoX7_undoCount : zY mX7_undoCount 0 := ⟨by decide +kernel, zIn 318 (by decide +kernel) (by decide +kernel), zIn 13 (by decide +kernel) (by decide +kernel), by decide +kernel⟩
theorem yiX7_undoCount : Cond.instanceMethod yX7_undoCount ∈ zTs := zIn 316 (by decide +kernel) (by decide +kernel)
theorem yvX7_undoCount : zYv mX7_undoCount := ⟨yiX7_undoCount, zIn 317 (by decide +kernel) (by decide +kernel)⟩
abbrev mL_cell : zM := (yL_cell, cL_cell, 2, some .int, [])
theorem yoL_cell : zY mL_cell 2 := ⟨by decide +kernel, zIn 321 (by decide +kernel) (by decide +kernel), zIn 12 (by decide +kernel) (by decide +kernel), by decide +kernel⟩
theorem ysL_cell : Cond.static yL_cell ∈ zTs := zIn 320 (by decide +kernel) (by decide +kernel)
abbrev mL_deed : zM := (yL_deed, cL_deed, 8, none, [])
theorem yoL_deed : zY mL_deed 2 := ⟨by decide +kernel, zIn 324 (by decide +kernel) (by decide +kernel), zIn 12 (by decide +kernel) (by decide +kernel), by decide +kernel⟩
theorem ysL_deed : Cond.static yL_deed ∈ zTs := zIn 323 (by decide +kernel) (by decide +kernel)
abbrev mL_entry : zM := (yL_entry, cL_entry, 4, some .int, [])
theorem yoL_entry : zY mL_entry 2 := ⟨by decide +kernel, zIn 327 (by decide +kernel) (by decide +kernel), zIn 12 (by decide +kernel) (by decide +kernel), by decide +kernel⟩
theorem ysL_entry : Cond.static yL_entry ∈ zTs := zIn 326 (by decide +kernel) (by decide +kernel)
abbrev mX7_entryCount : zM := (yX7_entryCount, cX7_entryCount, 1, some .int, [])
theorem yoX7_entryCount : zY mX7_entryCount 0 := ⟨by decide +kernel, zIn 331 (by decide +kernel) (by decide +kernel), zIn 13 (by decide +kernel) (by decide +kernel), by decide +kernel⟩
theorem yiX7_entryCount : Cond.instanceMethod yX7_entryCount ∈ zTs := zIn 329 (by decide +kernel) (by decide +kernel)
theorem yvX7_entryCount : zYv mX7_entryCount := ⟨yiX7_entryCount, zIn 330 (by decide +kernel) (by decide +kernel)⟩
abbrev mX7_bucketCount : zM := (yX7_bucketCount, cX7_bucketCount, 1, some .int, [])
theorem yoX7_bucketCount : zY mX7_bucketCount 0 := ⟨by decide +kernel, zIn 335 (by decide +kernel) (by decide +kernel), zIn 13 (by decide +kernel) (by decide +kernel), by decide +kernel⟩
theorem yiX7_bucketCount : Cond.instanceMethod yX7_bucketCount ∈ zTs := zIn 333 (by decide +kernel) (by decide +kernel)
theorem yvX7_bucketCount : zYv mX7_bucketCount := ⟨yiX7_bucketCount, zIn 334 (by decide +kernel) (by decide +kernel)⟩
abbrev mX7_keyAt : zM := (yX7_keyAt, cX7_keyAt, 2, some .int, [])
theorem yoX7_keyAt : zY mX7_keyAt 1 := ⟨by decide +kernel, zIn 339 (by decide +kernel) (by decide +kernel), zIn 13 (by decide +kernel) (by decide +kernel), by decide +kernel⟩
theorem yiX7_keyAt : Cond.instanceMethod yX7_keyAt ∈ zTs := zIn 337 (by decide +kernel) (by decide +kernel)
theorem yvX7_keyAt : zYv mX7_keyAt := ⟨yiX7_keyAt, zIn 338 (by decide +kernel) (by decide +kernel)⟩
abbrev mX7_needBucket : zM := (yX7_needBucket, cX7_needBucket, 2, none, [])
theorem yoX7_needBucket : zY mX7_needBucket 1 := ⟨by decide +kernel, zIn 343 (by decide +kernel) (by decide +kernel), zIn 13 (by decide +kernel) (by decide +kernel), by decide +kernel⟩
theorem yiX7_needBucket : Cond.instanceMethod yX7_needBucket ∈ zTs := zIn 342 (by decide +kernel) (by decide +kernel)
theorem yvX7_needBucket : zYv mX7_needBucket := ⟨yiX7_needBucket, zIn 9 (by decide +kernel) (by decide +kernel)⟩
abbrev mX7_whyNoAdd : zM := (yX7_whyNoAdd, cX7_whyNoAdd, 2, some .int, [])
theorem yoX7_whyNoAdd : zY mX7_whyNoAdd 1 := ⟨by decide +kernel, zIn 418 (by decide +kernel) (by decide +kernel), zIn 13 (by decide +kernel) (by decide +kernel), by decide +kernel⟩
theorem yiX7_whyNoAdd : Cond.instanceMethod yX7_whyNoAdd ∈ zTs := zIn 416 (by decide +kernel) (by decide +kernel)
theorem yvX7_whyNoAdd : zYv mX7_whyNoAdd := ⟨yiX7_whyNoAdd, zIn 417 (by decide +kernel) (by decide +kernel)⟩
abbrev mX7_needKey : zM := (yX7_needKey, cX7_needKey, 1, none, [])
theorem yoX7_needKey : zY mX7_needKey 1 := ⟨by decide +kernel, zIn 421 (by decide +kernel) (by decide +kernel), zIn 13 (by decide +kernel) (by decide +kernel), by decide +kernel⟩
theorem ysX7_needKey : Cond.static yX7_needKey ∈ zTs := zIn 420 (by decide +kernel) (by decide +kernel)
abbrev mX7_isKey : zM := (yX7_isKey, cX7_isKey, 1, some .boolean, [])
theorem yoX7_isKey : zY mX7_isKey 1 := ⟨by decide +kernel, zIn 424 (by decide +kernel) (by decide +kernel), zIn 13 (by decide +kernel) (by decide +kernel), by decide +kernel⟩
theorem ysX7_isKey : Cond.static yX7_isKey ∈ zTs := zIn 423 (by decide +kernel) (by decide +kernel)
abbrev mX7_tryToInsert : zM := (yX7_tryToInsert, cX7_tryToInsert, 2, some .int, [])
theorem yoX7_tryToInsert : zY mX7_tryToInsert 1 := ⟨by decide +kernel, zIn 445 (by decide +kernel) (by decide +kernel), zIn 13 (by decide +kernel) (by decide +kernel), by decide +kernel⟩
theorem yiX7_tryToInsert : Cond.instanceMethod yX7_tryToInsert ∈ zTs := zIn 444 (by decide +kernel) (by decide +kernel)
theorem yvX7_tryToInsert : zYv mX7_tryToInsert := ⟨yiX7_tryToInsert, zIn 11 (by decide +kernel) (by decide +kernel)⟩
abbrev mX7_add : zM := (yX7_add, cX7_add, 4, some .int, [])
theorem yoX7_add : zY mX7_add 2 := ⟨by decide +kernel, zIn 450 (by decide +kernel) (by decide +kernel), zIn 13 (by decide +kernel) (by decide +kernel), by decide +kernel⟩
theorem yiX7_add : Cond.instanceMethod yX7_add ∈ zTs := zIn 448 (by decide +kernel) (by decide +kernel)
theorem yvX7_add : zYv mX7_add := ⟨yiX7_add, zIn 449 (by decide +kernel) (by decide +kernel)⟩
abbrev mX7_needValue : zM := (yX7_needValue, cX7_needValue, 1, none, [])
theorem yoX7_needValue : zY mX7_needValue 1 := ⟨by decide +kernel, zIn 453 (by decide +kernel) (by decide +kernel), zIn 13 (by decide +kernel) (by decide +kernel), by decide +kernel⟩
theorem ysX7_needValue : Cond.static yX7_needValue ∈ zTs := zIn 452 (by decide +kernel) (by decide +kernel)
abbrev mX7_isValue : zM := (yX7_isValue, cX7_isValue, 1, some .boolean, [])
theorem yoX7_isValue : zY mX7_isValue 1 := ⟨by decide +kernel, zIn 456 (by decide +kernel) (by decide +kernel), zIn 13 (by decide +kernel) (by decide +kernel), by decide +kernel⟩
theorem ysX7_isValue : Cond.static yX7_isValue ∈ zTs := zIn 455 (by decide +kernel) (by decide +kernel)
abbrev mX2_mark : zM := (yX2_mark, cX2_mark, 3, none, [])
theorem yoX2_mark : zY mX2_mark 1 := ⟨by decide +kernel, zIn 477 (by decide +kernel) (by decide +kernel), zIn 17 (by decide +kernel) (by decide +kernel), by decide +kernel⟩
theorem yiX2_mark : Cond.instanceMethod yX2_mark ∈ zTs := zIn 475 (by decide +kernel) (by decide +kernel)
theorem yvX2_mark : zYv mX2_mark := ⟨yiX2_mark, zIn 476 (by decide +kernel) (by decide +kernel)⟩
abbrev mX2_keep : zM := (yX2_keep, cX2_keep, 1, none, [])
theorem yoX2_keep : zY mX2_keep 0 := ⟨by decide +kernel, zIn 483 (by decide +kernel) (by decide +kernel), zIn 17 (by decide +kernel) (by decide +kernel), by decide +kernel⟩
theorem yiX2_keep : Cond.instanceMethod yX2_keep ∈ zTs := zIn 481 (by decide +kernel) (by decide +kernel)
theorem yvX2_keep : zYv mX2_keep := ⟨yiX2_keep, zIn 482 (by decide +kernel) (by decide +kernel)⟩
abbrev mX7_put : zM := (yX7_put, cX7_put, 4, some .int, [])
theorem yoX7_put : zY mX7_put 2 := ⟨by decide +kernel, zIn 490 (by decide +kernel) (by decide +kernel), zIn 13 (by decide +kernel) (by decide +kernel), by decide +kernel⟩
theorem yiX7_put : Cond.instanceMethod yX7_put ∈ zTs := zIn 488 (by decide +kernel) (by decide +kernel)
theorem yvX7_put : zYv mX7_put := ⟨yiX7_put, zIn 489 (by decide +kernel) (by decide +kernel)⟩
abbrev mX6_valueIn : zM := (yX6_valueIn, cX6_valueIn, 2, some .int, [])
theorem yoX6_valueIn : zY mX6_valueIn 1 := ⟨by decide +kernel, zIn 494 (by decide +kernel) (by decide +kernel), zIn 16 (by decide +kernel) (by decide +kernel), by decide +kernel⟩
theorem yiX6_valueIn : Cond.instanceMethod yX6_valueIn ∈ zTs := zIn 492 (by decide +kernel) (by decide +kernel)
theorem yvX6_valueIn : zYv mX6_valueIn := ⟨yiX6_valueIn, zIn 493 (by decide +kernel) (by decide +kernel)⟩
abbrev mX6_store : zM := (yX6_store, cX6_store, 4, some .boolean, [])
theorem yoX6_store : zY mX6_store 2 := ⟨by decide +kernel, zIn 498 (by decide +kernel) (by decide +kernel), zIn 16 (by decide +kernel) (by decide +kernel), by decide +kernel⟩
theorem yiX6_store : Cond.instanceMethod yX6_store ∈ zTs := zIn 496 (by decide +kernel) (by decide +kernel)
theorem yvX6_store : zYv mX6_store := ⟨yiX6_store, zIn 497 (by decide +kernel) (by decide +kernel)⟩
abbrev mX7_remove : zM := (yX7_remove, cX7_remove, 3, some .int, [])
theorem yoX7_remove : zY mX7_remove 1 := ⟨by decide +kernel, zIn 503 (by decide +kernel) (by decide +kernel), zIn 13 (by decide +kernel) (by decide +kernel), by decide +kernel⟩
theorem yiX7_remove : Cond.instanceMethod yX7_remove ∈ zTs := zIn 501 (by decide +kernel) (by decide +kernel)
theorem yvX7_remove : zYv mX7_remove := ⟨yiX7_remove, zIn 502 (by decide +kernel) (by decide +kernel)⟩
abbrev mX7_bucketsWith : zM := (yX7_bucketsWith, cX7_bucketsWith, 2, some .int, [])
theorem yoX7_bucketsWith : zY mX7_bucketsWith 1 := ⟨by decide +kernel, zIn 523 (by decide +kernel) (by decide +kernel), zIn 13 (by decide +kernel) (by decide +kernel), by decide +kernel⟩
theorem yiX7_bucketsWith : Cond.instanceMethod yX7_bucketsWith ∈ zTs := zIn 521 (by decide +kernel) (by decide +kernel)
theorem yvX7_bucketsWith : zYv mX7_bucketsWith := ⟨yiX7_bucketsWith, zIn 522 (by decide +kernel) (by decide +kernel)⟩
abbrev mX7_isNear : zM := (yX7_isNear, cX7_isNear, 1, some .boolean, [])
theorem yoX7_isNear : zY mX7_isNear 1 := ⟨by decide +kernel, zIn 526 (by decide +kernel) (by decide +kernel), zIn 13 (by decide +kernel) (by decide +kernel), by decide +kernel⟩
theorem ysX7_isNear : Cond.static yX7_isNear ∈ zTs := zIn 525 (by decide +kernel) (by decide +kernel)
abbrev mX6_changeNear : zM := (yX6_changeNear, cX6_changeNear, 2, some .boolean, [])
theorem yoX6_changeNear : zY mX6_changeNear 1 := ⟨by decide +kernel, zIn 531 (by decide +kernel) (by decide +kernel), zIn 16 (by decide +kernel) (by decide +kernel), by decide +kernel⟩
theorem yiX6_changeNear : Cond.instanceMethod yX6_changeNear ∈ zTs := zIn 529 (by decide +kernel) (by decide +kernel)
theorem yvX6_changeNear : zYv mX6_changeNear := ⟨yiX6_changeNear, zIn 530 (by decide +kernel) (by decide +kernel)⟩
abbrev mX6_buildAnew : zM := (yX6_buildAnew, cX6_buildAnew, 3, some .boolean, [])
theorem yoX6_buildAnew : zY mX6_buildAnew 1 := ⟨by decide +kernel, zIn 535 (by decide +kernel) (by decide +kernel), zIn 16 (by decide +kernel) (by decide +kernel), by decide +kernel⟩
theorem yiX6_buildAnew : Cond.instanceMethod yX6_buildAnew ∈ zTs := zIn 533 (by decide +kernel) (by decide +kernel)
theorem yvX6_buildAnew : zYv mX6_buildAnew := ⟨yiX6_buildAnew, zIn 534 (by decide +kernel) (by decide +kernel)⟩
abbrev mX7_setNeighbourhood : zM := (yX7_setNeighbourhood, cX7_setNeighbourhood, 2, some .int, [])
theorem yoX7_setNeighbourhood : zY mX7_setNeighbourhood 1 := ⟨by decide +kernel, zIn 539 (by decide +kernel) (by decide +kernel), zIn 13 (by decide +kernel) (by decide +kernel), by decide +kernel⟩
theorem yiX7_setNeighbourhood : Cond.instanceMethod yX7_setNeighbourhood ∈ zTs := zIn 537 (by decide +kernel) (by decide +kernel)
theorem yvX7_setNeighbourhood : zYv mX7_setNeighbourhood := ⟨yiX7_setNeighbourhood, zIn 538 (by decide +kernel) (by decide +kernel)⟩
abbrev mX7_bestMultiplier : zM := (yX7_bestMultiplier, cX7_bestMultiplier, 6, some .int, [])
theorem yoX7_bestMultiplier : zY mX7_bestMultiplier 1 := ⟨by decide +kernel, zIn 544 (by decide +kernel) (by decide +kernel), zIn 13 (by decide +kernel) (by decide +kernel), by decide +kernel⟩
theorem yiX7_bestMultiplier : Cond.instanceMethod yX7_bestMultiplier ∈ zTs := zIn 542 (by decide +kernel) (by decide +kernel)
theorem yvX7_bestMultiplier : zYv mX7_bestMultiplier := ⟨yiX7_bestMultiplier, zIn 543 (by decide +kernel) (by decide +kernel)⟩
abbrev mX6_changeTimes : zM := (yX6_changeTimes, cX6_changeTimes, 2, some .boolean, [])
theorem yoX6_changeTimes : zY mX6_changeTimes 1 := ⟨by decide +kernel, zIn 549 (by decide +kernel) (by decide +kernel), zIn 16 (by decide +kernel) (by decide +kernel), by decide +kernel⟩
theorem yiX6_changeTimes : Cond.instanceMethod yX6_changeTimes ∈ zTs := zIn 547 (by decide +kernel) (by decide +kernel)
theorem yvX6_changeTimes : zYv mX6_changeTimes := ⟨yiX6_changeTimes, zIn 548 (by decide +kernel) (by decide +kernel)⟩
abbrev mX6_sumOfSteps : zM := (yX6_sumOfSteps, cX6_sumOfSteps, 3, some .int, [])
theorem yoX6_sumOfSteps : zY mX6_sumOfSteps 0 := ⟨by decide +kernel, zIn 553 (by decide +kernel) (by decide +kernel), zIn 16 (by decide +kernel) (by decide +kernel), by decide +kernel⟩
theorem yiX6_sumOfSteps : Cond.instanceMethod yX6_sumOfSteps ∈ zTs := zIn 551 (by decide +kernel) (by decide +kernel)
theorem yvX6_sumOfSteps : zYv mX6_sumOfSteps := ⟨yiX6_sumOfSteps, zIn 552 (by decide +kernel) (by decide +kernel)⟩
abbrev mX7_setMultiplier : zM := (yX7_setMultiplier, cX7_setMultiplier, 2, some .int, [])
theorem yoX7_setMultiplier : zY mX7_setMultiplier 1 := ⟨by decide +kernel, zIn 560 (by decide +kernel) (by decide +kernel), zIn 13 (by decide +kernel) (by decide +kernel), by decide +kernel⟩
theorem yiX7_setMultiplier : Cond.instanceMethod yX7_setMultiplier ∈ zTs := zIn 558 (by decide +kernel) (by decide +kernel)
theorem yvX7_setMultiplier : zYv mX7_setMultiplier := ⟨yiX7_setMultiplier, zIn 559 (by decide +kernel) (by decide +kernel)⟩
abbrev mX7_isTimes : zM := (yX7_isTimes, cX7_isTimes, 1, some .boolean, [])
theorem yoX7_isTimes : zY mX7_isTimes 1 := ⟨by decide +kernel, zIn 563 (by decide +kernel) (by decide +kernel), zIn 13 (by decide +kernel) (by decide +kernel), by decide +kernel⟩
theorem ysX7_isTimes : Cond.static yX7_isTimes ∈ zTs := zIn 562 (by decide +kernel) (by decide +kernel)
abbrev mX7_setPulling : zM := (yX7_setPulling, cX7_setPulling, 3, some .boolean, [])
theorem yoX7_setPulling : zY mX7_setPulling 1 := ⟨by decide +kernel, zIn 568 (by decide +kernel) (by decide +kernel), zIn 13 (by decide +kernel) (by decide +kernel), by decide +kernel⟩
theorem yiX7_setPulling : Cond.instanceMethod yX7_setPulling ∈ zTs := zIn 566 (by decide +kernel) (by decide +kernel)
theorem yvX7_setPulling : zYv mX7_setPulling := ⟨yiX7_setPulling, zIn 567 (by decide +kernel) (by decide +kernel)⟩
abbrev mX7_grow : zM := (yX7_grow, cX7_grow, 1, some .int, [])
theorem yoX7_grow : zY mX7_grow 0 := ⟨by decide +kernel, zIn 572 (by decide +kernel) (by decide +kernel), zIn 13 (by decide +kernel) (by decide +kernel), by decide +kernel⟩
theorem yiX7_grow : Cond.instanceMethod yX7_grow ∈ zTs := zIn 570 (by decide +kernel) (by decide +kernel)
theorem yvX7_grow : zYv mX7_grow := ⟨yiX7_grow, zIn 571 (by decide +kernel) (by decide +kernel)⟩
abbrev mX7_clear : zM := (yX7_clear, cX7_clear, 2, some .int, [])
theorem yoX7_clear : zY mX7_clear 0 := ⟨by decide +kernel, zIn 577 (by decide +kernel) (by decide +kernel), zIn 13 (by decide +kernel) (by decide +kernel), by decide +kernel⟩
theorem yiX7_clear : Cond.instanceMethod yX7_clear ∈ zTs := zIn 575 (by decide +kernel) (by decide +kernel)
theorem yvX7_clear : zYv mX7_clear := ⟨yiX7_clear, zIn 576 (by decide +kernel) (by decide +kernel)⟩
abbrev mX6_dropAll : zM := (yX6_dropAll, cX6_dropAll, 2, some .int, [])
theorem yoX6_dropAll : zY mX6_dropAll 0 := ⟨by decide +kernel, zIn 581 (by decide +kernel) (by decide +kernel), zIn 16 (by decide +kernel) (by decide +kernel), by decide +kernel⟩
theorem yiX6_dropAll : Cond.instanceMethod yX6_dropAll ∈ zTs := zIn 579 (by decide +kernel) (by decide +kernel)
theorem yvX6_dropAll : zYv mX6_dropAll := ⟨yiX6_dropAll, zIn 580 (by decide +kernel) (by decide +kernel)⟩
abbrev mL_holds : zM := (yL_holds, cL_holds, 10, some .boolean, [])
theorem yoL_holds : zY mL_holds 1 := ⟨by decide +kernel, zIn 584 (by decide +kernel) (by decide +kernel), zIn 12 (by decide +kernel) (by decide +kernel), by decide +kernel⟩
theorem ysL_holds : Cond.static yL_holds ∈ zTs := zIn 583 (by decide +kernel) (by decide +kernel)
abbrev mX7_neighbourhood : zM := (yX7_neighbourhood, cX7_neighbourhood, 1, some .int, [])
theorem yoX7_neighbourhood : zY mX7_neighbourhood 0 := ⟨by decide +kernel, zIn 588 (by decide +kernel) (by decide +kernel), zIn 13 (by decide +kernel) (by decide +kernel), by decide +kernel⟩
theorem yiX7_neighbourhood : Cond.instanceMethod yX7_neighbourhood ∈ zTs := zIn 586 (by decide +kernel) (by decide +kernel)
theorem yvX7_neighbourhood : zYv mX7_neighbourhood := ⟨yiX7_neighbourhood, zIn 587 (by decide +kernel) (by decide +kernel)⟩
abbrev mX7_violations : zM := (yX7_violations, cX7_violations, 2, some .int, [])
theorem yoX7_violations : zY mX7_violations 0 := ⟨by decide +kernel, zIn 592 (by decide +kernel) (by decide +kernel), zIn 13 (by decide +kernel) (by decide +kernel), by decide +kernel⟩
theorem yiX7_violations : Cond.instanceMethod yX7_violations ∈ zTs := zIn 590 (by decide +kernel) (by decide +kernel)
theorem yvX7_violations : zYv mX7_violations := ⟨yiX7_violations, zIn 591 (by decide +kernel) (by decide +kernel)⟩
abbrev mX6_strayEntries : zM := (yX6_strayEntries, cX6_strayEntries, 3, some .int, [])
theorem yoX6_strayEntries : zY mX6_strayEntries 0 := ⟨by decide +kernel, zIn 599 (by decide +kernel) (by decide +kernel), zIn 16 (by decide +kernel) (by decide +kernel), by decide +kernel⟩
theorem yiX6_strayEntries : Cond.instanceMethod yX6_strayEntries ∈ zTs := zIn 597 (by decide +kernel) (by decide +kernel)
theorem yvX6_strayEntries : zYv mX6_strayEntries := ⟨yiX6_strayEntries, zIn 598 (by decide +kernel) (by decide +kernel)⟩
abbrev mX6_wrongHops : zM := (yX6_wrongHops, cX6_wrongHops, 7, some .int, [])
theorem yoX6_wrongHops : zY mX6_wrongHops 0 := ⟨by decide +kernel, zIn 603 (by decide +kernel) (by decide +kernel), zIn 16 (by decide +kernel) (by decide +kernel), by decide +kernel⟩
theorem yiX6_wrongHops : Cond.instanceMethod yX6_wrongHops ∈ zTs := zIn 601 (by decide +kernel) (by decide +kernel)
theorem yvX6_wrongHops : zYv mX6_wrongHops := ⟨yiX6_wrongHops, zIn 602 (by decide +kernel) (by decide +kernel)⟩
abbrev mJ6_bitCount_0f7a4 : zM := (yJ6_bitCount_0f7a4, cJ6_bitCount_0f7a4, 1, some .int, [])
theorem yoJ6_bitCount_0f7a4 : zY mJ6_bitCount_0f7a4 1 := ⟨by decide +kernel, zIn 606 (by decide +kernel) (by decide +kernel), zIn 20 (by decide +kernel) (by decide +kernel), by decide +kernel⟩
theorem ysJ6_bitCount_0f7a4 : Cond.static yJ6_bitCount_0f7a4 ∈ zTs := zIn 605 (by decide +kernel) (by decide +kernel)
abbrev mX6_twins : zM := (yX6_twins, cX6_twins, 4, some .int, [])
theorem yoX6_twins : zY mX6_twins 0 := ⟨by decide +kernel, zIn 613 (by decide +kernel) (by decide +kernel), zIn 16 (by decide +kernel) (by decide +kernel), by decide +kernel⟩
theorem yiX6_twins : Cond.instanceMethod yX6_twins ∈ zTs := zIn 611 (by decide +kernel) (by decide +kernel)
theorem yvX6_twins : zYv mX6_twins := ⟨yiX6_twins, zIn 612 (by decide +kernel) (by decide +kernel)⟩
abbrev mX7_homeOf : zM := (yX7_homeOf, cX7_homeOf, 2, some .int, [])
theorem yoX7_homeOf : zY mX7_homeOf 1 := ⟨by decide +kernel, zIn 617 (by decide +kernel) (by decide +kernel), zIn 13 (by decide +kernel) (by decide +kernel), by decide +kernel⟩
theorem yiX7_homeOf : Cond.instanceMethod yX7_homeOf ∈ zTs := zIn 615 (by decide +kernel) (by decide +kernel)
theorem yvX7_homeOf : zYv mX7_homeOf := ⟨yiX7_homeOf, zIn 616 (by decide +kernel) (by decide +kernel)⟩
abbrev mX7_hopBits : zM := (yX7_hopBits, cX7_hopBits, 2, some .int, [])
theorem yoX7_hopBits : zY mX7_hopBits 1 := ⟨by decide +kernel, zIn 622 (by decide +kernel) (by decide +kernel), zIn 13 (by decide +kernel) (by decide +kernel), by decide +kernel⟩
theorem yiX7_hopBits : Cond.instanceMethod yX7_hopBits ∈ zTs := zIn 620 (by decide +kernel) (by decide +kernel)
theorem yvX7_hopBits : zYv mX7_hopBits := ⟨yiX7_hopBits, zIn 621 (by decide +kernel) (by decide +kernel)⟩
abbrev mX7_entriesOf : zM := (yX7_entriesOf, cX7_entriesOf, 2, some .int, [])
theorem yoX7_entriesOf : zY mX7_entriesOf 1 := ⟨by decide +kernel, zIn 627 (by decide +kernel) (by decide +kernel), zIn 13 (by decide +kernel) (by decide +kernel), by decide +kernel⟩
theorem yiX7_entriesOf : Cond.instanceMethod yX7_entriesOf ∈ zTs := zIn 625 (by decide +kernel) (by decide +kernel)
theorem yvX7_entriesOf : zYv mX7_entriesOf := ⟨yiX7_entriesOf, zIn 626 (by decide +kernel) (by decide +kernel)⟩
abbrev mX7_valueAt : zM := (yX7_valueAt, cX7_valueAt, 2, some .int, [])
theorem yoX7_valueAt : zY mX7_valueAt 1 := ⟨by decide +kernel, zIn 632 (by decide +kernel) (by decide +kernel), zIn 13 (by decide +kernel) (by decide +kernel), by decide +kernel⟩
theorem yiX7_valueAt : Cond.instanceMethod yX7_valueAt ∈ zTs := zIn 630 (by decide +kernel) (by decide +kernel)
theorem yvX7_valueAt : zYv mX7_valueAt := ⟨yiX7_valueAt, zIn 631 (by decide +kernel) (by decide +kernel)⟩
abbrev mX7_distanceOf : zM := (yX7_distanceOf, cX7_distanceOf, 2, some .int, [])
theorem yoX7_distanceOf : zY mX7_distanceOf 1 := ⟨by decide +kernel, zIn 636 (by decide +kernel) (by decide +kernel), zIn 13 (by decide +kernel) (by decide +kernel), by decide +kernel⟩
theorem yiX7_distanceOf : Cond.instanceMethod yX7_distanceOf ∈ zTs := zIn 634 (by decide +kernel) (by decide +kernel)
theorem yvX7_distanceOf : zYv mX7_distanceOf := ⟨yiX7_distanceOf, zIn 635 (by decide +kernel) (by decide +kernel)⟩
abbrev mX7_bucketOf : zM := (yX7_bucketOf, cX7_bucketOf, 2, some .int, [])
theorem yoX7_bucketOf : zY mX7_bucketOf 1 := ⟨by decide +kernel, zIn 641 (by decide +kernel) (by decide +kernel), zIn 13 (by decide +kernel) (by decide +kernel), by decide +kernel⟩
theorem yiX7_bucketOf : Cond.instanceMethod yX7_bucketOf ∈ zTs := zIn 639 (by decide +kernel) (by decide +kernel)
theorem yvX7_bucketOf : zYv mX7_bucketOf := ⟨yiX7_bucketOf, zIn 640 (by decide +kernel) (by decide +kernel)⟩
abbrev mX7_valueOf : zM := (yX7_valueOf, cX7_valueOf, 2, some .int, [])
theorem yoX7_valueOf : zY mX7_valueOf 1 := ⟨by decide +kernel, zIn 645 (by decide +kernel) (by decide +kernel), zIn 13 (by decide +kernel) (by decide +kernel), by decide +kernel⟩
theorem yiX7_valueOf : Cond.instanceMethod yX7_valueOf ∈ zTs := zIn 643 (by decide +kernel) (by decide +kernel)
theorem yvX7_valueOf : zYv mX7_valueOf := ⟨yiX7_valueOf, zIn 644 (by decide +kernel) (by decide +kernel)⟩
abbrev mX7_sumOfDistances : zM := (yX7_sumOfDistances, cX7_sumOfDistances, 1, some .int, [])
theorem yoX7_sumOfDistances : zY mX7_sumOfDistances 0 := ⟨by decide +kernel, zIn 649 (by decide +kernel) (by decide +kernel), zIn 13 (by decide +kernel) (by decide +kernel), by decide +kernel⟩
theorem yiX7_sumOfDistances : Cond.instanceMethod yX7_sumOfDistances ∈ zTs := zIn 647 (by decide +kernel) (by decide +kernel)
theorem yvX7_sumOfDistances : zYv mX7_sumOfDistances := ⟨yiX7_sumOfDistances, zIn 648 (by decide +kernel) (by decide +kernel)⟩
abbrev mX7_addedCount : zM := (yX7_addedCount, cX7_addedCount, 1, some .int, [])
theorem yoX7_addedCount : zY mX7_addedCount 0 := ⟨by decide +kernel, zIn 653 (by decide +kernel) (by decide +kernel), zIn 13 (by decide +kernel) (by decide +kernel), by decide +kernel⟩
theorem yiX7_addedCount : Cond.instanceMethod yX7_addedCount ∈ zTs := zIn 651 (by decide +kernel) (by decide +kernel)
theorem yvX7_addedCount : zYv mX7_addedCount := ⟨yiX7_addedCount, zIn 652 (by decide +kernel) (by decide +kernel)⟩
abbrev mX7_removedCount : zM := (yX7_removedCount, cX7_removedCount, 1, some .int, [])
theorem yoX7_removedCount : zY mX7_removedCount 0 := ⟨by decide +kernel, zIn 657 (by decide +kernel) (by decide +kernel), zIn 13 (by decide +kernel) (by decide +kernel), by decide +kernel⟩
theorem yiX7_removedCount : Cond.instanceMethod yX7_removedCount ∈ zTs := zIn 655 (by decide +kernel) (by decide +kernel)
theorem yvX7_removedCount : zYv mX7_removedCount := ⟨yiX7_removedCount, zIn 656 (by decide +kernel) (by decide +kernel)⟩
abbrev mX7_longestDistance : zM := (yX7_longestDistance, cX7_longestDistance, 1, some .int, [])
theorem yoX7_longestDistance : zY mX7_longestDistance 0 := ⟨by decide +kernel, zIn 661 (by decide +kernel) (by decide +kernel), zIn 13 (by decide +kernel) (by decide +kernel), by decide +kernel⟩
theorem yiX7_longestDistance : Cond.instanceMethod yX7_longestDistance ∈ zTs := zIn 659 (by decide +kernel) (by decide +kernel)
theorem yvX7_longestDistance : zYv mX7_longestDistance := ⟨yiX7_longestDistance, zIn 660 (by decide +kernel) (by decide +kernel)⟩
abbrev mX6_mostSteps : zM := (yX6_mostSteps, cX6_mostSteps, 3, some .int, [])
theorem yoX6_mostSteps : zY mX6_mostSteps 0 := ⟨by decide +kernel, zIn 665 (by decide +kernel) (by decide +kernel), zIn 16 (by decide +kernel) (by decide +kernel), by decide +kernel⟩
theorem yiX6_mostSteps : Cond.instanceMethod yX6_mostSteps ∈ zTs := zIn 663 (by decide +kernel) (by decide +kernel)
theorem yvX6_mostSteps : zYv mX6_mostSteps := ⟨yiX6_mostSteps, zIn 664 (by decide +kernel) (by decide +kernel)⟩
abbrev mL_sum : zM := (yL_sum, cL_sum, 4, some .long, [])
theorem yoL_sum : zY mL_sum 1 := ⟨by decide +kernel, zIn 668 (by decide +kernel) (by decide +kernel), zIn 12 (by decide +kernel) (by decide +kernel), by decide +kernel⟩
theorem ysL_sum : Cond.static yL_sum ∈ zTs := zIn 667 (by decide +kernel) (by decide +kernel)
abbrev mX7_multiplier : zM := (yX7_multiplier, cX7_multiplier, 1, some .int, [])
theorem yoX7_multiplier : zY mX7_multiplier 0 := ⟨by decide +kernel, zIn 674 (by decide +kernel) (by decide +kernel), zIn 13 (by decide +kernel) (by decide +kernel), by decide +kernel⟩
theorem yiX7_multiplier : Cond.instanceMethod yX7_multiplier ∈ zTs := zIn 672 (by decide +kernel) (by decide +kernel)
theorem yvX7_multiplier : zYv mX7_multiplier := ⟨yiX7_multiplier, zIn 673 (by decide +kernel) (by decide +kernel)⟩
abbrev mX7_isPulling : zM := (yX7_isPulling, cX7_isPulling, 1, some .boolean, [])
theorem yoX7_isPulling : zY mX7_isPulling 0 := ⟨by decide +kernel, zIn 678 (by decide +kernel) (by decide +kernel), zIn 13 (by decide +kernel) (by decide +kernel), by decide +kernel⟩
theorem yiX7_isPulling : Cond.instanceMethod yX7_isPulling ∈ zTs := zIn 676 (by decide +kernel) (by decide +kernel)
theorem yvX7_isPulling : zYv mX7_isPulling := ⟨yiX7_isPulling, zIn 677 (by decide +kernel) (by decide +kernel)⟩
abbrev mX7_moves : zM := (yX7_moves, cX7_moves, 1, some .int, [])
theorem yoX7_moves : zY mX7_moves 0 := ⟨by decide +kernel, zIn 684 (by decide +kernel) (by decide +kernel), zIn 13 (by decide +kernel) (by decide +kernel), by decide +kernel⟩
theorem yiX7_moves : Cond.instanceMethod yX7_moves ∈ zTs := zIn 682 (by decide +kernel) (by decide +kernel)
theorem yvX7_moves : zYv mX7_moves := ⟨yiX7_moves, zIn 683 (by decide +kernel) (by decide +kernel)⟩
abbrev mX7_pulls : zM := (yX7_pulls, cX7_pulls, 1, some .int, [])
theorem yoX7_pulls : zY mX7_pulls 0 := ⟨by decide +kernel, zIn 689 (by decide +kernel) (by decide +kernel), zIn 13 (by decide +kernel) (by decide +kernel), by decide +kernel⟩
theorem yiX7_pulls : Cond.instanceMethod yX7_pulls ∈ zTs := zIn 687 (by decide +kernel) (by decide +kernel)
theorem yvX7_pulls : zYv mX7_pulls := ⟨yiX7_pulls, zIn 688 (by decide +kernel) (by decide +kernel)⟩
abbrev mX7_growths : zM := (yX7_growths, cX7_growths, 1, some .int, [])
theorem yoX7_growths : zY mX7_growths 0 := ⟨by decide +kernel, zIn 694 (by decide +kernel) (by decide +kernel), zIn 13 (by decide +kernel) (by decide +kernel), by decide +kernel⟩
theorem yiX7_growths : Cond.instanceMethod yX7_growths ∈ zTs := zIn 692 (by decide +kernel) (by decide +kernel)
theorem yvX7_growths : zYv mX7_growths := ⟨yiX7_growths, zIn 693 (by decide +kernel) (by decide +kernel)⟩
abbrev mL_isBuilt : zM := (yL_isBuilt, cL_isBuilt, 12, some .boolean, [])
theorem yoL_isBuilt : zY mL_isBuilt 3 := ⟨by decide +kernel, zIn 701 (by decide +kernel) (by decide +kernel), zIn 12 (by decide +kernel) (by decide +kernel), by decide +kernel⟩
theorem ysL_isBuilt : Cond.static yL_isBuilt ∈ zTs := zIn 700 (by decide +kernel) (by decide +kernel)
abbrev mL_content : zM := (yL_content, cL_content, 4, some .long, [])
theorem yoL_content : zY mL_content 1 := ⟨by decide +kernel, zIn 704 (by decide +kernel) (by decide +kernel), zIn 12 (by decide +kernel) (by decide +kernel), by decide +kernel⟩
theorem ysL_content : Cond.static yL_content ∈ zTs := zIn 703 (by decide +kernel) (by decide +kernel)
theorem lL_8 : Cond.classLink RL 8 "NeighbourHash" ∈ zTs := zIn 29 (by decide +kernel) (by decide +kernel)
theorem lL_152 : Cond.methodLink RL 152 yX7_init ∈ zTs := zIn 31 (by decide +kernel) (by decide +kernel)
theorem lX7_1 : Cond.methodLink RX7 1 ⟨"java/lang/Object", "<init>", "()V"⟩ ∈ zTs := zIn 34 (by decide +kernel) (by decide +kernel)
theorem lX7_7 : Cond.classLink RX7 7 "NeighbourHash$Input" ∈ zTs := zIn 37 (by decide +kernel) (by decide +kernel)
theorem lnX7_9 : Cond.methodLinkNest RX7 9 yX3_init "NeighbourHash" ∈ kN := by decide +kernel
theorem lX3_3 : Cond.methodLink RX3 3 ⟨"java/lang/Object", "<init>", "()V"⟩ ∈ zTs := zIn 42 (by decide +kernel) (by decide +kernel)
theorem fX3_11 : zF RX3 11 1 0 := ⟨RX3, TX3, 6, rfl, by decide, zIn 43 (by decide +kernel) (by decide +kernel), inX3⟩
theorem lX7_16 : Cond.classLink RX7 16 "NeighbourHash$Script" ∈ zTs := zIn 58 (by decide +kernel) (by decide +kernel)
theorem lX7_18 : Cond.methodLink RX7 18 yX5_init ∈ zTs := zIn 60 (by decide +kernel) (by decide +kernel)
theorem lX5_3 : Cond.methodLink RX5 3 ⟨"java/lang/Object", "<init>", "()V"⟩ ∈ zTs := zIn 63 (by decide +kernel) (by decide +kernel)
theorem lX5_9 : Cond.classLink RX5 9 "NeighbourHash$Table" ∈ zTs := zIn 64 (by decide +kernel) (by decide +kernel)
theorem lX5_11 : Cond.methodLink RX5 11 yX6_init ∈ zTs := zIn 66 (by decide +kernel) (by decide +kernel)
theorem lX6_3 : Cond.methodLink RX6 3 ⟨"java/lang/Object", "<init>", "()V"⟩ ∈ zTs := zIn 69 (by decide +kernel) (by decide +kernel)
theorem lX6_27 : Cond.methodLink RX6 27 yX6_begin ∈ zTs := zIn 70 (by decide +kernel) (by decide +kernel)
theorem lX6_54 : Cond.methodLink RX6 54 yX6_empty ∈ zTs := zIn 74 (by decide +kernel) (by decide +kernel)
theorem fX6_9 : zF RX6 9 4 0 := ⟨RX6, TX6, 16, rfl, by decide, zIn 78 (by decide +kernel) (by decide +kernel), inX6⟩
theorem fX6_15 : zF RX6 15 4 1 := ⟨RX6, TX6, 16, rfl, by decide, zIn 79 (by decide +kernel) (by decide +kernel), inX6⟩
theorem fX6_18 : zF RX6 18 4 2 := ⟨RX6, TX6, 16, rfl, by decide, zIn 80 (by decide +kernel) (by decide +kernel), inX6⟩
theorem fX6_21 : zF RX6 21 4 3 := ⟨RX6, TX6, 16, rfl, by decide, zIn 81 (by decide +kernel) (by decide +kernel), inX6⟩
theorem fX6_24 : zF RX6 24 4 4 := ⟨RX6, TX6, 16, rfl, by decide, zIn 82 (by decide +kernel) (by decide +kernel), inX6⟩
theorem fX6_106 : zF RX6 106 4 5 := ⟨RX6, TX6, 16, rfl, by decide, zIn 83 (by decide +kernel) (by decide +kernel), inX6⟩
theorem fX6_64 : zF RX6 64 4 6 := ⟨RX6, TX6, 16, rfl, by decide, zIn 84 (by decide +kernel) (by decide +kernel), inX6⟩
theorem fX7_178 : zF RX7 178 4 6 := ⟨RX6, TX6, 16, rfl, by decide, zIn 85 (by decide +kernel) (by decide +kernel), inX6⟩
theorem fX6_31 : zF RX6 31 4 7 := ⟨RX6, TX6, 16, rfl, by decide, zIn 86 (by decide +kernel) (by decide +kernel), inX6⟩
theorem fX7_207 : zF RX7 207 4 7 := ⟨RX6, TX6, 16, rfl, by decide, zIn 87 (by decide +kernel) (by decide +kernel), inX6⟩
theorem fX6_35 : zF RX6 35 4 8 := ⟨RX6, TX6, 16, rfl, by decide, zIn 88 (by decide +kernel) (by decide +kernel), inX6⟩
theorem fX7_210 : zF RX7 210 4 8 := ⟨RX6, TX6, 16, rfl, by decide, zIn 89 (by decide +kernel) (by decide +kernel), inX6⟩
theorem fX7_64 : zF RX7 64 4 9 := ⟨RX6, TX6, 16, rfl, by decide, zIn 90 (by decide +kernel) (by decide +kernel), inX6⟩
theorem fX6_38 : zF RX6 38 4 9 := ⟨RX6, TX6, 16, rfl, by decide, zIn 91 (by decide +kernel) (by decide +kernel), inX6⟩
theorem fX6_67 : zF RX6 67 4 10 := ⟨RX6, TX6, 16, rfl, by decide, zIn 92 (by decide +kernel) (by decide +kernel), inX6⟩
theorem fX7_115 : zF RX7 115 4 10 := ⟨RX6, TX6, 16, rfl, by decide, zIn 93 (by decide +kernel) (by decide +kernel), inX6⟩
theorem fX6_70 : zF RX6 70 4 11 := ⟨RX6, TX6, 16, rfl, by decide, zIn 94 (by decide +kernel) (by decide +kernel), inX6⟩
theorem fX7_257 : zF RX7 257 4 11 := ⟨RX6, TX6, 16, rfl, by decide, zIn 95 (by decide +kernel) (by decide +kernel), inX6⟩
theorem fX6_42 : zF RX6 42 4 12 := ⟨RX6, TX6, 16, rfl, by decide, zIn 96 (by decide +kernel) (by decide +kernel), inX6⟩
theorem fX7_260 : zF RX7 260 4 12 := ⟨RX6, TX6, 16, rfl, by decide, zIn 97 (by decide +kernel) (by decide +kernel), inX6⟩
theorem fX6_45 : zF RX6 45 4 13 := ⟨RX6, TX6, 16, rfl, by decide, zIn 98 (by decide +kernel) (by decide +kernel), inX6⟩
theorem fX7_265 : zF RX7 265 4 13 := ⟨RX6, TX6, 16, rfl, by decide, zIn 99 (by decide +kernel) (by decide +kernel), inX6⟩
theorem fX6_48 : zF RX6 48 4 14 := ⟨RX6, TX6, 16, rfl, by decide, zIn 100 (by decide +kernel) (by decide +kernel), inX6⟩
theorem fX7_268 : zF RX7 268 4 14 := ⟨RX6, TX6, 16, rfl, by decide, zIn 101 (by decide +kernel) (by decide +kernel), inX6⟩
theorem fX6_51 : zF RX6 51 4 15 := ⟨RX6, TX6, 16, rfl, by decide, zIn 102 (by decide +kernel) (by decide +kernel), inX6⟩
theorem fX7_271 : zF RX7 271 4 15 := ⟨RX6, TX6, 16, rfl, by decide, zIn 103 (by decide +kernel) (by decide +kernel), inX6⟩
theorem fX5_32 : zF RX5 32 3 0 := ⟨RX5, TX5, 12, rfl, by decide, zIn 137 (by decide +kernel) (by decide +kernel), inX5⟩
theorem fX5_12 : zF RX5 12 3 1 := ⟨RX5, TX5, 12, rfl, by decide, zIn 138 (by decide +kernel) (by decide +kernel), inX5⟩
theorem fX5_18 : zF RX5 18 3 2 := ⟨RX5, TX5, 12, rfl, by decide, zIn 139 (by decide +kernel) (by decide +kernel), inX5⟩
theorem fX5_22 : zF RX5 22 3 3 := ⟨RX5, TX5, 12, rfl, by decide, zIn 140 (by decide +kernel) (by decide +kernel), inX5⟩
theorem fX5_25 : zF RX5 25 3 4 := ⟨RX5, TX5, 12, rfl, by decide, zIn 141 (by decide +kernel) (by decide +kernel), inX5⟩
theorem fX5_28 : zF RX5 28 3 11 := ⟨RX5, TX5, 12, rfl, by decide, zIn 142 (by decide +kernel) (by decide +kernel), inX5⟩
theorem lX7_25 : Cond.classLink RX7 25 "NeighbourHash$Table" ∈ zTs := zIn 168 (by decide +kernel) (by decide +kernel)
theorem lX7_27 : Cond.methodLink RX7 27 yX6_init ∈ zTs := zIn 169 (by decide +kernel) (by decide +kernel)
theorem lX7_42 : Cond.classLink RX7 42 "NeighbourHash$History" ∈ zTs := zIn 170 (by decide +kernel) (by decide +kernel)
theorem lX7_44 : Cond.methodLink RX7 44 yX2_init ∈ zTs := zIn 172 (by decide +kernel) (by decide +kernel)
theorem lX2_3 : Cond.methodLink RX2 3 ⟨"java/lang/Object", "<init>", "()V"⟩ ∈ zTs := zIn 175 (by decide +kernel) (by decide +kernel)
theorem lX2_9 : Cond.classLink RX2 9 "NeighbourHash$Table" ∈ zTs := zIn 176 (by decide +kernel) (by decide +kernel)
theorem lX2_15 : Cond.methodLink RX2 15 yX6_init ∈ zTs := zIn 178 (by decide +kernel) (by decide +kernel)
theorem fX2_11 : zF RX2 11 0 0 := ⟨RX2, TX2, 3, rfl, by decide, zIn 179 (by decide +kernel) (by decide +kernel), inX2⟩
theorem fX2_24 : zF RX2 24 0 1 := ⟨RX2, TX2, 3, rfl, by decide, zIn 180 (by decide +kernel) (by decide +kernel), inX2⟩
theorem fX2_28 : zF RX2 28 0 2 := ⟨RX2, TX2, 3, rfl, by decide, zIn 181 (by decide +kernel) (by decide +kernel), inX2⟩
theorem fX7_196 : zF RX7 196 0 2 := ⟨RX2, TX2, 3, rfl, by decide, zIn 182 (by decide +kernel) (by decide +kernel), inX2⟩
theorem lX7_49 : Cond.classLink RX7 49 "NeighbourHash$Report" ∈ zTs := zIn 190 (by decide +kernel) (by decide +kernel)
theorem lnX7_51 : Cond.methodLinkNest RX7 51 yX4_init "NeighbourHash" ∈ kN := by decide +kernel
theorem lX4_3 : Cond.methodLink RX4 3 ⟨"java/lang/Object", "<init>", "()V"⟩ ∈ zTs := zIn 195 (by decide +kernel) (by decide +kernel)
theorem fX4_9 : zF RX4 9 2 0 := ⟨RX4, TX4, 2, rfl, by decide, zIn 196 (by decide +kernel) (by decide +kernel), inX4⟩
theorem lX7_56 : Cond.methodLink RX7 56 yX6_begin ∈ zTs := zIn 202 (by decide +kernel) (by decide +kernel)
theorem lX7_60 : Cond.methodLink RX7 60 yX6_insert ∈ zTs := zIn 203 (by decide +kernel) (by decide +kernel)
theorem lX6_73 : Cond.methodLink RX6 73 yX6_queueAll ∈ zTs := zIn 207 (by decide +kernel) (by decide +kernel)
theorem lX6_76 : Cond.methodLink RX6 76 yX6_place ∈ zTs := zIn 211 (by decide +kernel) (by decide +kernel)
theorem lX6_94 : Cond.methodLink RX6 94 yX6_homeFor ∈ zTs := zIn 215 (by decide +kernel) (by decide +kernel)
theorem lX6_109 : Cond.methodLink RX6 109 yX6_stepsToFree ∈ zTs := zIn 219 (by decide +kernel) (by decide +kernel)
theorem lX6_124 : Cond.methodLink RX6 124 yX6_keyIn ∈ zTs := zIn 223 (by decide +kernel) (by decide +kernel)
theorem lX6_112 : Cond.methodLink RX6 112 yX6_displaceInto ∈ zTs := zIn 227 (by decide +kernel) (by decide +kernel)
theorem lX6_115 : Cond.methodLink RX6 115 yX6_hopsIn ∈ zTs := zIn 231 (by decide +kernel) (by decide +kernel)
theorem lX6_118 : Cond.methodLink RX6 118 yX6_shift ∈ zTs := zIn 235 (by decide +kernel) (by decide +kernel)
theorem lX6_91 : Cond.methodLink RX6 91 yX6_hasBucket ∈ zTs := zIn 239 (by decide +kernel) (by decide +kernel)
theorem lX6_80 : Cond.methodLink RX6 80 yX6_build ∈ zTs := zIn 243 (by decide +kernel) (by decide +kernel)
theorem lX7_67 : Cond.methodLink RX7 67 yX6_take ∈ zTs := zIn 247 (by decide +kernel) (by decide +kernel)
theorem lX6_84 : Cond.methodLink RX6 84 yX6_bucketWith ∈ zTs := zIn 251 (by decide +kernel) (by decide +kernel)
theorem lX6_97 : Cond.methodLink RX6 97 yX6_stepsFromHome ∈ zTs := zIn 255 (by decide +kernel) (by decide +kernel)
theorem lX6_100 : Cond.methodLink RX6 100 yX6_pullFrom ∈ zTs := zIn 259 (by decide +kernel) (by decide +kernel)
theorem lX6_121 : Cond.methodLink RX6 121 yX6_pullInto ∈ zTs := zIn 263 (by decide +kernel) (by decide +kernel)
theorem fX7_10 : zF RX7 10 5 0 := ⟨RX7, TX7, 8, rfl, by decide, zIn 267 (by decide +kernel) (by decide +kernel), inX7⟩
theorem fX7_21 : zF RX7 21 5 1 := ⟨RX7, TX7, 8, rfl, by decide, zIn 268 (by decide +kernel) (by decide +kernel), inX7⟩
theorem fX7_28 : zF RX7 28 5 2 := ⟨RX7, TX7, 8, rfl, by decide, zIn 269 (by decide +kernel) (by decide +kernel), inX7⟩
theorem fX7_32 : zF RX7 32 5 3 := ⟨RX7, TX7, 8, rfl, by decide, zIn 270 (by decide +kernel) (by decide +kernel), inX7⟩
theorem fX7_35 : zF RX7 35 5 4 := ⟨RX7, TX7, 8, rfl, by decide, zIn 271 (by decide +kernel) (by decide +kernel), inX7⟩
theorem fX7_38 : zF RX7 38 5 5 := ⟨RX7, TX7, 8, rfl, by decide, zIn 272 (by decide +kernel) (by decide +kernel), inX7⟩
theorem fX7_45 : zF RX7 45 5 6 := ⟨RX7, TX7, 8, rfl, by decide, zIn 273 (by decide +kernel) (by decide +kernel), inX7⟩
theorem fX7_52 : zF RX7 52 5 7 := ⟨RX7, TX7, 8, rfl, by decide, zIn 274 (by decide +kernel) (by decide +kernel), inX7⟩
theorem lL_149 : Cond.methodLink RL 149 yX7_undo ∈ zTs := zIn 292 (by decide +kernel) (by decide +kernel)
theorem lX7_199 : Cond.methodLink RX7 199 yX2_goBack ∈ zTs := zIn 296 (by decide +kernel) (by decide +kernel)
theorem lX2_37 : Cond.methodLink RX2 37 yX2_takeBack ∈ zTs := zIn 300 (by decide +kernel) (by decide +kernel)
theorem lX2_16 : Cond.methodLink RX2 16 yX2_nextPlace ∈ zTs := zIn 304 (by decide +kernel) (by decide +kernel)
theorem lX2_20 : Cond.methodLink RX2 20 yX6_copyFrom ∈ zTs := zIn 308 (by decide +kernel) (by decide +kernel)
theorem lX6_58 : Cond.methodLink RX6 58 ⟨"java/lang/System", "arraycopy", "(Ljava/lang/Object;ILjava/lang/Object;II)V"⟩ ∈ zTs := zIn 312 (by decide +kernel) (by decide +kernel)
theorem lL_157 : Cond.methodLink RL 157 yX7_undoCount ∈ zTs := zIn 315 (by decide +kernel) (by decide +kernel)
theorem lL_153 : Cond.methodLink RL 153 yL_cell ∈ zTs := zIn 319 (by decide +kernel) (by decide +kernel)
theorem lL_160 : Cond.methodLink RL 160 yL_deed ∈ zTs := zIn 322 (by decide +kernel) (by decide +kernel)
theorem lL_20 : Cond.methodLink RL 20 yL_entry ∈ zTs := zIn 325 (by decide +kernel) (by decide +kernel)
theorem lL_7 : Cond.methodLink RL 7 yX7_entryCount ∈ zTs := zIn 328 (by decide +kernel) (by decide +kernel)
theorem lL_13 : Cond.methodLink RL 13 yX7_bucketCount ∈ zTs := zIn 332 (by decide +kernel) (by decide +kernel)
theorem lL_16 : Cond.methodLink RL 16 yX7_keyAt ∈ zTs := zIn 336 (by decide +kernel) (by decide +kernel)
theorem lX7_213 : Cond.methodLink RX7 213 yX7_needBucket ∈ zTs := zIn 340 (by decide +kernel) (by decide +kernel)
theorem lX7_306 : Cond.methodLink RX7 306 yX6_hasBucket ∈ zTs := zIn 344 (by decide +kernel) (by decide +kernel)
theorem lX7_309 : Cond.classLink RX7 309 "java/lang/IndexOutOfBoundsException" ∈ zTs := zIn 345 (by decide +kernel) (by decide +kernel)
theorem lX7_313 : Cond.methodLink RX7 313 ⟨"java/lang/IndexOutOfBoundsException", "<init>", "(Ljava/lang/String;)V"⟩ ∈ zTs := zIn 388 (by decide +kernel) (by decide +kernel)
theorem lX7_216 : Cond.methodLink RX7 216 yX6_keyIn ∈ zTs := zIn 414 (by decide +kernel) (by decide +kernel)
theorem lL_26 : Cond.methodLink RL 26 yX7_whyNoAdd ∈ zTs := zIn 415 (by decide +kernel) (by decide +kernel)
theorem lX7_118 : Cond.methodLink RX7 118 yX7_needKey ∈ zTs := zIn 419 (by decide +kernel) (by decide +kernel)
theorem lX7_144 : Cond.methodLink RX7 144 yX7_isKey ∈ zTs := zIn 422 (by decide +kernel) (by decide +kernel)
theorem lX7_79 : Cond.classLink RX7 79 "java/lang/IllegalArgumentException" ∈ zTs := zIn 425 (by decide +kernel) (by decide +kernel)
theorem lX7_83 : Cond.methodLink RX7 83 ⟨"java/lang/IllegalArgumentException", "<init>", "(Ljava/lang/String;)V"⟩ ∈ zTs := zIn 435 (by decide +kernel) (by decide +kernel)
theorem lX7_124 : Cond.methodLink RX7 124 yX6_bucketWith ∈ zTs := zIn 441 (by decide +kernel) (by decide +kernel)
theorem lX7_254 : Cond.methodLink RX7 254 yX7_tryToInsert ∈ zTs := zIn 442 (by decide +kernel) (by decide +kernel)
theorem lX7_109 : Cond.methodLink RX7 109 yX6_copyFrom ∈ zTs := zIn 446 (by decide +kernel) (by decide +kernel)
theorem lL_29 : Cond.methodLink RL 29 yX7_add ∈ zTs := zIn 447 (by decide +kernel) (by decide +kernel)
theorem lX7_121 : Cond.methodLink RX7 121 yX7_needValue ∈ zTs := zIn 451 (by decide +kernel) (by decide +kernel)
theorem lX7_301 : Cond.methodLink RX7 301 yX7_isValue ∈ zTs := zIn 454 (by decide +kernel) (by decide +kernel)
theorem lX7_127 : Cond.classLink RX7 127 "java/lang/IllegalStateException" ∈ zTs := zIn 458 (by decide +kernel) (by decide +kernel)
theorem lX7_131 : Cond.methodLink RX7 131 ⟨"java/lang/IllegalStateException", "<init>", "(Ljava/lang/String;)V"⟩ ∈ zTs := zIn 468 (by decide +kernel) (by decide +kernel)
theorem lX7_102 : Cond.methodLink RX7 102 yX2_mark ∈ zTs := zIn 474 (by decide +kernel) (by decide +kernel)
theorem lX7_132 : Cond.methodLink RX7 132 yX2_takeBack ∈ zTs := zIn 478 (by decide +kernel) (by decide +kernel)
theorem lX7_112 : Cond.methodLink RX7 112 yX2_keep ∈ zTs := zIn 480 (by decide +kernel) (by decide +kernel)
theorem lX2_31 : Cond.methodLink RX2 31 yJ9_min_7cf53 ∈ zTs := zIn 484 (by decide +kernel) (by decide +kernel)
theorem lL_33 : Cond.methodLink RL 33 yX7_put ∈ zTs := zIn 487 (by decide +kernel) (by decide +kernel)
theorem lX7_137 : Cond.methodLink RX7 137 yX6_valueIn ∈ zTs := zIn 491 (by decide +kernel) (by decide +kernel)
theorem lX7_140 : Cond.methodLink RX7 140 yX6_store ∈ zTs := zIn 495 (by decide +kernel) (by decide +kernel)
theorem lX6_88 : Cond.methodLink RX6 88 yX6_insert ∈ zTs := zIn 499 (by decide +kernel) (by decide +kernel)
theorem lL_36 : Cond.methodLink RL 36 yX7_remove ∈ zTs := zIn 500 (by decide +kernel) (by decide +kernel)
theorem lX7_163 : Cond.classLink RX7 163 "java/util/NoSuchElementException" ∈ zTs := zIn 504 (by decide +kernel) (by decide +kernel)
theorem lX7_167 : Cond.methodLink RX7 167 ⟨"java/util/NoSuchElementException", "<init>", "(Ljava/lang/String;)V"⟩ ∈ zTs := zIn 514 (by decide +kernel) (by decide +kernel)
theorem lL_39 : Cond.methodLink RL 39 yX7_bucketsWith ∈ zTs := zIn 520 (by decide +kernel) (by decide +kernel)
theorem lX7_168 : Cond.methodLink RX7 168 yX7_isNear ∈ zTs := zIn 524 (by decide +kernel) (by decide +kernel)
theorem lX7_173 : Cond.methodLink RX7 173 yX6_changeNear ∈ zTs := zIn 528 (by decide +kernel) (by decide +kernel)
theorem lX6_103 : Cond.methodLink RX6 103 yX6_buildAnew ∈ zTs := zIn 532 (by decide +kernel) (by decide +kernel)
theorem lL_42 : Cond.methodLink RL 42 yX7_setNeighbourhood ∈ zTs := zIn 536 (by decide +kernel) (by decide +kernel)
theorem lL_45 : Cond.methodLink RL 45 yX7_bestMultiplier ∈ zTs := zIn 541 (by decide +kernel) (by decide +kernel)
theorem lX7_186 : Cond.methodLink RX7 186 yX6_changeTimes ∈ zTs := zIn 546 (by decide +kernel) (by decide +kernel)
theorem lX7_248 : Cond.methodLink RX7 248 yX6_sumOfSteps ∈ zTs := zIn 550 (by decide +kernel) (by decide +kernel)
theorem lX6_127 : Cond.methodLink RX6 127 yJ9_max_7cf53 ∈ zTs := zIn 554 (by decide +kernel) (by decide +kernel)
theorem lL_48 : Cond.methodLink RL 48 yX7_setMultiplier ∈ zTs := zIn 557 (by decide +kernel) (by decide +kernel)
theorem lX7_181 : Cond.methodLink RX7 181 yX7_isTimes ∈ zTs := zIn 561 (by decide +kernel) (by decide +kernel)
theorem lL_51 : Cond.methodLink RL 51 yX7_setPulling ∈ zTs := zIn 565 (by decide +kernel) (by decide +kernel)
theorem lL_55 : Cond.methodLink RL 55 yX7_grow ∈ zTs := zIn 569 (by decide +kernel) (by decide +kernel)
theorem lX7_189 : Cond.methodLink RX7 189 yX6_buildAnew ∈ zTs := zIn 573 (by decide +kernel) (by decide +kernel)
theorem lL_58 : Cond.methodLink RL 58 yX7_clear ∈ zTs := zIn 574 (by decide +kernel) (by decide +kernel)
theorem lX7_192 : Cond.methodLink RX7 192 yX6_dropAll ∈ zTs := zIn 578 (by decide +kernel) (by decide +kernel)
theorem lL_145 : Cond.methodLink RL 145 yL_holds ∈ zTs := zIn 582 (by decide +kernel) (by decide +kernel)
theorem lL_61 : Cond.methodLink RL 61 yX7_neighbourhood ∈ zTs := zIn 585 (by decide +kernel) (by decide +kernel)
theorem lL_64 : Cond.methodLink RL 64 yX7_violations ∈ zTs := zIn 589 (by decide +kernel) (by decide +kernel)
theorem lX7_274 : Cond.methodLink RX7 274 yJ9_abs_0f7a4 ∈ zTs := zIn 593 (by decide +kernel) (by decide +kernel)
theorem lX7_279 : Cond.methodLink RX7 279 yX6_strayEntries ∈ zTs := zIn 596 (by decide +kernel) (by decide +kernel)
theorem lX7_282 : Cond.methodLink RX7 282 yX6_wrongHops ∈ zTs := zIn 600 (by decide +kernel) (by decide +kernel)
theorem lX6_135 : Cond.methodLink RX6 135 yJ6_bitCount_0f7a4 ∈ zTs := zIn 604 (by decide +kernel) (by decide +kernel)
theorem lJ6_265 : Cond.constant RJ6 265 (1431655765 : Int32) ∈ zTs := zIn 607 (by decide +kernel) (by decide +kernel)
theorem lJ6_266 : Cond.constant RJ6 266 (858993459 : Int32) ∈ zTs := zIn 608 (by decide +kernel) (by decide +kernel)
theorem lJ6_267 : Cond.constant RJ6 267 (252645135 : Int32) ∈ zTs := zIn 609 (by decide +kernel) (by decide +kernel)
theorem lX7_285 : Cond.methodLink RX7 285 yX6_twins ∈ zTs := zIn 610 (by decide +kernel) (by decide +kernel)
theorem lL_67 : Cond.methodLink RL 67 yX7_homeOf ∈ zTs := zIn 614 (by decide +kernel) (by decide +kernel)
theorem lX7_236 : Cond.methodLink RX7 236 yX6_homeFor ∈ zTs := zIn 618 (by decide +kernel) (by decide +kernel)
theorem lL_70 : Cond.methodLink RL 70 yX7_hopBits ∈ zTs := zIn 619 (by decide +kernel) (by decide +kernel)
theorem lX7_219 : Cond.methodLink RX7 219 yX6_hopsIn ∈ zTs := zIn 623 (by decide +kernel) (by decide +kernel)
theorem lL_73 : Cond.methodLink RL 73 yX7_entriesOf ∈ zTs := zIn 624 (by decide +kernel) (by decide +kernel)
theorem lX7_222 : Cond.methodLink RX7 222 yJ6_bitCount_0f7a4 ∈ zTs := zIn 628 (by decide +kernel) (by decide +kernel)
theorem lL_76 : Cond.methodLink RL 76 yX7_valueAt ∈ zTs := zIn 629 (by decide +kernel) (by decide +kernel)
theorem lL_79 : Cond.methodLink RL 79 yX7_distanceOf ∈ zTs := zIn 633 (by decide +kernel) (by decide +kernel)
theorem lX7_239 : Cond.methodLink RX7 239 yX6_stepsFromHome ∈ zTs := zIn 637 (by decide +kernel) (by decide +kernel)
theorem lL_82 : Cond.methodLink RL 82 yX7_bucketOf ∈ zTs := zIn 638 (by decide +kernel) (by decide +kernel)
theorem lL_85 : Cond.methodLink RL 85 yX7_valueOf ∈ zTs := zIn 642 (by decide +kernel) (by decide +kernel)
theorem lL_88 : Cond.methodLink RL 88 yX7_sumOfDistances ∈ zTs := zIn 646 (by decide +kernel) (by decide +kernel)
theorem lL_91 : Cond.methodLink RL 91 yX7_addedCount ∈ zTs := zIn 650 (by decide +kernel) (by decide +kernel)
theorem lL_94 : Cond.methodLink RL 94 yX7_removedCount ∈ zTs := zIn 654 (by decide +kernel) (by decide +kernel)
theorem lL_97 : Cond.methodLink RL 97 yX7_longestDistance ∈ zTs := zIn 658 (by decide +kernel) (by decide +kernel)
theorem lX7_245 : Cond.methodLink RX7 245 yX6_mostSteps ∈ zTs := zIn 662 (by decide +kernel) (by decide +kernel)
theorem lL_138 : Cond.methodLink RL 138 yL_sum ∈ zTs := zIn 666 (by decide +kernel) (by decide +kernel)
theorem lL_108 : Cond.methodLink RL 108 yX7_multiplier ∈ zTs := zIn 671 (by decide +kernel) (by decide +kernel)
theorem lL_111 : Cond.methodLink RL 111 yX7_isPulling ∈ zTs := zIn 675 (by decide +kernel) (by decide +kernel)
theorem lL_117 : Cond.methodLink RL 117 yX7_moves ∈ zTs := zIn 681 (by decide +kernel) (by decide +kernel)
theorem lL_122 : Cond.methodLink RL 122 yX7_pulls ∈ zTs := zIn 686 (by decide +kernel) (by decide +kernel)
theorem lL_127 : Cond.methodLink RL 127 yX7_growths ∈ zTs := zIn 691 (by decide +kernel) (by decide +kernel)
theorem lL_164 : Cond.methodLink RL 164 yL_isBuilt ∈ zTs := zIn 699 (by decide +kernel) (by decide +kernel)
theorem lL_142 : Cond.methodLink RL 142 yL_content ∈ zTs := zIn 702 (by decide +kernel) (by decide +kernel)
theorem arr_int : Cond.arrayClass .int ∈ zTs := zIn 57 (by decide +kernel) (by decide +kernel)
theorem ob1 : Cond.instanceMethod Lib.objectInit ∈ zTs := zIn 35 (by decide +kernel) (by decide +kernel)
theorem ob2 : Cond.code Lib.objectInit ⟨#[0xb1]⟩ 1 none ∈ zTs := zIn 36 (by decide +kernel) (by decide +kernel)
theorem mm_max1 : Cond.static Lib.Math.max.name ∈ zTs := zIn 555 (by decide +kernel) (by decide +kernel)
theorem mm_max2 : Cond.code Lib.Math.max.name Lib.Math.max.code 2 (some .int) ∈ zTs := zIn 556 (by decide +kernel) (by decide +kernel)
theorem mm_min1 : Cond.static Lib.Math.min.name ∈ zTs := zIn 485 (by decide +kernel) (by decide +kernel)
theorem mm_min2 : Cond.code Lib.Math.min.name Lib.Math.min.code 2 (some .int) ∈ zTs := zIn 486 (by decide +kernel) (by decide +kernel)
theorem mm_abs1 : Cond.static Lib.Math.abs.name ∈ zTs := zIn 594 (by decide +kernel) (by decide +kernel)
theorem mm_abs2 : Cond.code Lib.Math.abs.name Lib.Math.abs.code 1 (some .int) ∈ zTs := zIn 595 (by decide +kernel) (by decide +kernel)
theorem mm_ini : Cond.initialized "java/lang/Math" ∈ zTs := zIn 19 (by decide +kernel) (by decide +kernel)
theorem cp1 : Cond.native arraycopyName ∈ zTs := zIn 314 (by decide +kernel) (by decide +kernel)
theorem cp2 : Cond.static arraycopyName ∈ zTs := zIn 313 (by decide +kernel) (by decide +kernel)
theorem cp3 : Cond.initialized "java/lang/System" ∈ zTs := zIn 26 (by decide +kernel) (by decide +kernel)
theorem nwL_8 : zN RL 8 5 [.null, .null, .null, .null, .null, .int 0, .null, .null] := ⟨RX7, TX7, 8, tyX7, rfl, rfl, tyX7_ok, inX7, lL_8, zIn 30 (by decide +kernel) (by decide +kernel), zIn 13 (by decide +kernel) (by decide +kernel), by
  intro v hv
  simp only [List.mem_cons, List.not_mem_nil, or_false] at hv
  rcases hv with rfl | rfl | rfl | rfl | rfl | rfl | rfl | rfl <;> first | exact Or.inl rfl | exact Or.inr ⟨_, rfl⟩, by decide +kernel⟩
theorem nwX7_7 : zN RX7 7 1 [.null, .int 0, .int 0, .int 0, .int 0, .int 0] := ⟨RX3, TX3, 6, tyX3, rfl, rfl, tyX3_ok, inX3, lX7_7, zIn 38 (by decide +kernel) (by decide +kernel), zIn 14 (by decide +kernel) (by decide +kernel), by
  intro v hv
  simp only [List.mem_cons, List.not_mem_nil, or_false] at hv
  rcases hv with rfl | rfl | rfl | rfl | rfl | rfl <;> first | exact Or.inl rfl | exact Or.inr ⟨_, rfl⟩, by decide +kernel⟩
theorem nwX7_16 : zN RX7 16 3 [.null, .null, .null, .null, .null, .int 0, .int 0, .null, .int 0, .int 0, .int 0, .int 0] := ⟨RX5, TX5, 12, tyX5, rfl, rfl, tyX5_ok, inX5, lX7_16, zIn 59 (by decide +kernel) (by decide +kernel), zIn 15 (by decide +kernel) (by decide +kernel), by
  intro v hv
  simp only [List.mem_cons, List.not_mem_nil, or_false] at hv
  rcases hv with rfl | rfl | rfl | rfl | rfl | rfl | rfl | rfl | rfl | rfl | rfl | rfl <;> first | exact Or.inl rfl | exact Or.inr ⟨_, rfl⟩, by decide +kernel⟩
theorem nwX5_9 : zN RX5 9 4 [.null, .null, .null, .null, .null, .int 0, .int 0, .int 0, .int 0, .int 0, .int 0, .int 0, .int 0, .int 0, .int 0, .int 0] := ⟨RX6, TX6, 16, tyX6, rfl, rfl, tyX6_ok, inX6, lX5_9, zIn 65 (by decide +kernel) (by decide +kernel), zIn 16 (by decide +kernel) (by decide +kernel), by
  intro v hv
  simp only [List.mem_cons, List.not_mem_nil, or_false] at hv
  rcases hv with rfl | rfl | rfl | rfl | rfl | rfl | rfl | rfl | rfl | rfl | rfl | rfl | rfl | rfl | rfl | rfl <;> first | exact Or.inl rfl | exact Or.inr ⟨_, rfl⟩, by decide +kernel⟩
theorem nwX7_25 : zN RX7 25 4 [.null, .null, .null, .null, .null, .int 0, .int 0, .int 0, .int 0, .int 0, .int 0, .int 0, .int 0, .int 0, .int 0, .int 0] := ⟨RX6, TX6, 16, tyX6, rfl, rfl, tyX6_ok, inX6, lX7_25, zIn 65 (by decide +kernel) (by decide +kernel), zIn 16 (by decide +kernel) (by decide +kernel), by
  intro v hv
  simp only [List.mem_cons, List.not_mem_nil, or_false] at hv
  rcases hv with rfl | rfl | rfl | rfl | rfl | rfl | rfl | rfl | rfl | rfl | rfl | rfl | rfl | rfl | rfl | rfl <;> first | exact Or.inl rfl | exact Or.inr ⟨_, rfl⟩, by decide +kernel⟩
theorem nwX7_42 : zN RX7 42 0 [.null, .int 0, .int 0] := ⟨RX2, TX2, 3, tyX2, rfl, rfl, tyX2_ok, inX2, lX7_42, zIn 171 (by decide +kernel) (by decide +kernel), zIn 17 (by decide +kernel) (by decide +kernel), by
  intro v hv
  simp only [List.mem_cons, List.not_mem_nil, or_false] at hv
  rcases hv with rfl | rfl | rfl <;> first | exact Or.inl rfl | exact Or.inr ⟨_, rfl⟩, by decide +kernel⟩
theorem nwX2_9 : zN RX2 9 4 [.null, .null, .null, .null, .null, .int 0, .int 0, .int 0, .int 0, .int 0, .int 0, .int 0, .int 0, .int 0, .int 0, .int 0] := ⟨RX6, TX6, 16, tyX6, rfl, rfl, tyX6_ok, inX6, lX2_9, zIn 65 (by decide +kernel) (by decide +kernel), zIn 16 (by decide +kernel) (by decide +kernel), by
  intro v hv
  simp only [List.mem_cons, List.not_mem_nil, or_false] at hv
  rcases hv with rfl | rfl | rfl | rfl | rfl | rfl | rfl | rfl | rfl | rfl | rfl | rfl | rfl | rfl | rfl | rfl <;> first | exact Or.inl rfl | exact Or.inr ⟨_, rfl⟩, by decide +kernel⟩
theorem nwX7_49 : zN RX7 49 2 [.null, .int 0] := ⟨RX4, TX4, 2, tyX4, rfl, rfl, tyX4_ok, inX4, lX7_49, zIn 191 (by decide +kernel) (by decide +kernel), zIn 18 (by decide +kernel) (by decide +kernel), by
  intro v hv
  simp only [List.mem_cons, List.not_mem_nil, or_false] at hv
  rcases hv with rfl | rfl <;> first | exact Or.inl rfl | exact Or.inr ⟨_, rfl⟩, by decide +kernel⟩
