/-! all facts -/
theorem zu_0 : ∀ k, k < 1 → u_lay RX0 TX0 k ∈ zb_T := fun k hk => match k, hk with
  | 0, _ => zx_1_226
  | k + 1, h => absurd h (by omega)
theorem zuw_0 : ∀ w ∈ u_ws RX0 TX0 1, w ∈ zb_T := fun w hw => by
  obtain ⟨k, hk, rfl⟩ := List.mem_map.mp hw
  exact zu_0 k (List.mem_range.mp hk)
theorem zuc_0 : 0 < 100 ∧ (∀ w ∈ u_ws RX0 TX0 1, w ∈ zb_T) ∧ (∃ ty0 : Nat → FieldType, ∀ k, k < 1 → parseFieldDescriptor (TX0 k).2.2.1 = some (ty0 k)) ∧ ∀ a, a < 1 → ∀ b, b < 1 → a ≠ b → (TX0 a).2.1 ≠ (TX0 b).2.1 := ⟨by decide, zuw_0, ⟨tyX0, tyX0_ok⟩, nmX0⟩
theorem zu_1 : ∀ k, k < 1 → u_lay RX1 TX1 k ∈ zb_T := fun k hk => match k, hk with
  | 0, _ => zx_1_213
  | k + 1, h => absurd h (by omega)
theorem zuw_1 : ∀ w ∈ u_ws RX1 TX1 1, w ∈ zb_T := fun w hw => by
  obtain ⟨k, hk, rfl⟩ := List.mem_map.mp hw
  exact zu_1 k (List.mem_range.mp hk)
theorem zuc_1 : 1 < 100 ∧ (∀ w ∈ u_ws RX1 TX1 1, w ∈ zb_T) ∧ (∃ ty0 : Nat → FieldType, ∀ k, k < 1 → parseFieldDescriptor (TX1 k).2.2.1 = some (ty0 k)) ∧ ∀ a, a < 1 → ∀ b, b < 1 → a ≠ b → (TX1 a).2.1 ≠ (TX1 b).2.1 := ⟨by decide, zuw_1, ⟨tyX1, tyX1_ok⟩, nmX1⟩
theorem zu_2 : ∀ k, k < 3 → u_lay RX2 TX2 k ∈ zb_T := fun k hk => match k, hk with
  | 0, _ => zx_1_188
  | 1, _ => zx_1_190
  | 2, _ => zx_1_192
  | k + 3, h => absurd h (by omega)
theorem zuw_2 : ∀ w ∈ u_ws RX2 TX2 3, w ∈ zb_T := fun w hw => by
  obtain ⟨k, hk, rfl⟩ := List.mem_map.mp hw
  exact zu_2 k (List.mem_range.mp hk)
theorem zuc_2 : 2 < 100 ∧ (∀ w ∈ u_ws RX2 TX2 3, w ∈ zb_T) ∧ (∃ ty0 : Nat → FieldType, ∀ k, k < 3 → parseFieldDescriptor (TX2 k).2.2.1 = some (ty0 k)) ∧ ∀ a, a < 3 → ∀ b, b < 3 → a ≠ b → (TX2 a).2.1 ≠ (TX2 b).2.1 := ⟨by decide, zuw_2, ⟨tyX2, tyX2_ok⟩, nmX2⟩
theorem zu_3 : ∀ k, k < 5 → u_lay RX3 TX3 k ∈ zb_T := fun k hk => match k, hk with
  | 0, _ => zx_1_124
  | 1, _ => zx_1_126
  | 2, _ => zx_1_128
  | 3, _ => zx_1_130
  | 4, _ => zx_1_132
  | k + 5, h => absurd h (by omega)
theorem zuw_3 : ∀ w ∈ u_ws RX3 TX3 5, w ∈ zb_T := fun w hw => by
  obtain ⟨k, hk, rfl⟩ := List.mem_map.mp hw
  exact zu_3 k (List.mem_range.mp hk)
theorem zuc_3 : 3 < 100 ∧ (∀ w ∈ u_ws RX3 TX3 5, w ∈ zb_T) ∧ (∃ ty0 : Nat → FieldType, ∀ k, k < 5 → parseFieldDescriptor (TX3 k).2.2.1 = some (ty0 k)) ∧ ∀ a, a < 5 → ∀ b, b < 5 → a ≠ b → (TX3 a).2.1 ≠ (TX3 b).2.1 := ⟨by decide, zuw_3, ⟨tyX3, tyX3_ok⟩, nmX3⟩
theorem zu_4 : ∀ k, k < 2 → u_lay RX4 TX4 k ∈ zb_T := fun k hk => match k, hk with
  | 0, _ => zx_1_56
  | 1, _ => zx_1_58
  | k + 2, h => absurd h (by omega)
theorem zuw_4 : ∀ w ∈ u_ws RX4 TX4 2, w ∈ zb_T := fun w hw => by
  obtain ⟨k, hk, rfl⟩ := List.mem_map.mp hw
  exact zu_4 k (List.mem_range.mp hk)
theorem zuc_4 : 4 < 100 ∧ (∀ w ∈ u_ws RX4 TX4 2, w ∈ zb_T) ∧ (∃ ty0 : Nat → FieldType, ∀ k, k < 2 → parseFieldDescriptor (TX4 k).2.2.1 = some (ty0 k)) ∧ ∀ a, a < 2 → ∀ b, b < 2 → a ≠ b → (TX4 a).2.1 ≠ (TX4 b).2.1 := ⟨by decide, zuw_4, ⟨tyX4, tyX4_ok⟩, nmX4⟩
theorem zu_5 : ∀ k, k < 10 → u_lay RX5 TX5 k ∈ zb_T := fun k hk => match k, hk with
  | 0, _ => zx_2_5
  | 1, _ => zx_2_7
  | 2, _ => zx_2_9
  | 3, _ => zx_2_11
  | 4, _ => zx_2_13
  | 5, _ => zx_2_15
  | 6, _ => zx_2_17
  | 7, _ => zx_2_19
  | 8, _ => zx_2_21
  | 9, _ => zx_2_23
  | k + 10, h => absurd h (by omega)
theorem zuw_5 : ∀ w ∈ u_ws RX5 TX5 10, w ∈ zb_T := fun w hw => by
  obtain ⟨k, hk, rfl⟩ := List.mem_map.mp hw
  exact zu_5 k (List.mem_range.mp hk)
theorem zuc_5 : 5 < 100 ∧ (∀ w ∈ u_ws RX5 TX5 10, w ∈ zb_T) ∧ (∃ ty0 : Nat → FieldType, ∀ k, k < 10 → parseFieldDescriptor (TX5 k).2.2.1 = some (ty0 k)) ∧ ∀ a, a < 10 → ∀ b, b < 10 → a ≠ b → (TX5 a).2.1 ≠ (TX5 b).2.1 := ⟨by decide, zuw_5, ⟨tyX5, tyX5_ok⟩, nmX5⟩
theorem zu_6 : ∀ k, k < 2 → u_lay RX6 TX6 k ∈ zb_T := fun k hk => match k, hk with
  | 0, _ => zx_1_42
  | 1, _ => zx_1_44
  | k + 2, h => absurd h (by omega)
theorem zuw_6 : ∀ w ∈ u_ws RX6 TX6 2, w ∈ zb_T := fun w hw => by
  obtain ⟨k, hk, rfl⟩ := List.mem_map.mp hw
  exact zu_6 k (List.mem_range.mp hk)
theorem zuc_6 : 6 < 100 ∧ (∀ w ∈ u_ws RX6 TX6 2, w ∈ zb_T) ∧ (∃ ty0 : Nat → FieldType, ∀ k, k < 2 → parseFieldDescriptor (TX6 k).2.2.1 = some (ty0 k)) ∧ ∀ a, a < 2 → ∀ b, b < 2 → a ≠ b → (TX6 a).2.1 ≠ (TX6 b).2.1 := ⟨by decide, zuw_6, ⟨tyX6, tyX6_ok⟩, nmX6⟩
theorem zu_7 : ∀ k, k < 4 → u_lay RX7 TX7 k ∈ zb_T := fun k hk => match k, hk with
  | 0, _ => zx_1_161
  | 1, _ => zx_1_163
  | 2, _ => zx_1_165
  | 3, _ => zx_1_167
  | k + 4, h => absurd h (by omega)
theorem zuw_7 : ∀ w ∈ u_ws RX7 TX7 4, w ∈ zb_T := fun w hw => by
  obtain ⟨k, hk, rfl⟩ := List.mem_map.mp hw
  exact zu_7 k (List.mem_range.mp hk)
theorem zuc_7 : 7 < 100 ∧ (∀ w ∈ u_ws RX7 TX7 4, w ∈ zb_T) ∧ (∃ ty0 : Nat → FieldType, ∀ k, k < 4 → parseFieldDescriptor (TX7 k).2.2.1 = some (ty0 k)) ∧ ∀ a, a < 4 → ∀ b, b < 4 → a ≠ b → (TX7 a).2.1 ≠ (TX7 b).2.1 := ⟨by decide, zuw_7, ⟨tyX7, tyX7_ok⟩, nmX7⟩
theorem zu_8 : ∀ k, k < 2 → u_lay RX8 TX8 k ∈ zb_T := fun k hk => match k, hk with
  | 0, _ => zx_1_198
  | 1, _ => zx_1_200
  | k + 2, h => absurd h (by omega)
theorem zuw_8 : ∀ w ∈ u_ws RX8 TX8 2, w ∈ zb_T := fun w hw => by
  obtain ⟨k, hk, rfl⟩ := List.mem_map.mp hw
  exact zu_8 k (List.mem_range.mp hk)
theorem zuc_8 : 8 < 100 ∧ (∀ w ∈ u_ws RX8 TX8 2, w ∈ zb_T) ∧ (∃ ty0 : Nat → FieldType, ∀ k, k < 2 → parseFieldDescriptor (TX8 k).2.2.1 = some (ty0 k)) ∧ ∀ a, a < 2 → ∀ b, b < 2 → a ≠ b → (TX8 a).2.1 ≠ (TX8 b).2.1 := ⟨by decide, zuw_8, ⟨tyX8, tyX8_ok⟩, nmX8⟩
theorem zu_9 : ∀ k, k < 9 → u_lay RX9 TX9 k ∈ zb_T := fun k hk => match k, hk with
  | 0, _ => zx_1_90
  | 1, _ => zx_1_92
  | 2, _ => zx_1_94
  | 3, _ => zx_1_96
  | 4, _ => zx_1_98
  | 5, _ => zx_1_100
  | 6, _ => zx_1_102
  | 7, _ => zx_1_104
  | 8, _ => zx_1_106
  | k + 9, h => absurd h (by omega)
theorem zuw_9 : ∀ w ∈ u_ws RX9 TX9 9, w ∈ zb_T := fun w hw => by
  obtain ⟨k, hk, rfl⟩ := List.mem_map.mp hw
  exact zu_9 k (List.mem_range.mp hk)
theorem zuc_9 : 9 < 100 ∧ (∀ w ∈ u_ws RX9 TX9 9, w ∈ zb_T) ∧ (∃ ty0 : Nat → FieldType, ∀ k, k < 9 → parseFieldDescriptor (TX9 k).2.2.1 = some (ty0 k)) ∧ ∀ a, a < 9 → ∀ b, b < 9 → a ≠ b → (TX9 a).2.1 ≠ (TX9 b).2.1 := ⟨by decide, zuw_9, ⟨tyX9, tyX9_ok⟩, nmX9⟩
theorem zu_10 : ∀ k, k < 3 → u_lay RX10 TX10 k ∈ zb_T := fun k hk => match k, hk with
  | 0, _ => zx_1_144
  | 1, _ => zx_1_146
  | 2, _ => zx_1_148
  | k + 3, h => absurd h (by omega)
theorem zuw_10 : ∀ w ∈ u_ws RX10 TX10 3, w ∈ zb_T := fun w hw => by
  obtain ⟨k, hk, rfl⟩ := List.mem_map.mp hw
  exact zu_10 k (List.mem_range.mp hk)
theorem zuc_10 : 10 < 100 ∧ (∀ w ∈ u_ws RX10 TX10 3, w ∈ zb_T) ∧ (∃ ty0 : Nat → FieldType, ∀ k, k < 3 → parseFieldDescriptor (TX10 k).2.2.1 = some (ty0 k)) ∧ ∀ a, a < 3 → ∀ b, b < 3 → a ≠ b → (TX10 a).2.1 ≠ (TX10 b).2.1 := ⟨by decide, zuw_10, ⟨tyX10, tyX10_ok⟩, nmX10⟩
theorem zu_11 : ∀ k, k < 13 → u_lay RX11 TX11 k ∈ zb_T := fun k hk => match k, hk with
  | 0, _ => zx_2_39
  | 1, _ => zx_2_41
  | 2, _ => zx_2_43
  | 3, _ => zx_2_45
  | 4, _ => zx_2_47
  | 5, _ => zx_2_49
  | 6, _ => zx_2_51
  | 7, _ => zx_2_53
  | 8, _ => zx_2_55
  | 9, _ => zx_2_57
  | 10, _ => zx_2_59
  | 11, _ => zx_2_61
  | 12, _ => zx_2_63
  | k + 13, h => absurd h (by omega)
theorem zuw_11 : ∀ w ∈ u_ws RX11 TX11 13, w ∈ zb_T := fun w hw => by
  obtain ⟨k, hk, rfl⟩ := List.mem_map.mp hw
  exact zu_11 k (List.mem_range.mp hk)
theorem zuc_11 : 11 < 100 ∧ (∀ w ∈ u_ws RX11 TX11 13, w ∈ zb_T) ∧ (∃ ty0 : Nat → FieldType, ∀ k, k < 13 → parseFieldDescriptor (TX11 k).2.2.1 = some (ty0 k)) ∧ ∀ a, a < 13 → ∀ b, b < 13 → a ≠ b → (TX11 a).2.1 ≠ (TX11 b).2.1 := ⟨by decide, zuw_11, ⟨tyX11, tyX11_ok⟩, nmX11⟩
theorem zu_12 : ∀ k, k < 50 → u_lay RX12 TX12 k ∈ zb_T := fun k hk => match k, hk with
  | 0, _ => zx_6_139
  | 1, _ => zx_6_141
  | 2, _ => zx_6_143
  | 3, _ => zx_6_145
  | 4, _ => zx_6_147
  | 5, _ => zx_6_149
  | 6, _ => zx_6_151
  | 7, _ => zx_6_153
  | 8, _ => zx_6_155
  | 9, _ => zx_6_157
  | 10, _ => zx_6_159
  | 11, _ => zx_6_161
  | 12, _ => zx_6_163
  | 13, _ => zx_6_165
  | 14, _ => zx_6_167
  | 15, _ => zx_6_169
  | 16, _ => zx_6_171
  | 17, _ => zx_6_173
  | 18, _ => zx_6_175
  | 19, _ => zx_6_177
  | 20, _ => zx_6_179
  | 21, _ => zx_6_181
  | 22, _ => zx_6_183
  | 23, _ => zx_6_185
  | 24, _ => zx_6_187
  | 25, _ => zx_6_189
  | 26, _ => zx_6_191
  | 27, _ => zx_6_193
  | 28, _ => zx_6_195
  | 29, _ => zx_6_197
  | 30, _ => zx_6_199
  | 31, _ => zx_6_201
  | 32, _ => zx_6_203
  | 33, _ => zx_6_205
  | 34, _ => zx_6_207
  | 35, _ => zx_6_209
  | 36, _ => zx_6_211
  | 37, _ => zx_6_213
  | 38, _ => zx_6_215
  | 39, _ => zx_6_217
  | 40, _ => zx_6_219
  | 41, _ => zx_6_221
  | 42, _ => zx_6_223
  | 43, _ => zx_6_225
  | 44, _ => zx_6_227
  | 45, _ => zx_6_229
  | 46, _ => zx_6_231
  | 47, _ => zx_6_233
  | 48, _ => zx_6_235
  | 49, _ => zx_6_237
  | k + 50, h => absurd h (by omega)
theorem zuw_12 : ∀ w ∈ u_ws RX12 TX12 50, w ∈ zb_T := fun w hw => by
  obtain ⟨k, hk, rfl⟩ := List.mem_map.mp hw
  exact zu_12 k (List.mem_range.mp hk)
theorem zuc_12 : 12 < 100 ∧ (∀ w ∈ u_ws RX12 TX12 50, w ∈ zb_T) ∧ (∃ ty0 : Nat → FieldType, ∀ k, k < 50 → parseFieldDescriptor (TX12 k).2.2.1 = some (ty0 k)) ∧ ∀ a, a < 50 → ∀ b, b < 50 → a ≠ b → (TX12 a).2.1 ≠ (TX12 b).2.1 := ⟨by decide, zuw_12, ⟨tyX12, tyX12_ok⟩, nmX12⟩
theorem zF_CF : ze_CF := by
  intro ci C T N h
  match ci, h with
  | 0, h => cases h; exact zuc_0
  | 1, h => cases h; exact zuc_1
  | 2, h => cases h; exact zuc_2
  | 3, h => cases h; exact zuc_3
  | 4, h => cases h; exact zuc_4
  | 5, h => cases h; exact zuc_5
  | 6, h => cases h; exact zuc_6
  | 7, h => cases h; exact zuc_7
  | 8, h => cases h; exact zuc_8
  | 9, h => cases h; exact zuc_9
  | 10, h => cases h; exact zuc_10
  | 11, h => cases h; exact zuc_11
  | 12, h => cases h; exact zuc_12
  | ci + 13, h => cases h
theorem zF_AF : ze_AF := by
  intro ci h
  have h : ci ∈ [9] := h
  simp only [List.mem_cons, List.not_mem_nil, or_false] at h
  subst h
  exact ⟨_, rfl, ze_a9⟩
theorem zF_u : ZF_u := ⟨fun o n a h => ZG.get0 zg_q o (n, a) h, fun m hm => match m, hm with
  | 0, _ => ⟨zx_2_157, zx_2_158, zx_2_159⟩
  | 1, _ => ⟨zx_4_52, zx_4_53, zx_4_54⟩
  | 2, _ => ⟨zx_4_22, zx_4_23, zx_4_24⟩
  | 3, _ => ⟨zx_2_143, zx_2_144, zx_2_145⟩
  | m + 4, h => absurd h (by omega),
  zx_1_15, fun l sp A d t ht => ⟨zt_length ht, zt_isEmpty ht, fun k hk => zt_charAt ht hk, fun i => zt_indexOf ht⟩⟩
theorem zF : ZF := ⟨zF_CF, zF_AF, fun o n a b h => ZG.get0 zg_f o (n, a, b) h, fun o n a b c f h => ZG.get0 zg_p o (n, a, b, c, f) h, fun o n a tl h => ZG.get0 zg_n o (n, a, tl) h, fun o n a h => ZG.get0 zg_a o (n, a) h, fun o n a h => ZG.get0 zg_k o (n, a) h, fun o n a h => ZG.get0 zg_kl o (n, a) h, fun o n a b c tl h => ZG.get0 zg_v o (n, a, b, c, tl) h, fun o n a b c tl h => ZG.get0 zg_s o (n, a, b, c, tl) h, fun o n a b c tl h => ZG.get0 zg_i o (n, a, b, c, tl) h, ⟨fun o n h => ZG.get0 zg_o o n h, zx_1_32, zx_1_33⟩, ⟨fun o n h => ZG.get0 zg_y o n h, zx_3_41, zx_3_40, zx_1_24⟩, ⟨zx_1_109, zx_1_47, zx_7_0, zx_1_61⟩, ⟨fun o n a h => ZG.get0 zg_m o (n, a) h, zx_2_171, zx_1_183, zx_1_10, zx_2_172, zx_1_184, zx_3_224, zx_3_225⟩, zF_u⟩
