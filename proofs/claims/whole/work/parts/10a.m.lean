/-! the reference, by program (genm.py): X1_within X1_four X1_name X1_quarter X1_sine X1_cosine X1_append X1_clearBuffer -/
set_option maxHeartbeats 4000000 in
set_option maxRecDepth 100000 in
theorem c_X1_within (l : Launch) (g : GG) (x : Int) (lo : Int) (hi : Int) (hb_x : B32 x) (hb_lo : B32 lo) (hb_hi : B32 hi) : Met l yX1_within wsX1_within (k2_rm 0 0) (va_Pc [.int (iI x), .int (iI lo), .int (iI hi)] (fun U => PT U U.heap)) (vp_Si (fun r => (r = iI 1 ∧ (lo ≤ x ∧ x ≤ hi)) ∨ (r = iI 0 ∧ ¬ (lo ≤ x ∧ x ≤ hi)))) 0 0 (fun _ => False) := by
  refine Met.ofW (cc := cX1_within) (maxL := 3) (ret := (some .boolean)) (by decide) rfl ?_
  intro pp ee s mm args below meth cc9 s₁ B hml hv
  obtain ⟨rfl, hPX⟩ := hv
  have hx := B.exec
  have hb := B.bytes
  have hr := B.returns
  have hts := atoms_spec (ws := wsX1_within) B.pre
  have hown : s.vm.findClass RX1 = some mm.cls := findClass_of_methodNamed B.named
  have hlocks := B.notSynchronized
  have hl := lv_entry ([.int (iI x), .int (iI lo), .int (iI hi)]) (n := 3) (Nat.le_of_ble_eq_true rfl)
  rw [lg_entry_eq]
  generalize (lg_sl ([.int (iI x), .int (iI lo), .int (iI hi)]) ++ List.replicate (3 - (lg_sl ([.int (iI x), .int (iI lo), .int (iI hi)])).length) Slot.unset).toArray = ls at hl ⊢
  have hl : lv_has ls 3 [(0, .int (iI x)), (1, .int (iI lo)), (2, .int (iI hi))] := hl
  refine lv_iload_n hx hb dX1_within_0 rfl (lv_at hl 0 rfl) ?_
  refine lv_iload_n hx hb dX1_within_1 rfl (lv_at hl 1 rfl) ?_
  refine z_icmp_lt (tgt := 14) hx hb dX1_within_2 (by decide) (by omega) (by omega) (fun c_1 => ?_) (fun c_1 => ?_)
  · refine z_iconst hx hb dX1_within_14 ?_
    exact zr_0 hx hb hr hlocks dX1_within_15 (by omega)
  · refine lv_iload_n hx hb dX1_within_5 rfl (lv_at hl 0 rfl) ?_
    refine lv_iload_n hx hb dX1_within_6 rfl (lv_at hl 2 rfl) ?_
    refine z_icmp_gt (tgt := 14) hx hb dX1_within_7 (by decide) (by omega) (by omega) (fun c_2 => ?_) (fun c_2 => ?_)
    · refine z_iconst hx hb dX1_within_14 ?_
      exact zr_0 hx hb hr hlocks dX1_within_15 (by omega)
    · refine z_iconst hx hb dX1_within_10 ?_
      refine lv_goto (tgt := 15) hx hb dX1_within_11 (by decide) ?_
      exact zr_1 hx hb hr hlocks dX1_within_15 (by omega)
set_option maxHeartbeats 4000000 in
set_option maxRecDepth 100000 in
theorem c_X1_four (l : Launch) (g : GG) (a : Int) (b : Int) (c9z : Int) (d : Int) : Met l yX1_four wsX1_four (k2_rm 0 0) (va_Pc [.int (iI a), .int (iI b), .int (iI c9z), .int (iI d)] (fun U => PT U U.heap)) (vp_Si (fun r => r = iI (fo4 a b c9z d))) 0 0 (fun _ => False) := by
  refine Met.ofW (cc := cX1_four) (maxL := 4) (ret := (some .int)) (by decide) rfl ?_
  intro pp ee s mm args below meth cc9 s₁ B hml hv
  obtain ⟨rfl, hPX⟩ := hv
  have hx := B.exec
  have hb := B.bytes
  have hr := B.returns
  have hts := atoms_spec (ws := wsX1_four) B.pre
  have hown : s.vm.findClass RX1 = some mm.cls := findClass_of_methodNamed B.named
  have hlocks := B.notSynchronized
  have hl := lv_entry ([.int (iI a), .int (iI b), .int (iI c9z), .int (iI d)]) (n := 4) (Nat.le_of_ble_eq_true rfl)
  rw [lg_entry_eq]
  generalize (lg_sl ([.int (iI a), .int (iI b), .int (iI c9z), .int (iI d)]) ++ List.replicate (4 - (lg_sl ([.int (iI a), .int (iI b), .int (iI c9z), .int (iI d)])).length) Slot.unset).toArray = ls at hl ⊢
  have hl : lv_has ls 4 [(0, .int (iI a)), (1, .int (iI b)), (2, .int (iI c9z)), (3, .int (iI d))] := hl
  refine lv_iload_n hx hb dX1_four_0 rfl (lv_at hl 0 rfl) ?_
  refine z_sipush hx hb dX1_four_1 (by decide +kernel) ?_
  refine z_imul hx hb dX1_four_4 ?_
  refine lv_iload_n hx hb dX1_four_5 rfl (lv_at hl 1 rfl) ?_
  refine z_iadd hx hb dX1_four_6 ?_
  refine z_sipush hx hb dX1_four_7 (by decide +kernel) ?_
  refine z_imul hx hb dX1_four_10 ?_
  refine lv_iload_n hx hb dX1_four_11 rfl (lv_at hl 2 rfl) ?_
  refine z_iadd hx hb dX1_four_12 ?_
  refine z_sipush hx hb dX1_four_13 (by decide +kernel) ?_
  refine z_imul hx hb dX1_four_16 ?_
  refine lv_iload_n hx hb dX1_four_17 rfl (lv_at hl 3 rfl) ?_
  refine z_iadd hx hb dX1_four_18 ?_
  exact zr_i hx hb hr hlocks dX1_four_19 (by first | rfl | omega)
set_option maxHeartbeats 4000000 in
set_option maxRecDepth 100000 in
theorem c_X1_name (l : Launch) (g : GG) (q : Int) (k0z : 0 ≤ q) (k1z : q ≤ 31) : Met l yX1_name wsX1_name (k2_rm 1 23) (va_Pc [.int (iI q)] (fun U => PT U U.heap)) (vp_Si (fun r => r = iI (nmc q))) 0 0 (fun _ => False) := by
  refine Met.ofW (cc := cX1_name) (maxL := 1) (ret := (some .int)) (by decide) rfl ?_
  intro pp ee s mm args below meth cc9 s₁ B hml hv
  obtain ⟨rfl, hPX⟩ := hv
  have hx := B.exec
  have hb := B.bytes
  have hr := B.returns
  have hts := atoms_spec (ws := wsX1_name) B.pre
  have hown : s.vm.findClass RX1 = some mm.cls := findClass_of_methodNamed B.named
  have hlocks := B.notSynchronized
  have hl := lv_entry ([.int (iI q)]) (n := 1) (Nat.le_of_ble_eq_true rfl)
  rw [lg_entry_eq]
  generalize (lg_sl ([.int (iI q)]) ++ List.replicate (1 - (lg_sl ([.int (iI q)])).length) Slot.unset).toArray = ls at hl ⊢
  have hl : lv_has ls 1 [(0, .int (iI q))] := hl
  refine lv_iload_n hx hb dX1_name_0 rfl (lv_at hl 0 rfl) ?_
  rcases (show q = 0 ∨ q = 1 ∨ q = 2 ∨ q = 3 ∨ q = 4 ∨ q = 5 ∨ q = 6 ∨ q = 7 ∨ q = 8 ∨ q = 9 ∨ q = 10 ∨ q = 11 ∨ q = 12 ∨ q = 13 ∨ q = 14 ∨ q = 15 ∨ q = 16 ∨ q = 17 ∨ q = 18 ∨ q = 19 ∨ q = 20 ∨ q = 21 ∨ q = 22 ∨ q = 23 ∨ q = 24 ∨ q = 25 ∨ q = 26 ∨ q = 27 ∨ q = 28 ∨ q = 29 ∨ q = 30 ∨ q = 31 by omega) with rfl | rfl | rfl | rfl | rfl | rfl | rfl | rfl | rfl | rfl | rfl | rfl | rfl | rfl | rfl | rfl | rfl | rfl | rfl | rfl | rfl | rfl | rfl | rfl | rfl | rfl | rfl | rfl | rfl | rfl | rfl | rfl
  · refine lv_tableIn (tgt := 140) hx hb dX1_name_1 (by decide +kernel) (by decide +kernel) (show _ = some (139 : Int) by decide +kernel) (by decide) ?_
    refine z_bipush hx hb dX1_name_140 (by decide +kernel) ?_
    refine z_iconst hx hb dX1_name_142 ?_
    refine z_iconst hx hb dX1_name_143 ?_
    refine z_iconst hx hb dX1_name_144 ?_
    refine zS_i (As := [.int (iI 78), .int (iI 0), .int (iI 0), .int (iI 0)]) (rest := []) ⟨hx, hb, hml, hown, hts⟩ (PT) PT_blind PT_mv  (c_X1_four l g 78 0 0 0) (va_cwS 4 hts gX1_name_X1_four rfl rfl rfl (by decide +kernel) ⟨Nat.le_of_ble_eq_true rfl, Nat.le_of_ble_eq_true rfl⟩) rfl hl.1 rfl (Nat.le_of_ble_eq_true rfl) dX1_name_145 ⟨Nat.zero_le _, Nat.zero_le _⟩ ?_
    exact zr_i hx hb hr hlocks dX1_name_148 (by decide +kernel)
  · refine lv_tableIn (tgt := 149) hx hb dX1_name_1 (by decide +kernel) (by decide +kernel) (show _ = some (148 : Int) by decide +kernel) (by decide) ?_
    refine z_bipush hx hb dX1_name_149 (by decide +kernel) ?_
    refine z_bipush hx hb dX1_name_151 (by decide +kernel) ?_
    refine z_bipush hx hb dX1_name_153 (by decide +kernel) ?_
    refine z_iconst hx hb dX1_name_155 ?_
    refine zS_i (As := [.int (iI 78), .int (iI 98), .int (iI 69), .int (iI 0)]) (rest := []) ⟨hx, hb, hml, hown, hts⟩ (PT) PT_blind PT_mv  (c_X1_four l g 78 98 69 0) (va_cwS 4 hts gX1_name_X1_four rfl rfl rfl (by decide +kernel) ⟨Nat.le_of_ble_eq_true rfl, Nat.le_of_ble_eq_true rfl⟩) rfl hl.1 rfl (Nat.le_of_ble_eq_true rfl) dX1_name_156 ⟨Nat.zero_le _, Nat.zero_le _⟩ ?_
    exact zr_i hx hb hr hlocks dX1_name_159 (by decide +kernel)
  · refine lv_tableIn (tgt := 160) hx hb dX1_name_1 (by decide +kernel) (by decide +kernel) (show _ = some (159 : Int) by decide +kernel) (by decide) ?_
    refine z_bipush hx hb dX1_name_160 (by decide +kernel) ?_
    refine z_bipush hx hb dX1_name_162 (by decide +kernel) ?_
    refine z_bipush hx hb dX1_name_164 (by decide +kernel) ?_
    refine z_iconst hx hb dX1_name_166 ?_
    refine zS_i (As := [.int (iI 78), .int (iI 78), .int (iI 69), .int (iI 0)]) (rest := []) ⟨hx, hb, hml, hown, hts⟩ (PT) PT_blind PT_mv  (c_X1_four l g 78 78 69 0) (va_cwS 4 hts gX1_name_X1_four rfl rfl rfl (by decide +kernel) ⟨Nat.le_of_ble_eq_true rfl, Nat.le_of_ble_eq_true rfl⟩) rfl hl.1 rfl (Nat.le_of_ble_eq_true rfl) dX1_name_167 ⟨Nat.zero_le _, Nat.zero_le _⟩ ?_
    exact zr_i hx hb hr hlocks dX1_name_170 (by decide +kernel)
  · refine lv_tableIn (tgt := 171) hx hb dX1_name_1 (by decide +kernel) (by decide +kernel) (show _ = some (170 : Int) by decide +kernel) (by decide) ?_
    refine z_bipush hx hb dX1_name_171 (by decide +kernel) ?_
    refine z_bipush hx hb dX1_name_173 (by decide +kernel) ?_
    refine z_bipush hx hb dX1_name_175 (by decide +kernel) ?_
    refine z_bipush hx hb dX1_name_177 (by decide +kernel) ?_
    refine zS_i (As := [.int (iI 78), .int (iI 69), .int (iI 98), .int (iI 78)]) (rest := []) ⟨hx, hb, hml, hown, hts⟩ (PT) PT_blind PT_mv  (c_X1_four l g 78 69 98 78) (va_cwS 4 hts gX1_name_X1_four rfl rfl rfl (by decide +kernel) ⟨Nat.le_of_ble_eq_true rfl, Nat.le_of_ble_eq_true rfl⟩) rfl hl.1 rfl (Nat.le_of_ble_eq_true rfl) dX1_name_179 ⟨Nat.zero_le _, Nat.zero_le _⟩ ?_
    exact zr_i hx hb hr hlocks dX1_name_182 (by decide +kernel)
  · refine lv_tableIn (tgt := 183) hx hb dX1_name_1 (by decide +kernel) (by decide +kernel) (show _ = some (182 : Int) by decide +kernel) (by decide) ?_
    refine z_bipush hx hb dX1_name_183 (by decide +kernel) ?_
    refine z_bipush hx hb dX1_name_185 (by decide +kernel) ?_
    refine z_iconst hx hb dX1_name_187 ?_
    refine z_iconst hx hb dX1_name_188 ?_
    refine zS_i (As := [.int (iI 78), .int (iI 69), .int (iI 0), .int (iI 0)]) (rest := []) ⟨hx, hb, hml, hown, hts⟩ (PT) PT_blind PT_mv  (c_X1_four l g 78 69 0 0) (va_cwS 4 hts gX1_name_X1_four rfl rfl rfl (by decide +kernel) ⟨Nat.le_of_ble_eq_true rfl, Nat.le_of_ble_eq_true rfl⟩) rfl hl.1 rfl (Nat.le_of_ble_eq_true rfl) dX1_name_189 ⟨Nat.zero_le _, Nat.zero_le _⟩ ?_
    exact zr_i hx hb hr hlocks dX1_name_192 (by decide +kernel)
  · refine lv_tableIn (tgt := 193) hx hb dX1_name_1 (by decide +kernel) (by decide +kernel) (show _ = some (192 : Int) by decide +kernel) (by decide) ?_
    refine z_bipush hx hb dX1_name_193 (by decide +kernel) ?_
    refine z_bipush hx hb dX1_name_195 (by decide +kernel) ?_
    refine z_bipush hx hb dX1_name_197 (by decide +kernel) ?_
    refine z_bipush hx hb dX1_name_199 (by decide +kernel) ?_
    refine zS_i (As := [.int (iI 78), .int (iI 69), .int (iI 98), .int (iI 69)]) (rest := []) ⟨hx, hb, hml, hown, hts⟩ (PT) PT_blind PT_mv  (c_X1_four l g 78 69 98 69) (va_cwS 4 hts gX1_name_X1_four rfl rfl rfl (by decide +kernel) ⟨Nat.le_of_ble_eq_true rfl, Nat.le_of_ble_eq_true rfl⟩) rfl hl.1 rfl (Nat.le_of_ble_eq_true rfl) dX1_name_201 ⟨Nat.zero_le _, Nat.zero_le _⟩ ?_
    exact zr_i hx hb hr hlocks dX1_name_204 (by decide +kernel)
  · refine lv_tableIn (tgt := 205) hx hb dX1_name_1 (by decide +kernel) (by decide +kernel) (show _ = some (204 : Int) by decide +kernel) (by decide) ?_
    refine z_bipush hx hb dX1_name_205 (by decide +kernel) ?_
    refine z_bipush hx hb dX1_name_207 (by decide +kernel) ?_
    refine z_bipush hx hb dX1_name_209 (by decide +kernel) ?_
    refine z_iconst hx hb dX1_name_211 ?_
    refine zS_i (As := [.int (iI 69), .int (iI 78), .int (iI 69), .int (iI 0)]) (rest := []) ⟨hx, hb, hml, hown, hts⟩ (PT) PT_blind PT_mv  (c_X1_four l g 69 78 69 0) (va_cwS 4 hts gX1_name_X1_four rfl rfl rfl (by decide +kernel) ⟨Nat.le_of_ble_eq_true rfl, Nat.le_of_ble_eq_true rfl⟩) rfl hl.1 rfl (Nat.le_of_ble_eq_true rfl) dX1_name_212 ⟨Nat.zero_le _, Nat.zero_le _⟩ ?_
    exact zr_i hx hb hr hlocks dX1_name_215 (by decide +kernel)
  · refine lv_tableIn (tgt := 216) hx hb dX1_name_1 (by decide +kernel) (by decide +kernel) (show _ = some (215 : Int) by decide +kernel) (by decide) ?_
    refine z_bipush hx hb dX1_name_216 (by decide +kernel) ?_
    refine z_bipush hx hb dX1_name_218 (by decide +kernel) ?_
    refine z_bipush hx hb dX1_name_220 (by decide +kernel) ?_
    refine z_iconst hx hb dX1_name_222 ?_
    refine zS_i (As := [.int (iI 69), .int (iI 98), .int (iI 78), .int (iI 0)]) (rest := []) ⟨hx, hb, hml, hown, hts⟩ (PT) PT_blind PT_mv  (c_X1_four l g 69 98 78 0) (va_cwS 4 hts gX1_name_X1_four rfl rfl rfl (by decide +kernel) ⟨Nat.le_of_ble_eq_true rfl, Nat.le_of_ble_eq_true rfl⟩) rfl hl.1 rfl (Nat.le_of_ble_eq_true rfl) dX1_name_223 ⟨Nat.zero_le _, Nat.zero_le _⟩ ?_
    exact zr_i hx hb hr hlocks dX1_name_226 (by decide +kernel)
  · refine lv_tableIn (tgt := 227) hx hb dX1_name_1 (by decide +kernel) (by decide +kernel) (show _ = some (226 : Int) by decide +kernel) (by decide) ?_
    refine z_bipush hx hb dX1_name_227 (by decide +kernel) ?_
    refine z_iconst hx hb dX1_name_229 ?_
    refine z_iconst hx hb dX1_name_230 ?_
    refine z_iconst hx hb dX1_name_231 ?_
    refine zS_i (As := [.int (iI 69), .int (iI 0), .int (iI 0), .int (iI 0)]) (rest := []) ⟨hx, hb, hml, hown, hts⟩ (PT) PT_blind PT_mv  (c_X1_four l g 69 0 0 0) (va_cwS 4 hts gX1_name_X1_four rfl rfl rfl (by decide +kernel) ⟨Nat.le_of_ble_eq_true rfl, Nat.le_of_ble_eq_true rfl⟩) rfl hl.1 rfl (Nat.le_of_ble_eq_true rfl) dX1_name_232 ⟨Nat.zero_le _, Nat.zero_le _⟩ ?_
    exact zr_i hx hb hr hlocks dX1_name_235 (by decide +kernel)
  · refine lv_tableIn (tgt := 236) hx hb dX1_name_1 (by decide +kernel) (by decide +kernel) (show _ = some (235 : Int) by decide +kernel) (by decide) ?_
    refine z_bipush hx hb dX1_name_236 (by decide +kernel) ?_
    refine z_bipush hx hb dX1_name_238 (by decide +kernel) ?_
    refine z_bipush hx hb dX1_name_240 (by decide +kernel) ?_
    refine z_iconst hx hb dX1_name_242 ?_
    refine zS_i (As := [.int (iI 69), .int (iI 98), .int (iI 83), .int (iI 0)]) (rest := []) ⟨hx, hb, hml, hown, hts⟩ (PT) PT_blind PT_mv  (c_X1_four l g 69 98 83 0) (va_cwS 4 hts gX1_name_X1_four rfl rfl rfl (by decide +kernel) ⟨Nat.le_of_ble_eq_true rfl, Nat.le_of_ble_eq_true rfl⟩) rfl hl.1 rfl (Nat.le_of_ble_eq_true rfl) dX1_name_243 ⟨Nat.zero_le _, Nat.zero_le _⟩ ?_
    exact zr_i hx hb hr hlocks dX1_name_246 (by decide +kernel)
  · refine lv_tableIn (tgt := 247) hx hb dX1_name_1 (by decide +kernel) (by decide +kernel) (show _ = some (246 : Int) by decide +kernel) (by decide) ?_
    refine z_bipush hx hb dX1_name_247 (by decide +kernel) ?_
    refine z_bipush hx hb dX1_name_249 (by decide +kernel) ?_
    refine z_bipush hx hb dX1_name_251 (by decide +kernel) ?_
    refine z_iconst hx hb dX1_name_253 ?_
    refine zS_i (As := [.int (iI 69), .int (iI 83), .int (iI 69), .int (iI 0)]) (rest := []) ⟨hx, hb, hml, hown, hts⟩ (PT) PT_blind PT_mv  (c_X1_four l g 69 83 69 0) (va_cwS 4 hts gX1_name_X1_four rfl rfl rfl (by decide +kernel) ⟨Nat.le_of_ble_eq_true rfl, Nat.le_of_ble_eq_true rfl⟩) rfl hl.1 rfl (Nat.le_of_ble_eq_true rfl) dX1_name_254 ⟨Nat.zero_le _, Nat.zero_le _⟩ ?_
    exact zr_i hx hb hr hlocks dX1_name_257 (by decide +kernel)
  · refine lv_tableIn (tgt := 258) hx hb dX1_name_1 (by decide +kernel) (by decide +kernel) (show _ = some (257 : Int) by decide +kernel) (by decide) ?_
    refine z_bipush hx hb dX1_name_258 (by decide +kernel) ?_
    refine z_bipush hx hb dX1_name_260 (by decide +kernel) ?_
    refine z_bipush hx hb dX1_name_262 (by decide +kernel) ?_
    refine z_bipush hx hb dX1_name_264 (by decide +kernel) ?_
    refine zS_i (As := [.int (iI 83), .int (iI 69), .int (iI 98), .int (iI 69)]) (rest := []) ⟨hx, hb, hml, hown, hts⟩ (PT) PT_blind PT_mv  (c_X1_four l g 83 69 98 69) (va_cwS 4 hts gX1_name_X1_four rfl rfl rfl (by decide +kernel) ⟨Nat.le_of_ble_eq_true rfl, Nat.le_of_ble_eq_true rfl⟩) rfl hl.1 rfl (Nat.le_of_ble_eq_true rfl) dX1_name_266 ⟨Nat.zero_le _, Nat.zero_le _⟩ ?_
    exact zr_i hx hb hr hlocks dX1_name_269 (by decide +kernel)
  · refine lv_tableIn (tgt := 270) hx hb dX1_name_1 (by decide +kernel) (by decide +kernel) (show _ = some (269 : Int) by decide +kernel) (by decide) ?_
    refine z_bipush hx hb dX1_name_270 (by decide +kernel) ?_
    refine z_bipush hx hb dX1_name_272 (by decide +kernel) ?_
    refine z_iconst hx hb dX1_name_274 ?_
    refine z_iconst hx hb dX1_name_275 ?_
    refine zS_i (As := [.int (iI 83), .int (iI 69), .int (iI 0), .int (iI 0)]) (rest := []) ⟨hx, hb, hml, hown, hts⟩ (PT) PT_blind PT_mv  (c_X1_four l g 83 69 0 0) (va_cwS 4 hts gX1_name_X1_four rfl rfl rfl (by decide +kernel) ⟨Nat.le_of_ble_eq_true rfl, Nat.le_of_ble_eq_true rfl⟩) rfl hl.1 rfl (Nat.le_of_ble_eq_true rfl) dX1_name_276 ⟨Nat.zero_le _, Nat.zero_le _⟩ ?_
    exact zr_i hx hb hr hlocks dX1_name_279 (by decide +kernel)
  · refine lv_tableIn (tgt := 280) hx hb dX1_name_1 (by decide +kernel) (by decide +kernel) (show _ = some (279 : Int) by decide +kernel) (by decide) ?_
    refine z_bipush hx hb dX1_name_280 (by decide +kernel) ?_
    refine z_bipush hx hb dX1_name_282 (by decide +kernel) ?_
    refine z_bipush hx hb dX1_name_284 (by decide +kernel) ?_
    refine z_bipush hx hb dX1_name_286 (by decide +kernel) ?_
    refine zS_i (As := [.int (iI 83), .int (iI 69), .int (iI 98), .int (iI 83)]) (rest := []) ⟨hx, hb, hml, hown, hts⟩ (PT) PT_blind PT_mv  (c_X1_four l g 83 69 98 83) (va_cwS 4 hts gX1_name_X1_four rfl rfl rfl (by decide +kernel) ⟨Nat.le_of_ble_eq_true rfl, Nat.le_of_ble_eq_true rfl⟩) rfl hl.1 rfl (Nat.le_of_ble_eq_true rfl) dX1_name_288 ⟨Nat.zero_le _, Nat.zero_le _⟩ ?_
    exact zr_i hx hb hr hlocks dX1_name_291 (by decide +kernel)
  · refine lv_tableIn (tgt := 292) hx hb dX1_name_1 (by decide +kernel) (by decide +kernel) (show _ = some (291 : Int) by decide +kernel) (by decide) ?_
    refine z_bipush hx hb dX1_name_292 (by decide +kernel) ?_
    refine z_bipush hx hb dX1_name_294 (by decide +kernel) ?_
    refine z_bipush hx hb dX1_name_296 (by decide +kernel) ?_
    refine z_iconst hx hb dX1_name_298 ?_
    refine zS_i (As := [.int (iI 83), .int (iI 83), .int (iI 69), .int (iI 0)]) (rest := []) ⟨hx, hb, hml, hown, hts⟩ (PT) PT_blind PT_mv  (c_X1_four l g 83 83 69 0) (va_cwS 4 hts gX1_name_X1_four rfl rfl rfl (by decide +kernel) ⟨Nat.le_of_ble_eq_true rfl, Nat.le_of_ble_eq_true rfl⟩) rfl hl.1 rfl (Nat.le_of_ble_eq_true rfl) dX1_name_299 ⟨Nat.zero_le _, Nat.zero_le _⟩ ?_
    exact zr_i hx hb hr hlocks dX1_name_302 (by decide +kernel)
  · refine lv_tableIn (tgt := 303) hx hb dX1_name_1 (by decide +kernel) (by decide +kernel) (show _ = some (302 : Int) by decide +kernel) (by decide) ?_
    refine z_bipush hx hb dX1_name_303 (by decide +kernel) ?_
    refine z_bipush hx hb dX1_name_305 (by decide +kernel) ?_
    refine z_bipush hx hb dX1_name_307 (by decide +kernel) ?_
    refine z_iconst hx hb dX1_name_309 ?_
    refine zS_i (As := [.int (iI 83), .int (iI 98), .int (iI 69), .int (iI 0)]) (rest := []) ⟨hx, hb, hml, hown, hts⟩ (PT) PT_blind PT_mv  (c_X1_four l g 83 98 69 0) (va_cwS 4 hts gX1_name_X1_four rfl rfl rfl (by decide +kernel) ⟨Nat.le_of_ble_eq_true rfl, Nat.le_of_ble_eq_true rfl⟩) rfl hl.1 rfl (Nat.le_of_ble_eq_true rfl) dX1_name_310 ⟨Nat.zero_le _, Nat.zero_le _⟩ ?_
    exact zr_i hx hb hr hlocks dX1_name_313 (by decide +kernel)
  · refine lv_tableIn (tgt := 314) hx hb dX1_name_1 (by decide +kernel) (by decide +kernel) (show _ = some (313 : Int) by decide +kernel) (by decide) ?_
    refine z_bipush hx hb dX1_name_314 (by decide +kernel) ?_
    refine z_iconst hx hb dX1_name_316 ?_
    refine z_iconst hx hb dX1_name_317 ?_
    refine z_iconst hx hb dX1_name_318 ?_
    refine zS_i (As := [.int (iI 83), .int (iI 0), .int (iI 0), .int (iI 0)]) (rest := []) ⟨hx, hb, hml, hown, hts⟩ (PT) PT_blind PT_mv  (c_X1_four l g 83 0 0 0) (va_cwS 4 hts gX1_name_X1_four rfl rfl rfl (by decide +kernel) ⟨Nat.le_of_ble_eq_true rfl, Nat.le_of_ble_eq_true rfl⟩) rfl hl.1 rfl (Nat.le_of_ble_eq_true rfl) dX1_name_319 ⟨Nat.zero_le _, Nat.zero_le _⟩ ?_
    exact zr_i hx hb hr hlocks dX1_name_322 (by decide +kernel)
  · refine lv_tableIn (tgt := 323) hx hb dX1_name_1 (by decide +kernel) (by decide +kernel) (show _ = some (322 : Int) by decide +kernel) (by decide) ?_
    refine z_bipush hx hb dX1_name_323 (by decide +kernel) ?_
    refine z_bipush hx hb dX1_name_325 (by decide +kernel) ?_
    refine z_bipush hx hb dX1_name_327 (by decide +kernel) ?_
    refine z_iconst hx hb dX1_name_329 ?_
    refine zS_i (As := [.int (iI 83), .int (iI 98), .int (iI 87), .int (iI 0)]) (rest := []) ⟨hx, hb, hml, hown, hts⟩ (PT) PT_blind PT_mv  (c_X1_four l g 83 98 87 0) (va_cwS 4 hts gX1_name_X1_four rfl rfl rfl (by decide +kernel) ⟨Nat.le_of_ble_eq_true rfl, Nat.le_of_ble_eq_true rfl⟩) rfl hl.1 rfl (Nat.le_of_ble_eq_true rfl) dX1_name_330 ⟨Nat.zero_le _, Nat.zero_le _⟩ ?_
    exact zr_i hx hb hr hlocks dX1_name_333 (by decide +kernel)
  · refine lv_tableIn (tgt := 334) hx hb dX1_name_1 (by decide +kernel) (by decide +kernel) (show _ = some (333 : Int) by decide +kernel) (by decide) ?_
    refine z_bipush hx hb dX1_name_334 (by decide +kernel) ?_
    refine z_bipush hx hb dX1_name_336 (by decide +kernel) ?_
    refine z_bipush hx hb dX1_name_338 (by decide +kernel) ?_
    refine z_iconst hx hb dX1_name_340 ?_
    refine zS_i (As := [.int (iI 83), .int (iI 83), .int (iI 87), .int (iI 0)]) (rest := []) ⟨hx, hb, hml, hown, hts⟩ (PT) PT_blind PT_mv  (c_X1_four l g 83 83 87 0) (va_cwS 4 hts gX1_name_X1_four rfl rfl rfl (by decide +kernel) ⟨Nat.le_of_ble_eq_true rfl, Nat.le_of_ble_eq_true rfl⟩) rfl hl.1 rfl (Nat.le_of_ble_eq_true rfl) dX1_name_341 ⟨Nat.zero_le _, Nat.zero_le _⟩ ?_
    exact zr_i hx hb hr hlocks dX1_name_344 (by decide +kernel)
  · refine lv_tableIn (tgt := 345) hx hb dX1_name_1 (by decide +kernel) (by decide +kernel) (show _ = some (344 : Int) by decide +kernel) (by decide) ?_
    refine z_bipush hx hb dX1_name_345 (by decide +kernel) ?_
    refine z_bipush hx hb dX1_name_347 (by decide +kernel) ?_
    refine z_bipush hx hb dX1_name_349 (by decide +kernel) ?_
    refine z_bipush hx hb dX1_name_351 (by decide +kernel) ?_
    refine zS_i (As := [.int (iI 83), .int (iI 87), .int (iI 98), .int (iI 83)]) (rest := []) ⟨hx, hb, hml, hown, hts⟩ (PT) PT_blind PT_mv  (c_X1_four l g 83 87 98 83) (va_cwS 4 hts gX1_name_X1_four rfl rfl rfl (by decide +kernel) ⟨Nat.le_of_ble_eq_true rfl, Nat.le_of_ble_eq_true rfl⟩) rfl hl.1 rfl (Nat.le_of_ble_eq_true rfl) dX1_name_353 ⟨Nat.zero_le _, Nat.zero_le _⟩ ?_
    exact zr_i hx hb hr hlocks dX1_name_356 (by decide +kernel)
  · refine lv_tableIn (tgt := 357) hx hb dX1_name_1 (by decide +kernel) (by decide +kernel) (show _ = some (356 : Int) by decide +kernel) (by decide) ?_
    refine z_bipush hx hb dX1_name_357 (by decide +kernel) ?_
    refine z_bipush hx hb dX1_name_359 (by decide +kernel) ?_
    refine z_iconst hx hb dX1_name_361 ?_
    refine z_iconst hx hb dX1_name_362 ?_
    refine zS_i (As := [.int (iI 83), .int (iI 87), .int (iI 0), .int (iI 0)]) (rest := []) ⟨hx, hb, hml, hown, hts⟩ (PT) PT_blind PT_mv  (c_X1_four l g 83 87 0 0) (va_cwS 4 hts gX1_name_X1_four rfl rfl rfl (by decide +kernel) ⟨Nat.le_of_ble_eq_true rfl, Nat.le_of_ble_eq_true rfl⟩) rfl hl.1 rfl (Nat.le_of_ble_eq_true rfl) dX1_name_363 ⟨Nat.zero_le _, Nat.zero_le _⟩ ?_
    exact zr_i hx hb hr hlocks dX1_name_366 (by decide +kernel)
  · refine lv_tableIn (tgt := 367) hx hb dX1_name_1 (by decide +kernel) (by decide +kernel) (show _ = some (366 : Int) by decide +kernel) (by decide) ?_
    refine z_bipush hx hb dX1_name_367 (by decide +kernel) ?_
    refine z_bipush hx hb dX1_name_369 (by decide +kernel) ?_
    refine z_bipush hx hb dX1_name_371 (by decide +kernel) ?_
    refine z_bipush hx hb dX1_name_373 (by decide +kernel) ?_
    refine zS_i (As := [.int (iI 83), .int (iI 87), .int (iI 98), .int (iI 87)]) (rest := []) ⟨hx, hb, hml, hown, hts⟩ (PT) PT_blind PT_mv  (c_X1_four l g 83 87 98 87) (va_cwS 4 hts gX1_name_X1_four rfl rfl rfl (by decide +kernel) ⟨Nat.le_of_ble_eq_true rfl, Nat.le_of_ble_eq_true rfl⟩) rfl hl.1 rfl (Nat.le_of_ble_eq_true rfl) dX1_name_375 ⟨Nat.zero_le _, Nat.zero_le _⟩ ?_
    exact zr_i hx hb hr hlocks dX1_name_378 (by decide +kernel)
  · refine lv_tableIn (tgt := 379) hx hb dX1_name_1 (by decide +kernel) (by decide +kernel) (show _ = some (378 : Int) by decide +kernel) (by decide) ?_
    refine z_bipush hx hb dX1_name_379 (by decide +kernel) ?_
    refine z_bipush hx hb dX1_name_381 (by decide +kernel) ?_
    refine z_bipush hx hb dX1_name_383 (by decide +kernel) ?_
    refine z_iconst hx hb dX1_name_385 ?_
    refine zS_i (As := [.int (iI 87), .int (iI 83), .int (iI 87), .int (iI 0)]) (rest := []) ⟨hx, hb, hml, hown, hts⟩ (PT) PT_blind PT_mv  (c_X1_four l g 87 83 87 0) (va_cwS 4 hts gX1_name_X1_four rfl rfl rfl (by decide +kernel) ⟨Nat.le_of_ble_eq_true rfl, Nat.le_of_ble_eq_true rfl⟩) rfl hl.1 rfl (Nat.le_of_ble_eq_true rfl) dX1_name_386 ⟨Nat.zero_le _, Nat.zero_le _⟩ ?_
    exact zr_i hx hb hr hlocks dX1_name_389 (by decide +kernel)
  · refine lv_tableIn (tgt := 390) hx hb dX1_name_1 (by decide +kernel) (by decide +kernel) (show _ = some (389 : Int) by decide +kernel) (by decide) ?_
    refine z_bipush hx hb dX1_name_390 (by decide +kernel) ?_
    refine z_bipush hx hb dX1_name_392 (by decide +kernel) ?_
    refine z_bipush hx hb dX1_name_394 (by decide +kernel) ?_
    refine z_iconst hx hb dX1_name_396 ?_
    refine zS_i (As := [.int (iI 87), .int (iI 98), .int (iI 83), .int (iI 0)]) (rest := []) ⟨hx, hb, hml, hown, hts⟩ (PT) PT_blind PT_mv  (c_X1_four l g 87 98 83 0) (va_cwS 4 hts gX1_name_X1_four rfl rfl rfl (by decide +kernel) ⟨Nat.le_of_ble_eq_true rfl, Nat.le_of_ble_eq_true rfl⟩) rfl hl.1 rfl (Nat.le_of_ble_eq_true rfl) dX1_name_397 ⟨Nat.zero_le _, Nat.zero_le _⟩ ?_
    exact zr_i hx hb hr hlocks dX1_name_400 (by decide +kernel)
  · refine lv_tableIn (tgt := 401) hx hb dX1_name_1 (by decide +kernel) (by decide +kernel) (show _ = some (400 : Int) by decide +kernel) (by decide) ?_
    refine z_bipush hx hb dX1_name_401 (by decide +kernel) ?_
    refine z_iconst hx hb dX1_name_403 ?_
    refine z_iconst hx hb dX1_name_404 ?_
    refine z_iconst hx hb dX1_name_405 ?_
    refine zS_i (As := [.int (iI 87), .int (iI 0), .int (iI 0), .int (iI 0)]) (rest := []) ⟨hx, hb, hml, hown, hts⟩ (PT) PT_blind PT_mv  (c_X1_four l g 87 0 0 0) (va_cwS 4 hts gX1_name_X1_four rfl rfl rfl (by decide +kernel) ⟨Nat.le_of_ble_eq_true rfl, Nat.le_of_ble_eq_true rfl⟩) rfl hl.1 rfl (Nat.le_of_ble_eq_true rfl) dX1_name_406 ⟨Nat.zero_le _, Nat.zero_le _⟩ ?_
    exact zr_i hx hb hr hlocks dX1_name_409 (by decide +kernel)
  · refine lv_tableIn (tgt := 410) hx hb dX1_name_1 (by decide +kernel) (by decide +kernel) (show _ = some (409 : Int) by decide +kernel) (by decide) ?_
    refine z_bipush hx hb dX1_name_410 (by decide +kernel) ?_
    refine z_bipush hx hb dX1_name_412 (by decide +kernel) ?_
    refine z_bipush hx hb dX1_name_414 (by decide +kernel) ?_
    refine z_iconst hx hb dX1_name_416 ?_
    refine zS_i (As := [.int (iI 87), .int (iI 98), .int (iI 78), .int (iI 0)]) (rest := []) ⟨hx, hb, hml, hown, hts⟩ (PT) PT_blind PT_mv  (c_X1_four l g 87 98 78 0) (va_cwS 4 hts gX1_name_X1_four rfl rfl rfl (by decide +kernel) ⟨Nat.le_of_ble_eq_true rfl, Nat.le_of_ble_eq_true rfl⟩) rfl hl.1 rfl (Nat.le_of_ble_eq_true rfl) dX1_name_417 ⟨Nat.zero_le _, Nat.zero_le _⟩ ?_
    exact zr_i hx hb hr hlocks dX1_name_420 (by decide +kernel)
  · refine lv_tableIn (tgt := 421) hx hb dX1_name_1 (by decide +kernel) (by decide +kernel) (show _ = some (420 : Int) by decide +kernel) (by decide) ?_
    refine z_bipush hx hb dX1_name_421 (by decide +kernel) ?_
    refine z_bipush hx hb dX1_name_423 (by decide +kernel) ?_
    refine z_bipush hx hb dX1_name_425 (by decide +kernel) ?_
    refine z_iconst hx hb dX1_name_427 ?_
    refine zS_i (As := [.int (iI 87), .int (iI 78), .int (iI 87), .int (iI 0)]) (rest := []) ⟨hx, hb, hml, hown, hts⟩ (PT) PT_blind PT_mv  (c_X1_four l g 87 78 87 0) (va_cwS 4 hts gX1_name_X1_four rfl rfl rfl (by decide +kernel) ⟨Nat.le_of_ble_eq_true rfl, Nat.le_of_ble_eq_true rfl⟩) rfl hl.1 rfl (Nat.le_of_ble_eq_true rfl) dX1_name_428 ⟨Nat.zero_le _, Nat.zero_le _⟩ ?_
    exact zr_i hx hb hr hlocks dX1_name_431 (by decide +kernel)
  · refine lv_tableIn (tgt := 432) hx hb dX1_name_1 (by decide +kernel) (by decide +kernel) (show _ = some (431 : Int) by decide +kernel) (by decide) ?_
    refine z_bipush hx hb dX1_name_432 (by decide +kernel) ?_
    refine z_bipush hx hb dX1_name_434 (by decide +kernel) ?_
    refine z_bipush hx hb dX1_name_436 (by decide +kernel) ?_
    refine z_bipush hx hb dX1_name_438 (by decide +kernel) ?_
    refine zS_i (As := [.int (iI 78), .int (iI 87), .int (iI 98), .int (iI 87)]) (rest := []) ⟨hx, hb, hml, hown, hts⟩ (PT) PT_blind PT_mv  (c_X1_four l g 78 87 98 87) (va_cwS 4 hts gX1_name_X1_four rfl rfl rfl (by decide +kernel) ⟨Nat.le_of_ble_eq_true rfl, Nat.le_of_ble_eq_true rfl⟩) rfl hl.1 rfl (Nat.le_of_ble_eq_true rfl) dX1_name_440 ⟨Nat.zero_le _, Nat.zero_le _⟩ ?_
    exact zr_i hx hb hr hlocks dX1_name_443 (by decide +kernel)
  · refine lv_tableIn (tgt := 444) hx hb dX1_name_1 (by decide +kernel) (by decide +kernel) (show _ = some (443 : Int) by decide +kernel) (by decide) ?_
    refine z_bipush hx hb dX1_name_444 (by decide +kernel) ?_
    refine z_bipush hx hb dX1_name_446 (by decide +kernel) ?_
    refine z_iconst hx hb dX1_name_448 ?_
    refine z_iconst hx hb dX1_name_449 ?_
    refine zS_i (As := [.int (iI 78), .int (iI 87), .int (iI 0), .int (iI 0)]) (rest := []) ⟨hx, hb, hml, hown, hts⟩ (PT) PT_blind PT_mv  (c_X1_four l g 78 87 0 0) (va_cwS 4 hts gX1_name_X1_four rfl rfl rfl (by decide +kernel) ⟨Nat.le_of_ble_eq_true rfl, Nat.le_of_ble_eq_true rfl⟩) rfl hl.1 rfl (Nat.le_of_ble_eq_true rfl) dX1_name_450 ⟨Nat.zero_le _, Nat.zero_le _⟩ ?_
    exact zr_i hx hb hr hlocks dX1_name_453 (by decide +kernel)
  · refine lv_tableIn (tgt := 454) hx hb dX1_name_1 (by decide +kernel) (by decide +kernel) (show _ = some (453 : Int) by decide +kernel) (by decide) ?_
    refine z_bipush hx hb dX1_name_454 (by decide +kernel) ?_
    refine z_bipush hx hb dX1_name_456 (by decide +kernel) ?_
    refine z_bipush hx hb dX1_name_458 (by decide +kernel) ?_
    refine z_bipush hx hb dX1_name_460 (by decide +kernel) ?_
    refine zS_i (As := [.int (iI 78), .int (iI 87), .int (iI 98), .int (iI 78)]) (rest := []) ⟨hx, hb, hml, hown, hts⟩ (PT) PT_blind PT_mv  (c_X1_four l g 78 87 98 78) (va_cwS 4 hts gX1_name_X1_four rfl rfl rfl (by decide +kernel) ⟨Nat.le_of_ble_eq_true rfl, Nat.le_of_ble_eq_true rfl⟩) rfl hl.1 rfl (Nat.le_of_ble_eq_true rfl) dX1_name_462 ⟨Nat.zero_le _, Nat.zero_le _⟩ ?_
    exact zr_i hx hb hr hlocks dX1_name_465 (by decide +kernel)
  · refine lv_tableIn (tgt := 466) hx hb dX1_name_1 (by decide +kernel) (by decide +kernel) (show _ = some (465 : Int) by decide +kernel) (by decide) ?_
    refine z_bipush hx hb dX1_name_466 (by decide +kernel) ?_
    refine z_bipush hx hb dX1_name_468 (by decide +kernel) ?_
    refine z_bipush hx hb dX1_name_470 (by decide +kernel) ?_
    refine z_iconst hx hb dX1_name_472 ?_
    refine zS_i (As := [.int (iI 78), .int (iI 78), .int (iI 87), .int (iI 0)]) (rest := []) ⟨hx, hb, hml, hown, hts⟩ (PT) PT_blind PT_mv  (c_X1_four l g 78 78 87 0) (va_cwS 4 hts gX1_name_X1_four rfl rfl rfl (by decide +kernel) ⟨Nat.le_of_ble_eq_true rfl, Nat.le_of_ble_eq_true rfl⟩) rfl hl.1 rfl (Nat.le_of_ble_eq_true rfl) dX1_name_473 ⟨Nat.zero_le _, Nat.zero_le _⟩ ?_
    exact zr_i hx hb hr hlocks dX1_name_476 (by decide +kernel)
  · refine lv_tableOut (tgt := 477) hx hb dX1_name_1 (by decide +kernel) (by decide) ?_
    refine z_bipush hx hb dX1_name_477 (by decide +kernel) ?_
    refine z_bipush hx hb dX1_name_479 (by decide +kernel) ?_
    refine z_bipush hx hb dX1_name_481 (by decide +kernel) ?_
    refine z_iconst hx hb dX1_name_483 ?_
    refine zS_i (As := [.int (iI 78), .int (iI 98), .int (iI 87), .int (iI 0)]) (rest := []) ⟨hx, hb, hml, hown, hts⟩ (PT) PT_blind PT_mv  (c_X1_four l g 78 98 87 0) (va_cwS 4 hts gX1_name_X1_four rfl rfl rfl (by decide +kernel) ⟨Nat.le_of_ble_eq_true rfl, Nat.le_of_ble_eq_true rfl⟩) rfl hl.1 rfl (Nat.le_of_ble_eq_true rfl) dX1_name_484 ⟨Nat.zero_le _, Nat.zero_le _⟩ ?_
    exact zr_i hx hb hr hlocks dX1_name_487 (by decide +kernel)
set_option maxHeartbeats 4000000 in
set_option maxRecDepth 100000 in
theorem c_X1_quarter (l : Launch) (g : GG) (q : Int) (k0z : 0 ≤ q) (k1z : q ≤ 8) : Met l yX1_quarter wsX1_quarter (k2_rm 0 0) (va_Pc [.int (iI q)] (fun U => PT U U.heap)) (vp_Si (fun r => r = iI (sn q))) 0 0 (fun _ => False) := by
  refine Met.ofW (cc := cX1_quarter) (maxL := 1) (ret := (some .int)) (by decide) rfl ?_
  intro pp ee s mm args below meth cc9 s₁ B hml hv
  obtain ⟨rfl, hPX⟩ := hv
  have hx := B.exec
  have hb := B.bytes
  have hr := B.returns
  have hts := atoms_spec (ws := wsX1_quarter) B.pre
  have hown : s.vm.findClass RX1 = some mm.cls := findClass_of_methodNamed B.named
  have hlocks := B.notSynchronized
  have hl := lv_entry ([.int (iI q)]) (n := 1) (Nat.le_of_ble_eq_true rfl)
  rw [lg_entry_eq]
  generalize (lg_sl ([.int (iI q)]) ++ List.replicate (1 - (lg_sl ([.int (iI q)])).length) Slot.unset).toArray = ls at hl ⊢
  have hl : lv_has ls 1 [(0, .int (iI q))] := hl
  refine lv_iload_n hx hb dX1_quarter_0 rfl (lv_at hl 0 rfl) ?_
  rcases (show q = 0 ∨ q = 1 ∨ q = 2 ∨ q = 3 ∨ q = 4 ∨ q = 5 ∨ q = 6 ∨ q = 7 ∨ q = 8 by omega) with rfl | rfl | rfl | rfl | rfl | rfl | rfl | rfl | rfl
  · refine lv_tableIn (tgt := 48) hx hb dX1_quarter_1 (by decide +kernel) (by decide +kernel) (show _ = some (47 : Int) by decide +kernel) (by decide) ?_
    refine z_iconst hx hb dX1_quarter_48 ?_
    exact zr_i hx hb hr hlocks dX1_quarter_49 (by decide +kernel)
  · refine lv_tableIn (tgt := 50) hx hb dX1_quarter_1 (by decide +kernel) (by decide +kernel) (show _ = some (49 : Int) by decide +kernel) (by decide) ?_
    refine z_sipush hx hb dX1_quarter_50 (by decide +kernel) ?_
    exact zr_i hx hb hr hlocks dX1_quarter_53 (by decide +kernel)
  · refine lv_tableIn (tgt := 54) hx hb dX1_quarter_1 (by decide +kernel) (by decide +kernel) (show _ = some (53 : Int) by decide +kernel) (by decide) ?_
    refine z_sipush hx hb dX1_quarter_54 (by decide +kernel) ?_
    exact zr_i hx hb hr hlocks dX1_quarter_57 (by decide +kernel)
  · refine lv_tableIn (tgt := 58) hx hb dX1_quarter_1 (by decide +kernel) (by decide +kernel) (show _ = some (57 : Int) by decide +kernel) (by decide) ?_
    refine z_sipush hx hb dX1_quarter_58 (by decide +kernel) ?_
    exact zr_i hx hb hr hlocks dX1_quarter_61 (by decide +kernel)
  · refine lv_tableIn (tgt := 62) hx hb dX1_quarter_1 (by decide +kernel) (by decide +kernel) (show _ = some (61 : Int) by decide +kernel) (by decide) ?_
    refine z_sipush hx hb dX1_quarter_62 (by decide +kernel) ?_
    exact zr_i hx hb hr hlocks dX1_quarter_65 (by decide +kernel)
  · refine lv_tableIn (tgt := 66) hx hb dX1_quarter_1 (by decide +kernel) (by decide +kernel) (show _ = some (65 : Int) by decide +kernel) (by decide) ?_
    refine z_sipush hx hb dX1_quarter_66 (by decide +kernel) ?_
    exact zr_i hx hb hr hlocks dX1_quarter_69 (by decide +kernel)
  · refine lv_tableIn (tgt := 70) hx hb dX1_quarter_1 (by decide +kernel) (by decide +kernel) (show _ = some (69 : Int) by decide +kernel) (by decide) ?_
    refine z_sipush hx hb dX1_quarter_70 (by decide +kernel) ?_
    exact zr_i hx hb hr hlocks dX1_quarter_73 (by decide +kernel)
  · refine lv_tableIn (tgt := 74) hx hb dX1_quarter_1 (by decide +kernel) (by decide +kernel) (show _ = some (73 : Int) by decide +kernel) (by decide) ?_
    refine z_sipush hx hb dX1_quarter_74 (by decide +kernel) ?_
    exact zr_i hx hb hr hlocks dX1_quarter_77 (by decide +kernel)
  · refine lv_tableOut (tgt := 78) hx hb dX1_quarter_1 (by decide +kernel) (by decide) ?_
    refine z_sipush hx hb dX1_quarter_78 (by decide +kernel) ?_
    exact zr_i hx hb hr hlocks dX1_quarter_81 (by decide +kernel)
set_option maxHeartbeats 4000000 in
set_option maxRecDepth 100000 in
theorem c_X1_sine (l : Launch) (g : GG) (q : Int) (k0z : 0 ≤ q) (k1z : q ≤ 31) : Met l yX1_sine wsX1_sine (k2_rm 1 20) (va_Pc [.int (iI q)] (fun U => PT U U.heap)) (vp_Si (fun r => r = iI (sn q))) 0 0 (fun _ => False) := by
  refine Met.ofW (cc := cX1_sine) (maxL := 3) (ret := (some .int)) (by decide) rfl ?_
  intro pp ee s mm args below meth cc9 s₁ B hml hv
  obtain ⟨rfl, hPX⟩ := hv
  have hx := B.exec
  have hb := B.bytes
  have hr := B.returns
  have hts := atoms_spec (ws := wsX1_sine) B.pre
  have hown : s.vm.findClass RX1 = some mm.cls := findClass_of_methodNamed B.named
  have hlocks := B.notSynchronized
  have hh := sn_half q ⟨k0z, k1z⟩
  have hr1 := sn_rng (16 - q % 16)
  have hr2 := sn_rng (q % 16)
  have hl := lv_entry ([.int (iI q)]) (n := 3) (Nat.le_of_ble_eq_true rfl)
  rw [lg_entry_eq]
  generalize (lg_sl ([.int (iI q)]) ++ List.replicate (3 - (lg_sl ([.int (iI q)])).length) Slot.unset).toArray = ls at hl ⊢
  have hl : lv_has ls 3 [(0, .int (iI q))] := hl
  refine lv_iload_n hx hb dX1_sine_0 rfl (lv_at hl 0 rfl) ?_
  refine z_bipush hx hb dX1_sine_1 (by decide +kernel) ?_
  refine z_irem hx hb (by omega) (by omega) dX1_sine_3 ?_
  refine lv_istore_n (lv' := [(1, .int (iI (Int.tmod q 16))), (0, .int (iI q))]) hx hb dX1_sine_4 rfl hl (by decide) rfl (fun ls hl => ?_)
  refine lv_iload_n hx hb dX1_sine_5 rfl (lv_at hl 0 rfl) ?_
  refine z_bipush hx hb dX1_sine_6 (by decide +kernel) ?_
  refine z_icmp_le (tgt := 18) hx hb dX1_sine_8 (by decide) (by omega) ⟨by decide, by decide⟩ (fun c_1 => ?_) (fun c_1 => ?_)
  · refine lv_iload_n hx hb dX1_sine_18 rfl (lv_at hl 0 rfl) ?_
    refine zS_i (As := [.int (iI (Int.tmod q 16))]) (rest := []) ⟨hx, hb, hml, hown, hts⟩ (PT) PT_blind PT_mv  (c_X1_quarter l g (Int.tmod q 16) (by omega) (by omega)) (va_cwS 1 hts gX1_sine_X1_quarter rfl rfl rfl (by decide +kernel) ⟨Nat.le_of_ble_eq_true rfl, Nat.le_of_ble_eq_true rfl⟩) rfl hl.1 rfl (Nat.le_of_ble_eq_true rfl) dX1_sine_19 ⟨Nat.zero_le _, Nat.zero_le _⟩ ?_
    refine lv_istore_n (lv' := [(2, .int (iI (sn (Int.tmod q 16)))), (1, .int (iI (Int.tmod q 16))), (0, .int (iI q))]) hx hb dX1_sine_22 rfl hl (by decide) rfl (fun ls hl => ?_)
    refine lv_iload_n hx hb dX1_sine_23 rfl (lv_at hl 2 rfl) ?_
    refine z_bipush hx hb dX1_sine_24 (by decide +kernel) ?_
    refine z_icmp_ge (tgt := 33) hx hb dX1_sine_26 (by decide) (by omega) ⟨by decide, by decide⟩ (fun c_2 => ?_) (fun c_2 => ?_)
    · refine lv_iload_n hx hb dX1_sine_33 rfl (lv_at hl 0 rfl) ?_
      refine z_ineg hx hb dX1_sine_34 ?_
      exact zr_i hx hb hr hlocks dX1_sine_35 (by rw [hh.1]; omega)
    · refine lv_iload_n hx hb dX1_sine_29 rfl (lv_at hl 0 rfl) ?_
      refine lv_goto (tgt := 35) hx hb dX1_sine_30 (by decide) ?_
      exact zr_i hx hb hr hlocks dX1_sine_35 (by rw [hh.1]; omega)
  · refine z_bipush hx hb dX1_sine_11 (by decide +kernel) ?_
    refine lv_iload_n hx hb dX1_sine_13 rfl (lv_at hl 0 rfl) ?_
    refine z_isub hx hb dX1_sine_14 ?_
    refine lv_goto (tgt := 19) hx hb dX1_sine_15 (by decide) ?_
    refine zS_i (As := [.int (iI (16 - (Int.tmod q 16)))]) (rest := []) ⟨hx, hb, hml, hown, hts⟩ (PT) PT_blind PT_mv  (c_X1_quarter l g (16 - (Int.tmod q 16)) (by omega) (by omega)) (va_cwS 1 hts gX1_sine_X1_quarter rfl rfl rfl (by decide +kernel) ⟨Nat.le_of_ble_eq_true rfl, Nat.le_of_ble_eq_true rfl⟩) rfl hl.1 rfl (Nat.le_of_ble_eq_true rfl) dX1_sine_19 ⟨Nat.zero_le _, Nat.zero_le _⟩ ?_
    refine lv_istore_n (lv' := [(2, .int (iI (sn (16 - (Int.tmod q 16))))), (1, .int (iI (Int.tmod q 16))), (0, .int (iI q))]) hx hb dX1_sine_22 rfl hl (by decide) rfl (fun ls hl => ?_)
    refine lv_iload_n hx hb dX1_sine_23 rfl (lv_at hl 2 rfl) ?_
    refine z_bipush hx hb dX1_sine_24 (by decide +kernel) ?_
    refine z_icmp_ge (tgt := 33) hx hb dX1_sine_26 (by decide) (by omega) ⟨by decide, by decide⟩ (fun c_3 => ?_) (fun c_3 => ?_)
    · refine lv_iload_n hx hb dX1_sine_33 rfl (lv_at hl 0 rfl) ?_
      refine z_ineg hx hb dX1_sine_34 ?_
      exact zr_i hx hb hr hlocks dX1_sine_35 (by rw [hh.1]; omega)
    · refine lv_iload_n hx hb dX1_sine_29 rfl (lv_at hl 0 rfl) ?_
      refine lv_goto (tgt := 35) hx hb dX1_sine_30 (by decide) ?_
      exact zr_i hx hb hr hlocks dX1_sine_35 (by rw [hh.1]; omega)
set_option maxHeartbeats 4000000 in
set_option maxRecDepth 100000 in
theorem c_X1_cosine (l : Launch) (g : GG) (q : Int) (k0z : 0 ≤ q) (k1z : q ≤ 31) : Met l yX1_cosine wsX1_cosine (k2_rm 2 42) (va_Pc [.int (iI q)] (fun U => PT U U.heap)) (vp_Si (fun r => r = iI (sn ((q + 8) % 32)))) 0 0 (fun _ => False) := by
  refine Met.ofW (cc := cX1_cosine) (maxL := 1) (ret := (some .int)) (by decide) rfl ?_
  intro pp ee s mm args below meth cc9 s₁ B hml hv
  obtain ⟨rfl, hPX⟩ := hv
  have hx := B.exec
  have hb := B.bytes
  have hr := B.returns
  have hts := atoms_spec (ws := wsX1_cosine) B.pre
  have hown : s.vm.findClass RX1 = some mm.cls := findClass_of_methodNamed B.named
  have hlocks := B.notSynchronized
  have ht9 := tm32 (x := q + 8) (by omega)
  have hl := lv_entry ([.int (iI q)]) (n := 1) (Nat.le_of_ble_eq_true rfl)
  rw [lg_entry_eq]
  generalize (lg_sl ([.int (iI q)]) ++ List.replicate (1 - (lg_sl ([.int (iI q)])).length) Slot.unset).toArray = ls at hl ⊢
  have hl : lv_has ls 1 [(0, .int (iI q))] := hl
  refine lv_iload_n hx hb dX1_cosine_0 rfl (lv_at hl 0 rfl) ?_
  refine z_bipush hx hb dX1_cosine_1 (by decide +kernel) ?_
  refine z_iadd hx hb dX1_cosine_3 ?_
  refine z_bipush hx hb dX1_cosine_4 (by decide +kernel) ?_
  refine z_irem hx hb (by omega) (by omega) dX1_cosine_6 ?_
  refine zS_i (As := [.int (iI (Int.tmod (q + 8) 32))]) (rest := []) ⟨hx, hb, hml, hown, hts⟩ (PT) PT_blind PT_mv  (c_X1_sine l g (Int.tmod (q + 8) 32) (by omega) (by omega)) (va_cwS 1 hts gX1_cosine_X1_sine rfl rfl rfl (by decide +kernel) ⟨Nat.le_of_ble_eq_true rfl, Nat.le_of_ble_eq_true rfl⟩) rfl hl.1 rfl (Nat.le_of_ble_eq_true rfl) dX1_cosine_7 ⟨Nat.zero_le _, Nat.zero_le _⟩ ?_
  exact zr_i hx hb hr hlocks dX1_cosine_10 (by rw [ht9])
set_option maxHeartbeats 4000000 in
set_option maxRecDepth 100000 in
theorem c_X1_append (l : Launch) (g : GG) (u : ST) (v : VT) (hg : gOk g) (c9z : Int) (hI : Inv u) (hb_c9 : B32 c9z) : Met l yX1_append wsX1_append (k2_rm 1 22) (va_Pc [.ref (gM g 0), .int (iI c9z)] (fun U => PM g u v U U.heap)) (va_Ql (fun r (_ : Unit) => r = jI (apR u c9z)) (fun _ t => (fun H9 => va_P (gD g) vwCl (wM g (apU u c9z) v) H9) t.heap) (aM g)) 0 0 (aM g) := by
  refine Met.ofW (cc := cX1_append) (maxL := 2) (ret := (some .long)) (by decide) rfl ?_
  intro pp ee s mm args below meth cc9 s₁ B hml hv
  obtain ⟨rfl, hPX⟩ := hv
  obtain ⟨hP, hK⟩ := id hPX
  have hx := B.exec
  have hb := B.bytes
  have hr := B.returns
  have hts := atoms_spec (ws := wsX1_append) B.pre
  have hown : s.vm.findClass RX1 = some mm.cls := findClass_of_methodNamed B.named
  have hlocks := B.notSynchronized
  have hin : ∀ w ∈ wsX10, w ∈ wsX1_append := fun w h => List.mem_cons_of_mem _ (List.mem_append_right _ h)
  have m51 : Cond.constantLong RX1 51 (-9000000000000000001) ∈ wsX1_append := by decide +kernel
  have m53 : Cond.fieldLink RX1 53 "TraverseBoardModel" "bufferLength" "I" ∈ wsX1_append := by decide +kernel
  have m57 : Cond.constantLong RX1 57 (-9000000000000000004) ∈ wsX1_append := by decide +kernel
  have m7z : Cond.fieldLink RX1 7 "TraverseBoardModel" "buffer" "[I" ∈ wsX1_append := by decide +kernel
  have hS : va_S (aM g) s.heap s.heap [] := va_S.rf
  have hi_bl := iv_bl hI
  have hi_pg := iv_pg hI
  have hi_se := iv_se hI
  have hi_dr := iv_dr hI
  have hl := lv_entry ([.ref (gM g 0), .int (iI c9z)]) (n := 2) (Nat.le_of_ble_eq_true rfl)
  rw [lg_entry_eq]
  generalize (lg_sl ([.ref (gM g 0), .int (iI c9z)]) ++ List.replicate (2 - (lg_sl ([.ref (gM g 0), .int (iI c9z)])).length) Slot.unset).toArray = ls at hl ⊢
  have hl : lv_has ls 2 [(0, .ref (gM g 0)), (1, .int (iI c9z))] := hl
  refine lv_iload_n hx hb dX1_append_0 rfl (lv_at hl 1 rfl) ?_
  refine z_bipush hx hb dX1_append_1 (by decide +kernel) ?_
  refine z_bipush hx hb dX1_append_3 (by decide +kernel) ?_
  refine zS_z (As := [.int (iI c9z), .int (iI 32), .int (iI 126)]) (rest := []) ⟨hx, hb, hml, hown, hts⟩ (PT) PT_blind PT_mv  (c_X1_within l g c9z 32 126 (by omega) (by omega) (by omega)) (va_cwS 3 hts gX1_append_X1_within rfl rfl rfl (by decide +kernel) ⟨Nat.le_of_ble_eq_true rfl, Nat.le_of_ble_eq_true rfl⟩) rfl hl.1 rfl (Nat.le_of_ble_eq_true rfl) dX1_append_5 ⟨Nat.zero_le _, Nat.zero_le _⟩ (fun c_1 => ?_) (fun c_1 => ?_)
  · refine z_if_ne (tgt := 15) hx hb dX1_append_8 (by decide) ⟨by decide, by decide⟩ (fun c_2 => ?_) (fun c_2 => (absurd c_2 (by decide)))
    refine lv_aload_n hx hb dX1_append_15 rfl (lv_at hl 0 rfl) ?_
    refine gf_X1_53 (z := zbl u) hx hb hts hin m53 hown hK hP rfl dX1_append_16 ?_
    refine z_bipush hx hb dX1_append_19 (by decide +kernel) ?_
    refine z_icmp_ne (tgt := 28) hx hb dX1_append_21 (by decide) (by omega) ⟨by decide, by decide⟩ (fun c_3 => ?_) (fun c_3 => ?_)
    · refine lv_aload_n hx hb dX1_append_28 rfl (lv_at hl 0 rfl) ?_
      refine gf_X1_7 hx hb hts hin m7z hown hK hP dX1_append_29 ?_
      refine lv_aload_n hx hb dX1_append_32 rfl (lv_at hl 0 rfl) ?_
      refine gf_X1_53 (z := zbl u) hx hb hts hin m53 hown hK hP rfl dX1_append_33 ?_
      refine lv_iload_n hx hb dX1_append_36 rfl (lv_at hl 1 rfl) ?_
      refine as_X1_1 hx hb hK hP (wM_D hg _ _) hS ⟨by omega, by omega⟩ dX1_append_37 (fun H locs hP hS => ?_)
      refine lv_aload_n hx hb dX1_append_38 rfl (lv_at hl 0 rfl) ?_
      refine lv_dup hx hb dX1_append_39 rfl ?_
      refine gf_X1_53 (z := zbl u) hx hb hts hin m53 hown hK hP rfl dX1_append_40 ?_
      refine z_iconst hx hb dX1_append_43 ?_
      refine z_iadd hx hb dX1_append_44 ?_
      refine pf_X1_53 hx hb hts hin m53 hown hK hP (wM_D hg _ _) hS dX1_append_45 (fun H locs hP hS => ?_)
      refine lv_aload_n hx hb dX1_append_48 rfl (lv_at hl 0 rfl) ?_
      refine gf_X1_53 (z := (zbl u) + 1) hx hb hts hin m53 hown hK hP rfl dX1_append_49 ?_
      refine z_i2l hx hb (by omega) dX1_append_52 ?_
      exact zw_l (Post := (fun H9 => va_P (gD g) vwCl (wM g (apU u c9z) v) H9)) hx hb hr hlocks dX1_append_53 hS (by unfold apR eOR eFU; (repeat' split) <;> first | rfl | omega) (by unfold apU; split <;> first | exact hP | (exfalso; omega))
    · refine lv_ldc2 (v := jI (-9000000000000000004)) hx hb hown (hts _ m57) dX1_append_24 ?_
      exact zw_l (Post := (fun H9 => va_P (gD g) vwCl (wM g (apU u c9z) v) H9)) hx hb hr hlocks dX1_append_27 hS (by unfold apR eOR eFU; (repeat' split) <;> first | rfl | omega) (by unfold apU; split <;> first | exact hP | (exfalso; omega))
  · refine z_if_ne (tgt := 15) hx hb dX1_append_8 (by decide) ⟨by decide, by decide⟩ (fun c_4 => (absurd c_4 (by decide))) (fun c_4 => ?_)
    refine lv_ldc2 (v := jI (-9000000000000000001)) hx hb hown (hts _ m51) dX1_append_11 ?_
    exact zw_l (Post := (fun H9 => va_P (gD g) vwCl (wM g (apU u c9z) v) H9)) hx hb hr hlocks dX1_append_14 hS (by unfold apR eOR eFU; (repeat' split) <;> first | rfl | omega) (by unfold apU; split <;> first | exact hP | (exfalso; omega))
set_option maxHeartbeats 4000000 in
set_option maxRecDepth 100000 in
theorem c_X1_clearBuffer (l : Launch) (g : GG) (u : ST) (v : VT) (hg : gOk g) (hI : Inv u) : Met l yX1_clearBuffer wsX1_clearBuffer (k2_rm 0 0) (va_Pc [.ref (gM g 0)] (fun U => PM g u v U U.heap)) (va_Ql (fun r (_ : Unit) => r = jI (zbl u)) (fun _ t => (fun H9 => va_P (gD g) vwCl (wM g (ubl u 0) v) H9) t.heap) (aM g)) 0 0 (aM g) := by
  refine Met.ofW (cc := cX1_clearBuffer) (maxL := 2) (ret := (some .long)) (by decide) rfl ?_
  intro pp ee s mm args below meth cc9 s₁ B hml hv
  obtain ⟨rfl, hPX⟩ := hv
  obtain ⟨hP, hK⟩ := id hPX
  have hx := B.exec
  have hb := B.bytes
  have hr := B.returns
  have hts := atoms_spec (ws := wsX1_clearBuffer) B.pre
  have hown : s.vm.findClass RX1 = some mm.cls := findClass_of_methodNamed B.named
  have hlocks := B.notSynchronized
  have hin : ∀ w ∈ wsX10, w ∈ wsX1_clearBuffer := fun w h => List.mem_cons_of_mem _ (List.mem_append_right _ h)
  have m53 : Cond.fieldLink RX1 53 "TraverseBoardModel" "bufferLength" "I" ∈ wsX1_clearBuffer := by decide +kernel
  have hS : va_S (aM g) s.heap s.heap [] := va_S.rf
  have hi_bl := iv_bl hI
  have hi_pg := iv_pg hI
  have hi_se := iv_se hI
  have hi_dr := iv_dr hI
  have hl := lv_entry ([.ref (gM g 0)]) (n := 2) (Nat.le_of_ble_eq_true rfl)
  rw [lg_entry_eq]
  generalize (lg_sl ([.ref (gM g 0)]) ++ List.replicate (2 - (lg_sl ([.ref (gM g 0)])).length) Slot.unset).toArray = ls at hl ⊢
  have hl : lv_has ls 2 [(0, .ref (gM g 0))] := hl
  refine lv_aload_n hx hb dX1_clearBuffer_0 rfl (lv_at hl 0 rfl) ?_
  refine gf_X1_53 (z := zbl u) hx hb hts hin m53 hown hK hP rfl dX1_clearBuffer_1 ?_
  refine lv_istore_n (lv' := [(1, .int (iI (zbl u))), (0, .ref (gM g 0))]) hx hb dX1_clearBuffer_4 rfl hl (by decide) rfl (fun ls hl => ?_)
  refine lv_aload_n hx hb dX1_clearBuffer_5 rfl (lv_at hl 1 rfl) ?_
  refine z_iconst hx hb dX1_clearBuffer_6 ?_
  refine pf_X1_53 hx hb hts hin m53 hown hK hP (wM_D hg _ _) hS dX1_clearBuffer_7 (fun H locs hP hS => ?_)
  refine lv_iload_n hx hb dX1_clearBuffer_10 rfl (lv_at hl 0 rfl) ?_
  refine z_i2l hx hb (by omega) dX1_clearBuffer_11 ?_
  exact zw_l (Post := (fun H9 => va_P (gD g) vwCl (wM g (ubl u 0) v) H9)) hx hb hr hlocks dX1_clearBuffer_12 hS (by first | rfl | omega) hP
