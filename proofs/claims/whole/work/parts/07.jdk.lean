/-! ===== THE JDK's own methods: floorMod by 32, floorDiv by a small number, charAt of the names' text ===== -/
theorem pow_rng {t : Int} (h : 0 ≤ t ∧ t ≤ 30) : 0 < (2 : Int) ^ Int.toNat t ∧ (2 : Int) ^ Int.toNat t ≤ 1073741824 := by
  have key : ∀ k : Fin 31, 0 < (2 : Int) ^ k.val ∧ (2 : Int) ^ k.val ≤ 1073741824 := by decide +kernel
  exact key ⟨t.toNat, by omega⟩
theorem tmod32 (a : Int) : a.tmod 32 = if 0 ≤ a then a % 32 else -((-a) % 32) := by
  split
  · rename_i h; exact Int.tmod_eq_emod_of_nonneg h
  · rename_i h
    have e : a.tmod 32 = -((-a).tmod 32) := by rw [Int.neg_tmod, Int.neg_neg]
    rw [e, Int.tmod_eq_emod_of_nonneg (by omega)]
theorem tdiv_pos {a b : Int} (h : 0 ≤ a) : a.tdiv b = a / b := Int.tdiv_eq_ediv_of_nonneg h
theorem tdiv_neg {a b : Int} (h : a < 0) : a.tdiv b = -((-a) / b) := by
  have e : a.tdiv b = -((-a).tdiv b) := by rw [Int.neg_tdiv, Int.neg_neg]
  rw [e, Int.tdiv_eq_ediv_of_nonneg (by omega)]
/-- the quotient towards 0, times the divisor, lies between 0 and the dividend; the quotient downwards from it -/
theorem tdiv_all {a b : Int} (hb : 0 < b) : (0 ≤ a → a.tdiv b = a / b ∧ 0 ≤ a.tdiv b * b ∧ a.tdiv b * b ≤ a) ∧ (a < 0 → a ≤ a.tdiv b * b ∧ a.tdiv b * b ≤ 0 ∧ (a.tdiv b * b = a → a.tdiv b = a / b) ∧ (a < a.tdiv b * b → a.tdiv b - 1 = a / b)) := by
  constructor
  · intro h
    rw [tdiv_pos h]
    have h1 := Int.emod_add_mul_ediv a b
    have h2 := Int.emod_nonneg a (show b ≠ 0 by omega)
    have h4 := Int.ediv_nonneg h (Int.le_of_lt hb)
    have h5 := Int.mul_nonneg h4 (Int.le_of_lt hb)
    rw [Int.mul_comm] at h1
    exact ⟨rfl, h5, by omega⟩
  · intro h
    rw [tdiv_neg h]
    have h1 := Int.emod_add_mul_ediv (-a) b
    have h2 := Int.emod_nonneg (-a) (show b ≠ 0 by omega)
    have h3 := Int.emod_lt_of_pos (-a) hb
    have h4 := Int.ediv_nonneg (show 0 ≤ -a by omega) (Int.le_of_lt hb)
    have h5 := Int.mul_nonneg h4 (Int.le_of_lt hb)
    rw [Int.mul_comm] at h1
    rw [Int.neg_mul]
    generalize (-a) / b = q at *
    refine ⟨by omega, by omega, fun e => ?_, fun e => ?_⟩
    · have : a = -q * b := by rw [Int.neg_mul]; omega
      rw [this, Int.mul_ediv_cancel _ (by omega)]
    · have e2 : a = ((-a) % b * -1 + b) + (-q - 1) * b := by rw [Int.sub_mul, Int.neg_mul]; omega
      rw [e2, Int.add_mul_ediv_right _ _ (by omega), Int.ediv_eq_zero_of_lt (by omega) (by omega), Int.zero_add]
section ZJ
variable {p : Program} {l : Launch} {e : Env} {R : Room} {s : State} {m : MethodId} {args : Array Value} {below : List Frame} {meth : Method} {c : Code} {H : Heap} {locs : List Loc} {cells slots : Nat} {Q : State → Prop}
variable {cc : ByteArray} {pc : Nat} {ls : Array Slot} {rest : List Value}
theorem z_ixor_ge (hx : p.tables.exec = Jvm.exec) (hb : c.code = cc) {a : Int} {off : Int} {tgt : Nat} (hd1 : decode cc pc = .ok (.ixor, 1)) (hdg : decode cc (pc + 1) = .ok (.ifCond .ge off, 3)) (ht : ((pc + 1 : Nat) : Int) + off = (tgt : Int)) (ha : B32 a) (kt : 0 ≤ a → W p l e R s m args below meth c H locs cells slots Q (F0 m tgt ls rest)) (kf : a < 0 → W p l e R s m args below meth c H locs cells slots Q (F0 m (pc + 1 + 3) ls rest)) : W p l e R s m args below meth c H locs cells slots Q (F0 m pc ls (.int (iI 32) :: .int (iI a) :: rest)) :=
  lv_ixor hx hb hd1 (lv_if_ge hx hb hdg ht (fun h => kt (by
    exact Int.not_lt.mp (fun q => Int32.not_lt.mpr h ((iI_xor32 ha).mpr q)))) (fun h => kf ((iI_xor32 ha).mp (Int32.not_le.mp h))))
theorem z_lxor_ge (hx : p.tables.exec = Jvm.exec) (hb : c.code = cc) {a b : Int} {off : Int} {tgt : Nat} (hd1 : decode cc pc = .ok (.lxor, 1)) (hd2 : decode cc (pc + 1) = .ok (.lconst 0, 1)) (hd3 : decode cc (pc + 1 + 1) = .ok (.lcmp, 1)) (hdg : decode cc (pc + 1 + 1 + 1) = .ok (.ifCond .ge off, 3)) (ht : ((pc + 1 + 1 + 1 : Nat) : Int) + off = (tgt : Int)) (ha : B64 a) (hb2 : 0 ≤ b ∧ b < 9223372036854775808) (kt : 0 ≤ a → W p l e R s m args below meth c H locs cells slots Q (F0 m tgt ls rest)) (kf : a < 0 → W p l e R s m args below meth c H locs cells slots Q (F0 m (pc + 1 + 1 + 1 + 3) ls rest)) : W p l e R s m args below meth c H locs cells slots Q (F0 m pc ls (.long (jI b) :: .long (jI a) :: rest)) :=
  lv_lxor hx hb hd1 (lv_lconst (v := 0) hx hb hd2 rfl (W.lcmp hx hb hd3 (lv_if_ge hx hb hdg ht (fun h => kt (by
    exact Int.not_lt.mp (fun q => Int64.not_lt.mpr ((lg_cmp_ge _ _).mp h) ((jI_xorpos ha hb2).mpr q)))) (fun h => kf ((jI_xorpos ha hb2).mp (Int64.not_le.mp (fun q => h ((lg_cmp_ge _ _).mpr q))))))))
end ZJ

set_option maxHeartbeats 4000000 in
set_option maxRecDepth 100000 in
theorem c_J9_floorMod_7cf53 (l : Launch) (g : GG) (a : Int) (hb_a : B32 a) : Met l yJ9_floorMod_7cf53 wsJ9_floorMod_7cf53 (k2_rm 0 0) (va_Pc [.int (iI a), .int (iI 32)] (fun U => PT U U.heap)) (vp_Si (fun r => r = iI (a % 32))) 0 0 (fun _ => False) := by
  refine va_MetF (cc := cJ9_floorMod_7cf53) (maxL := 3) (ret := (some .int)) (by decide +kernel) rfl ?_
  intro pp ee s mm args below meth cc9 s₁ B hml hv
  obtain ⟨rfl, hPX⟩ := hv
  have hx := B.exec
  have hb := B.bytes
  have hr := B.returns
  have hts := atoms_spec (ws := wsJ9_floorMod_7cf53) B.pre
  have hown : s.vm.findClass RJ9 = some mm.cls := findClass_of_methodNamed B.named
  have hlocks := B.notSynchronized
  have ht9 : a.tmod 32 = _ := tmod32 a
  have ht8 : (0 ≤ a ∧ a.tmod 32 = a % 32) ∨ (a < 0 ∧ a.tmod 32 = -((-a) % 32)) := by rw [ht9]; split <;> omega
  have hl := lv_entry ([.int (iI a), .int (iI 32)]) (n := 3) (Nat.le_of_ble_eq_true rfl)
  rw [lg_entry_eq]
  generalize (lg_sl ([.int (iI a), .int (iI 32)]) ++ List.replicate (3 - (lg_sl ([.int (iI a), .int (iI 32)])).length) Slot.unset).toArray = ls at hl ⊢
  have hl : lv_has ls 3 [(0, .int (iI a)), (1, .int (iI 32))] := hl
  refine lv_iload_n hx hb dJ9_floorMod_7cf53_0 rfl (lv_at hl 0 rfl) ?_
  refine lv_iload_n hx hb dJ9_floorMod_7cf53_1 rfl (lv_at hl 1 rfl) ?_
  refine z_irem hx hb hb_a ⟨by decide, by decide⟩ dJ9_floorMod_7cf53_2 ?_
  refine lv_istore_n (lv' := [(2, .int (iI (Int.tmod a 32))), (0, .int (iI a)), (1, .int (iI 32))]) hx hb dJ9_floorMod_7cf53_3 rfl hl (by decide) rfl (fun ls hl => ?_)
  refine lv_iload_n hx hb dJ9_floorMod_7cf53_4 rfl (lv_at hl 1 rfl) ?_
  refine lv_iload_n hx hb dJ9_floorMod_7cf53_5 rfl (lv_at hl 2 rfl) ?_
  refine z_ixor_ge (tgt := 18) hx hb dJ9_floorMod_7cf53_6 dJ9_floorMod_7cf53_7 (by decide) hb_a (fun c_a => ?_) (fun c_a => ?_)
  · refine lv_iload_n hx hb dJ9_floorMod_7cf53_18 rfl (lv_at hl 0 rfl) ?_
    exact zr_i hx hb hr hlocks dJ9_floorMod_7cf53_19 (by omega)
  · refine lv_iload_n hx hb dJ9_floorMod_7cf53_10 rfl (lv_at hl 0 rfl) ?_
    refine z_if_eq (tgt := 18) hx hb dJ9_floorMod_7cf53_11 (by decide) (by omega) (fun c_1 => ?_) (fun c_1 => ?_)
    · refine lv_iload_n hx hb dJ9_floorMod_7cf53_18 rfl (lv_at hl 0 rfl) ?_
      exact zr_i hx hb hr hlocks dJ9_floorMod_7cf53_19 (by omega)
    · refine lv_iload_n hx hb dJ9_floorMod_7cf53_14 rfl (lv_at hl 0 rfl) ?_
      refine lv_iload_n hx hb dJ9_floorMod_7cf53_15 rfl (lv_at hl 2 rfl) ?_
      refine z_iadd hx hb dJ9_floorMod_7cf53_16 ?_
      exact zr_i hx hb hr hlocks dJ9_floorMod_7cf53_17 (by omega)

set_option maxHeartbeats 4000000 in
set_option maxRecDepth 100000 in
theorem c_J9_floorDiv_f86c9 (l : Launch) (g : GG) (a : Int) (b : Int) (h1z : -4611686018427387904 ≤ a ∧ a ≤ 4611686018427387904) (h2z : 0 < b ∧ b ≤ 48) : Met l yJ9_floorDiv_f86c9 wsJ9_floorDiv_f86c9 (k2_rm 0 0) (va_Pc [.long (jI a), .long (jI b)] (fun U => PT U U.heap)) (vp_Sl (fun r => r = jI (a / b))) 0 0 (fun _ => False) := by
  refine va_MetF (cc := cJ9_floorDiv_f86c9) (maxL := 6) (ret := (some .long)) (by decide +kernel) rfl ?_
  intro pp ee s mm args below meth cc9 s₁ B hml hv
  obtain ⟨rfl, hPX⟩ := hv
  have hx := B.exec
  have hb := B.bytes
  have hr := B.returns
  have hts := atoms_spec (ws := wsJ9_floorDiv_f86c9) B.pre
  have hown : s.vm.findClass RJ9 = some mm.cls := findClass_of_methodNamed B.named
  have hlocks := B.notSynchronized
  have hta := (tdiv_all (a := a) (b := b) h2z.1).1
  have htb := (tdiv_all (a := a) (b := b) h2z.1).2
  have hl := lv_entry ([.long (jI a), .long (jI b)]) (n := 6) (Nat.le_of_ble_eq_true rfl)
  rw [lg_entry_eq]
  generalize (lg_sl ([.long (jI a), .long (jI b)]) ++ List.replicate (6 - (lg_sl ([.long (jI a), .long (jI b)])).length) Slot.unset).toArray = ls at hl ⊢
  have hl : lv_has ls 6 [(0, .long (jI a)), (2, .long (jI b))] := hl
  refine lv_lload_n hx hb dJ9_floorDiv_f86c9_0 rfl (lv_at hl 0 rfl) ?_
  refine lv_lload_n hx hb dJ9_floorDiv_f86c9_1 rfl (lv_at hl 1 rfl) ?_
  refine z_ldiv hx hb (by omega) (by omega) dJ9_floorDiv_f86c9_2 ?_
  refine lv_lstore (lv' := [(4, .long (jI (Int.tdiv a b))), (0, .long (jI a)), (2, .long (jI b))]) hx hb dJ9_floorDiv_f86c9_3 hl (by decide) rfl (fun ls hl => ?_)
  refine lv_lload_n hx hb dJ9_floorDiv_f86c9_5 rfl (lv_at hl 1 rfl) ?_
  refine lv_lload_n hx hb dJ9_floorDiv_f86c9_6 rfl (lv_at hl 2 rfl) ?_
  refine z_lxor_ge (tgt := 27) hx hb dJ9_floorDiv_f86c9_7 dJ9_floorDiv_f86c9_8 dJ9_floorDiv_f86c9_9 dJ9_floorDiv_f86c9_10 (by decide) (by omega) (by omega) (fun c_a => ?_) (fun c_a => ?_)
  · refine lv_lload hx hb dJ9_floorDiv_f86c9_27 (lv_at hl 0 rfl) ?_
    exact zr_l hx hb hr hlocks dJ9_floorDiv_f86c9_29 (by first | exact (hta c_a).1 | exact htc.2.2.1 (by omega))
  · have htc := htb c_a
    refine lv_lload hx hb dJ9_floorDiv_f86c9_13 (lv_at hl 0 rfl) ?_
    refine lv_lload_n hx hb dJ9_floorDiv_f86c9_15 rfl (lv_at hl 2 rfl) ?_
    refine z_lmul hx hb dJ9_floorDiv_f86c9_16 ?_
    refine lv_lload_n hx hb dJ9_floorDiv_f86c9_17 rfl (lv_at hl 1 rfl) ?_
    refine z_lcmp_eq (tgt := 27) hx hb dJ9_floorDiv_f86c9_18 dJ9_floorDiv_f86c9_19 (by decide) (by omega) (by omega) (fun c_1 => ?_) (fun c_1 => ?_)
    · refine lv_lload hx hb dJ9_floorDiv_f86c9_27 (lv_at hl 0 rfl) ?_
      exact zr_l hx hb hr hlocks dJ9_floorDiv_f86c9_29 (by first | exact (hta c_a).1 | exact htc.2.2.1 (by omega))
    · refine lv_lload hx hb dJ9_floorDiv_f86c9_22 (lv_at hl 0 rfl) ?_
      refine z_lconst (z := 1) hx hb dJ9_floorDiv_f86c9_24 rfl ?_
      refine z_lsub hx hb dJ9_floorDiv_f86c9_25 ?_
      exact zr_l hx hb hr hlocks dJ9_floorDiv_f86c9_26 (htc.2.2.2 (by omega))

set_option maxHeartbeats 4000000 in
set_option maxRecDepth 100000 in
theorem c_J3n (l : Launch) (g : GG) (i : Int) (n : Int) (k0z : 0 ≤ i) (k1z : i < n) (k2z : n < 2147483648) : Met l yJ3_checkIndex_8e157 wsJ3_checkIndex_8e157 (k2_rm 1 20) (va_Pc [.int (iI i), .int (iI n), Value.null] (fun U => PT U U.heap)) (vp_Si (fun r => r = iI i)) 0 0 (fun _ => False) := by
  refine Met.ofW (cc := cJ3_checkIndex_8e157) (maxL := 3) (ret := (some .int)) (by decide) rfl ?_
  intro pp ee s mm args below meth cc9 s₁ B hml hv
  obtain ⟨rfl, hPX⟩ := hv
  have hx := B.exec
  have hb := B.bytes
  have hr := B.returns
  have hts := atoms_spec (ws := wsJ3_checkIndex_8e157) B.pre
  have hown : s.vm.findClass RJ3 = some mm.cls := findClass_of_methodNamed B.named
  have hlocks := B.notSynchronized
  have hl := lv_entry ([.int (iI i), .int (iI n), Value.null]) (n := 3) (Nat.le_of_ble_eq_true rfl)
  rw [lg_entry_eq]
  generalize (lg_sl ([.int (iI i), .int (iI n), Value.null]) ++ List.replicate (3 - (lg_sl ([.int (iI i), .int (iI n), Value.null])).length) Slot.unset).toArray = ls at hl ⊢
  have hl : lv_has ls 3 [(0, .int (iI i)), (1, .int (iI n)), (2, Value.null)] := hl
  refine lv_iload_n hx hb dJ3_checkIndex_8e157_0 rfl (lv_at hl 0 rfl) ?_
  refine z_if_lt (tgt := 9) hx hb dJ3_checkIndex_8e157_1 (by decide) (by omega) (fun c_1 => (absurd c_1 (by omega))) (fun c_1 => ?_)
  refine lv_iload_n hx hb dJ3_checkIndex_8e157_4 rfl (lv_at hl 0 rfl) ?_
  refine lv_iload_n hx hb dJ3_checkIndex_8e157_5 rfl (lv_at hl 1 rfl) ?_
  refine z_icmp_lt (tgt := 16) hx hb dJ3_checkIndex_8e157_6 (by decide) (by omega) (by omega) (fun c_2 => ?_) (fun c_2 => (absurd c_2 (by omega)))
  refine lv_iload_n hx hb dJ3_checkIndex_8e157_16 rfl (lv_at hl 0 rfl) ?_
  exact zr_i hx hb hr hlocks dJ3_checkIndex_8e157_17 (by first | rfl | omega)

set_option maxHeartbeats 4000000 in
set_option maxRecDepth 100000 in
theorem c_J3r (l : Launch) (g : GG) (i : Int) (n : Int) (q : Nat) (k0z : 0 ≤ i) (k1z : i < n) (k2z : n < 2147483648) : Met l yJ3_checkIndex_8e157 wsJ3_checkIndex_8e157 (k2_rm 1 20) (va_Pc [.int (iI i), .int (iI n), Value.ref q] (fun U => PT U U.heap)) (vp_Si (fun r => r = iI i)) 0 0 (fun _ => False) := by
  refine Met.ofW (cc := cJ3_checkIndex_8e157) (maxL := 3) (ret := (some .int)) (by decide) rfl ?_
  intro pp ee s mm args below meth cc9 s₁ B hml hv
  obtain ⟨rfl, hPX⟩ := hv
  have hx := B.exec
  have hb := B.bytes
  have hr := B.returns
  have hts := atoms_spec (ws := wsJ3_checkIndex_8e157) B.pre
  have hown : s.vm.findClass RJ3 = some mm.cls := findClass_of_methodNamed B.named
  have hlocks := B.notSynchronized
  have hl := lv_entry ([.int (iI i), .int (iI n), Value.ref q]) (n := 3) (Nat.le_of_ble_eq_true rfl)
  rw [lg_entry_eq]
  generalize (lg_sl ([.int (iI i), .int (iI n), Value.ref q]) ++ List.replicate (3 - (lg_sl ([.int (iI i), .int (iI n), Value.ref q])).length) Slot.unset).toArray = ls at hl ⊢
  have hl : lv_has ls 3 [(0, .int (iI i)), (1, .int (iI n)), (2, Value.ref q)] := hl
  refine lv_iload_n hx hb dJ3_checkIndex_8e157_0 rfl (lv_at hl 0 rfl) ?_
  refine z_if_lt (tgt := 9) hx hb dJ3_checkIndex_8e157_1 (by decide) (by omega) (fun c_1 => (absurd c_1 (by omega))) (fun c_1 => ?_)
  refine lv_iload_n hx hb dJ3_checkIndex_8e157_4 rfl (lv_at hl 0 rfl) ?_
  refine lv_iload_n hx hb dJ3_checkIndex_8e157_5 rfl (lv_at hl 1 rfl) ?_
  refine z_icmp_lt (tgt := 16) hx hb dJ3_checkIndex_8e157_6 (by decide) (by omega) (by omega) (fun c_2 => ?_) (fun c_2 => (absurd c_2 (by omega)))
  refine lv_iload_n hx hb dJ3_checkIndex_8e157_16 rfl (lv_at hl 0 rfl) ?_
  exact zr_i hx hb hr hlocks dJ3_checkIndex_8e157_17 (by first | rfl | omega)

set_option maxHeartbeats 4000000 in
set_option maxRecDepth 100000 in
theorem c_J0_checkIndex_df160 (l : Launch) (g : GG) (i : Int) (n : Int) (k0z : 0 ≤ i) (k1z : i < n) (k2z : n < 2147483648) : Met l yJ0_checkIndex_df160 wsJ0_checkIndex_df160 (k2_rm 2 42) (va_Pc [.int (iI i), .int (iI n)] (fun U => PZ g U U.heap)) (va_Sv (fun _ => True)) 0 0 (fun _ => False) := by
  refine Met.ofW (cc := cJ0_checkIndex_df160) (maxL := 2) (ret := none) (by decide) rfl ?_
  intro pp ee s mm args below meth cc9 s₁ B hml hv
  obtain ⟨rfl, hPX⟩ := hv
  have hZS : ZS nA g s s.heap := hPX
  have hx := B.exec
  have hb := B.bytes
  have hr := B.returns
  have hts := atoms_spec (ws := wsJ0_checkIndex_df160) B.pre
  have hown : s.vm.findClass RJ0 = some mm.cls := findClass_of_methodNamed B.named
  have hlocks := B.notSynchronized
  have m1053 : Cond.fieldLink RJ0 1053 "jdk/internal/util/Preconditions" "SIOOBE_FORMATTER" "Ljava/util/function/BiFunction;" ∈ wsJ0_checkIndex_df160 := by decide +kernel
  have hS0 : va_S nA s.heap s.heap [] := va_S.rf
  have hl := lv_entry ([.int (iI i), .int (iI n)]) (n := 2) (Nat.le_of_ble_eq_true rfl)
  rw [lg_entry_eq]
  generalize (lg_sl ([.int (iI i), .int (iI n)]) ++ List.replicate (2 - (lg_sl ([.int (iI i), .int (iI n)])).length) Slot.unset).toArray = ls at hl ⊢
  have hl : lv_has ls 2 [(0, .int (iI i)), (1, .int (iI n))] := hl
  refine lv_iload_n hx hb dJ0_checkIndex_df160_0 rfl (lv_at hl 0 rfl) ?_
  refine lv_iload_n hx hb dJ0_checkIndex_df160_1 rfl (lv_at hl 1 rfl) ?_
  rcases hZS.2.2.2.2.2 with hq | ⟨q9z, hq⟩
  · refine va_gets hx hb hq hS0 hown (hts _ m1053) (fun _ h9z => h9z) dJ0_checkIndex_df160_2 ?_
    refine zS_i (As := [.int (iI i), .int (iI n), .null]) (rest := []) ⟨hx, hb, hml, hown, hts⟩ (PT) PT_blind PT_mv (c_J3n l g i n k0z k1z k2z) (va_cwS 3 hts gJ0_checkIndex_df160_J3_checkIndex_8e157 rfl rfl rfl (by decide +kernel) ⟨Nat.le_of_ble_eq_true rfl, Nat.le_of_ble_eq_true rfl⟩) rfl hl.1 rfl (Nat.le_of_ble_eq_true rfl) dJ0_checkIndex_df160_5 ⟨Nat.zero_le _, Nat.zero_le _⟩ ?_
    refine lv_pop hx hb dJ0_checkIndex_df160_8 rfl ?_
    exact zr_v hx hb hr hlocks dJ0_checkIndex_df160_9
  · refine va_gets hx hb hq hS0 hown (hts _ m1053) (fun _ h9z => h9z) dJ0_checkIndex_df160_2 ?_
    refine zS_i (As := [.int (iI i), .int (iI n), .ref q9z]) (rest := []) ⟨hx, hb, hml, hown, hts⟩ (PT) PT_blind PT_mv (c_J3r l g i n q9z k0z k1z k2z) (va_cwS 3 hts gJ0_checkIndex_df160_J3_checkIndex_8e157 rfl rfl rfl (by decide +kernel) ⟨Nat.le_of_ble_eq_true rfl, Nat.le_of_ble_eq_true rfl⟩) rfl hl.1 rfl (Nat.le_of_ble_eq_true rfl) dJ0_checkIndex_df160_5 ⟨Nat.zero_le _, Nat.zero_le _⟩ ?_
    refine lv_pop hx hb dJ0_checkIndex_df160_8 rfl ?_
    exact zr_v hx hb hr hlocks dJ0_checkIndex_df160_9

set_option maxHeartbeats 4000000 in
set_option maxRecDepth 100000 in
theorem c_J0_isLatin1_aae02 (l : Launch) (g : GG) : Met l yJ0_isLatin1_aae02 wsJ0_isLatin1_aae02 (k2_rm 0 0) (va_Pc [.ref (gA g)] (fun U => PZ g U U.heap)) (vp_Si (fun r => (r = iI 1 ∧ (True)) ∨ (r = iI 0 ∧ ¬ (True)))) 0 0 (fun _ => False) := by
  refine Met.ofW (cc := cJ0_isLatin1_aae02) (maxL := 1) (ret := (some .boolean)) (by decide) rfl ?_
  intro pp ee s mm args below meth cc9 s₁ B hml hv
  obtain ⟨rfl, hPX⟩ := hv
  have hZS : ZS nA g s s.heap := hPX
  have hx := B.exec
  have hb := B.bytes
  have hr := B.returns
  have hts := atoms_spec (ws := wsJ0_isLatin1_aae02) B.pre
  have hown : s.vm.findClass RJ0 = some mm.cls := findClass_of_methodNamed B.named
  have hlocks := B.notSynchronized
  have m15 : Cond.fieldLink RJ0 15 "java/lang/String" "coder" "B" ∈ wsJ0_isLatin1_aae02 := by decide +kernel
  have m38 : Cond.fieldLink RJ0 38 "java/lang/String" "COMPACT_STRINGS" "Z" ∈ wsJ0_isLatin1_aae02 := by decide +kernel
  have hS0 : va_S nA s.heap s.heap [] := va_S.rf
  have hl := lv_entry ([.ref (gA g)]) (n := 1) (Nat.le_of_ble_eq_true rfl)
  rw [lg_entry_eq]
  generalize (lg_sl ([.ref (gA g)]) ++ List.replicate (1 - (lg_sl ([.ref (gA g)])).length) Slot.unset).toArray = ls at hl ⊢
  have hl : lv_has ls 1 [(0, .ref (gA g))] := hl
  refine va_gets (v := .int (iI 1)) hx hb hZS.2.2.2.2.1 hS0 hown (hts _ m38) (fun _ h9z => h9z) dJ0_isLatin1_aae02_0 ?_
  refine z_if_eq (tgt := 17) hx hb dJ0_isLatin1_aae02_3 (by decide) ⟨by decide, by decide⟩ (fun c_1 => (absurd c_1 (by decide))) (fun c_1 => ?_)
  refine lv_aload_n hx hb dJ0_isLatin1_aae02_6 rfl (lv_at hl 0 rfl) ?_
  refine vk_getf (v := .int (iI 0)) hx hb (hZS.2.2.2.1.1 0 (by decide)).2.1 hS0 hown (hts _ m15) (fun _ h9z => h9z) dJ0_isLatin1_aae02_7 ?_
  refine z_if_ne (tgt := 17) hx hb dJ0_isLatin1_aae02_10 (by decide) ⟨by decide, by decide⟩ (fun c_2 => (absurd c_2 (by decide))) (fun c_2 => ?_)
  refine z_iconst hx hb dJ0_isLatin1_aae02_13 ?_
  refine lv_goto (tgt := 18) hx hb dJ0_isLatin1_aae02_14 (by decide) ?_
  exact zr_1 hx hb hr hlocks dJ0_isLatin1_aae02_18 trivial

theorem nmB_at {i : Int} (h : 0 ≤ i ∧ i < 160) : ([nmB].getD 0 []).getD (iI i).toNatClampNeg 0 = iI (nm i) := by
  rw [iI_clamp ⟨by omega, by omega⟩]
  have key : ∀ k : Fin 160, (([nmB].getD 0 []).getD k.val 0) = iI (nmL.getD k.val 0) := by decide +kernel
  exact key ⟨i.toNat, by omega⟩
theorem nm_and {i : Int} (h : 0 ≤ i ∧ i < 160) : iI (nm i) &&& iI 255 = iI (nm i) := by
  have key : ∀ k : Fin 160, iI (nmL.getD k.val 0) &&& iI 255 = iI (nmL.getD k.val 0) := by decide +kernel
  exact key ⟨i.toNat, by omega⟩
theorem nm_i2c {i : Int} (h : 0 ≤ i ∧ i < 160) : ((iI (nm i)).toUInt32 % 65536).toInt32 = iI (nm i) := by
  have key : ∀ k : Fin 160, ((iI (nmL.getD k.val 0)).toUInt32 % 65536).toInt32 = iI (nmL.getD k.val 0) := by decide +kernel
  exact key ⟨i.toNat, by omega⟩
theorem nm_nar {i : Int} (h : 0 ≤ i ∧ i < 160) : narrow .char (.int (iI (nm i))) = .int (iI (nm i)) := by
  have key : ∀ k : Fin 160, narrow .char (.int (iI (nmL.getD k.val 0))) = .int (iI (nmL.getD k.val 0)) := by decide +kernel
  exact key ⟨i.toNat, by omega⟩
set_option maxHeartbeats 4000000 in
set_option maxRecDepth 100000 in
theorem c_J1_charAt_3b067 (l : Launch) (g : GG) (i : Int) (k0z : 0 ≤ i) (k1z : i < 160) : Met l yJ1_charAt_3b067 wsJ1_charAt_3b067 (k2_rm 3 63) (va_Pc [.ref (gB g), .int (iI i)] (fun U => PZ g U U.heap)) (vp_Si (fun r => r = iI (nm i))) 0 0 (fun _ => False) := by
  refine Met.ofW (cc := cJ1_charAt_3b067) (maxL := 2) (ret := (some .char)) (by decide) rfl ?_
  intro pp ee s mm args below meth cc9 s₁ B hml hv
  obtain ⟨rfl, hPX⟩ := hv
  have hZS : ZS nA g s s.heap := hPX
  have hx := B.exec
  have hb := B.bytes
  have hr := B.returns
  have hts := atoms_spec (ws := wsJ1_charAt_3b067) B.pre
  have hown : s.vm.findClass RJ1 = some mm.cls := findClass_of_methodNamed B.named
  have hlocks := B.notSynchronized
  have hS0 : va_S nA s.heap s.heap [] := va_S.rf
  have hl := lv_entry ([.ref (gB g), .int (iI i)]) (n := 2) (Nat.le_of_ble_eq_true rfl)
  rw [lg_entry_eq]
  generalize (lg_sl ([.ref (gB g), .int (iI i)]) ++ List.replicate (2 - (lg_sl ([.ref (gB g), .int (iI i)])).length) Slot.unset).toArray = ls at hl ⊢
  have hl : lv_has ls 2 [(0, .ref (gB g)), (1, .int (iI i))] := hl
  refine lv_iload_n hx hb dJ1_charAt_3b067_0 rfl (lv_at hl 1 rfl) ?_
  refine lv_aload_n hx hb dJ1_charAt_3b067_1 rfl (lv_at hl 0 rfl) ?_
  refine va_tlen (v := iI 160) hx hb (hZS.2.2.2.1.1 0 (by decide)).2.2.2 hS0 (by decide +kernel) dJ1_charAt_3b067_2 ?_
  refine zS_v (As := [.int (iI i), .int (iI 160)]) (rest := []) ⟨hx, hb, hml, hown, hts⟩ (PZ g) (PZ_blind g) (PZ_mv hZS)  (c_J0_checkIndex_df160 l g i 160 (by omega) (by omega) (by omega)) (va_cwS 2 hts gJ1_charAt_3b067_J0_checkIndex_df160 rfl rfl rfl (by decide +kernel) ⟨Nat.le_of_ble_eq_true rfl, Nat.le_of_ble_eq_true rfl⟩) rfl hl.1 rfl (Nat.le_of_ble_eq_true rfl) dJ1_charAt_3b067_3 ⟨Nat.zero_le _, Nat.zero_le _⟩ ?_
  refine lv_aload_n hx hb dJ1_charAt_3b067_6 rfl (lv_at hl 0 rfl) ?_
  refine lv_iload_n hx hb dJ1_charAt_3b067_7 rfl (lv_at hl 1 rfl) ?_
  refine va_tb (v := .int (iI (nm i))) hx hb (hZS.2.2.2.1.1 0 (by decide)).2.2.2 hS0 (iI_in k0z k1z (by decide)) (by show Value.int _ = _; rw [nmB_at ⟨k0z, k1z⟩]) dJ1_charAt_3b067_8 ?_
  refine z_sipush hx hb dJ1_charAt_3b067_9 (by decide +kernel) ?_
  refine lv_iand hx hb dJ1_charAt_3b067_12 ?_
  rw [nm_and ⟨k0z, k1z⟩]
  refine lv_i2c (v := iI (nm i)) hx hb dJ1_charAt_3b067_13 (nm_i2c ⟨k0z, k1z⟩) ?_
  exact zr_c hx hb hr hlocks dJ1_charAt_3b067_14 (nm_nar ⟨k0z, k1z⟩) rfl

set_option maxHeartbeats 4000000 in
set_option maxRecDepth 100000 in
theorem c_J0_charAt_5068e (l : Launch) (g : GG) (i : Int) (k0z : 0 ≤ i) (k1z : i < 160) : Met l yJ0_charAt_5068e wsJ0_charAt_5068e (k2_rm 5 105) (va_Pc [.ref (gA g), .int (iI i)] (fun U => PZ g U U.heap)) (vp_Si (fun r => r = iI (nm i))) 0 0 (fun _ => False) := by
  refine Met.ofW (cc := cJ0_charAt_5068e) (maxL := 2) (ret := (some .char)) (by decide) rfl ?_
  intro pp ee s mm args below meth cc9 s₁ B hml hv
  obtain ⟨rfl, hPX⟩ := hv
  have hZS : ZS nA g s s.heap := hPX
  have hx := B.exec
  have hb := B.bytes
  have hr := B.returns
  have hts := atoms_spec (ws := wsJ0_charAt_5068e) B.pre
  have hown : s.vm.findClass RJ0 = some mm.cls := findClass_of_methodNamed B.named
  have hlocks := B.notSynchronized
  have m9z : Cond.fieldLink RJ0 9 "java/lang/String" "value" "[B" ∈ wsJ0_charAt_5068e := by decide +kernel
  have hS0 : va_S nA s.heap s.heap [] := va_S.rf
  have hl := lv_entry ([.ref (gA g), .int (iI i)]) (n := 2) (Nat.le_of_ble_eq_true rfl)
  rw [lg_entry_eq]
  generalize (lg_sl ([.ref (gA g), .int (iI i)]) ++ List.replicate (2 - (lg_sl ([.ref (gA g), .int (iI i)])).length) Slot.unset).toArray = ls at hl ⊢
  have hl : lv_has ls 2 [(0, .ref (gA g)), (1, .int (iI i))] := hl
  refine lv_aload_n hx hb dJ0_charAt_5068e_0 rfl (lv_at hl 0 rfl) ?_
  refine zV_z (As := []) (rest := []) ⟨hx, hb, hml, hown, hts⟩ (PZ g) (PZ_blind g) (PZ_mv hZS) (rcS hZS hS0) (c_J0_isLatin1_aae02 l g) (cwV 0 hts gJ0_charAt_5068e_J0_isLatin1_aae02 rfl rfl rfl (by decide +kernel) ⟨Nat.le_of_ble_eq_true rfl, Nat.le_of_ble_eq_true rfl⟩) rfl hl.1 rfl (Nat.le_of_ble_eq_true rfl) dJ0_charAt_5068e_1 ⟨Nat.zero_le _, Nat.zero_le _⟩ (fun c_1 => ?_) (fun c_1 => (absurd trivial c_1))
  refine z_if_eq (tgt := 16) hx hb dJ0_charAt_5068e_4 (by decide) ⟨by decide, by decide⟩ (fun c_2 => (absurd c_2 (by decide))) (fun c_2 => ?_)
  refine lv_aload_n hx hb dJ0_charAt_5068e_7 rfl (lv_at hl 0 rfl) ?_
  refine vk_getf (v := .ref (gB g)) hx hb (hZS.2.2.2.1.1 0 (by decide)).2.2.1 hS0 hown (hts _ m9z) (fun _ h9z => h9z) dJ0_charAt_5068e_8 ?_
  refine lv_iload_n hx hb dJ0_charAt_5068e_11 rfl (lv_at hl 1 rfl) ?_
  refine zS_i (As := [.ref (gB g), .int (iI i)]) (rest := []) ⟨hx, hb, hml, hown, hts⟩ (PZ g) (PZ_blind g) (PZ_mv hZS)  (c_J1_charAt_3b067 l g i (by omega) (by omega)) (va_cwS 2 hts gJ0_charAt_5068e_J1_charAt_3b067 rfl rfl rfl (by decide +kernel) ⟨Nat.le_of_ble_eq_true rfl, Nat.le_of_ble_eq_true rfl⟩) rfl hl.1 rfl (Nat.le_of_ble_eq_true rfl) dJ0_charAt_5068e_12 ⟨Nat.zero_le _, Nat.zero_le _⟩ ?_
  exact zr_c hx hb hr hlocks dJ0_charAt_5068e_15 (nm_nar ⟨k0z, k1z⟩) rfl
